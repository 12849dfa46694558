/-! THE CLAIM OUT OF ONE WALK OF THE LAW'S BODY. Your part is whole_start (and what it stands on); all else here is the same for every law, but numbers. -/
def R_law : String := "ShadowBenchLaw"
def lw_P (b : Addr) (xs : List Int32) (args : Array Value) (s : State) : Prop := args = #[.ref b] ∧ s.IntsAt b xs ∧ xs.length ≤ 4096 ∧ (Jvm.Cond.and given_1 narrow_1).before args s = true
def lw_Q (_ : Array Value) (s : State) (o : Outcome) (t : State) : Prop := o = .returned (some (.int 1)) ∧ Framed s o t [] 601024 7293034
def lw_Z (below : List Frame) (a : Array Value) (s : State) : State → Prop := fun t => ∃ o, t.status = .running ∧ Ended t below o ∧ lw_Q a s o t
/-- the law's own end, with 1 on the stack, nothing written that was there before, its room as the claim has it -/
theorem lw_ret {p : Program} {l : Launch} {e : Env} {s : State} {m : MethodId} {below : List Frame} {meth : Method} {c : Code} {b : Nat} (hx : p.tables.exec = Jvm.exec) (hb : c.code = code) (hr : meth.sig.returnType = ret) (hlocks : meth.locks = false) {pc : Nat} {H : Heap} {ls : Array Slot} (hdg : decode code pc = .ok (.ireturn, 1)) : W p l e room_1 s m #[Value.ref b] below meth c H [] 601024 7293034 (lw_Z below #[Value.ref b] s) (F0 m pc ls [.int 1]) := by
  intro T hT X
  obtain ⟨fs, hret, hrun, hended, hW, hframe⟩ := X.leave (v := some (.int 1)) (hlocks := hlocks) (fun h => by rw [hr] at h; cases h)
  have hmeth' : T.vm.method? m = some meth := X.method'
  refine ⟨T.setFrames fs, ?_, .returned (some (.int 1)), hrun, hended, rfl, ⟨_, rfl⟩, hW, hframe⟩
  jvm_step X.here [X.here.top, hx, hb, hdg, hmeth', hr, ret, narrow_b1]
  (try refine ⟨rfl, ?_⟩); (try refine ⟨rfl, ?_⟩)
  first | (intro acts; rw [hret _ acts rfl rfl rfl]) | rw [hret _ _ rfl rfl rfl]
  exact Steps.refl _
/-- what holds at the law's entry: the machine, the code, the tables' words (any of lw_tbl by 'hts w (by decide +kernel)'), the script of L ints xs at the cell b, what the Statement gives of the start (any of its parts by flat_of_before) -/
def lw_At (p : Program) (s : State) (m : MethodId) (meth : Method) (c : Code) (b L : Nat) (xs : Nat → Int32) : Prop :=
  p.tables.exec = Jvm.exec ∧ c.code = code ∧ meth.sig.returnType = ret ∧ c.maxLocals = 8 ∧ s.vm.findClass R_law = some m.cls ∧ (∀ w ∈ lw_tbl, w.before #[Value.ref b] s = true) ∧ va_X b L xs s s.heap ∧ b < s.heap.size ∧ meth.locks = false ∧ (Jvm.Cond.and given_1 narrow_1).before #[Value.ref b] s = true
theorem ao_arr {s : State} {args : Array Value} {ty : FieldType} (hp : ty = .int ∨ ty = .long ∨ ty = .boolean) (h : (Cond.arrayClass ty).before args s = true) : ∃ c : ClassId, ArrOfT s c ty ∧ va_RA s c ty := by
  obtain ⟨cA, kA, comp, h1, h2, h3⟩ := Cond.arrayClass_spec h
  refine ⟨cA, fun n z => ⟨fun k h => (by cases h), kA, h2, comp, h3⟩, ?_⟩
  rcases hp with rfl | rfl | rfl <;> exact h1
theorem ao_obj {s : State} {args : Array Value} {C : String} (h : (Cond.arrayOver (.object C)).before args s = true) : ∃ c : ClassId, ArrOfT s c (.object C) ∧ va_RA s c (.object C) := by
  obtain ⟨comp, c, k, h1, h2, h3, h4, h5⟩ := Cond.arrayOver_spec h
  exact ⟨c, fun n z => ⟨fun k h => (by cases h), k, h3, comp, h4⟩, k, comp, h3, h4, h1, h5⟩
theorem l_K {s : State} {args : Array Value} (hts : ∀ w ∈ lw_tbl, w.before args s = true) : ∃ (D : va_G) (cy : Nat → ClassId), va_K D vwCl (cTy cy) s := by
  obtain ⟨c0, i0, k0⟩ := u_known (C := RX0) (T := TX0) (N := 8) (n := 8) hts (by decide +kernel) (hts (.instantiable RX0 8) (by decide +kernel))
  obtain ⟨c1, i1, k1⟩ := u_known (C := RX1) (T := TX1) (N := 5) (n := 5) hts (by decide +kernel) (hts (.instantiable RX1 5) (by decide +kernel))
  obtain ⟨c2, i2, k2⟩ := u_known (C := RX3) (T := TX3) (N := 5) (n := 5) hts (by decide +kernel) (hts (.instantiable RX3 5) (by decide +kernel))
  obtain ⟨c3, i3, k3⟩ := u_known (C := RX4) (T := TX4) (N := 5) (n := 5) hts (by decide +kernel) (hts (.instantiable RX4 5) (by decide +kernel))
  obtain ⟨c4, i4, k4⟩ := u_known (C := RX5) (T := TX5) (N := 6) (n := 6) hts (by decide +kernel) (hts (.instantiable RX5 6) (by decide +kernel))
  obtain ⟨c5, i5, k5⟩ := u_known (C := RX6) (T := TX6) (N := 3) (n := 3) hts (by decide +kernel) (hts (.instantiable RX6 3) (by decide +kernel))
  obtain ⟨c6, i6, k6⟩ := u_known (C := RX7) (T := TX7) (N := 2) (n := 2) hts (by decide +kernel) (hts (.instantiable RX7 2) (by decide +kernel))
  obtain ⟨c7, i7, k7⟩ := u_known (C := RX8) (T := TX8) (N := 10) (n := 10) hts (by decide +kernel) (hts (.instantiable RX8 10) (by decide +kernel))
  obtain ⟨c8, i8, k8⟩ := u_known (C := RX9) (T := TX9) (N := 9) (n := 9) hts (by decide +kernel) (hts (.instantiable RX9 9) (by decide +kernel))
  obtain ⟨c9, i9, k9⟩ := u_known (C := RX10) (T := TX10) (N := 35) (n := 35) hts (by decide +kernel) (hts (.instantiable RX10 35) (by decide +kernel))
  obtain ⟨a0, b0⟩ := ao_arr (Or.inl rfl) (hts (.arrayClass .int) (by decide +kernel))
  obtain ⟨a1, b1⟩ := ao_arr (Or.inr (Or.inl rfl)) (hts (.arrayClass .long) (by decide +kernel))
  obtain ⟨a2, b2⟩ := ao_arr (Or.inr (Or.inr rfl)) (hts (.arrayClass .boolean) (by decide +kernel))
  obtain ⟨a3, b3⟩ := ao_obj (hts (.arrayOver (.object RX0)) (by decide +kernel))
  obtain ⟨a4, b4⟩ := ao_obj (hts (.arrayOver (.object RX3)) (by decide +kernel))
  obtain ⟨a5, b5⟩ := ao_obj (hts (.arrayOver (.object RX2)) (by decide +kernel))
  refine ⟨(fun k => match k with | 0 => c0 | 1 => c1 | 2 => c2 | 3 => c3 | 4 => c4 | 5 => c5 | 6 => c6 | 7 => c7 | 8 => c8 | _ => c9, fun k => match k with | 0 => i0 | 1 => i1 | 2 => i2 | 3 => i3 | 4 => i4 | 5 => i5 | 6 => i6 | 7 => i7 | 8 => i8 | _ => i9), (fun k => match k with | 0 => a0 | 1 => a1 | 2 => a2 | 3 => a3 | 4 => a4 | _ => a5), ?_, ?_⟩
  · intro k z hz
    match k, hz with
    | 0, hz => cases hz; exact k0
    | 1, hz => cases hz; exact k1
    | 2, hz => cases hz; exact k2
    | 3, hz => cases hz; exact k3
    | 4, hz => cases hz; exact k4
    | 5, hz => cases hz; exact k5
    | 6, hz => cases hz; exact k6
    | 7, hz => cases hz; exact k7
    | 8, hz => cases hz; exact k8
    | 9, hz => cases hz; exact k9
    | k + 10, hz => simp [vwCl] at hz
  · intro k z hz
    match k, hz with
    | 0, hz => cases hz; exact b0
    | 1, hz => cases hz; exact b1
    | 2, hz => cases hz; exact b2
    | 3, hz => cases hz; exact b3
    | 4, hz => cases hz; exact b4
    | 5, hz => cases hz; exact b5
    | k + 6, hz => simp [cTy] at hz
theorem l_V {s : State} {args : Array Value} (hts : ∀ w ∈ lw_tbl, w.before args s = true) (hgv : ∀ w ∈ flatC (Jvm.Cond.and given_1 narrow_1), w.before args s = true) : cV s :=
  ⟨⟨va_Nw.of rfl (hts (.methodLinkNest RX9 33 yX8_init "ShadowBench") (by decide +kernel)), va_Nw.of rfl (hts (.methodLinkNest RX3 3 yX2_init "ShadowBench") (by decide +kernel)), va_Nw.of rfl (hts (.methodLinkNest RX9 189 yX6_init "ShadowBench") (by decide +kernel)), va_Nw.of rfl (hts (.methodLinkNest RX7 1 yX2_init "ShadowBench") (by decide +kernel))⟩,
   ⟨va_Nw.of rfl (hts (.castable RX1 RX3) (by decide +kernel)), va_Nw.of rfl (hts (.castable RX4 RX3) (by decide +kernel)), va_Nw.of rfl (hts (.castable RX5 RX3) (by decide +kernel))⟩,
   ⟨va_Nw.of rfl (hts (.castable RX1 RX2) (by decide +kernel)), va_Nw.of rfl (hts (.castable RX3 RX2) (by decide +kernel)), va_Nw.of rfl (hts (.castable RX4 RX2) (by decide +kernel)), va_Nw.of rfl (hts (.castable RX5 RX2) (by decide +kernel)), va_Nw.of rfl (hts (.castable RX7 RX2) (by decide +kernel))⟩,
   ⟨va_Nc.of (hgv (.not (.castable RX1 RX5)) (by decide +kernel)), va_Nc.of (hgv (.not (.castable RX3 RX5)) (by decide +kernel)), va_Nc.of (hgv (.not (.castable RX4 RX5)) (by decide +kernel))⟩,
   ⟨va_Nc.of (hgv (.not (.castable RX1 RX7)) (by decide +kernel)), va_Nc.of (hgv (.not (.castable RX3 RX7)) (by decide +kernel)), va_Nc.of (hgv (.not (.castable RX4 RX7)) (by decide +kernel)), va_Nc.of (hgv (.not (.castable RX5 RX7)) (by decide +kernel))⟩, va_Nc.of (hgv (.not (.castable RX7 RX3)) (by decide +kernel))⟩
theorem l_step {s : State} {args : Array Value} {nm : String} {x : Nat → Int32} (hA : ∀ a : Nat, a < s.heap.size → ¬ AL s a) (hl : (Cond.laysStatic RX0 nm "[I").before args s = true) (hini : (Cond.initialized RX0).before args s = true) (harr : (Cond.arrayOf (.static RX0 nm "[I") .int).before args s = true) (hlen : (Cond.eq (.length (.static RX0 nm "[I")) (.int 4)).before args s = true)
    (h0 : (Cond.eq (.elem (.static RX0 nm "[I") (.int 0)) (.int (x 0))).before args s = true) (h1 : (Cond.eq (.elem (.static RX0 nm "[I") (.int 1)) (.int (x 1))).before args s = true) (h2 : (Cond.eq (.elem (.static RX0 nm "[I") (.int 2)) (.int (x 2))).before args s = true) (h3 : (Cond.eq (.elem (.static RX0 nm "[I") (.int 3)) (.int (x 3))).before args s = true) : ∃ t, va_Z RX0 nm "[I" (.ref t) (AL s) s s.heap ∧ va_T .int t 4 (fun j => .int (x j)) (AL s) s s.heap := by
  obtain ⟨t, ht, hT⟩ := va_Tof (tm := .static RX0 nm "[I") (ty := .int) (N := 4) (f := fun j => .int (x j)) (A := AL s) (by decide) harr (va_eqt hlen) (fun j hj => by
    match j, hj with
    | 0, _ => exact va_eqt h0
    | 1, _ => exact va_eqt h1
    | 2, _ => exact va_eqt h2
    | 3, _ => exact va_eqt h3
    | j + 4, hj => omega) hA
  exact ⟨t, va_Zof hl hini ht hA, hT⟩
theorem l_Z {s : State} {args : Array Value} (hA : ∀ a : Nat, a < s.heap.size → ¬ AL s a) (hts : ∀ w ∈ lw_tbl, w.before args s = true) (hgv : ∀ w ∈ flatC (Jvm.Cond.and given_1 narrow_1), w.before args s = true) : cZ (AL s) s := by
  obtain ⟨tX, x1, x2⟩ := l_step (nm := "STEP_X") (x := fun j => match j with | 0 => 1 | 1 => 0 | 2 => 1 | _ => 1) hA (hts (.laysStatic RX0 "STEP_X" "[I") (by decide +kernel)) (hts (.initialized RX0) (by decide +kernel)) (hgv (.arrayOf (.static RX0 "STEP_X" "[I") .int) (by decide +kernel)) (hgv (.eq (.length (.static RX0 "STEP_X" "[I")) (.int 4)) (by decide +kernel))
    (hgv (.eq (.elem (.static RX0 "STEP_X" "[I") (.int 0)) (.int 1)) (by decide +kernel)) (hgv (.eq (.elem (.static RX0 "STEP_X" "[I") (.int 1)) (.int 0)) (by decide +kernel)) (hgv (.eq (.elem (.static RX0 "STEP_X" "[I") (.int 2)) (.int 1)) (by decide +kernel)) (hgv (.eq (.elem (.static RX0 "STEP_X" "[I") (.int 3)) (.int 1)) (by decide +kernel))
  obtain ⟨tY, y1, y2⟩ := l_step (nm := "STEP_Y") (x := fun j => match j with | 0 => 0 | 1 => 1 | 2 => 1 | _ => -1) hA (hts (.laysStatic RX0 "STEP_Y" "[I") (by decide +kernel)) (hts (.initialized RX0) (by decide +kernel)) (hgv (.arrayOf (.static RX0 "STEP_Y" "[I") .int) (by decide +kernel)) (hgv (.eq (.length (.static RX0 "STEP_Y" "[I")) (.int 4)) (by decide +kernel))
    (hgv (.eq (.elem (.static RX0 "STEP_Y" "[I") (.int 0)) (.int 0)) (by decide +kernel)) (hgv (.eq (.elem (.static RX0 "STEP_Y" "[I") (.int 1)) (.int 1)) (by decide +kernel)) (hgv (.eq (.elem (.static RX0 "STEP_Y" "[I") (.int 2)) (.int 1)) (by decide +kernel)) (hgv (.eq (.elem (.static RX0 "STEP_Y" "[I") (.int 3)) (.int (-1))) (by decide +kernel))
  exact ⟨tX, tY, _, _, ⟨x1, x2, rfl, rfl, rfl, rfl⟩, ⟨y1, y2, rfl, rfl, rfl, rfl⟩⟩
theorem l_txt {s : State} {args : Array Value} {C tx : String} {i : Nat} {cC : ClassId} (hc : s.vm.findClass C = some cC) (h : (Cond.stringRef C i tx).before args s = true) : ∃ sa, vk_R C i tx sa s := by
  obtain ⟨k, cf, j, a, h1, h2, h3, h4, h5, h6⟩ := Cond.stringRef_spec hc h
  exact ⟨a, vk_R.of h h6⟩
theorem l_T {s : State} {args : Array Value} {D : va_G} {cy : Nat → ClassId} (hK : va_K D vwCl (cTy cy) s) (hA : ∀ a : Nat, a < s.heap.size → ¬ AL s a) (hts : ∀ w ∈ lw_tbl, w.before args s = true) (hgv : ∀ w ∈ flatC (Jvm.Cond.and given_1 narrow_1), w.before args s = true) : xT (AL s) s := by
  have f1 := (hK.1 1 _ rfl).2.1
  have f3 := (hK.1 3 _ rfl).2.1
  have f4 := (hK.1 4 _ rfl).2.1
  have f8 := (hK.1 8 _ rfl).2.1
  refine ⟨⟨⟨va_Nw.of rfl (hts (.declares (Bundle.initS xRT)) (by decide +kernel)), va_Nw.of rfl (hts (.declares (Bundle.initS xEX)) (by decide +kernel)), va_Nw.of rfl (hts (.declares (Bundle.initS Bundle.tN)) (by decide +kernel))⟩, va_Nw.of rfl (hts (.castable xIA xIA) (by decide +kernel)), va_Nw.of rfl (hts (.castable xIS xIS) (by decide +kernel)), va_Nw.of rfl (hts (.castable xUO xUO) (by decide +kernel))⟩,
    ⟨va_Nc.of (hgv (.not (.castable xIA xIS)) (by decide +kernel)), va_Nc.of (hgv (.not (.castable xUO xIS)) (by decide +kernel)), va_Nc.of (hgv (.not (.castable xUO xIA)) (by decide +kernel)), va_Nc.of (hgv (.not (.castable xIS xIA)) (by decide +kernel))⟩, fun z hz => ?_,
    vx_Zqof (hts (.laysStatic Bundle.tN "UNASSIGNED_STACK" Bundle.steD) (by decide +kernel)) (hts (.initialized Bundle.tN) (by decide +kernel)) (hgv (.isRef (.static Bundle.tN "UNASSIGNED_STACK" Bundle.steD)) (by decide +kernel)) hA, vx_Zqof (hts (.laysStatic Bundle.tN "SUPPRESSED_SENTINEL" Bundle.listD) (by decide +kernel)) (hts (.initialized Bundle.tN) (by decide +kernel)) (hgv (.isRef (.static Bundle.tN "SUPPRESSED_SENTINEL" Bundle.listD)) (by decide +kernel)) hA⟩
  unfold xTx at hz
  simp only [List.mem_cons, List.not_mem_nil, or_false] at hz
  rcases hz with rfl | rfl | rfl | rfl | rfl | rfl | rfl | rfl | rfl
  · exact l_txt f1 (hts (.stringRef RX1 31 "even") (by decide +kernel))
  · exact l_txt f3 (hts (.stringRef RX4 25 "joined") (by decide +kernel))
  · exact l_txt f4 (hts (.stringRef RX5 31 "marked") (by decide +kernel))
  · exact l_txt f8 (hts (.stringRef RX9 225 "no such set of ways, or no such place") (by decide +kernel))
  · exact l_txt f8 (hts (.stringRef RX9 250 "no such shelf") (by decide +kernel))
  · exact l_txt f8 (hts (.stringRef RX9 261 "no row with such a place is held there") (by decide +kernel))
  · exact l_txt f8 (hts (.stringRef RX9 284 "no job is held there") (by decide +kernel))
  · exact l_txt f8 (hts (.stringRef RX9 302 "no such job, or it is not marked") (by decide +kernel))
  · exact l_txt f8 (hts (.stringRef RX9 304 "none fits, or the walk is spent") (by decide +kernel))


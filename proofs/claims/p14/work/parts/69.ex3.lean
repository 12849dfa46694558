
theorem cX.trF {ch : Nat → Bool} {G G1 : cG} {w w1 w2 : va_W} {P : Nat → Prop} (h : cX none ch G w G1 w1) (hP : ∀ b, P b → ∀ e, ¬ cIn w b e) (hF : cF P w1 w2) : cX none ch G w G1 w2 := ⟨h.1, fun a e hn hi => hF a e (fun z => hP a z e hi) (h.2.1 a e hn hi), h.2.2⟩
theorem w3sh0 {cy : Nat → ClassId} {A : Nat → Prop} {G : cG} {ws : va_W} {x k n b s : Nat} {t : Int32} {o y : Int64} {ms : List Value} (hD : va_D A ws) (hT : cT cy G ws) (hG : G x = some (3, k, n)) (hM : cIn ws x (.inr (k, .ref b :: .ref s :: .int t :: .long o :: .long y :: ms))) : ∃ w h, G b = some (2, w, h) ∧ G s = some (14, 44, 0) ∧ cJk G k n w h ms := by
  obtain ⟨_, hi, b', s', w', h', t', x', y', ms', rfl, h1, h2, h3⟩ := hT _ _ hG
  have z := cIn.eq hD hM hi
  simp only [Sum.inr.injEq, Prod.mk.injEq, List.cons.injEq, Value.int.injEq, Value.ref.injEq, Value.long.injEq, true_and] at z
  obtain ⟨e1, e2, -, -, -, e6⟩ := z
  rw [e1, e2, e6]
  exact ⟨w', h', h1, h2, h3⟩
section CAR38
variable {p : Program} {l : Launch} {e : Env} {R : Room} {s : State} {m : MethodId} {args : Array Value} {below : List Frame} {meth : Method} {c : Code} {H : Heap} {locs : List Loc} {cells slots : Nat} {Q : State → Prop}
variable {cc : ByteArray} {pc : Nat} {ls : Array Slot} {rest : List Value} {D : va_G} {cy : Nat → ClassId} {A : Nat → Prop} {ws : va_W} {G : cG} {H0 : Heap}
theorem t_newiK (hx : p.tables.exec = Jvm.exec) (hb : c.code = cc) (harr : (Cond.arrayClass .int).before args s = true) (hK : va_K D vwCl (cTy cy) s) (hP : va_P D vwCl ws H) (hD : va_D A ws) (hS : va_S A H0 H locs) (hA : ∀ q, H0.size ≤ q → A q) (hT : cT cy G ws) {kd9 : Nat} (hk9 : kd9 = 0 ∨ kd9 = 14 ∨ kd9 = 20 ∨ kd9 = 21 ∨ kd9 = 22 ∨ kd9 = 23) (B : Nat) {n : Int32} {N : Nat} (hn : ¬ n < 0) (hN : n.toNatClampNeg = N) (hB : N ≤ B) (hB2 : B ≤ 100000) (hcells : cells + 1 ≤ R.cells) (hslots : slots + B ≤ R.slots) (hdg : decode cc pc = .ok (.newarray .int, 2))
    (kk : ∀ (q : Nat) (H1 : Heap) (ws1 : va_W) (G1 : cG), G1 q = some (kd9, N, 0) → cIn ws1 q (.inl (cy 0, N, .inl (fun _ => 0))) → G q = none → (∀ e, ¬ cIn ws q e) → (∀ q0 ch, cX q0 ch G ws G1 ws1) → (∀ a e, cIn ws a e → cIn ws1 a e) → (∀ a, a ≠ q → G1 a = G a) → va_P D vwCl ws1 H1 → va_D A ws1 → cT cy G1 ws1 → va_S A H0 H1 locs → W p l e R s m args below meth c H1 locs (cells + 1) (slots + B) Q (F0 m (pc + 2) ls (.ref q :: rest))) : W p l e R s m args below meth c H locs cells slots Q (F0 m pc ls (.int n :: rest)) := by
  refine va_newa (atype := .int) (ty := .int) (a0 := (N, .inl (fun _ => 0))) hx hb harr rfl hK hP hD hS hA (fun cA => by rw [vp_cell_i] <;> rfl) hn hN (by have : componentBytes .int = 4 := rfl; rw [this]; omega) hcells (by omega) hdg (fun q cA H1 hK1 hP1 hD1 hS1 => ?_)
  have e1 : cA = cy 0 := cy_int (i := 0) (j := 6) hK hK1 rfl rfl (Or.inl rfl)
  subst e1
  have hg : G q = none := cG.none hT hD1
  have hni : ∀ e, ¬ cIn ws q e := c_fresh hD1
  refine W.widen (k := cells + 1) (n := slots + B) (Nat.le_refl _) (by omega) (kk q H1 _ (va_up G q (some (kd9, N, 0))) (by simp [va_up]) cIn.new hg hni (fun q0 ch => ⟨cE.add hg, fun a e _ hi => hi.add, fun a t ht => ?_⟩) (fun a e hi => hi.add) (fun a ha => by simp [va_up, ha]) hP1 hD1 (hT.add hg (cIo hk9)) hS1)
  by_cases ha : a = q
  · subst ha; exact Or.inr (Or.inr hni)
  · exact Or.inl (by simpa [va_up, ha] using ht)
end CAR38
set_option maxHeartbeats 4000000 in
set_option maxRecDepth 100000 in
theorem c_X3_init_w (l : Launch) (D : va_G) (cy : Nat → ClassId) (A : Nat → Prop) (G : cG) (ws : va_W) (o : Nat) (b : Nat) {kc : Nat} {ms : List Value} {w h : Nat} (hD : va_D A ws) (hT : cT cy G ws) (hO_o : G o = none) (hM_o : cIn ws o (.inr (kc, .null :: .null :: .int 0 :: .long 0 :: .long 0 :: ms))) (hG_b : G b = some (2, w, h)) (hKc_o : cKc kc) : Cv l D cy A yX3_init wsX3_init ({ frames := 2, cells := 1, slots := 44, locals := 40 }) 1 44 ws [.ref o, .ref b] (fun u => cX (some o) (chs []) G ws u.1 u.2 ∧ u.1 o = none ∧ ∃ a, u.1 a = some (14, 44, 0) ∧ (∀ e, ¬ cIn ws a e) ∧ cIn u.2 a (.inl (cy 0, 44, .inl (fun _ => 0))) ∧ cIn u.2 o (.inr (kc, .ref b :: .ref a :: .int 3 :: .long 0 :: .long 0 :: ms))) := by
  refine Met.ofW (cc := cX3_init) (maxL := 2) (ret := none) (by decide) rfl ?_
  intro p e s m args below meth c s₁ B hml hv
  obtain ⟨rfl, hP, hK, hA, hV⟩ := hv
  have hx := B.exec
  have hb := B.bytes
  have hr := B.returns
  have hts := atoms_spec (ws := wsX3_init) B.pre
  have hown : s.vm.findClass RX3 = some m.cls := findClass_of_methodNamed B.named
  have hlocks := B.notSynchronized
  have hS : va_S A s.heap s.heap [] := va_S.rf
  have hinJ : ∀ w ∈ wsX10 ++ wsX30 ++ wsX40 ++ wsX50, w ∈ wsX3_init := by decide +kernel
  have hin2 : meth.name = "<init>" := (name_of_methodNamed B.named B.method).1
  have hX : cX (some o) (chs []) G ws G ws := cX.rf
  have hM0_o := hM_o
  have hl := lv_entry ([.ref o, .ref b]) (n := 2) (Nat.le_of_ble_eq_true rfl)
  rw [lg_entry_eq]
  generalize (lg_sl ([.ref o, .ref b]) ++ List.replicate (2 - (lg_sl ([.ref o, .ref b])).length) Slot.unset).toArray = ls at hl ⊢
  have hl : lv_has ls 2 [(0, .ref o), (1, .ref b)] := hl
  have k_0 : (0 : Int32).toInt = 0 := by decide
  have k_3 : (3 : Int32).toInt = 3 := by decide
  have k_44 : (44 : Int32).toInt = 44 := by decide
  have k_0L : (0 : Int64).toInt = 0 := by decide
  refine lv_aload_n hx hb dX3_init_0 rfl (lv_at hl 0 rfl) ?_
  refine t_callv (va_runIN (g := F0 m 1 ls ([.ref o])) (As := []) (rest := []) (b := o) ⟨hx, hb, hml, hown, hts⟩ (c_X2_init l D cy A G ws o hD hT ) ⟨va_cnB 0 hts gX3_init_X2_init_n3 rfl rfl rfl hV.1.2.1 (hts (.initialized RX2) (by decide +kernel)) (by decide +kernel) ⟨Nat.le_of_ble_eq_true rfl, Nat.le_of_ble_eq_true rfl⟩, rfl, hts (.instanceMethod yX2_init) (by decide +kernel)⟩ (c_preS hP hK hA hS hV) rfl rfl hl.1 rfl (lv_room (Nat.le_of_ble_eq_true rfl)) dX3_init_1 ⟨Nat.le_of_ble_eq_true rfl, Nat.le_of_ble_eq_true rfl⟩) hS (fun u H locs q1 hP9 hD9 hT9 hS => ?_)
  obtain ⟨rfl, q1⟩ := q1
  have hP : va_P D vwCl ws H := hP9
  refine lv_aload_n hx hb dX3_init_4 rfl (lv_at hl 0 rfl) ?_
  refine lv_bipush (v := 44) hx hb dX3_init_5 (by decide) ?_
  refine t_newiK hx hb (hts (.arrayClass .int) (by decide +kernel)) hK hP hD hS hA hT (kd9 := 14) (Or.inr (Or.inl rfl)) 44 (N := 44) (by decide) rfl (by omega) (by decide) (Nat.le_of_ble_eq_true rfl) (Nat.le_of_ble_eq_true rfl) dX3_init_7 (fun q7 H w7 G7 hG_q7 hMn7 hz7 hF7 hX7 hk7 hg7 hP hD hT hS => ?_)
  have hN_q7 := hX.new1 hM_o hz7 hF7
  have hO_o := (hg7 o (fun z => hF7 _ (z ▸ hM_o))).trans hO_o
  have hM_o := hk7 _ _ hM_o
  have hG_b := (hX7 none (chs [])).1 _ _ hG_b
  have hX := hX.tr (hX7 _ _)
  have hM_q7 := hMn7
  refine t_putFJ (v := .ref q7) hx hb hts hinJ hown hK hP hD hS hKc_o hM_o 1 (by decide) (hts (.fieldLink RX3 11 "ShadowBench$Job" "sums" "[I") (by decide +kernel)) (fun _ h9 => h9) rfl hin2 rfl rfl rfl (Nat.le_of_ble_eq_true rfl) dX3_init_9 (fun H locs w9 hU9 hP hD hS => ?_)
  have hM_q7 := hU9.2 _ _ (Ne.symm (cne0 hO_o hG_q7)) hM_q7
  have hT := hT.up0 hU9 hO_o
  have hM_o : cIn w9 o (.inr (kc, .null :: .ref q7 :: .int 0 :: .long 0 :: .long 0 :: ms)) := hU9.1
  have hX := hX.tr (cX.up hU9 (Or.inl rfl))
  refine lv_aload_n hx hb dX3_init_12 rfl (lv_at hl 0 rfl) ?_
  refine lv_iconst (v := 3) hx hb dX3_init_13 (by decide) ?_
  refine t_putJ (v := .int (3 : Int32)) hx hb hts hinJ hown hK hP hD hS hKc_o hM_o 2 (by decide) (hts (.fieldLink RX3 17 "ShadowBench$Job" "toldWays" "I") (by decide +kernel)) (fun _ h9 => h9) rfl rfl rfl (Nat.le_of_ble_eq_true rfl) dX3_init_14 (fun H locs w14 hU14 hP hD hS => ?_)
  have hM_q7 := hU14.2 _ _ (Ne.symm (cne0 hO_o hG_q7)) hM_q7
  have hT := hT.up0 hU14 hO_o
  have hM_o : cIn w14 o (.inr (kc, .null :: .ref q7 :: .int (3 : Int32) :: .long 0 :: .long 0 :: ms)) := hU14.1
  have hX := hX.tr (cX.up hU14 (Or.inl rfl))
  refine lv_aload_n hx hb dX3_init_17 rfl (lv_at hl 0 rfl) ?_
  refine lv_lconst (v := 0) hx hb dX3_init_18 (by decide) ?_
  refine t_putJ (v := .long (0 : Int64)) hx hb hts hinJ hown hK hP hD hS hKc_o hM_o 3 (by decide) (hts (.fieldLink RX3 21 "ShadowBench$Job" "heldOnes" "J") (by decide +kernel)) (fun _ h9 => h9) rfl rfl rfl (Nat.le_of_ble_eq_true rfl) dX3_init_19 (fun H locs w19 hU19 hP hD hS => ?_)
  have hM_q7 := hU19.2 _ _ (Ne.symm (cne0 hO_o hG_q7)) hM_q7
  have hT := hT.up0 hU19 hO_o
  have hM_o : cIn w19 o (.inr (kc, .null :: .ref q7 :: .int (3 : Int32) :: .long (0 : Int64) :: .long 0 :: ms)) := hU19.1
  have hX := hX.tr (cX.up hU19 (Or.inl rfl))
  refine lv_aload_n hx hb dX3_init_22 rfl (lv_at hl 0 rfl) ?_
  refine lv_lconst (v := 0) hx hb dX3_init_23 (by decide) ?_
  refine t_putJ (v := .long (0 : Int64)) hx hb hts hinJ hown hK hP hD hS hKc_o hM_o 4 (by decide) (hts (.fieldLink RX3 25 "ShadowBench$Job" "heldNoughts" "J") (by decide +kernel)) (fun _ h9 => h9) rfl rfl rfl (Nat.le_of_ble_eq_true rfl) dX3_init_24 (fun H locs w24 hU24 hP hD hS => ?_)
  have hM_q7 := hU24.2 _ _ (Ne.symm (cne0 hO_o hG_q7)) hM_q7
  have hT := hT.up0 hU24 hO_o
  have hM_o : cIn w24 o (.inr (kc, .null :: .ref q7 :: .int (3 : Int32) :: .long (0 : Int64) :: .long (0 : Int64) :: ms)) := hU24.1
  have hX := hX.tr (cX.up hU24 (Or.inl rfl))
  refine lv_aload_n hx hb dX3_init_27 rfl (lv_at hl 0 rfl) ?_
  refine lv_aload_n hx hb dX3_init_28 rfl (lv_at hl 1 rfl) ?_
  refine t_putFJ (v := .ref b) hx hb hts hinJ hown hK hP hD hS hKc_o hM_o 0 (by decide) (hts (.fieldLink RX3 28 "ShadowBench$Job" "board" "LShadowBench$Board;") (by decide +kernel)) (fun _ h9 => h9) rfl hin2 rfl rfl rfl (Nat.le_of_ble_eq_true rfl) dX3_init_29 (fun H locs w29 hU29 hP hD hS => ?_)
  have hM_q7 := hU29.2 _ _ (Ne.symm (cne0 hO_o hG_q7)) hM_q7
  have hT := hT.up0 hU29 hO_o
  have hM_o : cIn w29 o (.inr (kc, .ref b :: .ref q7 :: .int (3 : Int32) :: .long (0 : Int64) :: .long (0 : Int64) :: ms)) := hU29.1
  have hX := hX.tr (cX.up hU29 (Or.inl rfl))
  refine W.widen (k := 1) (n := 44) (Nat.le_of_ble_eq_true rfl) (Nat.le_of_ble_eq_true rfl) ?_
  exact W.vret hx hb hr (fun t ht hW => ⟨⟨(G7, w29), rfl, ⟨hX, hO_o, _, hG_q7, hN_q7, hM_q7, hM_o⟩, by show va_P D vwCl w29 t.heap; rw [ht]; exact hP, hD, hT⟩, hS.F ht⟩) hS.2.2 dX3_init_32
set_option maxHeartbeats 4000000 in
set_option maxRecDepth 100000 in
theorem c_X4_init_w (l : Launch) (D : va_G) (cy : Nat → ClassId) (A : Nat → Prop) (G : cG) (ws : va_W) (o : Nat) (b : Nat) {kc : Nat} {ms : List Value} {w h : Nat} (hD : va_D A ws) (hT : cT cy G ws) (hO_o : G o = none) (hM_o : cIn ws o (.inr (kc, .null :: .null :: .int 0 :: .long 0 :: .long 0 :: ms))) (hG_b : G b = some (2, w, h)) (hKc_o : cKc kc) : Cv l D cy A yX4_init wsX4_init ({ frames := 3, cells := 1, slots := 44, locals := 61 }) 1 44 ws [.ref o, .ref b] (fun u => cX (some o) (chs []) G ws u.1 u.2 ∧ u.1 o = none ∧ ∃ a, u.1 a = some (14, 44, 0) ∧ (∀ e, ¬ cIn ws a e) ∧ cIn u.2 a (.inl (cy 0, 44, .inl (fun _ => 0))) ∧ cIn u.2 o (.inr (kc, .ref b :: .ref a :: .int 3 :: .long 0 :: .long 0 :: ms))) := by
  refine Met.ofW (cc := cX4_init) (maxL := 2) (ret := none) (by decide) rfl ?_
  intro p e s m args below meth c s₁ B hml hv
  obtain ⟨rfl, hP, hK, hA, hV⟩ := hv
  have hx := B.exec
  have hb := B.bytes
  have hr := B.returns
  have hts := atoms_spec (ws := wsX4_init) B.pre
  have hown : s.vm.findClass RX4 = some m.cls := findClass_of_methodNamed B.named
  have hlocks := B.notSynchronized
  have hS : va_S A s.heap s.heap [] := va_S.rf
  have hin2 : meth.name = "<init>" := (name_of_methodNamed B.named B.method).1
  have hX : cX (some o) (chs []) G ws G ws := cX.rf
  have hM0_o := hM_o
  have hl := lv_entry ([.ref o, .ref b]) (n := 2) (Nat.le_of_ble_eq_true rfl)
  rw [lg_entry_eq]
  generalize (lg_sl ([.ref o, .ref b]) ++ List.replicate (2 - (lg_sl ([.ref o, .ref b])).length) Slot.unset).toArray = ls at hl ⊢
  have hl : lv_has ls 2 [(0, .ref o), (1, .ref b)] := hl
  have k_0 : (0 : Int32).toInt = 0 := by decide
  refine lv_aload_n hx hb dX4_init_0 rfl (lv_at hl 0 rfl) ?_
  refine lv_aload_n hx hb dX4_init_1 rfl (lv_at hl 1 rfl) ?_
  refine t_callv (va_runI (g := F0 m 2 ls ([.ref b, .ref o])) (As := [.ref b]) (rest := []) (b := o) ⟨hx, hb, hml, hown, hts⟩ (c_X3_init_w l D cy A G ws o b hD hT hO_o hM_o hG_b hKc_o) (cwI 1 hts gX4_init_X3_init rfl rfl rfl (hts (.initialized RX3) (by decide +kernel)) (hts (.methodLink RX4 1 yX3_init) (by decide +kernel)) (hts (.instanceMethod yX3_init) (by decide +kernel)) rfl (by decide +kernel) ⟨Nat.le_of_ble_eq_true rfl, Nat.le_of_ble_eq_true rfl⟩) (c_preS hP hK hA hS hV) rfl rfl hl.1 rfl (lv_room (Nat.le_of_ble_eq_true rfl)) dX4_init_2 ⟨Nat.le_of_ble_eq_true rfl, Nat.le_of_ble_eq_true rfl⟩) hS (fun u H locs q2 hP9 hD9 hT9 hS => ?_)
  obtain ⟨G2, w2⟩ := u
  obtain ⟨hX9, q2⟩ := q2
  have hX9 : cX (some o) (chs []) G ws G2 w2 := hX9
  obtain ⟨hOx2, a2, hG_a2, hN9_a2, hMx_a2, hMx2⟩ := q2
  have hN_a2 := hN9_a2
  have hP : va_P D vwCl w2 H := hP9
  have hD : va_D A w2 := hD9
  have hT : cT cy G2 w2 := hT9
  have hG_b := hX9.1 _ _ hG_b
  have hO_o := hOx2
  have hM_a2 := hMx_a2
  have hM_o : cIn w2 o (.inr (kc, .ref b :: .ref a2 :: .int 3 :: .long 0 :: .long 0 :: ms)) := hMx2
  have hX := hX.tr hX9
  refine W.widen (k := 1) (n := 44) (Nat.le_of_ble_eq_true rfl) (Nat.le_of_ble_eq_true rfl) ?_
  exact W.vret hx hb hr (fun t ht hW => ⟨⟨(G2, w2), rfl, ⟨hX, hO_o, _, hG_a2, hN_a2, hM_a2, hM_o⟩, by show va_P D vwCl w2 t.heap; rw [ht]; exact hP, hD, hT⟩, hS.F ht⟩) hS.2.2 dX4_init_5
set_option maxHeartbeats 4000000 in
set_option maxRecDepth 100000 in
theorem c_X1_init_w (l : Launch) (D : va_G) (cy : Nat → ClassId) (A : Nat → Prop) (G : cG) (ws : va_W) (o : Nat) (b : Nat) {kc : Nat} {ms : List Value} {w h : Nat} (hD : va_D A ws) (hT : cT cy G ws) (hO_o : G o = none) (hM_o : cIn ws o (.inr (kc, .null :: .null :: .int 0 :: .long 0 :: .long 0 :: ms))) (hG_b : G b = some (2, w, h)) (hKc_o : cKc kc) : Cv l D cy A yX1_init wsX1_init ({ frames := 4, cells := 1, slots := 44, locals := 82 }) 1 44 ws [.ref o, .ref b] (fun u => cX (some o) (chs []) G ws u.1 u.2 ∧ u.1 o = none ∧ ∃ a, u.1 a = some (14, 44, 0) ∧ (∀ e, ¬ cIn ws a e) ∧ cIn u.2 a (.inl (cy 0, 44, .inl (fun _ => 0))) ∧ cIn u.2 o (.inr (kc, .ref b :: .ref a :: .int 3 :: .long 0 :: .long 0 :: ms))) := by
  refine Met.ofW (cc := cX1_init) (maxL := 2) (ret := none) (by decide) rfl ?_
  intro p e s m args below meth c s₁ B hml hv
  obtain ⟨rfl, hP, hK, hA, hV⟩ := hv
  have hx := B.exec
  have hb := B.bytes
  have hr := B.returns
  have hts := atoms_spec (ws := wsX1_init) B.pre
  have hown : s.vm.findClass RX1 = some m.cls := findClass_of_methodNamed B.named
  have hlocks := B.notSynchronized
  have hS : va_S A s.heap s.heap [] := va_S.rf
  have hin2 : meth.name = "<init>" := (name_of_methodNamed B.named B.method).1
  have hX : cX (some o) (chs []) G ws G ws := cX.rf
  have hM0_o := hM_o
  have hl := lv_entry ([.ref o, .ref b]) (n := 2) (Nat.le_of_ble_eq_true rfl)
  rw [lg_entry_eq]
  generalize (lg_sl ([.ref o, .ref b]) ++ List.replicate (2 - (lg_sl ([.ref o, .ref b])).length) Slot.unset).toArray = ls at hl ⊢
  have hl : lv_has ls 2 [(0, .ref o), (1, .ref b)] := hl
  have k_0 : (0 : Int32).toInt = 0 := by decide
  refine lv_aload_n hx hb dX1_init_0 rfl (lv_at hl 0 rfl) ?_
  refine lv_aload_n hx hb dX1_init_1 rfl (lv_at hl 1 rfl) ?_
  refine t_callv (va_runI (g := F0 m 2 ls ([.ref b, .ref o])) (As := [.ref b]) (rest := []) (b := o) ⟨hx, hb, hml, hown, hts⟩ (c_X4_init_w l D cy A G ws o b hD hT hO_o hM_o hG_b hKc_o) (cwI 1 hts gX1_init_X4_init rfl rfl rfl (hts (.initialized RX4) (by decide +kernel)) (hts (.methodLink RX1 1 yX4_init) (by decide +kernel)) (hts (.instanceMethod yX4_init) (by decide +kernel)) rfl (by decide +kernel) ⟨Nat.le_of_ble_eq_true rfl, Nat.le_of_ble_eq_true rfl⟩) (c_preS hP hK hA hS hV) rfl rfl hl.1 rfl (lv_room (Nat.le_of_ble_eq_true rfl)) dX1_init_2 ⟨Nat.le_of_ble_eq_true rfl, Nat.le_of_ble_eq_true rfl⟩) hS (fun u H locs q2 hP9 hD9 hT9 hS => ?_)
  obtain ⟨G2, w2⟩ := u
  obtain ⟨hX9, q2⟩ := q2
  have hX9 : cX (some o) (chs []) G ws G2 w2 := hX9
  obtain ⟨hOx2, a2, hG_a2, hN9_a2, hMx_a2, hMx2⟩ := q2
  have hN_a2 := hN9_a2
  have hP : va_P D vwCl w2 H := hP9
  have hD : va_D A w2 := hD9
  have hT : cT cy G2 w2 := hT9
  have hG_b := hX9.1 _ _ hG_b
  have hO_o := hOx2
  have hM_a2 := hMx_a2
  have hM_o : cIn w2 o (.inr (kc, .ref b :: .ref a2 :: .int 3 :: .long 0 :: .long 0 :: ms)) := hMx2
  have hX := hX.tr hX9
  refine W.widen (k := 1) (n := 44) (Nat.le_of_ble_eq_true rfl) (Nat.le_of_ble_eq_true rfl) ?_
  exact W.vret hx hb hr (fun t ht hW => ⟨⟨(G2, w2), rfl, ⟨hX, hO_o, _, hG_a2, hN_a2, hM_a2, hM_o⟩, by show va_P D vwCl w2 t.heap; rw [ht]; exact hP, hD, hT⟩, hS.F ht⟩) hS.2.2 dX1_init_5
set_option maxHeartbeats 4000000 in
set_option maxRecDepth 100000 in
theorem c_X5_init_w (l : Launch) (D : va_G) (cy : Nat → ClassId) (A : Nat → Prop) (G : cG) (ws : va_W) (o : Nat) (b : Nat) {w h : Nat} (hD : va_D A ws) (hT : cT cy G ws) (hO_o : G o = none) (hM_o : cIn ws o (.inr (4, [.null, .null, .int 0, .long 0, .long 0, .null]))) (hG_b : G b = some (2, w, h))  : Cv l D cy A yX5_init wsX5_init ({ frames := 3, cells := 2, slots := 80, locals := 61 }) 2 80 ws [.ref o, .ref b] (fun u => cX (some o) (chs []) G ws u.1 u.2 ∧ u.1 o = none ∧ ∃ a, u.1 a = some (14, 44, 0) ∧ (∀ e, ¬ cIn ws a e) ∧ cIn u.2 a (.inl (cy 0, 44, .inl (fun _ => 0))) ∧ ∃ c, u.1 c = some (14, w * h, 0) ∧ (∀ e, ¬ cIn ws c e) ∧ c ≠ a ∧ cIn u.2 c (.inl (cy 0, w * h, .inl (fun _ => 0))) ∧ cIn u.2 o (.inr (4, [.ref b, .ref a, .int 3, .long 0, .long 0, .ref c]))) := by
  refine Met.ofW (cc := cX5_init) (maxL := 2) (ret := none) (by decide) rfl ?_
  intro p e s m args below meth c s₁ B hml hv
  obtain ⟨rfl, hP, hK, hA, hV⟩ := hv
  have hx := B.exec
  have hb := B.bytes
  have hr := B.returns
  have hts := atoms_spec (ws := wsX5_init) B.pre
  have hown : s.vm.findClass RX5 = some m.cls := findClass_of_methodNamed B.named
  have hlocks := B.notSynchronized
  have hS : va_S A s.heap s.heap [] := va_S.rf
  have hin2 : meth.name = "<init>" := (name_of_methodNamed B.named B.method).1
  have hX : cX (some o) (chs []) G ws G ws := cX.rf
  have hM0_o := hM_o
  have hl := lv_entry ([.ref o, .ref b]) (n := 2) (Nat.le_of_ble_eq_true rfl)
  rw [lg_entry_eq]
  generalize (lg_sl ([.ref o, .ref b]) ++ List.replicate (2 - (lg_sl ([.ref o, .ref b])).length) Slot.unset).toArray = ls at hl ⊢
  have hl : lv_has ls 2 [(0, .ref o), (1, .ref b)] := hl
  have k_0 : (0 : Int32).toInt = 0 := by decide
  refine lv_aload_n hx hb dX5_init_0 rfl (lv_at hl 0 rfl) ?_
  refine lv_aload_n hx hb dX5_init_1 rfl (lv_at hl 1 rfl) ?_
  refine t_callv (va_runI (g := F0 m 2 ls ([.ref b, .ref o])) (As := [.ref b]) (rest := []) (b := o) ⟨hx, hb, hml, hown, hts⟩ (c_X3_init_w l D cy A G ws o b hD hT hO_o hM_o hG_b (by unfold cKc; omega)) (cwI 1 hts gX5_init_X3_init rfl rfl rfl (hts (.initialized RX3) (by decide +kernel)) (hts (.methodLink RX5 1 yX3_init) (by decide +kernel)) (hts (.instanceMethod yX3_init) (by decide +kernel)) rfl (by decide +kernel) ⟨Nat.le_of_ble_eq_true rfl, Nat.le_of_ble_eq_true rfl⟩) (c_preS hP hK hA hS hV) rfl rfl hl.1 rfl (lv_room (Nat.le_of_ble_eq_true rfl)) dX5_init_2 ⟨Nat.le_of_ble_eq_true rfl, Nat.le_of_ble_eq_true rfl⟩) hS (fun u H locs q2 hP9 hD9 hT9 hS => ?_)
  obtain ⟨G2, w2⟩ := u
  obtain ⟨hX9, q2⟩ := q2
  have hX9 : cX (some o) (chs []) G ws G2 w2 := hX9
  obtain ⟨hOx2, a2, hG_a2, hN9_a2, hMx_a2, hMx2⟩ := q2
  have hN_a2 := hN9_a2
  have hP : va_P D vwCl w2 H := hP9
  have hD : va_D A w2 := hD9
  have hT : cT cy G2 w2 := hT9
  have hG_b := hX9.1 _ _ hG_b
  have hO_o := hOx2
  have hM_a2 := hMx_a2
  have hM_o : cIn w2 o (.inr (4, [.ref b, .ref a2, .int 3, .long 0, .long 0, .null])) := hMx2
  have hX := hX.tr hX9
  refine lv_aload_n hx hb dX5_init_5 rfl (lv_at hl 0 rfl) ?_
  refine lv_aload_n hx hb dX5_init_6 rfl (lv_at hl 1 rfl) ?_
  obtain ⟨_, hM_b, hb_b, l_b, f_b, r_b, rfl, hG_l_b, hG_f_b, hG_r_b⟩ := hT _ _ hG_b
  refine t_get (v := .int (nI (w * h))) (C := RX0) (T := TX0) (N := 8) hx hb hts (by decide +kernel) hown hK hP hM_b rfl 2 (by decide) (hts (.fieldLink RX5 7 "ShadowBench$Board" "squares" "I") (by decide +kernel)) (fun _ h9 => h9) rfl dX5_init_7 ?_
  have m_wh_b := cb_mul hb_b
  have i_wh_b : (nI (w * h)).toInt = _ := nI_toInt (by omega)
  refine t_newiK hx hb (hts (.arrayClass .int) (by decide +kernel)) hK hP hD hS hA hT (kd9 := 14) (Or.inr (Or.inl rfl)) 36 (N := (w * h)) (by rw [fa_lt]; omega) (nI_clamp (by omega)) (by omega) (by decide) (Nat.le_of_ble_eq_true rfl) (Nat.le_of_ble_eq_true rfl) dX5_init_10 (fun q10 H w10 G10 hG_q10 hMn10 hz10 hF10 hX10 hk10 hg10 hP hD hT hS => ?_)
  have hN_q10 := hX.new1 hM_o hz10 hF10
  have hO_o := (hg10 o (fun z => hF10 _ (z ▸ hM_o))).trans hO_o
  have hM_a2 := hk10 _ _ hM_a2
  have hM_o := hk10 _ _ hM_o
  have hM_b := hk10 _ _ hM_b
  have hG_b := (hX10 none (chs [])).1 _ _ hG_b
  have hG_a2 := (hX10 none (chs [])).1 _ _ hG_a2
  have hG_l_b := (hX10 none (chs [])).1 _ _ hG_l_b
  have hG_f_b := (hX10 none (chs [])).1 _ _ hG_f_b
  have hG_r_b := (hX10 none (chs [])).1 _ _ hG_r_b
  have hX := hX.tr (hX10 _ _)
  have hM_q10 := hMn10
  have hM0_a := hMx_a2
  refine t_putF (v := .ref q10) (C := RX5) (T := TX5) (N := 6) (ty0 := tyX5) hx hb hts (by decide +kernel) tyX5_ok nmX5 hown hK hP hD hS hM_o rfl 5 (by decide) (hts (.fieldLink RX5 13 "ShadowBench$MarkedJob" "marks" "[I") (by decide +kernel)) (fun _ h9 => h9) rfl hin2 rfl rfl rfl (Nat.le_of_ble_eq_true rfl) dX5_init_12 (fun H locs w12 hU12 hP hD hS => ?_)
  have hM_a2 := hU12.2 _ _ (Ne.symm (cne0 hO_o hG_a2)) hM_a2
  have hM_b := hU12.2 _ _ (Ne.symm (cne0 hO_o hG_b)) hM_b
  have hM_q10 := hU12.2 _ _ (Ne.symm (cne0 hO_o hG_q10)) hM_q10
  have hT := hT.up0 hU12 hO_o
  have hM_o : cIn w12 o (.inr (4, [.ref b, .ref a2, .int 3, .long 0, .long 0, .ref q10])) := hU12.1
  have hX := hX.tr (cX.up hU12 (Or.inl rfl))
  refine W.widen (k := 2) (n := 80) (Nat.le_of_ble_eq_true rfl) (Nat.le_of_ble_eq_true rfl) ?_
  exact W.vret hx hb hr (fun t ht hW => ⟨⟨(G10, w12), rfl, ⟨hX, hO_o, _, hG_a2, hN_a2, hM_a2, _, hG_q10, hN_q10, (fun z9 => hF10 _ (by rw [z9]; exact hM0_a)), hM_q10, hM_o⟩, by show va_P D vwCl w12 t.heap; rw [ht]; exact hP, hD, hT⟩, hS.F ht⟩) hS.2.2 dX5_init_15
set_option maxHeartbeats 4000000 in
set_option maxRecDepth 100000 in
theorem c_X3_alike_w (l : Launch) (D : va_G) (cy : Nat → ClassId) (A : Nat → Prop) (G : cG) (ws : va_W) (o : Nat) (x1 : Nat) {kq nq k1 n1 b1 s1 : Nat} {t1 : Int32} {o1 y1 : Int64} {ms1 : List Value} (hD : va_D A ws) (hT : cT cy G ws) (hG_o : G o = some (3, kq, nq)) (hG_x1 : G x1 = some (3, k1, n1)) (hM_x1 : cIn ws x1 (.inr (k1, .ref b1 :: .ref s1 :: .int t1 :: .long o1 :: .long y1 :: ms1)))  : Ca l D cy A yX3_alike wsX3_alike ({ frames := 1, cells := 0, slots := 0, locals := 68 }) 0 0 ws [.ref o, .ref x1] (fun r0 u => ∃ w1, u = (G, w1) ∧ cF (fun b9 => b9 = x1 ∨ b9 = s1) ws w1 ∧ (r0 = some x1)) := by
  refine Met.ofW (cc := cX3_alike) (maxL := 2) (ret := (some (.object "ShadowBench$Job"))) (by decide) rfl ?_
  intro p e s m args below meth c s₁ B hml hv
  obtain ⟨rfl, hP, hK, hA, hV⟩ := hv
  have hx := B.exec
  have hb := B.bytes
  have hr := B.returns
  have hts := atoms_spec (ws := wsX3_alike) B.pre
  have hown : s.vm.findClass RX3 = some m.cls := findClass_of_methodNamed B.named
  have hlocks := B.notSynchronized
  have hS : va_S A s.heap s.heap [] := va_S.rf
  have hinJ : ∀ w ∈ wsX10 ++ wsX30 ++ wsX40 ++ wsX50, w ∈ wsX3_alike := by decide +kernel
  have hF : cF (fun b9 => b9 = x1 ∨ b9 = s1) ws ws := cF.rf
  have hl := lv_entry ([.ref o, .ref x1]) (n := 2) (Nat.le_of_ble_eq_true rfl)
  rw [lg_entry_eq]
  generalize (lg_sl ([.ref o, .ref x1]) ++ List.replicate (2 - (lg_sl ([.ref o, .ref x1])).length) Slot.unset).toArray = ls at hl ⊢
  have hl : lv_has ls 2 [(0, .ref o), (1, .ref x1)] := hl
  have k_0 : (0 : Int32).toInt = 0 := by decide
  obtain ⟨w1_, h1_, hG_b1, hG_s1, hJ_x1⟩ := w3sh0 hD hT hG_x1 hM_x1
  refine lv_aload_n hx hb dX3_alike_0 rfl (lv_at hl 0 rfl) ?_
  obtain ⟨_, hM_o, b_o, s_o, w_o, h_o, t_o, x_o, y_o, ms_o, rfl, hG_b_o, hG_s_o, hJ_o⟩ := hT _ _ hG_o
  refine t_getJ (v := .ref s_o) hx hb hts hinJ hown hK hP hJ_o.kc hM_o 1 (by decide) (hts (.fieldLink RX3 11 "ShadowBench$Job" "sums" "[I") (by decide +kernel)) (fun _ h9 => h9) rfl dX3_alike_1 ?_
  refine lv_iconst (v := 0) hx hb dX3_alike_4 (by decide) ?_
  refine lv_aload_n hx hb dX3_alike_5 rfl (lv_at hl 1 rfl) ?_
  refine t_getJ (v := .ref s1) hx hb hts hinJ hown hK hP hJ_x1.kc hM_x1 1 (by decide) (hts (.fieldLink RX3 11 "ShadowBench$Job" "sums" "[I") (by decide +kernel)) (fun _ h9 => h9) rfl dX3_alike_6 ?_
  refine lv_iconst (v := 0) hx hb dX3_alike_9 (by decide) ?_
  refine lv_aload_n hx hb dX3_alike_10 rfl (lv_at hl 0 rfl) ?_
  refine t_getJ (v := .ref s_o) hx hb hts hinJ hown hK hP hJ_o.kc hM_o 1 (by decide) (hts (.fieldLink RX3 11 "ShadowBench$Job" "sums" "[I") (by decide +kernel)) (fun _ h9 => h9) rfl dX3_alike_11 ?_
  refine t_alenI hx hb hK hP hT (Or.inr (Or.inl rfl)) hG_s_o dX3_alike_14 ?_
  have i14 : (nI 44).toInt = _ := nI_toInt (by omega)
  refine t_copyi hx hb (by rw [hml]; exact hl.1.symm) hown (hts (.methodLink RX3 90 arraycopyName) (by decide +kernel)) (hts (.native arraycopyName) (by decide +kernel)) (hts (.static arraycopyName) (by decide +kernel)) (hts (.initialized "java/lang/System") (by decide +kernel)) hK hP hD hS hT (Or.inr (Or.inl rfl)) (Or.inr (Or.inl rfl)) hG_s_o hG_s1 (by omega) (by omega) (by omega) (by omega) (by omega) (Nat.le_of_ble_eq_true rfl) (Nat.le_of_ble_eq_true rfl) dX3_alike_15 (fun H locs w15 hU15 hP hD hT hS => ?_)
  have hM_x1 := hU15 _ _ (cne hG_x1 hG_s1 (show (3 : Nat) ≠ 14 by decide)) hM_x1
  have hM_o := hU15 _ _ (cne hG_o hG_s1 (show (3 : Nat) ≠ 14 by decide)) hM_o
  have hF := hF.tr (hU15.wk (fun b9 z9 => (Or.inr (z9))))
  refine lv_aload_n hx hb dX3_alike_18 rfl (lv_at hl 1 rfl) ?_
  refine lv_aload_n hx hb dX3_alike_19 rfl (lv_at hl 0 rfl) ?_
  refine t_getJ (v := .int t_o) hx hb hts hinJ hown hK hP hJ_o.kc hM_o 2 (by decide) (hts (.fieldLink RX3 17 "ShadowBench$Job" "toldWays" "I") (by decide +kernel)) (fun _ h9 => h9) rfl dX3_alike_20 ?_
  refine t_putJ (v := .int t_o) hx hb hts hinJ hown hK hP hD hS hJ_x1.kc hM_x1 2 (by decide) (hts (.fieldLink RX3 17 "ShadowBench$Job" "toldWays" "I") (by decide +kernel)) (fun _ h9 => h9) rfl rfl rfl (Nat.le_of_ble_eq_true rfl) dX3_alike_23 (fun H locs w23 hU23 hP hD hS => ?_)
  have hT := hT.up hU23 hG_x1 ⟨_, _, _, _, _, _, _, _, rfl, hG_b1, hG_s1, hJ_x1⟩
  have hM_x1 : cIn w23 x1 (.inr (k1, .ref b1 :: .ref s1 :: .int t_o :: .long o1 :: .long y1 :: ms1)) := hU23.1
  have hF := hF.tr (cF.up hU23 (Or.inl rfl))
  refine lv_aload_n hx hb dX3_alike_26 rfl (lv_at hl 1 rfl) ?_
  refine lv_aload_n hx hb dX3_alike_27 rfl (lv_at hl 0 rfl) ?_
  obtain ⟨_, hM_o, bv1_o, sv1_o, wv1_o, hv1_o, tv1_o, xv1_o, yv1_o, msv1_o, rfl, hG_bv1_o, hG_sv1_o, hJ_o⟩ := hT _ _ hG_o
  refine t_getJ (v := .long xv1_o) hx hb hts hinJ hown hK hP hJ_o.kc hM_o 3 (by decide) (hts (.fieldLink RX3 21 "ShadowBench$Job" "heldOnes" "J") (by decide +kernel)) (fun _ h9 => h9) rfl dX3_alike_28 ?_
  refine t_putJ (v := .long xv1_o) hx hb hts hinJ hown hK hP hD hS hJ_x1.kc hM_x1 3 (by decide) (hts (.fieldLink RX3 21 "ShadowBench$Job" "heldOnes" "J") (by decide +kernel)) (fun _ h9 => h9) rfl rfl rfl (Nat.le_of_ble_eq_true rfl) dX3_alike_31 (fun H locs w31 hU31 hP hD hS => ?_)
  have hT := hT.up hU31 hG_x1 ⟨_, _, _, _, _, _, _, _, rfl, hG_b1, hG_s1, hJ_x1⟩
  have hM_x1 : cIn w31 x1 (.inr (k1, .ref b1 :: .ref s1 :: .int t_o :: .long xv1_o :: .long y1 :: ms1)) := hU31.1
  have hF := hF.tr (cF.up hU31 (Or.inl rfl))
  refine lv_aload_n hx hb dX3_alike_34 rfl (lv_at hl 1 rfl) ?_
  refine lv_aload_n hx hb dX3_alike_35 rfl (lv_at hl 0 rfl) ?_
  obtain ⟨_, hM_o, bv2_o, sv2_o, wv2_o, hv2_o, tv2_o, xv2_o, yv2_o, msv2_o, rfl, hG_bv2_o, hG_sv2_o, hJ_o⟩ := hT _ _ hG_o
  refine t_getJ (v := .long yv2_o) hx hb hts hinJ hown hK hP hJ_o.kc hM_o 4 (by decide) (hts (.fieldLink RX3 25 "ShadowBench$Job" "heldNoughts" "J") (by decide +kernel)) (fun _ h9 => h9) rfl dX3_alike_36 ?_
  refine t_putJ (v := .long yv2_o) hx hb hts hinJ hown hK hP hD hS hJ_x1.kc hM_x1 4 (by decide) (hts (.fieldLink RX3 25 "ShadowBench$Job" "heldNoughts" "J") (by decide +kernel)) (fun _ h9 => h9) rfl rfl rfl (Nat.le_of_ble_eq_true rfl) dX3_alike_39 (fun H locs w39 hU39 hP hD hS => ?_)
  have hT := hT.up hU39 hG_x1 ⟨_, _, _, _, _, _, _, _, rfl, hG_b1, hG_s1, hJ_x1⟩
  have hM_x1 : cIn w39 x1 (.inr (k1, .ref b1 :: .ref s1 :: .int t_o :: .long xv1_o :: .long yv2_o :: ms1)) := hU39.1
  have hF := hF.tr (cF.up hU39 (Or.inl rfl))
  refine lv_aload_n hx hb dX3_alike_42 rfl (lv_at hl 1 rfl) ?_
  exact W.aret (v := .ref x1) hx hb hr (Or.inl ⟨_, rfl⟩) (Or.inr ⟨_, rfl⟩) (fun t ht hW => ⟨⟨(some x1), (G, w39), rfl, ⟨w39, rfl, hF, rfl⟩, by show va_P D vwCl w39 t.heap; rw [ht]; exact hP, hD, hT⟩, hS.F ht⟩) hS.2.2 dX3_alike_43
set_option maxHeartbeats 4000000 in
set_option maxRecDepth 100000 in
theorem c_X3_asItIs_w (l : Launch) (D : va_G) (cy : Nat → ClassId) (A : Nat → Prop) (G : cG) (ws : va_W) (o : Nat) {nq : Nat} (hD : va_D A ws) (hT : cT cy G ws) (hG_o : G o = some (3, 2, nq))  : Ca l D cy A yX3_asItIs wsX3_asItIs ({ frames := 3, cells := 2, slots := 49, locals := 89 }) 2 49 ws [.ref o] (fun r0 u => cX none (chs []) G ws u.1 u.2 ∧ (∃ x k n, r0 = some x ∧ u.1 x = some (3, k, n))) := by
  refine Met.ofW (cc := cX3_asItIs) (maxL := 1) (ret := (some (.object "ShadowBench$Job"))) (by decide) rfl ?_
  intro p e s m args below meth c s₁ B hml hv
  obtain ⟨rfl, hP, hK, hA, hV⟩ := hv
  have hx := B.exec
  have hb := B.bytes
  have hr := B.returns
  have hts := atoms_spec (ws := wsX3_asItIs) B.pre
  have hown : s.vm.findClass RX3 = some m.cls := findClass_of_methodNamed B.named
  have hlocks := B.notSynchronized
  have hS : va_S A s.heap s.heap [] := va_S.rf
  have hX : cX none (chs []) G ws G ws := cX.rf
  have hl := lv_entry ([.ref o]) (n := 1) (Nat.le_of_ble_eq_true rfl)
  rw [lg_entry_eq]
  generalize (lg_sl ([.ref o]) ++ List.replicate (1 - (lg_sl ([.ref o])).length) Slot.unset).toArray = ls at hl ⊢
  have hl : lv_has ls 1 [(0, .ref o)] := hl
  have k_0 : (0 : Int32).toInt = 0 := by decide
  refine lv_aload_n hx hb dX3_asItIs_0 rfl (lv_at hl 0 rfl) ?_
  refine t_new (C := RX3) (T := TX3) (N := 5) (ci := 2) (ty0 := tyX3) (fs := [.null, .null, .int 0, .long 0, .long 0]) hx hb hts (by decide +kernel) tyX3_ok hown (hts (.classLink RX3 12 RX3) (by decide +kernel)) (hts (.instantiable RX3 5) (by decide +kernel)) (hts (.initialized RX3) (by decide +kernel)) hK hP hD hS hA hT rfl (by decide +kernel) (Nat.le_of_ble_eq_true rfl) (Nat.le_of_ble_eq_true rfl) dX3_asItIs_1 (fun q1 H w1 hM_q1 hO_q1 hF1 hX1 hk1 hP hD hT hS => ?_)
  have hN_q1 := hX.new0 hO_q1 hF1
  have hX := hX.tr (hX1 _ _)
  refine lv_dup hx hb dX3_asItIs_4 rfl ?_
  refine lv_aload_n hx hb dX3_asItIs_5 rfl (lv_at hl 0 rfl) ?_
  obtain ⟨_, hM_o, b_o, s_o, w_o, h_o, t_o, x_o, y_o, ms_o, rfl, hG_b_o, hG_s_o, hJ_o⟩ := hT _ _ hG_o
  refine t_get (v := .ref b_o) (C := RX3) (T := TX3) (N := 5) hx hb hts (by decide +kernel) hown hK hP hM_o rfl 0 (by decide) (hts (.fieldLink RX3 28 "ShadowBench$Job" "board" "LShadowBench$Board;") (by decide +kernel)) (fun _ h9 => h9) rfl dX3_asItIs_6 ?_
  refine t_callv (va_runI (g := F0 m 9 ls ([.ref b_o, .ref q1, .ref q1, .ref o])) (As := [.ref b_o]) (rest := [.ref q1, .ref o]) (b := q1) ⟨hx, hb, hml, hown, hts⟩ (c_X3_init_w l D cy A G w1 q1 b_o hD hT hO_q1 hM_q1 hG_b_o (by unfold cKc; omega)) (cwI 1 hts gX3_asItIs_X3_init rfl rfl rfl (hts (.initialized RX3) (by decide +kernel)) (hts (.methodLink RX3 83 yX3_init) (by decide +kernel)) (hts (.instanceMethod yX3_init) (by decide +kernel)) rfl (by decide +kernel) ⟨Nat.le_of_ble_eq_true rfl, Nat.le_of_ble_eq_true rfl⟩) (c_preS hP hK hA hS hV) rfl rfl hl.1 rfl (lv_room (Nat.le_of_ble_eq_true rfl)) dX3_asItIs_9 ⟨Nat.le_of_ble_eq_true rfl, Nat.le_of_ble_eq_true rfl⟩) hS (fun u H locs q9 hP9 hD9 hT9 hS => ?_)
  obtain ⟨G9, w9⟩ := u
  obtain ⟨hX9, q9⟩ := q9
  have hX9 : cX (some q1) (chs []) G w1 G9 w9 := hX9
  obtain ⟨hOx9, a9, hG_a9, hN9_a9, hMx_a9, hMx9⟩ := q9
  have hN_a9 := hX.new0 (hT.no hN9_a9) hN9_a9
  have hP : va_P D vwCl w9 H := hP9
  have hD : va_D A w9 := hD9
  have hT : cT cy G9 w9 := hT9
  have hM_o := hX9.2.1 _ _ (cP.no1 (Ne.symm (cne0 hO_q1 hG_o)) hG_o rfl) hM_o
  have hG_o := hX9.1 _ _ hG_o
  have hG_b_o := hX9.1 _ _ hG_b_o
  have hG_s_o := hX9.1 _ _ hG_s_o
  have hO_q1 := hOx9
  have hM_a9 := hMx_a9
  have hM_q1 : cIn w9 q1 (.inr (2, [.ref b_o, .ref a9, .int 3, .long 0, .long 0])) := hMx9
  have hX := hX.trN hN_q1 hX9
  obtain ⟨Gk9, hGk⟩ : ∃ z, z = va_up G9 q1 (some (3, 2, 8 * w_o + h_o)) := ⟨_, rfl⟩
  have hE9 : cE G9 Gk9 := by rw [hGk]; exact cE.add hO_q1
  have hG_q1 : Gk9 q1 = some (3, 2, 8 * w_o + h_o) := by rw [hGk]; simp [va_up]
  have hG_o := hE9 _ _ hG_o
  have hG_b_o := hE9 _ _ hG_b_o
  have hG_s_o := hE9 _ _ hG_s_o
  have hG_a9 := hE9 _ _ hG_a9
  have hT : cT cy Gk9 w9 := by rw [hGk]; exact hT.kind hO_q1 hM_q1 (by rw [← hGk]; exact ⟨_, _, _, _, _, _, _, _, rfl, hG_b_o, hG_a9, ⟨rfl, Or.inr (Or.inl ⟨rfl, rfl⟩)⟩⟩)
  have hX := hX.trN hN_q1 (show cX (some q1) (chs []) G9 w9 Gk9 w9 by rw [hGk]; exact cX.kind hO_q1)
  have hJ_q1 : cJk Gk9 2 (8 * w_o + h_o) w_o h_o [] := ⟨rfl, Or.inr (Or.inl ⟨rfl, rfl⟩)⟩
  refine t_calla (va_runV (g := F0 m 12 ls ([.ref q1, .ref o])) (As := [.ref q1]) (rest := []) ⟨hx, hb, hml, hown, hts⟩ (c_X3_alike_w l D cy A Gk9 w9 o q1 hD hT hG_o hG_q1 hM_q1 ) (cwV 1 hts gX3_asItIs_X3_alike rfl rfl rfl (by decide +kernel) ⟨Nat.le_of_ble_eq_true rfl, Nat.le_of_ble_eq_true rfl⟩) (c_preV hM_o rfl hP hK hA hS hV) rfl rfl hl.1 rfl (lv_room (Nat.le_of_ble_eq_true rfl)) dX3_asItIs_12 ⟨Nat.le_of_ble_eq_true rfl, Nat.le_of_ble_eq_true rfl⟩) hS (fun r12 u H locs q12 hP9 hD9 hT9 hS => ?_)
  obtain ⟨w12, rfl, hF12, q12⟩ := q12
  have hP : va_P D vwCl w12 H := hP9
  have hD : va_D A w12 := hD9
  have hT : cT cy Gk9 w12 := hT9
  have hX := hX.trF (fun b9 z9 => by rcases z9 with rfl | rfl; exact hN_q1; exact hN_a9) hF12
  subst q12
  refine W.widen (k := 2) (n := 49) (Nat.le_of_ble_eq_true rfl) (Nat.le_of_ble_eq_true rfl) ?_
  exact W.aret (v := .ref q1) hx hb hr (Or.inl ⟨_, rfl⟩) (Or.inr ⟨_, rfl⟩) (fun t ht hW => ⟨⟨(some q1), (Gk9, w12), rfl, ⟨hX, ⟨_, _, _, rfl, hG_q1⟩⟩, by show va_P D vwCl w12 t.heap; rw [ht]; exact hP, hD, hT⟩, hS.F ht⟩) hS.2.2 dX3_asItIs_15
set_option maxHeartbeats 4000000 in
set_option maxRecDepth 100000 in
theorem c_X4_asItIs_w (l : Launch) (D : va_G) (cy : Nat → ClassId) (A : Nat → Prop) (G : cG) (ws : va_W) (o : Nat) {nq : Nat} (hD : va_D A ws) (hT : cT cy G ws) (hG_o : G o = some (3, 3, nq))  : Ca l D cy A yX4_asItIs wsX4_asItIs ({ frames := 4, cells := 2, slots := 49, locals := 89 }) 2 49 ws [.ref o] (fun r0 u => cX none (chs []) G ws u.1 u.2 ∧ (∃ x k n, r0 = some x ∧ u.1 x = some (3, k, n))) := by
  refine Met.ofW (cc := cX4_asItIs) (maxL := 1) (ret := (some (.object "ShadowBench$Job"))) (by decide) rfl ?_
  intro p e s m args below meth c s₁ B hml hv
  obtain ⟨rfl, hP, hK, hA, hV⟩ := hv
  have hx := B.exec
  have hb := B.bytes
  have hr := B.returns
  have hts := atoms_spec (ws := wsX4_asItIs) B.pre
  have hown : s.vm.findClass RX4 = some m.cls := findClass_of_methodNamed B.named
  have hlocks := B.notSynchronized
  have hS : va_S A s.heap s.heap [] := va_S.rf
  have hX : cX none (chs []) G ws G ws := cX.rf
  have hl := lv_entry ([.ref o]) (n := 1) (Nat.le_of_ble_eq_true rfl)
  rw [lg_entry_eq]
  generalize (lg_sl ([.ref o]) ++ List.replicate (1 - (lg_sl ([.ref o])).length) Slot.unset).toArray = ls at hl ⊢
  have hl : lv_has ls 1 [(0, .ref o)] := hl
  have k_0 : (0 : Int32).toInt = 0 := by decide
  refine lv_aload_n hx hb dX4_asItIs_0 rfl (lv_at hl 0 rfl) ?_
  refine t_new (C := RX4) (T := TX4) (N := 5) (ci := 3) (ty0 := tyX4) (fs := [.null, .null, .int 0, .long 0, .long 0]) hx hb hts (by decide +kernel) tyX4_ok hown (hts (.classLink RX4 8 RX4) (by decide +kernel)) (hts (.instantiable RX4 5) (by decide +kernel)) (hts (.initialized RX4) (by decide +kernel)) hK hP hD hS hA hT rfl (by decide +kernel) (Nat.le_of_ble_eq_true rfl) (Nat.le_of_ble_eq_true rfl) dX4_asItIs_1 (fun q1 H w1 hM_q1 hO_q1 hF1 hX1 hk1 hP hD hT hS => ?_)
  have hN_q1 := hX.new0 hO_q1 hF1
  have hX := hX.tr (hX1 _ _)
  refine lv_dup hx hb dX4_asItIs_4 rfl ?_
  refine lv_aload_n hx hb dX4_asItIs_5 rfl (lv_at hl 0 rfl) ?_
  obtain ⟨_, hM_o, b_o, s_o, w_o, h_o, t_o, x_o, y_o, ms_o, rfl, hG_b_o, hG_s_o, hJ_o⟩ := hT _ _ hG_o
  refine t_get (v := .ref b_o) (C := RX4) (T := TX4) (N := 5) hx hb hts (by decide +kernel) hown hK hP hM_o rfl 0 (by decide) (hts (.fieldLink RX4 7 "ShadowBench$JoinedJob" "board" "LShadowBench$Board;") (by decide +kernel)) (fun _ h9 => u_same (hts (.sameField "ShadowBench$JoinedJob" "ShadowBench$Job" "board" "LShadowBench$Board;") (by decide +kernel)) _ h9) rfl dX4_asItIs_6 ?_
  refine t_callv (va_runI (g := F0 m 9 ls ([.ref b_o, .ref q1, .ref q1, .ref o])) (As := [.ref b_o]) (rest := [.ref q1, .ref o]) (b := q1) ⟨hx, hb, hml, hown, hts⟩ (c_X4_init_w l D cy A G w1 q1 b_o hD hT hO_q1 hM_q1 hG_b_o (by unfold cKc; omega)) (cwI 1 hts gX4_asItIs_X4_init rfl rfl rfl (hts (.initialized RX4) (by decide +kernel)) (hts (.methodLink RX4 30 yX4_init) (by decide +kernel)) (hts (.instanceMethod yX4_init) (by decide +kernel)) rfl (by decide +kernel) ⟨Nat.le_of_ble_eq_true rfl, Nat.le_of_ble_eq_true rfl⟩) (c_preS hP hK hA hS hV) rfl rfl hl.1 rfl (lv_room (Nat.le_of_ble_eq_true rfl)) dX4_asItIs_9 ⟨Nat.le_of_ble_eq_true rfl, Nat.le_of_ble_eq_true rfl⟩) hS (fun u H locs q9 hP9 hD9 hT9 hS => ?_)
  obtain ⟨G9, w9⟩ := u
  obtain ⟨hX9, q9⟩ := q9
  have hX9 : cX (some q1) (chs []) G w1 G9 w9 := hX9
  obtain ⟨hOx9, a9, hG_a9, hN9_a9, hMx_a9, hMx9⟩ := q9
  have hN_a9 := hX.new0 (hT.no hN9_a9) hN9_a9
  have hP : va_P D vwCl w9 H := hP9
  have hD : va_D A w9 := hD9
  have hT : cT cy G9 w9 := hT9
  have hM_o := hX9.2.1 _ _ (cP.no1 (Ne.symm (cne0 hO_q1 hG_o)) hG_o rfl) hM_o
  have hG_o := hX9.1 _ _ hG_o
  have hG_b_o := hX9.1 _ _ hG_b_o
  have hG_s_o := hX9.1 _ _ hG_s_o
  have hO_q1 := hOx9
  have hM_a9 := hMx_a9
  have hM_q1 : cIn w9 q1 (.inr (3, [.ref b_o, .ref a9, .int 3, .long 0, .long 0])) := hMx9
  have hX := hX.trN hN_q1 hX9
  obtain ⟨Gk9, hGk⟩ : ∃ z, z = va_up G9 q1 (some (3, 3, 8 * w_o + h_o)) := ⟨_, rfl⟩
  have hE9 : cE G9 Gk9 := by rw [hGk]; exact cE.add hO_q1
  have hG_q1 : Gk9 q1 = some (3, 3, 8 * w_o + h_o) := by rw [hGk]; simp [va_up]
  have hG_o := hE9 _ _ hG_o
  have hG_b_o := hE9 _ _ hG_b_o
  have hG_s_o := hE9 _ _ hG_s_o
  have hG_a9 := hE9 _ _ hG_a9
  have hT : cT cy Gk9 w9 := by rw [hGk]; exact hT.kind hO_q1 hM_q1 (by rw [← hGk]; exact ⟨_, _, _, _, _, _, _, _, rfl, hG_b_o, hG_a9, ⟨rfl, Or.inr (Or.inr (Or.inl ⟨rfl, rfl⟩))⟩⟩)
  have hX := hX.trN hN_q1 (show cX (some q1) (chs []) G9 w9 Gk9 w9 by rw [hGk]; exact cX.kind hO_q1)
  have hJ_q1 : cJk Gk9 3 (8 * w_o + h_o) w_o h_o [] := ⟨rfl, Or.inr (Or.inr (Or.inl ⟨rfl, rfl⟩))⟩
  refine t_calla (va_runU (g := F0 m 12 ls ([.ref q1, .ref o])) (As := [.ref q1]) (rest := []) ⟨hx, hb, hml, hown, hts⟩ (c_X3_alike_w l D cy A Gk9 w9 o q1 hD hT hG_o hG_q1 hM_q1 ) (va_cwU 1 hts gX4_asItIs_X3_alike_u31X4 rfl rfl rfl rfl (by decide +kernel) ⟨Nat.le_of_ble_eq_true rfl, Nat.le_of_ble_eq_true rfl⟩) (c_preV hM_o rfl hP hK hA hS hV) rfl rfl hl.1 rfl (lv_room (Nat.le_of_ble_eq_true rfl)) dX4_asItIs_12 ⟨Nat.le_of_ble_eq_true rfl, Nat.le_of_ble_eq_true rfl⟩) hS (fun r12 u H locs q12 hP9 hD9 hT9 hS => ?_)
  obtain ⟨w12, rfl, hF12, q12⟩ := q12
  have hP : va_P D vwCl w12 H := hP9
  have hD : va_D A w12 := hD9
  have hT : cT cy Gk9 w12 := hT9
  have hX := hX.trF (fun b9 z9 => by rcases z9 with rfl | rfl; exact hN_q1; exact hN_a9) hF12
  subst q12
  refine W.widen (k := 2) (n := 49) (Nat.le_of_ble_eq_true rfl) (Nat.le_of_ble_eq_true rfl) ?_
  exact W.aret (v := .ref q1) hx hb hr (Or.inl ⟨_, rfl⟩) (Or.inr ⟨_, rfl⟩) (fun t ht hW => ⟨⟨(some q1), (Gk9, w12), rfl, ⟨hX, ⟨_, _, _, rfl, hG_q1⟩⟩, by show va_P D vwCl w12 t.heap; rw [ht]; exact hP, hD, hT⟩, hS.F ht⟩) hS.2.2 dX4_asItIs_15
set_option maxHeartbeats 4000000 in
set_option maxRecDepth 100000 in
theorem c_X1_asItIs_w (l : Launch) (D : va_G) (cy : Nat → ClassId) (A : Nat → Prop) (G : cG) (ws : va_W) (o : Nat) {nq : Nat} (hD : va_D A ws) (hT : cT cy G ws) (hG_o : G o = some (3, 1, nq))  : Ca l D cy A yX1_asItIs wsX1_asItIs ({ frames := 5, cells := 2, slots := 49, locals := 103 }) 2 49 ws [.ref o] (fun r0 u => cX none (chs []) G ws u.1 u.2 ∧ (∃ x k n, r0 = some x ∧ u.1 x = some (3, k, n))) := by
  refine Met.ofW (cc := cX1_asItIs) (maxL := 1) (ret := (some (.object "ShadowBench$Job"))) (by decide) rfl ?_
  intro p e s m args below meth c s₁ B hml hv
  obtain ⟨rfl, hP, hK, hA, hV⟩ := hv
  have hx := B.exec
  have hb := B.bytes
  have hr := B.returns
  have hts := atoms_spec (ws := wsX1_asItIs) B.pre
  have hown : s.vm.findClass RX1 = some m.cls := findClass_of_methodNamed B.named
  have hlocks := B.notSynchronized
  have hS : va_S A s.heap s.heap [] := va_S.rf
  have hX : cX none (chs []) G ws G ws := cX.rf
  have hl := lv_entry ([.ref o]) (n := 1) (Nat.le_of_ble_eq_true rfl)
  rw [lg_entry_eq]
  generalize (lg_sl ([.ref o]) ++ List.replicate (1 - (lg_sl ([.ref o])).length) Slot.unset).toArray = ls at hl ⊢
  have hl : lv_has ls 1 [(0, .ref o)] := hl
  have k_0 : (0 : Int32).toInt = 0 := by decide
  refine lv_aload_n hx hb dX1_asItIs_0 rfl (lv_at hl 0 rfl) ?_
  refine t_new (C := RX1) (T := TX1) (N := 5) (ci := 1) (ty0 := tyX1) (fs := [.null, .null, .int 0, .long 0, .long 0]) hx hb hts (by decide +kernel) tyX1_ok hown (hts (.classLink RX1 12 RX1) (by decide +kernel)) (hts (.instantiable RX1 5) (by decide +kernel)) (hts (.initialized RX1) (by decide +kernel)) hK hP hD hS hA hT rfl (by decide +kernel) (Nat.le_of_ble_eq_true rfl) (Nat.le_of_ble_eq_true rfl) dX1_asItIs_1 (fun q1 H w1 hM_q1 hO_q1 hF1 hX1 hk1 hP hD hT hS => ?_)
  have hN_q1 := hX.new0 hO_q1 hF1
  have hX := hX.tr (hX1 _ _)
  refine lv_dup hx hb dX1_asItIs_4 rfl ?_
  refine lv_aload_n hx hb dX1_asItIs_5 rfl (lv_at hl 0 rfl) ?_
  obtain ⟨_, hM_o, b_o, s_o, w_o, h_o, t_o, x_o, y_o, ms_o, rfl, hG_b_o, hG_s_o, hJ_o⟩ := hT _ _ hG_o
  refine t_get (v := .ref b_o) (C := RX1) (T := TX1) (N := 5) hx hb hts (by decide +kernel) hown hK hP hM_o rfl 0 (by decide) (hts (.fieldLink RX1 11 "ShadowBench$EvenJob" "board" "LShadowBench$Board;") (by decide +kernel)) (fun _ h9 => u_same (hts (.sameField "ShadowBench$EvenJob" "ShadowBench$Job" "board" "LShadowBench$Board;") (by decide +kernel)) _ h9) rfl dX1_asItIs_6 ?_
  refine t_callv (va_runI (g := F0 m 9 ls ([.ref b_o, .ref q1, .ref q1, .ref o])) (As := [.ref b_o]) (rest := [.ref q1, .ref o]) (b := q1) ⟨hx, hb, hml, hown, hts⟩ (c_X1_init_w l D cy A G w1 q1 b_o hD hT hO_q1 hM_q1 hG_b_o (by unfold cKc; omega)) (cwI 1 hts gX1_asItIs_X1_init rfl rfl rfl (hts (.initialized RX1) (by decide +kernel)) (hts (.methodLink RX1 36 yX1_init) (by decide +kernel)) (hts (.instanceMethod yX1_init) (by decide +kernel)) rfl (by decide +kernel) ⟨Nat.le_of_ble_eq_true rfl, Nat.le_of_ble_eq_true rfl⟩) (c_preS hP hK hA hS hV) rfl rfl hl.1 rfl (lv_room (Nat.le_of_ble_eq_true rfl)) dX1_asItIs_9 ⟨Nat.le_of_ble_eq_true rfl, Nat.le_of_ble_eq_true rfl⟩) hS (fun u H locs q9 hP9 hD9 hT9 hS => ?_)
  obtain ⟨G9, w9⟩ := u
  obtain ⟨hX9, q9⟩ := q9
  have hX9 : cX (some q1) (chs []) G w1 G9 w9 := hX9
  obtain ⟨hOx9, a9, hG_a9, hN9_a9, hMx_a9, hMx9⟩ := q9
  have hN_a9 := hX.new0 (hT.no hN9_a9) hN9_a9
  have hP : va_P D vwCl w9 H := hP9
  have hD : va_D A w9 := hD9
  have hT : cT cy G9 w9 := hT9
  have hM_o := hX9.2.1 _ _ (cP.no1 (Ne.symm (cne0 hO_q1 hG_o)) hG_o rfl) hM_o
  have hG_o := hX9.1 _ _ hG_o
  have hG_b_o := hX9.1 _ _ hG_b_o
  have hG_s_o := hX9.1 _ _ hG_s_o
  have hO_q1 := hOx9
  have hM_a9 := hMx_a9
  have hM_q1 : cIn w9 q1 (.inr (1, [.ref b_o, .ref a9, .int 3, .long 0, .long 0])) := hMx9
  have hX := hX.trN hN_q1 hX9
  obtain ⟨Gk9, hGk⟩ : ∃ z, z = va_up G9 q1 (some (3, 1, 8 * w_o + h_o)) := ⟨_, rfl⟩
  have hE9 : cE G9 Gk9 := by rw [hGk]; exact cE.add hO_q1
  have hG_q1 : Gk9 q1 = some (3, 1, 8 * w_o + h_o) := by rw [hGk]; simp [va_up]
  have hG_o := hE9 _ _ hG_o
  have hG_b_o := hE9 _ _ hG_b_o
  have hG_s_o := hE9 _ _ hG_s_o
  have hG_a9 := hE9 _ _ hG_a9
  have hT : cT cy Gk9 w9 := by rw [hGk]; exact hT.kind hO_q1 hM_q1 (by rw [← hGk]; exact ⟨_, _, _, _, _, _, _, _, rfl, hG_b_o, hG_a9, ⟨rfl, Or.inl ⟨rfl, rfl⟩⟩⟩)
  have hX := hX.trN hN_q1 (show cX (some q1) (chs []) G9 w9 Gk9 w9 by rw [hGk]; exact cX.kind hO_q1)
  have hJ_q1 : cJk Gk9 1 (8 * w_o + h_o) w_o h_o [] := ⟨rfl, Or.inl ⟨rfl, rfl⟩⟩
  refine t_calla (va_runU (g := F0 m 12 ls ([.ref q1, .ref o])) (As := [.ref q1]) (rest := []) ⟨hx, hb, hml, hown, hts⟩ (c_X3_alike_w l D cy A Gk9 w9 o q1 hD hT hG_o hG_q1 hM_q1 ) (va_cwU 1 hts gX1_asItIs_X3_alike_u37X1 rfl rfl rfl rfl (by decide +kernel) ⟨Nat.le_of_ble_eq_true rfl, Nat.le_of_ble_eq_true rfl⟩) (c_preV hM_o rfl hP hK hA hS hV) rfl rfl hl.1 rfl (lv_room (Nat.le_of_ble_eq_true rfl)) dX1_asItIs_12 ⟨Nat.le_of_ble_eq_true rfl, Nat.le_of_ble_eq_true rfl⟩) hS (fun r12 u H locs q12 hP9 hD9 hT9 hS => ?_)
  obtain ⟨w12, rfl, hF12, q12⟩ := q12
  have hP : va_P D vwCl w12 H := hP9
  have hD : va_D A w12 := hD9
  have hT : cT cy Gk9 w12 := hT9
  have hX := hX.trF (fun b9 z9 => by rcases z9 with rfl | rfl; exact hN_q1; exact hN_a9) hF12
  subst q12
  refine W.widen (k := 2) (n := 49) (Nat.le_of_ble_eq_true rfl) (Nat.le_of_ble_eq_true rfl) ?_
  exact W.aret (v := .ref q1) hx hb hr (Or.inl ⟨_, rfl⟩) (Or.inr ⟨_, rfl⟩) (fun t ht hW => ⟨⟨(some q1), (Gk9, w12), rfl, ⟨hX, ⟨_, _, _, rfl, hG_q1⟩⟩, by show va_P D vwCl w12 t.heap; rw [ht]; exact hP, hD, hT⟩, hS.F ht⟩) hS.2.2 dX1_asItIs_15
set_option maxHeartbeats 4000000 in
set_option maxRecDepth 100000 in
theorem c_X5_asItIs_w (l : Launch) (D : va_G) (cy : Nat → ClassId) (A : Nat → Prop) (G : cG) (ws : va_W) (o : Nat) {nq : Nat} (hD : va_D A ws) (hT : cT cy G ws) (hG_o : G o = some (3, 4, nq))  : Ca l D cy A yX5_asItIs wsX5_asItIs ({ frames := 4, cells := 3, slots := 86, locals := 89 }) 3 86 ws [.ref o] (fun r0 u => cX none (chs []) G ws u.1 u.2 ∧ (∃ x k n, r0 = some x ∧ u.1 x = some (3, k, n))) := by
  refine Met.ofW (cc := cX5_asItIs) (maxL := 2) (ret := (some (.object "ShadowBench$Job"))) (by decide) rfl ?_
  intro p e s m args below meth c s₁ B hml hv
  obtain ⟨rfl, hP, hK, hA, hV⟩ := hv
  have hx := B.exec
  have hb := B.bytes
  have hr := B.returns
  have hts := atoms_spec (ws := wsX5_asItIs) B.pre
  have hown : s.vm.findClass RX5 = some m.cls := findClass_of_methodNamed B.named
  have hlocks := B.notSynchronized
  have hS : va_S A s.heap s.heap [] := va_S.rf
  have hX : cX none (chs []) G ws G ws := cX.rf
  have hl := lv_entry ([.ref o]) (n := 2) (Nat.le_of_ble_eq_true rfl)
  rw [lg_entry_eq]
  generalize (lg_sl ([.ref o]) ++ List.replicate (2 - (lg_sl ([.ref o])).length) Slot.unset).toArray = ls at hl ⊢
  have hl : lv_has ls 2 [(0, .ref o)] := hl
  have k_0 : (0 : Int32).toInt = 0 := by decide
  refine t_new (C := RX5) (T := TX5) (N := 6) (ci := 4) (ty0 := tyX5) (fs := [.null, .null, .int 0, .long 0, .long 0, .null]) hx hb hts (by decide +kernel) tyX5_ok hown (hts (.classLink RX5 14 RX5) (by decide +kernel)) (hts (.instantiable RX5 6) (by decide +kernel)) (hts (.initialized RX5) (by decide +kernel)) hK hP hD hS hA hT rfl (by decide +kernel) (Nat.le_of_ble_eq_true rfl) (Nat.le_of_ble_eq_true rfl) dX5_asItIs_0 (fun q0 H w0 hM_q0 hO_q0 hF0 hX0 hk0 hP hD hT hS => ?_)
  have hN_q0 := hX.new0 hO_q0 hF0
  have hX := hX.tr (hX0 _ _)
  refine lv_dup hx hb dX5_asItIs_3 rfl ?_
  refine lv_aload_n hx hb dX5_asItIs_4 rfl (lv_at hl 0 rfl) ?_
  obtain ⟨_, hM_o, b_o, s_o, w_o, h_o, t_o, x_o, y_o, ms_o, rfl, hG_b_o, hG_s_o, hJ_o⟩ := hT _ _ hG_o
  obtain ⟨hn_o, c_o, rfl, hG_c_o⟩ := cJ4 hJ_o
  have hn36_o := cb_mul (c_hb hT hG_b_o)
  refine t_get (v := .ref b_o) (C := RX5) (T := TX5) (N := 6) hx hb hts (by decide +kernel) hown hK hP hM_o rfl 0 (by decide) (hts (.fieldLink RX5 36 "ShadowBench$MarkedJob" "board" "LShadowBench$Board;") (by decide +kernel)) (fun _ h9 => u_same (hts (.sameField "ShadowBench$MarkedJob" "ShadowBench$Job" "board" "LShadowBench$Board;") (by decide +kernel)) _ h9) rfl dX5_asItIs_5 ?_
  refine t_callv (va_runI (g := F0 m 8 ls ([.ref b_o, .ref q0, .ref q0])) (As := [.ref b_o]) (rest := [.ref q0]) (b := q0) ⟨hx, hb, hml, hown, hts⟩ (c_X5_init_w l D cy A G w0 q0 b_o hD hT hO_q0 hM_q0 hG_b_o ) (cwI 1 hts gX5_asItIs_X5_init rfl rfl rfl (hts (.initialized RX5) (by decide +kernel)) (hts (.methodLink RX5 40 yX5_init) (by decide +kernel)) (hts (.instanceMethod yX5_init) (by decide +kernel)) rfl (by decide +kernel) ⟨Nat.le_of_ble_eq_true rfl, Nat.le_of_ble_eq_true rfl⟩) (c_preS hP hK hA hS hV) rfl rfl hl.1 rfl (lv_room (Nat.le_of_ble_eq_true rfl)) dX5_asItIs_8 ⟨Nat.le_of_ble_eq_true rfl, Nat.le_of_ble_eq_true rfl⟩) hS (fun u H locs q8 hP9 hD9 hT9 hS => ?_)
  obtain ⟨G8, w8⟩ := u
  obtain ⟨hX9, q8⟩ := q8
  have hX9 : cX (some q0) (chs []) G w0 G8 w8 := hX9
  obtain ⟨hOx8, a8, hG_a8, hN9_a8, hMx_a8, c8, hG_c8, hN9_c8, hne_c8, hMx_c8, hMx8⟩ := q8
  have hN_a8 := hX.new0 (hT.no hN9_a8) hN9_a8
  have hN_c8 := hX.new0 (hT.no hN9_c8) hN9_c8
  have hP : va_P D vwCl w8 H := hP9
  have hD : va_D A w8 := hD9
  have hT : cT cy G8 w8 := hT9
  have hM_o := hX9.2.1 _ _ (cP.no1 (Ne.symm (cne0 hO_q0 hG_o)) hG_o rfl) hM_o
  have hG_o := hX9.1 _ _ hG_o
  have hG_b_o := hX9.1 _ _ hG_b_o
  have hG_s_o := hX9.1 _ _ hG_s_o
  have hG_c_o := hX9.1 _ _ hG_c_o
  have hO_q0 := hOx8
  have hM_a8 := hMx_a8
  have hM_c8 := hMx_c8
  have hM_q0 : cIn w8 q0 (.inr (4, [.ref b_o, .ref a8, .int 3, .long 0, .long 0, .ref c8])) := hMx8
  have hX := hX.trN hN_q0 hX9
  have hb9 := cb_mul (c_hb hT hG_b_o)
  obtain ⟨Gk8, hGk⟩ : ∃ z, z = va_up G8 q0 (some (3, 4, 8 * w_o + h_o)) := ⟨_, rfl⟩
  have hE9 : cE G8 Gk8 := by rw [hGk]; exact cE.add hO_q0
  have hG_q0 : Gk8 q0 = some (3, 4, 8 * w_o + h_o) := by rw [hGk]; simp [va_up]
  have hG_o := hE9 _ _ hG_o
  have hG_b_o := hE9 _ _ hG_b_o
  have hG_s_o := hE9 _ _ hG_s_o
  have hG_c_o := hE9 _ _ hG_c_o
  have hG_a8 := hE9 _ _ hG_a8
  have hG_c8 := hE9 _ _ hG_c8
  have hT : cT cy Gk8 w8 := by rw [hGk]; exact hT.kind hO_q0 hM_q0 (by rw [← hGk]; exact ⟨_, _, _, _, _, _, _, _, rfl, hG_b_o, hG_a8, ⟨rfl, Or.inr (Or.inr (Or.inr ⟨rfl, _, rfl, hG_c8⟩))⟩⟩)
  have hX := hX.trN hN_q0 (show cX (some q0) (chs []) G8 w8 Gk8 w8 by rw [hGk]; exact cX.kind hO_q0)
  have hJ_q0 : cJk Gk8 4 (8 * w_o + h_o) w_o h_o [.ref c8] := ⟨rfl, Or.inr (Or.inr (Or.inr ⟨rfl, _, rfl, hG_c8⟩))⟩
  refine lv_astore_n (lv' := [(1, .ref q0), (0, .ref o)]) hx hb dX5_asItIs_11 rfl hl (by decide) rfl (fun ls hl => ?_)
  refine lv_aload_n hx hb dX5_asItIs_12 rfl (lv_at hl 1 rfl) ?_
  refine t_get (v := .ref c_o) (C := RX5) (T := TX5) (N := 6) hx hb hts (by decide +kernel) hown hK hP hM_o rfl 5 (by decide) (hts (.fieldLink RX5 13 "ShadowBench$MarkedJob" "marks" "[I") (by decide +kernel)) (fun _ h9 => h9) rfl dX5_asItIs_13 ?_
  refine lv_iconst (v := 0) hx hb dX5_asItIs_16 (by decide) ?_
  refine lv_aload_n hx hb dX5_asItIs_17 rfl (lv_at hl 0 rfl) ?_
  refine t_get (v := .ref c8) (C := RX5) (T := TX5) (N := 6) hx hb hts (by decide +kernel) hown hK hP hM_q0 rfl 5 (by decide) (hts (.fieldLink RX5 13 "ShadowBench$MarkedJob" "marks" "[I") (by decide +kernel)) (fun _ h9 => h9) rfl dX5_asItIs_18 ?_
  refine lv_iconst (v := 0) hx hb dX5_asItIs_21 (by decide) ?_
  refine lv_aload_n hx hb dX5_asItIs_22 rfl (lv_at hl 1 rfl) ?_
  refine t_get (v := .ref c_o) (C := RX5) (T := TX5) (N := 6) hx hb hts (by decide +kernel) hown hK hP hM_o rfl 5 (by decide) (hts (.fieldLink RX5 13 "ShadowBench$MarkedJob" "marks" "[I") (by decide +kernel)) (fun _ h9 => h9) rfl dX5_asItIs_23 ?_
  refine t_alenI hx hb hK hP hT (Or.inr (Or.inl rfl)) hG_c_o dX5_asItIs_26 ?_
  have i26 : (nI (w_o * h_o)).toInt = _ := nI_toInt (by omega)
  have ep8 : True := trivial
  refine t_copyi hx hb (by rw [hml]; exact hl.1.symm) hown (hts (.methodLink RX5 41 arraycopyName) (by decide +kernel)) (hts (.native arraycopyName) (by decide +kernel)) (hts (.static arraycopyName) (by decide +kernel)) (hts (.initialized "java/lang/System") (by decide +kernel)) hK hP hD hS hT (Or.inr (Or.inl rfl)) (Or.inr (Or.inl rfl)) hG_c_o hG_c8 (by omega) (by omega) (by omega) (by omega) (by omega) (Nat.le_of_ble_eq_true rfl) (Nat.le_of_ble_eq_true rfl) dX5_asItIs_27 (fun H locs w27 hU27 hP hD hT hS => ?_)
  have hM_o := hU27 _ _ (cne hG_o hG_c8 (show (3 : Nat) ≠ 14 by decide)) hM_o
  have hM_q0 := hU27 _ _ (cne hG_q0 hG_c8 (show (3 : Nat) ≠ 14 by decide)) hM_q0
  have hX := hX.trN hN_c8 (cX.uF hU27 (Or.inl rfl))
  refine lv_aload_n hx hb dX5_asItIs_30 rfl (lv_at hl 1 rfl) ?_
  refine lv_aload_n hx hb dX5_asItIs_31 rfl (lv_at hl 0 rfl) ?_
  refine t_calla (va_runU (g := F0 m 32 ls ([.ref q0, .ref o])) (As := [.ref q0]) (rest := []) ⟨hx, hb, hml, hown, hts⟩ (c_X3_alike_w l D cy A Gk8 w27 o q0 hD hT hG_o hG_q0 hM_q0 ) (va_cwU 1 hts gX5_asItIs_X3_alike_u47X5 rfl rfl rfl rfl (by decide +kernel) ⟨Nat.le_of_ble_eq_true rfl, Nat.le_of_ble_eq_true rfl⟩) (c_preV hM_o rfl hP hK hA hS hV) rfl rfl hl.1 rfl (lv_room (Nat.le_of_ble_eq_true rfl)) dX5_asItIs_32 ⟨Nat.le_of_ble_eq_true rfl, Nat.le_of_ble_eq_true rfl⟩) hS (fun r32 u H locs q32 hP9 hD9 hT9 hS => ?_)
  obtain ⟨w32, rfl, hF32, q32⟩ := q32
  have hP : va_P D vwCl w32 H := hP9
  have hD : va_D A w32 := hD9
  have hT : cT cy Gk8 w32 := hT9
  have hX := hX.trF (fun b9 z9 => by rcases z9 with rfl | rfl; exact hN_q0; exact hN_a8) hF32
  subst q32
  refine W.widen (k := 3) (n := 86) (Nat.le_of_ble_eq_true rfl) (Nat.le_of_ble_eq_true rfl) ?_
  exact W.aret (v := .ref q0) hx hb hr (Or.inl ⟨_, rfl⟩) (Or.inr ⟨_, rfl⟩) (fun t ht hW => ⟨⟨(some q0), (Gk8, w32), rfl, ⟨hX, ⟨_, _, _, rfl, hG_q0⟩⟩, by show va_P D vwCl w32 t.heap; rw [ht]; exact hP, hD, hT⟩, hS.F ht⟩) hS.2.2 dX5_asItIs_35
set_option maxHeartbeats 4000000 in
set_option maxRecDepth 100000 in
theorem c_X9_thingToKeep_wn (l : Launch) (D : va_G) (cy : Nat → ClassId) (A : Nat → Prop) (G : cG) (ws : va_W) (what : Int32) (p0 : Int64)  (hD : va_D A ws) (hT : cT cy G ws)   : Ca l D cy A yX9_thingToKeep wsX9_thingToKeep ({ frames := 0, cells := 0, slots := 0, locals := 0 }) 0 0 ws [.int what, .null, .long p0] (fun r0 u => cX none (chs [16]) G ws u.1 u.2 ∧ (r0 = none ∨ (∃ x k n, r0 = some x ∧ u.1 x = some (3, k, n)) ∨ ∃ x n, r0 = some x ∧ u.1 x = some (4, n, 0))) := by
  refine Met.ofW (cc := cX9_thingToKeep) (maxL := 4) (ret := (some (.object "ShadowBench$Held"))) (by decide) rfl ?_
  intro p e s m args below meth c s₁ B hml hv
  obtain ⟨rfl, hP, hK, hA, hV⟩ := hv
  have hx := B.exec
  have hb := B.bytes
  have hr := B.returns
  have hts := atoms_spec (ws := wsX9_thingToKeep) B.pre
  have hown : s.vm.findClass RX9 = some m.cls := findClass_of_methodNamed B.named
  have hlocks := B.notSynchronized
  have hS : va_S A s.heap s.heap [] := va_S.rf
  have hX : cX none (chs [16]) G ws G ws := cX.rf
  have hl := lv_entry ([.int what, .null, .long p0]) (n := 4) (Nat.le_of_ble_eq_true rfl)
  rw [lg_entry_eq]
  generalize (lg_sl ([.int what, .null, .long p0]) ++ List.replicate (4 - (lg_sl ([.int what, .null, .long p0])).length) Slot.unset).toArray = ls at hl ⊢
  have hl : lv_has ls 4 [(0, .int what), (1, .null), (2, .long p0)] := hl
  have k_0 : (0 : Int32).toInt = 0 := by decide
  refine lv_aload_nN hx hb dX9_thingToKeep_0 rfl (lv_at hl 1 rfl) ?_
  refine lv_ifnonnullN hx hb dX9_thingToKeep_1 ?_
  refine lv_null hx hb dX9_thingToKeep_4 ?_
  exact W.aret (v := .null) hx hb hr (Or.inl ⟨_, rfl⟩) (Or.inl rfl) (fun t ht hW => ⟨⟨none, (G, ws), rfl, ⟨hX, Or.inl rfl⟩, by show va_P D vwCl ws t.heap; rw [ht]; exact hP, hD, hT⟩, hS.F ht⟩) hS.2.2 dX9_thingToKeep_5
set_option maxHeartbeats 4000000 in
set_option maxRecDepth 100000 in
theorem c_X9_thingToKeep_w (l : Launch) (D : va_G) (cy : Nat → ClassId) (A : Nat → Prop) (G : cG) (ws : va_W) (what : Int32) (x1 : Nat) (p0 : Int64) {k1 n1 : Nat} (hD : va_D A ws) (hT : cT cy G ws) (hG_x1 : G x1 = some (3, k1, n1))  : Ca l D cy A yX9_thingToKeep wsX9_thingToKeep ({ frames := 6, cells := 3, slots := 86, locals := 123 }) 3 86 ws [.int what, .ref x1, .long p0] (fun r0 u => cX none (chs [16]) G ws u.1 u.2 ∧ (r0 = none ∨ (∃ x k n, r0 = some x ∧ u.1 x = some (3, k, n)) ∨ ∃ x n, r0 = some x ∧ u.1 x = some (4, n, 0))) := by
  refine Met.ofW (cc := cX9_thingToKeep) (maxL := 4) (ret := (some (.object "ShadowBench$Held"))) (by decide) rfl ?_
  intro p e s m args below meth c s₁ B hml hv
  obtain ⟨rfl, hP, hK, hA, hV⟩ := hv
  have hx := B.exec
  have hb := B.bytes
  have hr := B.returns
  have hts := atoms_spec (ws := wsX9_thingToKeep) B.pre
  have hown : s.vm.findClass RX9 = some m.cls := findClass_of_methodNamed B.named
  have hlocks := B.notSynchronized
  have hS : va_S A s.heap s.heap [] := va_S.rf
  have hinJ : ∀ w ∈ wsX10 ++ wsX30 ++ wsX40 ++ wsX50, w ∈ wsX9_thingToKeep := by decide +kernel
  have hX : cX none (chs [16]) G ws G ws := cX.rf
  have hl := lv_entry ([.int what, .ref x1, .long p0]) (n := 4) (Nat.le_of_ble_eq_true rfl)
  rw [lg_entry_eq]
  generalize (lg_sl ([.int what, .ref x1, .long p0]) ++ List.replicate (4 - (lg_sl ([.int what, .ref x1, .long p0])).length) Slot.unset).toArray = ls at hl ⊢
  have hl : lv_has ls 4 [(0, .int what), (1, .ref x1), (2, .long p0)] := hl
  have k_0 : (0 : Int32).toInt = 0 := by decide
  have k_1 : (1 : Int32).toInt = 1 := by decide
  have k_3 : (3 : Int32).toInt = 3 := by decide
  have k_4 : (4 : Int32).toInt = 4 := by decide
  refine lv_aload_n hx hb dX9_thingToKeep_0 rfl (lv_at hl 1 rfl) ?_
  refine lv_ifnonnull (tgt := 6) hx hb dX9_thingToKeep_1 (by decide) ?_
  refine lv_iload_n hx hb dX9_thingToKeep_6 rfl (lv_at hl 0 rfl) ?_
  refine lv_iconst (v := 1) hx hb dX9_thingToKeep_7 (by decide) ?_
  refine lv_icmp_ne (tgt := 16) hx hb dX9_thingToKeep_8 (by decide) (fun c8 => ?_) (fun c8 => ?_)
  · skip
    have d8 := c8
    rw [fa_eq] at d8
    refine lv_iload_n hx hb dX9_thingToKeep_16 rfl (lv_at hl 0 rfl) ?_
    refine lv_iconst (v := 3) hx hb dX9_thingToKeep_17 (by decide) ?_
    refine lv_icmp_ne (tgt := 41) hx hb dX9_thingToKeep_18 (by decide) (fun c18 => ?_) (fun c18 => ?_)
    · skip
      have d18 := c18
      rw [fa_eq] at d18
      refine lv_iload_n hx hb dX9_thingToKeep_41 rfl (lv_at hl 0 rfl) ?_
      refine lv_iconst (v := 4) hx hb dX9_thingToKeep_42 (by decide) ?_
      refine lv_icmp_ne (tgt := 53) hx hb dX9_thingToKeep_43 (by decide) (fun c43 => ?_) (fun c43 => ?_)
      · skip
        have d43 := c43
        rw [fa_eq] at d43
        refine lv_null hx hb dX9_thingToKeep_53 ?_
        refine W.widen (k := 3) (n := 86) (Nat.le_of_ble_eq_true rfl) (Nat.le_of_ble_eq_true rfl) ?_
        exact W.aret (v := .null) hx hb hr (Or.inl ⟨_, rfl⟩) (Or.inl rfl) (fun t ht hW => ⟨⟨none, (G, ws), rfl, ⟨hX, Or.inl rfl⟩, by show va_P D vwCl ws t.heap; rw [ht]; exact hP, hD, hT⟩, hS.F ht⟩) hS.2.2 dX9_thingToKeep_54
      · skip
        have d43 := c43
        rw [fa_eq] at d43
        refine lv_aload_n hx hb dX9_thingToKeep_46 rfl (lv_at hl 1 rfl) ?_
        refine t_calla (va_runS (g := F0 m 47 ls ([.ref x1])) (As := [.ref x1]) (rest := []) ⟨hx, hb, hml, hown, hts⟩ (c_X9_sumsOf l D cy A G ws x1 hD hT hG_x1 ) (va_cwS 1 hts gX9_thingToKeep_X9_sumsOf rfl rfl rfl (by decide +kernel) ⟨Nat.le_of_ble_eq_true rfl, Nat.le_of_ble_eq_true rfl⟩) (c_preS hP hK hA hS hV) rfl rfl hl.1 rfl (lv_room (Nat.le_of_ble_eq_true rfl)) dX9_thingToKeep_47 ⟨Nat.le_of_ble_eq_true rfl, Nat.le_of_ble_eq_true rfl⟩) hS (fun r47 u H locs q47 hP9 hD9 hT9 hS => ?_)
        obtain ⟨G47, w47⟩ := u
        obtain ⟨hX9, q47⟩ := q47
        have hX9 : cX none (chs [16]) G ws G47 w47 := hX9
        have hP : va_P D vwCl w47 H := hP9
        have hD : va_D A w47 := hD9
        have hT : cT cy G47 w47 := hT9
        have hG_x1 := hX9.1 _ _ hG_x1
        have hX := hX.tr hX9
        obtain ⟨x47, n47, rfl, hG_x47⟩ := q47
        refine lv_goto (tgt := 54) hx hb dX9_thingToKeep_50 (by decide) ?_
        refine W.widen (k := 3) (n := 86) (Nat.le_of_ble_eq_true rfl) (Nat.le_of_ble_eq_true rfl) ?_
        exact W.aret (v := .ref x47) hx hb hr (Or.inl ⟨_, rfl⟩) (Or.inr ⟨_, rfl⟩) (fun t ht hW => ⟨⟨(some x47), (G47, w47), rfl, ⟨hX, Or.inr (Or.inr ⟨_, _, rfl, hG_x47⟩)⟩, by show va_P D vwCl w47 t.heap; rw [ht]; exact hP, hD, hT⟩, hS.F ht⟩) hS.2.2 dX9_thingToKeep_54
    · skip
      have d18 := c18
      rw [fa_eq] at d18
      refine lv_aload_n hx hb dX9_thingToKeep_21 rfl (lv_at hl 1 rfl) ?_
      obtain ⟨_, hM_x1, b_x1, s_x1, w_x1, h_x1, t_x1, x_x1, y_x1, ms_x1, rfl, hG_b_x1, hG_s_x1, hJ_x1⟩ := hT _ _ hG_x1
      refine t_getJ (v := .ref b_x1) hx hb hts hinJ hown hK hP hJ_x1.kc hM_x1 0 (by decide) (hts (.fieldLink RX9 65 "ShadowBench$Job" "board" "LShadowBench$Board;") (by decide +kernel)) (fun _ h9 => h9) rfl dX9_thingToKeep_22 ?_
      refine lv_lload_n hx hb dX9_thingToKeep_25 rfl (lv_at hl 2 rfl) ?_
      obtain ⟨_, hM_b_x1, hb_b_x1, l_b_x1, f_b_x1, r_b_x1, rfl, hG_l_b_x1, hG_f_b_x1, hG_r_b_x1⟩ := hT _ _ hG_b_x1
      refine t_calli (va_runV (g := F0 m 26 ls ([.long p0, .ref b_x1])) (As := [.long p0]) (rest := []) ⟨hx, hb, hml, hown, hts⟩ (c_X0_isPicture l D cy A G ws b_x1 p0 hD hT hG_b_x1 ) (cwV 1 hts gX9_thingToKeep_X0_isPicture rfl rfl rfl (by decide +kernel) ⟨Nat.le_of_ble_eq_true rfl, Nat.le_of_ble_eq_true rfl⟩) (c_preV hM_b_x1 rfl hP hK hA hS hV) rfl rfl hl.1 rfl (lv_room (Nat.le_of_ble_eq_true rfl)) dX9_thingToKeep_26 ⟨Nat.le_of_ble_eq_true rfl, Nat.le_of_ble_eq_true rfl⟩) hS (fun r26 u H locs q26 hP9 hD9 hT9 hS => ?_)
      obtain ⟨rfl, q26⟩ := q26
      have hP : va_P D vwCl ws H := hP9
      refine lv_if_eq (tgt := 41) hx hb dX9_thingToKeep_29 (by decide) (fun c29 => ?_) (fun c29 => ?_)
      · skip
        have d29 := c29
        rw [fa_eq] at d29
        refine lv_iload_n hx hb dX9_thingToKeep_41 rfl (lv_at hl 0 rfl) ?_
        refine lv_iconst (v := 4) hx hb dX9_thingToKeep_42 (by decide) ?_
        refine lv_icmp_ne (tgt := 53) hx hb dX9_thingToKeep_43 (by decide) (fun c43 => ?_) (fun c43 => ?_)
        · skip
          have d43 := c43
          rw [fa_eq] at d43
          refine lv_null hx hb dX9_thingToKeep_53 ?_
          refine W.widen (k := 3) (n := 86) (Nat.le_of_ble_eq_true rfl) (Nat.le_of_ble_eq_true rfl) ?_
          exact W.aret (v := .null) hx hb hr (Or.inl ⟨_, rfl⟩) (Or.inl rfl) (fun t ht hW => ⟨⟨none, (G, ws), rfl, ⟨hX, Or.inl rfl⟩, by show va_P D vwCl ws t.heap; rw [ht]; exact hP, hD, hT⟩, hS.F ht⟩) hS.2.2 dX9_thingToKeep_54
        · skip
          have d43 := c43
          rw [fa_eq] at d43
          refine lv_aload_n hx hb dX9_thingToKeep_46 rfl (lv_at hl 1 rfl) ?_
          refine t_calla (va_runS (g := F0 m 47 ls ([.ref x1])) (As := [.ref x1]) (rest := []) ⟨hx, hb, hml, hown, hts⟩ (c_X9_sumsOf l D cy A G ws x1 hD hT hG_x1 ) (va_cwS 1 hts gX9_thingToKeep_X9_sumsOf rfl rfl rfl (by decide +kernel) ⟨Nat.le_of_ble_eq_true rfl, Nat.le_of_ble_eq_true rfl⟩) (c_preS hP hK hA hS hV) rfl rfl hl.1 rfl (lv_room (Nat.le_of_ble_eq_true rfl)) dX9_thingToKeep_47 ⟨Nat.le_of_ble_eq_true rfl, Nat.le_of_ble_eq_true rfl⟩) hS (fun r47 u H locs q47 hP9 hD9 hT9 hS => ?_)
          obtain ⟨G47, w47⟩ := u
          obtain ⟨hX9, q47⟩ := q47
          have hX9 : cX none (chs [16]) G ws G47 w47 := hX9
          have hP : va_P D vwCl w47 H := hP9
          have hD : va_D A w47 := hD9
          have hT : cT cy G47 w47 := hT9
          have hM_x1 := hX9.2.1 _ _ (cP.no hG_x1 rfl) hM_x1
          have hM_b_x1 := hX9.2.1 _ _ (cP.no hG_b_x1 rfl) hM_b_x1
          have hG_x1 := hX9.1 _ _ hG_x1
          have hG_b_x1 := hX9.1 _ _ hG_b_x1
          have hG_s_x1 := hX9.1 _ _ hG_s_x1
          have hG_l_b_x1 := hX9.1 _ _ hG_l_b_x1
          have hG_f_b_x1 := hX9.1 _ _ hG_f_b_x1
          have hG_r_b_x1 := hX9.1 _ _ hG_r_b_x1
          have hX := hX.tr hX9
          obtain ⟨x47, n47, rfl, hG_x47⟩ := q47
          refine lv_goto (tgt := 54) hx hb dX9_thingToKeep_50 (by decide) ?_
          refine W.widen (k := 3) (n := 86) (Nat.le_of_ble_eq_true rfl) (Nat.le_of_ble_eq_true rfl) ?_
          exact W.aret (v := .ref x47) hx hb hr (Or.inl ⟨_, rfl⟩) (Or.inr ⟨_, rfl⟩) (fun t ht hW => ⟨⟨(some x47), (G47, w47), rfl, ⟨hX, Or.inr (Or.inr ⟨_, _, rfl, hG_x47⟩)⟩, by show va_P D vwCl w47 t.heap; rw [ht]; exact hP, hD, hT⟩, hS.F ht⟩) hS.2.2 dX9_thingToKeep_54
      · skip
        have d29 := c29
        rw [fa_eq] at d29
        refine lv_aload_n hx hb dX9_thingToKeep_32 rfl (lv_at hl 1 rfl) ?_
        refine t_getJ (v := .ref b_x1) hx hb hts hinJ hown hK hP hJ_x1.kc hM_x1 0 (by decide) (hts (.fieldLink RX9 65 "ShadowBench$Job" "board" "LShadowBench$Board;") (by decide +kernel)) (fun _ h9 => h9) rfl dX9_thingToKeep_33 ?_
        refine lv_lload_n hx hb dX9_thingToKeep_36 rfl (lv_at hl 2 rfl) ?_
        refine t_calla (va_runS (g := F0 m 37 ls ([.long p0, .ref b_x1])) (As := [.ref b_x1, .long p0]) (rest := []) ⟨hx, hb, hml, hown, hts⟩ (c_X9_squaresOf l D cy A G ws b_x1 p0 hD hT hG_b_x1 ) (va_cwS 2 hts gX9_thingToKeep_X9_squaresOf rfl rfl rfl (by decide +kernel) ⟨Nat.le_of_ble_eq_true rfl, Nat.le_of_ble_eq_true rfl⟩) (c_preS hP hK hA hS hV) rfl rfl hl.1 rfl (lv_room (Nat.le_of_ble_eq_true rfl)) dX9_thingToKeep_37 ⟨Nat.le_of_ble_eq_true rfl, Nat.le_of_ble_eq_true rfl⟩) hS (fun r37 u H locs q37 hP9 hD9 hT9 hS => ?_)
        obtain ⟨G37, w37⟩ := u
        obtain ⟨hX9, q37⟩ := q37
        have hX9 : cX none (chs [16]) G ws G37 w37 := hX9
        have hP : va_P D vwCl w37 H := hP9
        have hD : va_D A w37 := hD9
        have hT : cT cy G37 w37 := hT9
        have hM_x1 := hX9.2.1 _ _ (cP.no hG_x1 rfl) hM_x1
        have hM_b_x1 := hX9.2.1 _ _ (cP.no hG_b_x1 rfl) hM_b_x1
        have hG_x1 := hX9.1 _ _ hG_x1
        have hG_b_x1 := hX9.1 _ _ hG_b_x1
        have hG_s_x1 := hX9.1 _ _ hG_s_x1
        have hG_l_b_x1 := hX9.1 _ _ hG_l_b_x1
        have hG_f_b_x1 := hX9.1 _ _ hG_f_b_x1
        have hG_r_b_x1 := hX9.1 _ _ hG_r_b_x1
        have hX := hX.tr hX9
        obtain ⟨x37, n37, rfl, hG_x37⟩ := q37
        refine W.widen (k := 3) (n := 86) (Nat.le_of_ble_eq_true rfl) (Nat.le_of_ble_eq_true rfl) ?_
        exact W.aret (v := .ref x37) hx hb hr (Or.inl ⟨_, rfl⟩) (Or.inr ⟨_, rfl⟩) (fun t ht hW => ⟨⟨(some x37), (G37, w37), rfl, ⟨hX, Or.inr (Or.inr ⟨_, _, rfl, hG_x37⟩)⟩, by show va_P D vwCl w37 t.heap; rw [ht]; exact hP, hD, hT⟩, hS.F ht⟩) hS.2.2 dX9_thingToKeep_40
  · skip
    have d8 := c8
    rw [fa_eq] at d8
    refine lv_aload_n hx hb dX9_thingToKeep_11 rfl (lv_at hl 1 rfl) ?_
    obtain ⟨_, hM_x1, b_x1, s_x1, w_x1, h_x1, t_x1, x_x1, y_x1, ms_x1, rfl, hG_b_x1, hG_s_x1, hJ_x1⟩ := hT _ _ hG_x1
    have hJ9 := hJ_x1
    obtain ⟨hn9, hJ9⟩ := hJ9
    rcases hJ9 with ⟨rfl, rfl⟩ | ⟨rfl, rfl⟩ | ⟨rfl, rfl⟩ | ⟨rfl, c9, rfl, hG_c9⟩
    · skip
      have hM_x1 : cIn ws x1 (.inr (1, [.ref b_x1, .ref s_x1, .int t_x1, .long x_x1, .long y_x1])) := hM_x1
      refine t_calla (va_runU (g := F0 m 12 ls ([.ref x1])) (As := []) (rest := []) ⟨hx, hb, hml, hown, hts⟩ (c_X1_asItIs_w l D cy A G ws x1 hD hT hG_x1 ) (va_cwO 0 hts gX9_thingToKeep_X1_asItIs_u321X1 rfl rfl rfl (b0 := cX3_asItIs) (m0 := 1) (r0 := (some (.object "ShadowBench$Job"))) (by decide +kernel) (by decide +kernel) ⟨Nat.le_of_ble_eq_true rfl, Nat.le_of_ble_eq_true rfl⟩) (c_preV hM_x1 rfl hP hK hA hS hV) rfl rfl hl.1 rfl (lv_room (Nat.le_of_ble_eq_true rfl)) dX9_thingToKeep_12 ⟨Nat.le_of_ble_eq_true rfl, Nat.le_of_ble_eq_true rfl⟩) hS (fun r12 u H locs q12 hP9 hD9 hT9 hS => ?_)
      obtain ⟨G12, w12⟩ := u
      obtain ⟨hX9, q12⟩ := q12
      have hX9 : cX none (chs []) G ws G12 w12 := hX9
      have hP : va_P D vwCl w12 H := hP9
      have hD : va_D A w12 := hD9
      have hT : cT cy G12 w12 := hT9
      have hM_x1 := hX9.2.1 _ _ (cP.no hG_x1 rfl) hM_x1
      have hG_x1 := hX9.1 _ _ hG_x1
      have hG_b_x1 := hX9.1 _ _ hG_b_x1
      have hG_s_x1 := hX9.1 _ _ hG_s_x1
      have hX := hX.tr (hX9.wk (chs_sub (by decide)))
      obtain ⟨x12, k12, n12, rfl, hG_x12⟩ := q12
      refine W.widen (k := 3) (n := 86) (Nat.le_of_ble_eq_true rfl) (Nat.le_of_ble_eq_true rfl) ?_
      exact W.aret (v := .ref x12) hx hb hr (Or.inl ⟨_, rfl⟩) (Or.inr ⟨_, rfl⟩) (fun t ht hW => ⟨⟨(some x12), (G12, w12), rfl, ⟨hX, Or.inr (Or.inl ⟨_, _, _, rfl, hG_x12⟩)⟩, by show va_P D vwCl w12 t.heap; rw [ht]; exact hP, hD, hT⟩, hS.F ht⟩) hS.2.2 dX9_thingToKeep_15
    · skip
      have hM_x1 : cIn ws x1 (.inr (2, [.ref b_x1, .ref s_x1, .int t_x1, .long x_x1, .long y_x1])) := hM_x1
      refine t_calla (va_runV (g := F0 m 12 ls ([.ref x1])) (As := []) (rest := []) ⟨hx, hb, hml, hown, hts⟩ (c_X3_asItIs_w l D cy A G ws x1 hD hT hG_x1 ) (cwV 0 hts gX9_thingToKeep_X3_asItIs rfl rfl rfl (by decide +kernel) ⟨Nat.le_of_ble_eq_true rfl, Nat.le_of_ble_eq_true rfl⟩) (c_preV hM_x1 rfl hP hK hA hS hV) rfl rfl hl.1 rfl (lv_room (Nat.le_of_ble_eq_true rfl)) dX9_thingToKeep_12 ⟨Nat.le_of_ble_eq_true rfl, Nat.le_of_ble_eq_true rfl⟩) hS (fun r12 u H locs q12 hP9 hD9 hT9 hS => ?_)
      obtain ⟨G12, w12⟩ := u
      obtain ⟨hX9, q12⟩ := q12
      have hX9 : cX none (chs []) G ws G12 w12 := hX9
      have hP : va_P D vwCl w12 H := hP9
      have hD : va_D A w12 := hD9
      have hT : cT cy G12 w12 := hT9
      have hM_x1 := hX9.2.1 _ _ (cP.no hG_x1 rfl) hM_x1
      have hG_x1 := hX9.1 _ _ hG_x1
      have hG_b_x1 := hX9.1 _ _ hG_b_x1
      have hG_s_x1 := hX9.1 _ _ hG_s_x1
      have hX := hX.tr (hX9.wk (chs_sub (by decide)))
      obtain ⟨x12, k12, n12, rfl, hG_x12⟩ := q12
      refine W.widen (k := 3) (n := 86) (Nat.le_of_ble_eq_true rfl) (Nat.le_of_ble_eq_true rfl) ?_
      exact W.aret (v := .ref x12) hx hb hr (Or.inl ⟨_, rfl⟩) (Or.inr ⟨_, rfl⟩) (fun t ht hW => ⟨⟨(some x12), (G12, w12), rfl, ⟨hX, Or.inr (Or.inl ⟨_, _, _, rfl, hG_x12⟩)⟩, by show va_P D vwCl w12 t.heap; rw [ht]; exact hP, hD, hT⟩, hS.F ht⟩) hS.2.2 dX9_thingToKeep_15
    · skip
      have hM_x1 : cIn ws x1 (.inr (3, [.ref b_x1, .ref s_x1, .int t_x1, .long x_x1, .long y_x1])) := hM_x1
      refine t_calla (va_runU (g := F0 m 12 ls ([.ref x1])) (As := []) (rest := []) ⟨hx, hb, hml, hown, hts⟩ (c_X4_asItIs_w l D cy A G ws x1 hD hT hG_x1 ) (va_cwO 0 hts gX9_thingToKeep_X4_asItIs_u321X4 rfl rfl rfl (b0 := cX3_asItIs) (m0 := 1) (r0 := (some (.object "ShadowBench$Job"))) (by decide +kernel) (by decide +kernel) ⟨Nat.le_of_ble_eq_true rfl, Nat.le_of_ble_eq_true rfl⟩) (c_preV hM_x1 rfl hP hK hA hS hV) rfl rfl hl.1 rfl (lv_room (Nat.le_of_ble_eq_true rfl)) dX9_thingToKeep_12 ⟨Nat.le_of_ble_eq_true rfl, Nat.le_of_ble_eq_true rfl⟩) hS (fun r12 u H locs q12 hP9 hD9 hT9 hS => ?_)
      obtain ⟨G12, w12⟩ := u
      obtain ⟨hX9, q12⟩ := q12
      have hX9 : cX none (chs []) G ws G12 w12 := hX9
      have hP : va_P D vwCl w12 H := hP9
      have hD : va_D A w12 := hD9
      have hT : cT cy G12 w12 := hT9
      have hM_x1 := hX9.2.1 _ _ (cP.no hG_x1 rfl) hM_x1
      have hG_x1 := hX9.1 _ _ hG_x1
      have hG_b_x1 := hX9.1 _ _ hG_b_x1
      have hG_s_x1 := hX9.1 _ _ hG_s_x1
      have hX := hX.tr (hX9.wk (chs_sub (by decide)))
      obtain ⟨x12, k12, n12, rfl, hG_x12⟩ := q12
      refine W.widen (k := 3) (n := 86) (Nat.le_of_ble_eq_true rfl) (Nat.le_of_ble_eq_true rfl) ?_
      exact W.aret (v := .ref x12) hx hb hr (Or.inl ⟨_, rfl⟩) (Or.inr ⟨_, rfl⟩) (fun t ht hW => ⟨⟨(some x12), (G12, w12), rfl, ⟨hX, Or.inr (Or.inl ⟨_, _, _, rfl, hG_x12⟩)⟩, by show va_P D vwCl w12 t.heap; rw [ht]; exact hP, hD, hT⟩, hS.F ht⟩) hS.2.2 dX9_thingToKeep_15
    · skip
      have hM_x1 : cIn ws x1 (.inr (4, [.ref b_x1, .ref s_x1, .int t_x1, .long x_x1, .long y_x1, .ref c9])) := hM_x1
      have hn36 := cb_mul (c_hb hT hG_b_x1)
      refine t_calla (va_runU (g := F0 m 12 ls ([.ref x1])) (As := []) (rest := []) ⟨hx, hb, hml, hown, hts⟩ (c_X5_asItIs_w l D cy A G ws x1 hD hT hG_x1 ) (va_cwO 0 hts gX9_thingToKeep_X5_asItIs_u321X5 rfl rfl rfl (b0 := cX3_asItIs) (m0 := 1) (r0 := (some (.object "ShadowBench$Job"))) (by decide +kernel) (by decide +kernel) ⟨Nat.le_of_ble_eq_true rfl, Nat.le_of_ble_eq_true rfl⟩) (c_preV hM_x1 rfl hP hK hA hS hV) rfl rfl hl.1 rfl (lv_room (Nat.le_of_ble_eq_true rfl)) dX9_thingToKeep_12 ⟨Nat.le_of_ble_eq_true rfl, Nat.le_of_ble_eq_true rfl⟩) hS (fun r12 u H locs q12 hP9 hD9 hT9 hS => ?_)
      obtain ⟨G12, w12⟩ := u
      obtain ⟨hX9, q12⟩ := q12
      have hX9 : cX none (chs []) G ws G12 w12 := hX9
      have hP : va_P D vwCl w12 H := hP9
      have hD : va_D A w12 := hD9
      have hT : cT cy G12 w12 := hT9
      have hM_x1 := hX9.2.1 _ _ (cP.no hG_x1 rfl) hM_x1
      have hG_x1 := hX9.1 _ _ hG_x1
      have hG_b_x1 := hX9.1 _ _ hG_b_x1
      have hG_s_x1 := hX9.1 _ _ hG_s_x1
      have hG_c9 := hX9.1 _ _ hG_c9
      have hX := hX.tr (hX9.wk (chs_sub (by decide)))
      obtain ⟨x12, k12, n12, rfl, hG_x12⟩ := q12
      refine W.widen (k := 3) (n := 86) (Nat.le_of_ble_eq_true rfl) (Nat.le_of_ble_eq_true rfl) ?_
      exact W.aret (v := .ref x12) hx hb hr (Or.inl ⟨_, rfl⟩) (Or.inr ⟨_, rfl⟩) (fun t ht hW => ⟨⟨(some x12), (G12, w12), rfl, ⟨hX, Or.inr (Or.inl ⟨_, _, _, rfl, hG_x12⟩)⟩, by show va_P D vwCl w12 t.heap; rw [ht]; exact hP, hD, hT⟩, hS.F ht⟩) hS.2.2 dX9_thingToKeep_15
set_option maxHeartbeats 4000000 in
set_option maxRecDepth 100000 in
theorem c_X9_keep_w (l : Launch) (D : va_G) (cy : Nat → ClassId) (A : Nat → Prop) (G : cG) (ws : va_W) (o : Nat) (d : Int32) (what : Int32) (k0 : Int32) (p0 : Int64)  (hD : va_D A ws) (hT : cT cy G ws) (hG_o : G o = some (7, 0, 0))  : Ci l D cy A yX9_keep wsX9_keep ({ frames := 7, cells := 3, slots := 86, locals := 146 }) 3 86 ws [.ref o, .int d, .int what, .int k0, .long p0] (fun r0 u => cX none (chs [10, 16]) G ws u.1 u.2 ∧ (True)) := by
  refine Met.ofW (cc := cX9_keep) (maxL := 7) (ret := (some .int)) (by decide) rfl ?_
  intro p e s m args below meth c s₁ B hml hv
  obtain ⟨rfl, hP, hK, hA, hV⟩ := hv
  have hx := B.exec
  have hb := B.bytes
  have hr := B.returns
  have hts := atoms_spec (ws := wsX9_keep) B.pre
  have hown : s.vm.findClass RX9 = some m.cls := findClass_of_methodNamed B.named
  have hlocks := B.notSynchronized
  have hS : va_S A s.heap s.heap [] := va_S.rf
  have hX : cX none (chs [10, 16]) G ws G ws := cX.rf
  have hl := lv_entry ([.ref o, .int d, .int what, .int k0, .long p0]) (n := 7) (Nat.le_of_ble_eq_true rfl)
  rw [lg_entry_eq]
  generalize (lg_sl ([.ref o, .int d, .int what, .int k0, .long p0]) ++ List.replicate (7 - (lg_sl ([.ref o, .int d, .int what, .int k0, .long p0])).length) Slot.unset).toArray = ls at hl ⊢
  have hl : lv_has ls 7 [(0, .ref o), (1, .int d), (2, .int what), (3, .int k0), (4, .long p0)] := hl
  have k_m1 : (-1 : Int32).toInt = -1 := by decide
  have k_0 : (0 : Int32).toInt = 0 := by decide
  refine lv_iload_n hx hb dX9_keep_0 rfl (lv_at hl 1 rfl) ?_
  refine t_pu (As := [.int d]) (rest := []) ⟨hx, hb, hml, hown, hts⟩ (c_X9_isShelf l d ) (va_cwS 1 hts gX9_keep_X9_isShelf rfl rfl rfl (by decide +kernel) ⟨Nat.le_of_ble_eq_true rfl, Nat.le_of_ble_eq_true rfl⟩) hP rfl hl.1 rfl (Nat.le_of_ble_eq_true rfl) dX9_keep_1 ⟨Nat.le_of_ble_eq_true rfl, Nat.le_of_ble_eq_true rfl⟩ hS (fun r1 H locs q1 hP hS => ?_)
  refine lv_if_ne (tgt := 9) hx hb dX9_keep_4 (by decide) (fun c4 => ?_) (fun c4 => ?_)
  · skip
    have b4 := bo_t q1 c4
    refine lv_iload_n hx hb dX9_keep_9 rfl (lv_at hl 2 rfl) ?_
    refine lv_if_ne (tgt := 22) hx hb dX9_keep_10 (by decide) (fun c10 => ?_) (fun c10 => ?_)
    · skip
      have d10 := c10
      rw [fa_eq] at d10
      refine lv_iload_n hx hb dX9_keep_22 rfl (lv_at hl 2 rfl) ?_
      refine lv_aload_n hx hb dX9_keep_23 rfl (lv_at hl 0 rfl) ?_
      refine lv_iload_n hx hb dX9_keep_24 rfl (lv_at hl 3 rfl) ?_
      obtain ⟨_, hM_o, bs_o, js_o, sh_o, wk_o, ll_o, jc_o, lc_o, mo_o, lb_o, rfl, hjc_o, hlc_o, hG_bs_o, hG_js_o, hG_sh_o, hG_wk_o, hmo_o, hG_ll_o, hlb_o⟩ := hT _ _ hG_o
      refine t_calla (va_runV (g := F0 m 25 ls ([.int k0, .ref o, .int what])) (As := [.int k0]) (rest := [.int what]) ⟨hx, hb, hml, hown, hts⟩ (c_X9_jobOf l D cy A G ws o k0 hD hT hG_o ) (cwV 1 hts gX9_keep_X9_jobOf rfl rfl rfl (by decide +kernel) ⟨Nat.le_of_ble_eq_true rfl, Nat.le_of_ble_eq_true rfl⟩) (c_preV hM_o rfl hP hK hA hS hV) rfl rfl hl.1 rfl (lv_room (Nat.le_of_ble_eq_true rfl)) dX9_keep_25 ⟨Nat.le_of_ble_eq_true rfl, Nat.le_of_ble_eq_true rfl⟩) hS (fun r25 u H locs q25 hP9 hD9 hT9 hS => ?_)
      obtain ⟨rfl, q25⟩ := q25
      have hP : va_P D vwCl ws H := hP9
      rcases r25 with _ | x25
      · skip
        refine lv_lload hx hb dX9_keep_28 (lv_at hl 4 rfl) ?_
        refine t_calla (va_runS (g := F0 m 30 ls ([.long p0, .null, .int what])) (As := [.int what, .null, .long p0]) (rest := []) ⟨hx, hb, hml, hown, hts⟩ (c_X9_thingToKeep_wn l D cy A G ws what p0 hD hT ) (va_cwS 3 hts gX9_keep_X9_thingToKeep rfl rfl rfl (by decide +kernel) ⟨Nat.le_of_ble_eq_true rfl, Nat.le_of_ble_eq_true rfl⟩) (c_preS hP hK hA hS hV) rfl rfl hl.1 rfl (lv_room (Nat.le_of_ble_eq_true rfl)) dX9_keep_30 ⟨Nat.le_of_ble_eq_true rfl, Nat.le_of_ble_eq_true rfl⟩) hS (fun r30 u H locs q30 hP9 hD9 hT9 hS => ?_)
        obtain ⟨G30, w30⟩ := u
        obtain ⟨hX9, q30⟩ := q30
        have hX9 : cX none (chs [16]) G ws G30 w30 := hX9
        have hP : va_P D vwCl w30 H := hP9
        have hD : va_D A w30 := hD9
        have hT : cT cy G30 w30 := hT9
        have hM_o := hX9.2.1 _ _ (cP.no hG_o rfl) hM_o
        have hG_o := hX9.1 _ _ hG_o
        have hG_bs_o := hX9.1 _ _ hG_bs_o
        have hG_js_o := hX9.1 _ _ hG_js_o
        have hG_sh_o := hX9.1 _ _ hG_sh_o
        have hG_wk_o := hX9.1 _ _ hG_wk_o
        have hG_ll_o := hX9.1 _ _ hG_ll_o
        have hX := hX.tr (hX9.wk (chs_sub (by decide)))
        rcases q30 with rfl | ⟨x30, k30, n30, rfl, hG_x30⟩ | ⟨x30, n30, rfl, hG_x30⟩
        · skip
          refine lv_astoreN (lv' := [(6, .null), (0, .ref o), (1, .int d), (2, .int what), (3, .int k0), (4, .long p0)]) hx hb dX9_keep_33 hl (by decide) rfl (fun ls hl => ?_)
          refine lv_aloadN hx hb dX9_keep_35 (lv_at hl 0 rfl) ?_
          refine lv_ifnonnullN hx hb dX9_keep_37 ?_
          refine lv_iconst (v := (-1)) hx hb dX9_keep_40 (by decide) ?_
          refine W.widen (k := 3) (n := 86) (Nat.le_of_ble_eq_true rfl) (Nat.le_of_ble_eq_true rfl) ?_
          exact W.iret (v := ((-1) : Int32)) hx hb hr (fun t ht hW => ⟨⟨_, (G30, w30), rfl, ⟨hX, trivial⟩, by show va_P D vwCl w30 t.heap; rw [ht]; exact hP, hD, hT⟩, hS.F ht⟩) hS.2.2 dX9_keep_41
        · skip
          refine lv_astore (lv' := [(6, .ref x30), (0, .ref o), (1, .int d), (2, .int what), (3, .int k0), (4, .long p0)]) hx hb dX9_keep_33 hl (by decide) rfl (fun ls hl => ?_)
          refine lv_aload hx hb dX9_keep_35 (lv_at hl 0 rfl) ?_
          refine lv_ifnonnull (tgt := 42) hx hb dX9_keep_37 (by decide) ?_
          refine lv_aload_n hx hb dX9_keep_42 rfl (lv_at hl 1 rfl) ?_
          refine t_get (v := .ref sh_o) (C := RX9) (T := TX9) (N := 9) hx hb hts (by decide +kernel) hown hK hP hM_o rfl 3 (by decide) (hts (.fieldLink RX9 27 "ShadowBench" "shelves" "[LShadowBench$Held;") (by decide +kernel)) (fun _ h9 => h9) rfl dX9_keep_43 ?_
          refine lv_iload_n hx hb dX9_keep_46 rfl (lv_at hl 2 rfl) ?_
          refine lv_aload hx hb dX9_keep_47 (lv_at hl 0 rfl) ?_
          refine t_aast10 hx hb hV hK hP hD hS hT hG_sh_o (Or.inl ⟨_, _, hG_x30⟩) (vp_in_iff.mpr ⟨by omega, by omega⟩) dX9_keep_49 (fun H locs w49 hU49 hP hD hT hS => ?_)
          have hM_o := hU49 _ _ (cne hG_o hG_sh_o (show (7 : Nat) ≠ 10 by decide)) hM_o
          have hX := hX.tr (cX.uF hU49 (Or.inr ⟨_, hG_sh_o, rfl⟩))
          refine lv_iconst (v := 0) hx hb dX9_keep_50 (by decide) ?_
          refine W.widen (k := 3) (n := 86) (Nat.le_of_ble_eq_true rfl) (Nat.le_of_ble_eq_true rfl) ?_
          exact W.iret (v := (0 : Int32)) hx hb hr (fun t ht hW => ⟨⟨_, (G30, w49), rfl, ⟨hX, trivial⟩, by show va_P D vwCl w49 t.heap; rw [ht]; exact hP, hD, hT⟩, hS.F ht⟩) hS.2.2 dX9_keep_51
        · skip
          refine lv_astore (lv' := [(6, .ref x30), (0, .ref o), (1, .int d), (2, .int what), (3, .int k0), (4, .long p0)]) hx hb dX9_keep_33 hl (by decide) rfl (fun ls hl => ?_)
          refine lv_aload hx hb dX9_keep_35 (lv_at hl 0 rfl) ?_
          refine lv_ifnonnull (tgt := 42) hx hb dX9_keep_37 (by decide) ?_
          refine lv_aload_n hx hb dX9_keep_42 rfl (lv_at hl 1 rfl) ?_
          refine t_get (v := .ref sh_o) (C := RX9) (T := TX9) (N := 9) hx hb hts (by decide +kernel) hown hK hP hM_o rfl 3 (by decide) (hts (.fieldLink RX9 27 "ShadowBench" "shelves" "[LShadowBench$Held;") (by decide +kernel)) (fun _ h9 => h9) rfl dX9_keep_43 ?_
          refine lv_iload_n hx hb dX9_keep_46 rfl (lv_at hl 2 rfl) ?_
          refine lv_aload hx hb dX9_keep_47 (lv_at hl 0 rfl) ?_
          refine t_aast10 hx hb hV hK hP hD hS hT hG_sh_o (Or.inr ⟨_, hG_x30⟩) (vp_in_iff.mpr ⟨by omega, by omega⟩) dX9_keep_49 (fun H locs w49 hU49 hP hD hT hS => ?_)
          have hM_o := hU49 _ _ (cne hG_o hG_sh_o (show (7 : Nat) ≠ 10 by decide)) hM_o
          have hX := hX.tr (cX.uF hU49 (Or.inr ⟨_, hG_sh_o, rfl⟩))
          refine lv_iconst (v := 0) hx hb dX9_keep_50 (by decide) ?_
          refine W.widen (k := 3) (n := 86) (Nat.le_of_ble_eq_true rfl) (Nat.le_of_ble_eq_true rfl) ?_
          exact W.iret (v := (0 : Int32)) hx hb hr (fun t ht hW => ⟨⟨_, (G30, w49), rfl, ⟨hX, trivial⟩, by show va_P D vwCl w49 t.heap; rw [ht]; exact hP, hD, hT⟩, hS.F ht⟩) hS.2.2 dX9_keep_51
      · skip
        obtain ⟨kx25, nx25, hG_x25⟩ := q25 x25 rfl
        refine lv_lload hx hb dX9_keep_28 (lv_at hl 4 rfl) ?_
        refine t_calla (va_runS (g := F0 m 30 ls ([.long p0, .ref x25, .int what])) (As := [.int what, .ref x25, .long p0]) (rest := []) ⟨hx, hb, hml, hown, hts⟩ (c_X9_thingToKeep_w l D cy A G ws what x25 p0 hD hT hG_x25 ) (va_cwS 3 hts gX9_keep_X9_thingToKeep rfl rfl rfl (by decide +kernel) ⟨Nat.le_of_ble_eq_true rfl, Nat.le_of_ble_eq_true rfl⟩) (c_preS hP hK hA hS hV) rfl rfl hl.1 rfl (lv_room (Nat.le_of_ble_eq_true rfl)) dX9_keep_30 ⟨Nat.le_of_ble_eq_true rfl, Nat.le_of_ble_eq_true rfl⟩) hS (fun r30 u H locs q30 hP9 hD9 hT9 hS => ?_)
        obtain ⟨G30, w30⟩ := u
        obtain ⟨hX9, q30⟩ := q30
        have hX9 : cX none (chs [16]) G ws G30 w30 := hX9
        have hP : va_P D vwCl w30 H := hP9
        have hD : va_D A w30 := hD9
        have hT : cT cy G30 w30 := hT9
        have hM_o := hX9.2.1 _ _ (cP.no hG_o rfl) hM_o
        have hG_o := hX9.1 _ _ hG_o
        have hG_bs_o := hX9.1 _ _ hG_bs_o
        have hG_js_o := hX9.1 _ _ hG_js_o
        have hG_sh_o := hX9.1 _ _ hG_sh_o
        have hG_wk_o := hX9.1 _ _ hG_wk_o
        have hG_ll_o := hX9.1 _ _ hG_ll_o
        have hG_x25 := hX9.1 _ _ hG_x25
        have hX := hX.tr (hX9.wk (chs_sub (by decide)))
        rcases q30 with rfl | ⟨x30, k30, n30, rfl, hG_x30⟩ | ⟨x30, n30, rfl, hG_x30⟩
        · skip
          refine lv_astoreN (lv' := [(6, .null), (0, .ref o), (1, .int d), (2, .int what), (3, .int k0), (4, .long p0)]) hx hb dX9_keep_33 hl (by decide) rfl (fun ls hl => ?_)
          refine lv_aloadN hx hb dX9_keep_35 (lv_at hl 0 rfl) ?_
          refine lv_ifnonnullN hx hb dX9_keep_37 ?_
          refine lv_iconst (v := (-1)) hx hb dX9_keep_40 (by decide) ?_
          refine W.widen (k := 3) (n := 86) (Nat.le_of_ble_eq_true rfl) (Nat.le_of_ble_eq_true rfl) ?_
          exact W.iret (v := ((-1) : Int32)) hx hb hr (fun t ht hW => ⟨⟨_, (G30, w30), rfl, ⟨hX, trivial⟩, by show va_P D vwCl w30 t.heap; rw [ht]; exact hP, hD, hT⟩, hS.F ht⟩) hS.2.2 dX9_keep_41
        · skip
          refine lv_astore (lv' := [(6, .ref x30), (0, .ref o), (1, .int d), (2, .int what), (3, .int k0), (4, .long p0)]) hx hb dX9_keep_33 hl (by decide) rfl (fun ls hl => ?_)
          refine lv_aload hx hb dX9_keep_35 (lv_at hl 0 rfl) ?_
          refine lv_ifnonnull (tgt := 42) hx hb dX9_keep_37 (by decide) ?_
          refine lv_aload_n hx hb dX9_keep_42 rfl (lv_at hl 1 rfl) ?_
          refine t_get (v := .ref sh_o) (C := RX9) (T := TX9) (N := 9) hx hb hts (by decide +kernel) hown hK hP hM_o rfl 3 (by decide) (hts (.fieldLink RX9 27 "ShadowBench" "shelves" "[LShadowBench$Held;") (by decide +kernel)) (fun _ h9 => h9) rfl dX9_keep_43 ?_
          refine lv_iload_n hx hb dX9_keep_46 rfl (lv_at hl 2 rfl) ?_
          refine lv_aload hx hb dX9_keep_47 (lv_at hl 0 rfl) ?_
          refine t_aast10 hx hb hV hK hP hD hS hT hG_sh_o (Or.inl ⟨_, _, hG_x30⟩) (vp_in_iff.mpr ⟨by omega, by omega⟩) dX9_keep_49 (fun H locs w49 hU49 hP hD hT hS => ?_)
          have hM_o := hU49 _ _ (cne hG_o hG_sh_o (show (7 : Nat) ≠ 10 by decide)) hM_o
          have hX := hX.tr (cX.uF hU49 (Or.inr ⟨_, hG_sh_o, rfl⟩))
          refine lv_iconst (v := 0) hx hb dX9_keep_50 (by decide) ?_
          refine W.widen (k := 3) (n := 86) (Nat.le_of_ble_eq_true rfl) (Nat.le_of_ble_eq_true rfl) ?_
          exact W.iret (v := (0 : Int32)) hx hb hr (fun t ht hW => ⟨⟨_, (G30, w49), rfl, ⟨hX, trivial⟩, by show va_P D vwCl w49 t.heap; rw [ht]; exact hP, hD, hT⟩, hS.F ht⟩) hS.2.2 dX9_keep_51
        · skip
          refine lv_astore (lv' := [(6, .ref x30), (0, .ref o), (1, .int d), (2, .int what), (3, .int k0), (4, .long p0)]) hx hb dX9_keep_33 hl (by decide) rfl (fun ls hl => ?_)
          refine lv_aload hx hb dX9_keep_35 (lv_at hl 0 rfl) ?_
          refine lv_ifnonnull (tgt := 42) hx hb dX9_keep_37 (by decide) ?_
          refine lv_aload_n hx hb dX9_keep_42 rfl (lv_at hl 1 rfl) ?_
          refine t_get (v := .ref sh_o) (C := RX9) (T := TX9) (N := 9) hx hb hts (by decide +kernel) hown hK hP hM_o rfl 3 (by decide) (hts (.fieldLink RX9 27 "ShadowBench" "shelves" "[LShadowBench$Held;") (by decide +kernel)) (fun _ h9 => h9) rfl dX9_keep_43 ?_
          refine lv_iload_n hx hb dX9_keep_46 rfl (lv_at hl 2 rfl) ?_
          refine lv_aload hx hb dX9_keep_47 (lv_at hl 0 rfl) ?_
          refine t_aast10 hx hb hV hK hP hD hS hT hG_sh_o (Or.inr ⟨_, hG_x30⟩) (vp_in_iff.mpr ⟨by omega, by omega⟩) dX9_keep_49 (fun H locs w49 hU49 hP hD hT hS => ?_)
          have hM_o := hU49 _ _ (cne hG_o hG_sh_o (show (7 : Nat) ≠ 10 by decide)) hM_o
          have hX := hX.tr (cX.uF hU49 (Or.inr ⟨_, hG_sh_o, rfl⟩))
          refine lv_iconst (v := 0) hx hb dX9_keep_50 (by decide) ?_
          refine W.widen (k := 3) (n := 86) (Nat.le_of_ble_eq_true rfl) (Nat.le_of_ble_eq_true rfl) ?_
          exact W.iret (v := (0 : Int32)) hx hb hr (fun t ht hW => ⟨⟨_, (G30, w49), rfl, ⟨hX, trivial⟩, by show va_P D vwCl w49 t.heap; rw [ht]; exact hP, hD, hT⟩, hS.F ht⟩) hS.2.2 dX9_keep_51
    · skip
      have d10 := c10
      rw [fa_eq] at d10
      refine lv_aload_n hx hb dX9_keep_13 rfl (lv_at hl 0 rfl) ?_
      obtain ⟨_, hM_o, bs_o, js_o, sh_o, wk_o, ll_o, jc_o, lc_o, mo_o, lb_o, rfl, hjc_o, hlc_o, hG_bs_o, hG_js_o, hG_sh_o, hG_wk_o, hmo_o, hG_ll_o, hlb_o⟩ := hT _ _ hG_o
      refine t_get (v := .ref sh_o) (C := RX9) (T := TX9) (N := 9) hx hb hts (by decide +kernel) hown hK hP hM_o rfl 3 (by decide) (hts (.fieldLink RX9 27 "ShadowBench" "shelves" "[LShadowBench$Held;") (by decide +kernel)) (fun _ h9 => h9) rfl dX9_keep_14 ?_
      refine lv_iload_n hx hb dX9_keep_17 rfl (lv_at hl 1 rfl) ?_
      refine lv_null hx hb dX9_keep_18 ?_
      refine t_aastN hx hb hK hP hD hS hT hG_sh_o (vp_in_iff.mpr ⟨by omega, by omega⟩) dX9_keep_19 (fun H locs w19 hU19 hP hD hT hS => ?_)
      have hM_o := hU19 _ _ (cne hG_o hG_sh_o (show (7 : Nat) ≠ 10 by decide)) hM_o
      have hX := hX.tr (cX.uF hU19 (Or.inr ⟨_, hG_sh_o, rfl⟩))
      refine lv_iconst (v := 0) hx hb dX9_keep_20 (by decide) ?_
      refine W.widen (k := 3) (n := 86) (Nat.le_of_ble_eq_true rfl) (Nat.le_of_ble_eq_true rfl) ?_
      exact W.iret (v := (0 : Int32)) hx hb hr (fun t ht hW => ⟨⟨_, (G, w19), rfl, ⟨hX, trivial⟩, by show va_P D vwCl w19 t.heap; rw [ht]; exact hP, hD, hT⟩, hS.F ht⟩) hS.2.2 dX9_keep_21
  · skip
    have b4 := bo_f q1 c4
    refine lv_iconst (v := (-1)) hx hb dX9_keep_7 (by decide) ?_
    refine W.widen (k := 3) (n := 86) (Nat.le_of_ble_eq_true rfl) (Nat.le_of_ble_eq_true rfl) ?_
    exact W.iret (v := ((-1) : Int32)) hx hb hr (fun t ht hW => ⟨⟨_, (G, ws), rfl, ⟨hX, trivial⟩, by show va_P D vwCl ws t.heap; rw [ht]; exact hP, hD, hT⟩, hS.F ht⟩) hS.2.2 dX9_keep_8
set_option maxHeartbeats 4000000 in
set_option maxRecDepth 100000 in
theorem c_X9_list_k (l : Launch) (D : va_G) (cy : Nat → ClassId) (A : Nat → Prop) (G : cG) (ws : va_W) (o : Nat) (wide : Int32) (high : Int32) (p0 : Int64) {bs_o js_o sh_o wk_o ll_o : Nat} {jc_o lc_o : Int32} {mo_o lb_o : Option Nat} (hD : va_D A ws) (hT : cT cy G ws) (hG_o : G o = some (7, 0, 0)) (hM_o : cIn ws o (.inr (8, [.ref bs_o, .ref js_o, .int jc_o, .ref sh_o, .ref wk_o, va_rf mo_o, .ref ll_o, .int lc_o, va_rf lb_o])))  : Ci l D cy A yX9_list wsX9_list ({ frames := 5, cells := 4, slots := 502, locals := 116 }) 4 502 ws [.ref o, .int wide, .int high, .long p0] (fun r0 u => cX none (chs [1, 7, 8, 17]) G ws u.1 u.2 ∧ (∃ lc lb, cIn u.2 o (.inr (8, [.ref bs_o, .ref js_o, .int jc_o, .ref sh_o, .ref wk_o, va_rf mo_o, .ref ll_o, .int lc, va_rf lb])))) := by
  refine Met.ofW (cc := cX9_list) (maxL := 6) (ret := (some .int)) (by decide) rfl ?_
  intro p e s m args below meth c s₁ B hml hv
  obtain ⟨rfl, hP, hK, hA, hV⟩ := hv
  have hx := B.exec
  have hb := B.bytes
  have hr := B.returns
  have hts := atoms_spec (ws := wsX9_list) B.pre
  have hown : s.vm.findClass RX9 = some m.cls := findClass_of_methodNamed B.named
  have hlocks := B.notSynchronized
  have hS : va_S A s.heap s.heap [] := va_S.rf
  have hX : cX none (chs [1, 7, 8, 17]) G ws G ws := cX.rf
  have hl := lv_entry ([.ref o, .int wide, .int high, .long p0]) (n := 6) (Nat.le_of_ble_eq_true rfl)
  rw [lg_entry_eq]
  generalize (lg_sl ([.ref o, .int wide, .int high, .long p0]) ++ List.replicate (6 - (lg_sl ([.ref o, .int wide, .int high, .long p0])).length) Slot.unset).toArray = ls at hl ⊢
  have hl : lv_has ls 6 [(0, .ref o), (1, .int wide), (2, .int high), (3, .long p0)] := hl
  have k_m3 : (-3 : Int32).toInt = -3 := by decide
  have k_m2 : (-2 : Int32).toInt = -2 := by decide
  have k_m1 : (-1 : Int32).toInt = -1 := by decide
  have k_0 : (0 : Int32).toInt = 0 := by decide
  have k_1 : (1 : Int32).toInt = 1 := by decide
  have k_12 : (12 : Int32).toInt = 12 := by decide
  obtain ⟨hjc_o, hlc_o, hG_bs_o, hG_js_o, hG_sh_o, hG_wk_o, hmo_o, hG_ll_o, hlb_o⟩ := w7sh hD hT hG_o hM_o
  refine lv_aload_n hx hb dX9_list_0 rfl (lv_at hl 0 rfl) ?_
  refine lv_iload_n hx hb dX9_list_1 rfl (lv_at hl 1 rfl) ?_
  refine lv_iload_n hx hb dX9_list_2 rfl (lv_at hl 2 rfl) ?_
  refine t_calla (va_runV (g := F0 m 3 ls ([.int high, .int wide, .ref o])) (As := [.int wide, .int high]) (rest := []) ⟨hx, hb, hml, hown, hts⟩ (c_X9_boardOf l D cy A G ws o wide high hD hT hG_o ) (cwV 2 hts gX9_list_X9_boardOf rfl rfl rfl (by decide +kernel) ⟨Nat.le_of_ble_eq_true rfl, Nat.le_of_ble_eq_true rfl⟩) (c_preV hM_o rfl hP hK hA hS hV) rfl rfl hl.1 rfl (lv_room (Nat.le_of_ble_eq_true rfl)) dX9_list_3 ⟨Nat.le_of_ble_eq_true rfl, Nat.le_of_ble_eq_true rfl⟩) hS (fun r3 u H locs q3 hP9 hD9 hT9 hS => ?_)
  obtain ⟨G3, w3⟩ := u
  obtain ⟨hX9, q3⟩ := q3
  have hX9 : cX none (chs [1, 8]) G ws G3 w3 := hX9
  have hP : va_P D vwCl w3 H := hP9
  have hD : va_D A w3 := hD9
  have hT : cT cy G3 w3 := hT9
  have hM_o := hX9.2.1 _ _ (cP.no hG_o rfl) hM_o
  have hG_o := hX9.1 _ _ hG_o
  have hG_bs_o := hX9.1 _ _ hG_bs_o
  have hG_js_o := hX9.1 _ _ hG_js_o
  have hG_sh_o := hX9.1 _ _ hG_sh_o
  have hG_wk_o := hX9.1 _ _ hG_wk_o
  have hG_ll_o := hX9.1 _ _ hG_ll_o
  have hmo_o := fun x9 z9 => hX9.1 _ _ (hmo_o x9 z9)
  have hlb_o : ∀ x9, lb_o = some x9 → ∃ w9 h9, _ = some (2, w9, h9) := fun x9 z9 => (hlb_o x9 z9).elim fun w9 z9 => z9.elim fun h9 z9 => ⟨w9, h9, hX9.1 _ _ z9⟩
  have hX := hX.tr (hX9.wk (chs_sub (by decide)))
  rcases r3 with _ | x3
  · skip
    refine lv_astoreN (lv' := [(5, .null), (0, .ref o), (1, .int wide), (2, .int high), (3, .long p0)]) hx hb dX9_list_6 hl (by decide) rfl (fun ls hl => ?_)
    refine lv_aloadN hx hb dX9_list_8 (lv_at hl 0 rfl) ?_
    refine lv_ifnullN (tgt := 22) hx hb dX9_list_10 (by decide) ?_
    refine lv_iconst (v := (-1)) hx hb dX9_list_22 (by decide) ?_
    refine W.widen (k := 4) (n := 502) (Nat.le_of_ble_eq_true rfl) (Nat.le_of_ble_eq_true rfl) ?_
    exact W.iret (v := ((-1) : Int32)) hx hb hr (fun t ht hW => ⟨⟨_, (G3, w3), rfl, ⟨hX, ⟨_, lb_o, hM_o⟩⟩, by show va_P D vwCl w3 t.heap; rw [ht]; exact hP, hD, hT⟩, hS.F ht⟩) hS.2.2 dX9_list_23
  · skip
    have hG_x3 := q3 x3 rfl
    refine lv_astore (lv' := [(5, .ref x3), (0, .ref o), (1, .int wide), (2, .int high), (3, .long p0)]) hx hb dX9_list_6 hl (by decide) rfl (fun ls hl => ?_)
    refine lv_aload hx hb dX9_list_8 (lv_at hl 0 rfl) ?_
    refine lv_ifnull hx hb dX9_list_10 ?_
    refine lv_aload hx hb dX9_list_13 (lv_at hl 0 rfl) ?_
    refine lv_lload_n hx hb dX9_list_15 rfl (lv_at hl 4 rfl) ?_
    obtain ⟨_, hM_x3, hb_x3, l_x3, f_x3, r_x3, rfl, hG_l_x3, hG_f_x3, hG_r_x3⟩ := hT _ _ hG_x3
    refine t_calli (va_runV (g := F0 m 16 ls ([.long p0, .ref x3])) (As := [.long p0]) (rest := []) ⟨hx, hb, hml, hown, hts⟩ (c_X0_isPicture l D cy A G3 w3 x3 p0 hD hT hG_x3 ) (cwV 1 hts gX9_list_X0_isPicture rfl rfl rfl (by decide +kernel) ⟨Nat.le_of_ble_eq_true rfl, Nat.le_of_ble_eq_true rfl⟩) (c_preV hM_x3 rfl hP hK hA hS hV) rfl rfl hl.1 rfl (lv_room (Nat.le_of_ble_eq_true rfl)) dX9_list_16 ⟨Nat.le_of_ble_eq_true rfl, Nat.le_of_ble_eq_true rfl⟩) hS (fun r16 u H locs q16 hP9 hD9 hT9 hS => ?_)
    obtain ⟨rfl, q16⟩ := q16
    have hP : va_P D vwCl w3 H := hP9
    refine lv_if_ne (tgt := 24) hx hb dX9_list_19 (by decide) (fun c19 => ?_) (fun c19 => ?_)
    · skip
      have d19 := c19
      rw [fa_eq] at d19
      refine lv_aload_n hx hb dX9_list_24 rfl (lv_at hl 1 rfl) ?_
      refine t_get (v := .int lc_o) (C := RX9) (T := TX9) (N := 9) hx hb hts (by decide +kernel) hown hK hP hM_o rfl 7 (by decide) (hts (.fieldLink RX9 46 "ShadowBench" "listCount" "I") (by decide +kernel)) (fun _ h9 => h9) rfl dX9_list_25 ?_
      refine lv_bipush (v := 12) hx hb dX9_list_28 (by decide) ?_
      refine lv_icmp_lt (tgt := 36) hx hb dX9_list_30 (by decide) (fun c30 => ?_) (fun c30 => ?_)
      · skip
        have d30 := c30
        rw [fa_lt] at d30
        refine lv_aload_n hx hb dX9_list_36 rfl (lv_at hl 1 rfl) ?_
        refine lv_iload_n hx hb dX9_list_37 rfl (lv_at hl 2 rfl) ?_
        refine lv_iload_n hx hb dX9_list_38 rfl (lv_at hl 3 rfl) ?_
        refine t_calli (va_runV (g := F0 m 39 ls ([.int high, .int wide, .ref o])) (As := [.int wide, .int high]) (rest := []) ⟨hx, hb, hml, hown, hts⟩ (c_X9_isOtherThanListed l D cy A G3 w3 o wide high hD hT hG_o ) (cwV 2 hts gX9_list_X9_isOtherThanListed rfl rfl rfl (by decide +kernel) ⟨Nat.le_of_ble_eq_true rfl, Nat.le_of_ble_eq_true rfl⟩) (c_preV hM_o rfl hP hK hA hS hV) rfl rfl hl.1 rfl (lv_room (Nat.le_of_ble_eq_true rfl)) dX9_list_39 ⟨Nat.le_of_ble_eq_true rfl, Nat.le_of_ble_eq_true rfl⟩) hS (fun r39 u H locs q39 hP9 hD9 hT9 hS => ?_)
        obtain ⟨rfl, q39⟩ := q39
        have hP : va_P D vwCl w3 H := hP9
        refine lv_if_ne (tgt := 53) hx hb dX9_list_42 (by decide) (fun c42 => ?_) (fun c42 => ?_)
        · skip
          have d42 := c42
          rw [fa_eq] at d42
          refine lv_bipush (v := (-3)) hx hb dX9_list_53 (by decide) ?_
          refine W.widen (k := 4) (n := 502) (Nat.le_of_ble_eq_true rfl) (Nat.le_of_ble_eq_true rfl) ?_
          exact W.iret (v := ((-3) : Int32)) hx hb hr (fun t ht hW => ⟨⟨_, (G3, w3), rfl, ⟨hX, ⟨_, lb_o, hM_o⟩⟩, by show va_P D vwCl w3 t.heap; rw [ht]; exact hP, hD, hT⟩, hS.F ht⟩) hS.2.2 dX9_list_55
        · skip
          have d42 := c42
          rw [fa_eq] at d42
          refine lv_aload_n hx hb dX9_list_45 rfl (lv_at hl 1 rfl) ?_
          refine lv_lload_n hx hb dX9_list_46 rfl (lv_at hl 4 rfl) ?_
          refine t_calli (va_runV (g := F0 m 47 ls ([.long p0, .ref o])) (As := [.long p0]) (rest := []) ⟨hx, hb, hml, hown, hts⟩ (c_X9_isListed l D cy A G3 w3 o p0 hD hT hG_o ) (cwV 1 hts gX9_list_X9_isListed rfl rfl rfl (by decide +kernel) ⟨Nat.le_of_ble_eq_true rfl, Nat.le_of_ble_eq_true rfl⟩) (c_preV hM_o rfl hP hK hA hS hV) rfl rfl hl.1 rfl (lv_room (Nat.le_of_ble_eq_true rfl)) dX9_list_47 ⟨Nat.le_of_ble_eq_true rfl, Nat.le_of_ble_eq_true rfl⟩) hS (fun r47 u H locs q47 hP9 hD9 hT9 hS => ?_)
          obtain ⟨rfl, q47⟩ := q47
          have hP : va_P D vwCl w3 H := hP9
          refine lv_if_eq (tgt := 56) hx hb dX9_list_50 (by decide) (fun c50 => ?_) (fun c50 => ?_)
          · skip
            have d50 := c50
            rw [fa_eq] at d50
            refine lv_aload_n hx hb dX9_list_56 rfl (lv_at hl 1 rfl) ?_
            refine lv_aload hx hb dX9_list_57 (lv_at hl 0 rfl) ?_
            refine t_put (v := .ref x3) (C := RX9) (T := TX9) (N := 9) (ty0 := tyX9) hx hb hts (by decide +kernel) tyX9_ok nmX9 hown hK hP hD hS hM_o rfl 8 (by decide) (hts (.fieldLink RX9 49 "ShadowBench" "listBoard" "LShadowBench$Board;") (by decide +kernel)) (fun _ h9 => h9) rfl rfl rfl (Nat.le_of_ble_eq_true rfl) dX9_list_59 (fun H locs w59 hU59 hP hD hS => ?_)
            have hM_x3 := hU59.2 _ _ (cne hG_x3 hG_o (show (2 : Nat) ≠ 7 by decide)) hM_x3
            have hT := hT.up hU59 hG_o ⟨_, _, _, _, _, _, _, mo_o, (some x3), rfl, ⟨by omega, by omega⟩, ⟨by omega, by omega⟩, hG_bs_o, hG_js_o, hG_sh_o, hG_wk_o, hmo_o, hG_ll_o, (fun _ z => Option.some.inj z ▸ ⟨_, _, hG_x3⟩)⟩
            have hM_o : cIn w59 o (.inr (8, [.ref bs_o, .ref js_o, .int jc_o, .ref sh_o, .ref wk_o, va_rf mo_o, .ref ll_o, .int lc_o, .ref x3])) := hU59.1
            have hX := hX.tr (cX.up hU59 (Or.inr ⟨_, hG_o, rfl⟩))
            refine lv_aload_n hx hb dX9_list_62 rfl (lv_at hl 1 rfl) ?_
            refine t_get (v := .ref ll_o) (C := RX9) (T := TX9) (N := 9) hx hb hts (by decide +kernel) hown hK hP hM_o rfl 6 (by decide) (hts (.fieldLink RX9 42 "ShadowBench" "listed" "[J") (by decide +kernel)) (fun _ h9 => h9) rfl dX9_list_63 ?_
            refine lv_aload_n hx hb dX9_list_66 rfl (lv_at hl 1 rfl) ?_
            refine t_get (v := .int lc_o) (C := RX9) (T := TX9) (N := 9) hx hb hts (by decide +kernel) hown hK hP hM_o rfl 7 (by decide) (hts (.fieldLink RX9 46 "ShadowBench" "listCount" "I") (by decide +kernel)) (fun _ h9 => h9) rfl dX9_list_67 ?_
            refine lv_lload_n hx hb dX9_list_70 rfl (lv_at hl 4 rfl) ?_
            refine t_last hx hb hK hP hD hS hT (Or.inr (Or.inr rfl)) hG_ll_o (vp_in_iff.mpr ⟨by omega, by omega⟩) dX9_list_71 (fun H locs w71 hU71 hP hD hT hS => ?_)
            have hM_o := hU71 _ _ (cne hG_o hG_ll_o (show (7 : Nat) ≠ 17 by decide)) hM_o
            have hM_x3 := hU71 _ _ (cne hG_x3 hG_ll_o (show (2 : Nat) ≠ 17 by decide)) hM_x3
            have hX := hX.tr (cX.uF hU71 (Or.inr ⟨_, hG_ll_o, rfl⟩))
            refine lv_aload_n hx hb dX9_list_72 rfl (lv_at hl 1 rfl) ?_
            refine lv_dup hx hb dX9_list_73 rfl ?_
            refine t_get (v := .int lc_o) (C := RX9) (T := TX9) (N := 9) hx hb hts (by decide +kernel) hown hK hP hM_o rfl 7 (by decide) (hts (.fieldLink RX9 46 "ShadowBench" "listCount" "I") (by decide +kernel)) (fun _ h9 => h9) rfl dX9_list_74 ?_
            refine lv_iconst (v := 1) hx hb dX9_list_77 (by decide) ?_
            refine lv_iadd hx hb dX9_list_78 ?_
            refine lv_topi (fun v78 e78 => ?_)
            have i78 : v78.toInt = lc_o.toInt + (1 : Int32).toInt := by rw [e78]; exact fb_addI (by omega) (by omega)
            refine t_put (v := .int v78) (C := RX9) (T := TX9) (N := 9) (ty0 := tyX9) hx hb hts (by decide +kernel) tyX9_ok nmX9 hown hK hP hD hS hM_o rfl 7 (by decide) (hts (.fieldLink RX9 46 "ShadowBench" "listCount" "I") (by decide +kernel)) (fun _ h9 => h9) rfl rfl rfl (Nat.le_of_ble_eq_true rfl) dX9_list_79 (fun H locs w79 hU79 hP hD hS => ?_)
            have hM_x3 := hU79.2 _ _ (cne hG_x3 hG_o (show (2 : Nat) ≠ 7 by decide)) hM_x3
            have hT := hT.up hU79 hG_o ⟨_, _, _, _, _, _, _, mo_o, (some x3), rfl, ⟨by omega, by omega⟩, ⟨by omega, by omega⟩, hG_bs_o, hG_js_o, hG_sh_o, hG_wk_o, hmo_o, hG_ll_o, (fun _ z => Option.some.inj z ▸ ⟨_, _, hG_x3⟩)⟩
            have hM_o : cIn w79 o (.inr (8, [.ref bs_o, .ref js_o, .int jc_o, .ref sh_o, .ref wk_o, va_rf mo_o, .ref ll_o, .int v78, .ref x3])) := hU79.1
            have hX := hX.tr (cX.up hU79 (Or.inr ⟨_, hG_o, rfl⟩))
            refine lv_aload_n hx hb dX9_list_82 rfl (lv_at hl 1 rfl) ?_
            refine t_get (v := .int v78) (C := RX9) (T := TX9) (N := 9) hx hb hts (by decide +kernel) hown hK hP hM_o rfl 7 (by decide) (hts (.fieldLink RX9 46 "ShadowBench" "listCount" "I") (by decide +kernel)) (fun _ h9 => h9) rfl dX9_list_83 ?_
            refine W.widen (k := 4) (n := 502) (Nat.le_of_ble_eq_true rfl) (Nat.le_of_ble_eq_true rfl) ?_
            exact W.iret (v := v78) hx hb hr (fun t ht hW => ⟨⟨_, (G3, w79), rfl, ⟨hX, ⟨_, (some x3), hM_o⟩⟩, by show va_P D vwCl w79 t.heap; rw [ht]; exact hP, hD, hT⟩, hS.F ht⟩) hS.2.2 dX9_list_86
          · skip
            have d50 := c50
            rw [fa_eq] at d50
            refine lv_bipush (v := (-3)) hx hb dX9_list_53 (by decide) ?_
            refine W.widen (k := 4) (n := 502) (Nat.le_of_ble_eq_true rfl) (Nat.le_of_ble_eq_true rfl) ?_
            exact W.iret (v := ((-3) : Int32)) hx hb hr (fun t ht hW => ⟨⟨_, (G3, w3), rfl, ⟨hX, ⟨_, lb_o, hM_o⟩⟩, by show va_P D vwCl w3 t.heap; rw [ht]; exact hP, hD, hT⟩, hS.F ht⟩) hS.2.2 dX9_list_55
      · skip
        have d30 := c30
        rw [fa_lt] at d30
        refine lv_bipush (v := (-2)) hx hb dX9_list_33 (by decide) ?_
        refine W.widen (k := 4) (n := 502) (Nat.le_of_ble_eq_true rfl) (Nat.le_of_ble_eq_true rfl) ?_
        exact W.iret (v := ((-2) : Int32)) hx hb hr (fun t ht hW => ⟨⟨_, (G3, w3), rfl, ⟨hX, ⟨_, lb_o, hM_o⟩⟩, by show va_P D vwCl w3 t.heap; rw [ht]; exact hP, hD, hT⟩, hS.F ht⟩) hS.2.2 dX9_list_35
    · skip
      have d19 := c19
      rw [fa_eq] at d19
      refine lv_iconst (v := (-1)) hx hb dX9_list_22 (by decide) ?_
      refine W.widen (k := 4) (n := 502) (Nat.le_of_ble_eq_true rfl) (Nat.le_of_ble_eq_true rfl) ?_
      exact W.iret (v := ((-1) : Int32)) hx hb hr (fun t ht hW => ⟨⟨_, (G3, w3), rfl, ⟨hX, ⟨_, lb_o, hM_o⟩⟩, by show va_P D vwCl w3 t.heap; rw [ht]; exact hP, hD, hT⟩, hS.F ht⟩) hS.2.2 dX9_list_23
set_option maxHeartbeats 4000000 in
set_option maxRecDepth 100000 in
theorem c_X9_clear_k (l : Launch) (D : va_G) (cy : Nat → ClassId) (A : Nat → Prop) (G : cG) (ws : va_W) (o : Nat) {bs_o js_o sh_o wk_o ll_o : Nat} {jc_o lc_o : Int32} {mo_o lb_o : Option Nat} (hD : va_D A ws) (hT : cT cy G ws) (hG_o : G o = some (7, 0, 0)) (hM_o : cIn ws o (.inr (8, [.ref bs_o, .ref js_o, .int jc_o, .ref sh_o, .ref wk_o, va_rf mo_o, .ref ll_o, .int lc_o, va_rf lb_o])))  : Ci l D cy A yX9_clear wsX9_clear ({ frames := 0, cells := 0, slots := 0, locals := 0 }) 0 0 ws [.ref o] (fun r0 u => cX none (chs [7]) G ws u.1 u.2 ∧ (∃ lc lb, cIn u.2 o (.inr (8, [.ref bs_o, .ref js_o, .int jc_o, .ref sh_o, .ref wk_o, va_rf mo_o, .ref ll_o, .int lc, va_rf lb])))) := by
  refine Met.ofW (cc := cX9_clear) (maxL := 2) (ret := (some .int)) (by decide) rfl ?_
  intro p e s m args below meth c s₁ B hml hv
  obtain ⟨rfl, hP, hK, hA, hV⟩ := hv
  have hx := B.exec
  have hb := B.bytes
  have hr := B.returns
  have hts := atoms_spec (ws := wsX9_clear) B.pre
  have hown : s.vm.findClass RX9 = some m.cls := findClass_of_methodNamed B.named
  have hlocks := B.notSynchronized
  have hS : va_S A s.heap s.heap [] := va_S.rf
  have hX : cX none (chs [7]) G ws G ws := cX.rf
  have hl := lv_entry ([.ref o]) (n := 2) (Nat.le_of_ble_eq_true rfl)
  rw [lg_entry_eq]
  generalize (lg_sl ([.ref o]) ++ List.replicate (2 - (lg_sl ([.ref o])).length) Slot.unset).toArray = ls at hl ⊢
  have hl : lv_has ls 2 [(0, .ref o)] := hl
  have k_0 : (0 : Int32).toInt = 0 := by decide
  obtain ⟨hjc_o, hlc_o, hG_bs_o, hG_js_o, hG_sh_o, hG_wk_o, hmo_o, hG_ll_o, hlb_o⟩ := w7sh hD hT hG_o hM_o
  refine lv_aload_n hx hb dX9_clear_0 rfl (lv_at hl 0 rfl) ?_
  refine t_get (v := .int lc_o) (C := RX9) (T := TX9) (N := 9) hx hb hts (by decide +kernel) hown hK hP hM_o rfl 7 (by decide) (hts (.fieldLink RX9 46 "ShadowBench" "listCount" "I") (by decide +kernel)) (fun _ h9 => h9) rfl dX9_clear_1 ?_
  refine lv_istore_n (lv' := [(1, .int lc_o), (0, .ref o)]) hx hb dX9_clear_4 rfl hl (by decide) rfl (fun ls hl => ?_)
  refine lv_aload_n hx hb dX9_clear_5 rfl (lv_at hl 1 rfl) ?_
  refine lv_iconst (v := 0) hx hb dX9_clear_6 (by decide) ?_
  refine t_put (v := .int (0 : Int32)) (C := RX9) (T := TX9) (N := 9) (ty0 := tyX9) hx hb hts (by decide +kernel) tyX9_ok nmX9 hown hK hP hD hS hM_o rfl 7 (by decide) (hts (.fieldLink RX9 46 "ShadowBench" "listCount" "I") (by decide +kernel)) (fun _ h9 => h9) rfl rfl rfl (Nat.le_of_ble_eq_true rfl) dX9_clear_7 (fun H locs w7 hU7 hP hD hS => ?_)
  have hT := hT.up hU7 hG_o ⟨_, _, _, _, _, _, _, mo_o, lb_o, rfl, ⟨by omega, by omega⟩, ⟨by omega, by omega⟩, hG_bs_o, hG_js_o, hG_sh_o, hG_wk_o, hmo_o, hG_ll_o, hlb_o⟩
  have hM_o : cIn w7 o (.inr (8, [.ref bs_o, .ref js_o, .int jc_o, .ref sh_o, .ref wk_o, va_rf mo_o, .ref ll_o, .int (0 : Int32), va_rf lb_o])) := hU7.1
  have hX := hX.tr (cX.up hU7 (Or.inr ⟨_, hG_o, rfl⟩))
  refine lv_aload_n hx hb dX9_clear_10 rfl (lv_at hl 1 rfl) ?_
  refine lv_null hx hb dX9_clear_11 ?_
  refine t_put (v := .null) (C := RX9) (T := TX9) (N := 9) (ty0 := tyX9) hx hb hts (by decide +kernel) tyX9_ok nmX9 hown hK hP hD hS hM_o rfl 8 (by decide) (hts (.fieldLink RX9 49 "ShadowBench" "listBoard" "LShadowBench$Board;") (by decide +kernel)) (fun _ h9 => h9) rfl rfl rfl (Nat.le_of_ble_eq_true rfl) dX9_clear_12 (fun H locs w12 hU12 hP hD hS => ?_)
  have hT := hT.up hU12 hG_o ⟨_, _, _, _, _, _, _, mo_o, none, rfl, ⟨by omega, by omega⟩, ⟨by omega, by omega⟩, hG_bs_o, hG_js_o, hG_sh_o, hG_wk_o, hmo_o, hG_ll_o, (fun _ z => nomatch z)⟩
  have hM_o : cIn w12 o (.inr (8, [.ref bs_o, .ref js_o, .int jc_o, .ref sh_o, .ref wk_o, va_rf mo_o, .ref ll_o, .int (0 : Int32), .null])) := hU12.1
  have hX := hX.tr (cX.up hU12 (Or.inr ⟨_, hG_o, rfl⟩))
  refine lv_iload_n hx hb dX9_clear_15 rfl (lv_at hl 0 rfl) ?_
  exact W.iret (v := lc_o) hx hb hr (fun t ht hW => ⟨⟨_, (G, w12), rfl, ⟨hX, ⟨_, none, hM_o⟩⟩, by show va_P D vwCl w12 t.heap; rw [ht]; exact hP, hD, hT⟩, hS.F ht⟩) hS.2.2 dX9_clear_16
set_option maxHeartbeats 4000000 in
set_option maxRecDepth 100000 in
theorem c_X9_newJob_z (l : Launch) (D : va_G) (cy : Nat → ClassId) (A : Nat → Prop) (G : cG) (ws : va_W) (kind : Int32) (b : Nat) {w h : Nat} (hD : va_D A ws) (hT : cT cy G ws) (hG_b : G b = some (2, w, h))  : Ca l D cy A yX9_newJob wsX9_newJob ({ frames := 5, cells := 3, slots := 86, locals := 103 }) 3 86 ws [.int kind, .ref b] (fun r0 u => cX none (chs []) G ws u.1 u.2 ∧ (∃ x, r0 = some x ∧ u.1 x = some (3, kcl kind, 8 * w + h) ∧ (∀ e, ¬ cIn ws x e) ∧ ∃ a ms, u.1 a = some (14, 44, 0) ∧ (∀ e, ¬ cIn ws a e) ∧ cIn u.2 x (.inr (kcl kind, .ref b :: .ref a :: .int (nI 3) :: .long 0 :: .long 0 :: ms)) ∧ cIn u.2 a (.inl (cy 0, 44, .inl (fun _ => 0))) ∧ (kcl kind = 4 → ∃ c, ms = [.ref c] ∧ u.1 c = some (14, w * h, 0) ∧ (∀ e, ¬ cIn ws c e) ∧ c ≠ a ∧ cIn u.2 c (.inl (cy 0, w * h, .inl (fun _ => 0)))))) := by
  refine Met.ofW (cc := cX9_newJob) (maxL := 2) (ret := (some (.object "ShadowBench$Job"))) (by decide) rfl ?_
  intro p e s m args below meth c s₁ B hml hv
  obtain ⟨rfl, hP, hK, hA, hV⟩ := hv
  have hx := B.exec
  have hb := B.bytes
  have hr := B.returns
  have hts := atoms_spec (ws := wsX9_newJob) B.pre
  have hown : s.vm.findClass RX9 = some m.cls := findClass_of_methodNamed B.named
  have hlocks := B.notSynchronized
  have hS : va_S A s.heap s.heap [] := va_S.rf
  have hX : cX none (chs []) G ws G ws := cX.rf
  have hl := lv_entry ([.int kind, .ref b]) (n := 2) (Nat.le_of_ble_eq_true rfl)
  rw [lg_entry_eq]
  generalize (lg_sl ([.int kind, .ref b]) ++ List.replicate (2 - (lg_sl ([.int kind, .ref b])).length) Slot.unset).toArray = ls at hl ⊢
  have hl : lv_has ls 2 [(0, .int kind), (1, .ref b)] := hl
  have k_0 : (0 : Int32).toInt = 0 := by decide
  refine lv_iload_n hx hb dX9_newJob_0 rfl (lv_at hl 0 rfl) ?_
  by_cases s1_0 : kind.toInt = 1
  · skip
    refine lv_tableIn (off := 27) (tgt := 28) hx hb dX9_newJob_1 (by omega) (by omega) (by rw [s1_0]; rfl) (by decide) ?_
    refine t_new (C := RX4) (T := TX4) (N := 5) (ci := 3) (ty0 := tyX4) (fs := [.null, .null, .int 0, .long 0, .long 0]) hx hb hts (by decide +kernel) tyX4_ok hown (hts (.classLink RX9 292 RX4) (by decide +kernel)) (hts (.instantiable RX4 5) (by decide +kernel)) (hts (.initialized RX4) (by decide +kernel)) hK hP hD hS hA hT rfl (by decide +kernel) (Nat.le_of_ble_eq_true rfl) (Nat.le_of_ble_eq_true rfl) dX9_newJob_28 (fun q28 H w28 hM_q28 hO_q28 hF28 hX28 hk28 hP hD hT hS => ?_)
    have hN_q28 := hX.new0 hO_q28 hF28
    have hX := hX.tr (hX28 _ _)
    refine lv_dup hx hb dX9_newJob_31 rfl ?_
    refine lv_aload_n hx hb dX9_newJob_32 rfl (lv_at hl 1 rfl) ?_
    refine t_callv (va_runI (g := F0 m 33 ls ([.ref b, .ref q28, .ref q28])) (As := [.ref b]) (rest := [.ref q28]) (b := q28) ⟨hx, hb, hml, hown, hts⟩ (c_X4_init_w l D cy A G w28 q28 b hD hT hO_q28 hM_q28 hG_b (by unfold cKc; omega)) (cwI 1 hts gX9_newJob_X4_init rfl rfl rfl (hts (.initialized RX4) (by decide +kernel)) (hts (.methodLink RX9 294 yX4_init) (by decide +kernel)) (hts (.instanceMethod yX4_init) (by decide +kernel)) rfl (by decide +kernel) ⟨Nat.le_of_ble_eq_true rfl, Nat.le_of_ble_eq_true rfl⟩) (c_preS hP hK hA hS hV) rfl rfl hl.1 rfl (lv_room (Nat.le_of_ble_eq_true rfl)) dX9_newJob_33 ⟨Nat.le_of_ble_eq_true rfl, Nat.le_of_ble_eq_true rfl⟩) hS (fun u H locs q33 hP9 hD9 hT9 hS => ?_)
    obtain ⟨G33, w33⟩ := u
    obtain ⟨hX9, q33⟩ := q33
    have hX9 : cX (some q28) (chs []) G w28 G33 w33 := hX9
    obtain ⟨hOx33, a33, hG_a33, hN9_a33, hMx_a33, hMx33⟩ := q33
    have hN_a33 := hX.new0 (hT.no hN9_a33) hN9_a33
    have hP : va_P D vwCl w33 H := hP9
    have hD : va_D A w33 := hD9
    have hT : cT cy G33 w33 := hT9
    have hG_b := hX9.1 _ _ hG_b
    have hO_q28 := hOx33
    have hM_a33 := hMx_a33
    have hM_q28 : cIn w33 q28 (.inr (3, [.ref b, .ref a33, .int 3, .long 0, .long 0])) := hMx33
    have hX := hX.trN hN_q28 hX9
    obtain ⟨Gk33, hGk⟩ : ∃ z, z = va_up G33 q28 (some (3, 3, 8 * w + h)) := ⟨_, rfl⟩
    have hE9 : cE G33 Gk33 := by rw [hGk]; exact cE.add hO_q28
    have hG_q28 : Gk33 q28 = some (3, 3, 8 * w + h) := by rw [hGk]; simp [va_up]
    have hG_b := hE9 _ _ hG_b
    have hG_a33 := hE9 _ _ hG_a33
    have hT : cT cy Gk33 w33 := by rw [hGk]; exact hT.kind hO_q28 hM_q28 (by rw [← hGk]; exact ⟨_, _, _, _, _, _, _, _, rfl, hG_b, hG_a33, ⟨rfl, Or.inr (Or.inr (Or.inl ⟨rfl, rfl⟩))⟩⟩)
    have hX := hX.trN hN_q28 (show cX (some q28) (chs []) G33 w33 Gk33 w33 by rw [hGk]; exact cX.kind hO_q28)
    have hJ_q28 : cJk Gk33 3 (8 * w + h) w h [] := ⟨rfl, Or.inr (Or.inr (Or.inl ⟨rfl, rfl⟩))⟩
    refine W.widen (k := 3) (n := 86) (Nat.le_of_ble_eq_true rfl) (Nat.le_of_ble_eq_true rfl) ?_
    exact W.aret (v := .ref q28) hx hb hr (Or.inl ⟨_, rfl⟩) (Or.inr ⟨_, rfl⟩) (fun t ht hW => ⟨⟨(some q28), (Gk33, w33), rfl, ⟨hX, (by have ek9 : kcl kind = 3 := (by unfold kcl; rw [if_pos s1_0]); rw [ek9]; exact ⟨_, rfl, hG_q28, hN_q28, _, _, hG_a33, hN_a33, hM_q28, hM_a33, (fun z9 => absurd z9 (by decide))⟩)⟩, by show va_P D vwCl w33 t.heap; rw [ht]; exact hP, hD, hT⟩, hS.F ht⟩) hS.2.2 dX9_newJob_36
  by_cases s1_1 : kind.toInt = 2
  · skip
    refine lv_tableIn (off := 36) (tgt := 37) hx hb dX9_newJob_1 (by omega) (by omega) (by rw [s1_1]; rfl) (by decide) ?_
    refine t_new (C := RX1) (T := TX1) (N := 5) (ci := 1) (ty0 := tyX1) (fs := [.null, .null, .int 0, .long 0, .long 0]) hx hb hts (by decide +kernel) tyX1_ok hown (hts (.classLink RX9 297 RX1) (by decide +kernel)) (hts (.instantiable RX1 5) (by decide +kernel)) (hts (.initialized RX1) (by decide +kernel)) hK hP hD hS hA hT rfl (by decide +kernel) (Nat.le_of_ble_eq_true rfl) (Nat.le_of_ble_eq_true rfl) dX9_newJob_37 (fun q37 H w37 hM_q37 hO_q37 hF37 hX37 hk37 hP hD hT hS => ?_)
    have hN_q37 := hX.new0 hO_q37 hF37
    have hX := hX.tr (hX37 _ _)
    refine lv_dup hx hb dX9_newJob_40 rfl ?_
    refine lv_aload_n hx hb dX9_newJob_41 rfl (lv_at hl 1 rfl) ?_
    refine t_callv (va_runI (g := F0 m 42 ls ([.ref b, .ref q37, .ref q37])) (As := [.ref b]) (rest := [.ref q37]) (b := q37) ⟨hx, hb, hml, hown, hts⟩ (c_X1_init_w l D cy A G w37 q37 b hD hT hO_q37 hM_q37 hG_b (by unfold cKc; omega)) (cwI 1 hts gX9_newJob_X1_init rfl rfl rfl (hts (.initialized RX1) (by decide +kernel)) (hts (.methodLink RX9 299 yX1_init) (by decide +kernel)) (hts (.instanceMethod yX1_init) (by decide +kernel)) rfl (by decide +kernel) ⟨Nat.le_of_ble_eq_true rfl, Nat.le_of_ble_eq_true rfl⟩) (c_preS hP hK hA hS hV) rfl rfl hl.1 rfl (lv_room (Nat.le_of_ble_eq_true rfl)) dX9_newJob_42 ⟨Nat.le_of_ble_eq_true rfl, Nat.le_of_ble_eq_true rfl⟩) hS (fun u H locs q42 hP9 hD9 hT9 hS => ?_)
    obtain ⟨G42, w42⟩ := u
    obtain ⟨hX9, q42⟩ := q42
    have hX9 : cX (some q37) (chs []) G w37 G42 w42 := hX9
    obtain ⟨hOx42, a42, hG_a42, hN9_a42, hMx_a42, hMx42⟩ := q42
    have hN_a42 := hX.new0 (hT.no hN9_a42) hN9_a42
    have hP : va_P D vwCl w42 H := hP9
    have hD : va_D A w42 := hD9
    have hT : cT cy G42 w42 := hT9
    have hG_b := hX9.1 _ _ hG_b
    have hO_q37 := hOx42
    have hM_a42 := hMx_a42
    have hM_q37 : cIn w42 q37 (.inr (1, [.ref b, .ref a42, .int 3, .long 0, .long 0])) := hMx42
    have hX := hX.trN hN_q37 hX9
    obtain ⟨Gk42, hGk⟩ : ∃ z, z = va_up G42 q37 (some (3, 1, 8 * w + h)) := ⟨_, rfl⟩
    have hE9 : cE G42 Gk42 := by rw [hGk]; exact cE.add hO_q37
    have hG_q37 : Gk42 q37 = some (3, 1, 8 * w + h) := by rw [hGk]; simp [va_up]
    have hG_b := hE9 _ _ hG_b
    have hG_a42 := hE9 _ _ hG_a42
    have hT : cT cy Gk42 w42 := by rw [hGk]; exact hT.kind hO_q37 hM_q37 (by rw [← hGk]; exact ⟨_, _, _, _, _, _, _, _, rfl, hG_b, hG_a42, ⟨rfl, Or.inl ⟨rfl, rfl⟩⟩⟩)
    have hX := hX.trN hN_q37 (show cX (some q37) (chs []) G42 w42 Gk42 w42 by rw [hGk]; exact cX.kind hO_q37)
    have hJ_q37 : cJk Gk42 1 (8 * w + h) w h [] := ⟨rfl, Or.inl ⟨rfl, rfl⟩⟩
    refine W.widen (k := 3) (n := 86) (Nat.le_of_ble_eq_true rfl) (Nat.le_of_ble_eq_true rfl) ?_
    exact W.aret (v := .ref q37) hx hb hr (Or.inl ⟨_, rfl⟩) (Or.inr ⟨_, rfl⟩) (fun t ht hW => ⟨⟨(some q37), (Gk42, w42), rfl, ⟨hX, (by have ek9 : kcl kind = 1 := (by unfold kcl; rw [if_neg s1_0, if_pos s1_1]); rw [ek9]; exact ⟨_, rfl, hG_q37, hN_q37, _, _, hG_a42, hN_a42, hM_q37, hM_a42, (fun z9 => absurd z9 (by decide))⟩)⟩, by show va_P D vwCl w42 t.heap; rw [ht]; exact hP, hD, hT⟩, hS.F ht⟩) hS.2.2 dX9_newJob_45
  by_cases s1_2 : kind.toInt = 3
  · skip
    refine lv_tableIn (off := 45) (tgt := 46) hx hb dX9_newJob_1 (by omega) (by omega) (by rw [s1_2]; rfl) (by decide) ?_
    refine t_new (C := RX5) (T := TX5) (N := 6) (ci := 4) (ty0 := tyX5) (fs := [.null, .null, .int 0, .long 0, .long 0, .null]) hx hb hts (by decide +kernel) tyX5_ok hown (hts (.classLink RX9 112 RX5) (by decide +kernel)) (hts (.instantiable RX5 6) (by decide +kernel)) (hts (.initialized RX5) (by decide +kernel)) hK hP hD hS hA hT rfl (by decide +kernel) (Nat.le_of_ble_eq_true rfl) (Nat.le_of_ble_eq_true rfl) dX9_newJob_46 (fun q46 H w46 hM_q46 hO_q46 hF46 hX46 hk46 hP hD hT hS => ?_)
    have hN_q46 := hX.new0 hO_q46 hF46
    have hX := hX.tr (hX46 _ _)
    refine lv_dup hx hb dX9_newJob_49 rfl ?_
    refine lv_aload_n hx hb dX9_newJob_50 rfl (lv_at hl 1 rfl) ?_
    refine t_callv (va_runI (g := F0 m 51 ls ([.ref b, .ref q46, .ref q46])) (As := [.ref b]) (rest := [.ref q46]) (b := q46) ⟨hx, hb, hml, hown, hts⟩ (c_X5_init_w l D cy A G w46 q46 b hD hT hO_q46 hM_q46 hG_b ) (cwI 1 hts gX9_newJob_X5_init rfl rfl rfl (hts (.initialized RX5) (by decide +kernel)) (hts (.methodLink RX9 300 yX5_init) (by decide +kernel)) (hts (.instanceMethod yX5_init) (by decide +kernel)) rfl (by decide +kernel) ⟨Nat.le_of_ble_eq_true rfl, Nat.le_of_ble_eq_true rfl⟩) (c_preS hP hK hA hS hV) rfl rfl hl.1 rfl (lv_room (Nat.le_of_ble_eq_true rfl)) dX9_newJob_51 ⟨Nat.le_of_ble_eq_true rfl, Nat.le_of_ble_eq_true rfl⟩) hS (fun u H locs q51 hP9 hD9 hT9 hS => ?_)
    obtain ⟨G51, w51⟩ := u
    obtain ⟨hX9, q51⟩ := q51
    have hX9 : cX (some q46) (chs []) G w46 G51 w51 := hX9
    obtain ⟨hOx51, a51, hG_a51, hN9_a51, hMx_a51, c51, hG_c51, hN9_c51, hne_c51, hMx_c51, hMx51⟩ := q51
    have hN_a51 := hX.new0 (hT.no hN9_a51) hN9_a51
    have hN_c51 := hX.new0 (hT.no hN9_c51) hN9_c51
    have hP : va_P D vwCl w51 H := hP9
    have hD : va_D A w51 := hD9
    have hT : cT cy G51 w51 := hT9
    have hG_b := hX9.1 _ _ hG_b
    have hO_q46 := hOx51
    have hM_a51 := hMx_a51
    have hM_c51 := hMx_c51
    have hM_q46 : cIn w51 q46 (.inr (4, [.ref b, .ref a51, .int 3, .long 0, .long 0, .ref c51])) := hMx51
    have hX := hX.trN hN_q46 hX9
    have hb9 := cb_mul (c_hb hT hG_b)
    obtain ⟨Gk51, hGk⟩ : ∃ z, z = va_up G51 q46 (some (3, 4, 8 * w + h)) := ⟨_, rfl⟩
    have hE9 : cE G51 Gk51 := by rw [hGk]; exact cE.add hO_q46
    have hG_q46 : Gk51 q46 = some (3, 4, 8 * w + h) := by rw [hGk]; simp [va_up]
    have hG_b := hE9 _ _ hG_b
    have hG_a51 := hE9 _ _ hG_a51
    have hG_c51 := hE9 _ _ hG_c51
    have hT : cT cy Gk51 w51 := by rw [hGk]; exact hT.kind hO_q46 hM_q46 (by rw [← hGk]; exact ⟨_, _, _, _, _, _, _, _, rfl, hG_b, hG_a51, ⟨rfl, Or.inr (Or.inr (Or.inr ⟨rfl, _, rfl, hG_c51⟩))⟩⟩)
    have hX := hX.trN hN_q46 (show cX (some q46) (chs []) G51 w51 Gk51 w51 by rw [hGk]; exact cX.kind hO_q46)
    have hJ_q46 : cJk Gk51 4 (8 * w + h) w h [.ref c51] := ⟨rfl, Or.inr (Or.inr (Or.inr ⟨rfl, _, rfl, hG_c51⟩))⟩
    refine W.widen (k := 3) (n := 86) (Nat.le_of_ble_eq_true rfl) (Nat.le_of_ble_eq_true rfl) ?_
    exact W.aret (v := .ref q46) hx hb hr (Or.inl ⟨_, rfl⟩) (Or.inr ⟨_, rfl⟩) (fun t ht hW => ⟨⟨(some q46), (Gk51, w51), rfl, ⟨hX, (by have ek9 : kcl kind = 4 := (by unfold kcl; rw [if_neg s1_0, if_neg s1_1, if_pos s1_2]); rw [ek9]; exact ⟨_, rfl, hG_q46, hN_q46, _, _, hG_a51, hN_a51, hM_q46, hM_a51, (fun _ => ⟨_, rfl, hG_c51, hN_c51, hne_c51, hM_c51⟩)⟩)⟩, by show va_P D vwCl w51 t.heap; rw [ht]; exact hP, hD, hT⟩, hS.F ht⟩) hS.2.2 dX9_newJob_54
  refine lv_tableOut (tgt := 55) hx hb dX9_newJob_1 (by omega) (by decide) ?_
  refine t_new (C := RX3) (T := TX3) (N := 5) (ci := 2) (ty0 := tyX3) (fs := [.null, .null, .int 0, .long 0, .long 0]) hx hb hts (by decide +kernel) tyX3_ok hown (hts (.classLink RX9 15 RX3) (by decide +kernel)) (hts (.instantiable RX3 5) (by decide +kernel)) (hts (.initialized RX3) (by decide +kernel)) hK hP hD hS hA hT rfl (by decide +kernel) (Nat.le_of_ble_eq_true rfl) (Nat.le_of_ble_eq_true rfl) dX9_newJob_55 (fun q55 H w55 hM_q55 hO_q55 hF55 hX55 hk55 hP hD hT hS => ?_)
  have hN_q55 := hX.new0 hO_q55 hF55
  have hX := hX.tr (hX55 _ _)
  refine lv_dup hx hb dX9_newJob_58 rfl ?_
  refine lv_aload_n hx hb dX9_newJob_59 rfl (lv_at hl 1 rfl) ?_
  refine t_callv (va_runI (g := F0 m 60 ls ([.ref b, .ref q55, .ref q55])) (As := [.ref b]) (rest := [.ref q55]) (b := q55) ⟨hx, hb, hml, hown, hts⟩ (c_X3_init_w l D cy A G w55 q55 b hD hT hO_q55 hM_q55 hG_b (by unfold cKc; omega)) (cwI 1 hts gX9_newJob_X3_init rfl rfl rfl (hts (.initialized RX3) (by decide +kernel)) (hts (.methodLink RX9 301 yX3_init) (by decide +kernel)) (hts (.instanceMethod yX3_init) (by decide +kernel)) rfl (by decide +kernel) ⟨Nat.le_of_ble_eq_true rfl, Nat.le_of_ble_eq_true rfl⟩) (c_preS hP hK hA hS hV) rfl rfl hl.1 rfl (lv_room (Nat.le_of_ble_eq_true rfl)) dX9_newJob_60 ⟨Nat.le_of_ble_eq_true rfl, Nat.le_of_ble_eq_true rfl⟩) hS (fun u H locs q60 hP9 hD9 hT9 hS => ?_)
  obtain ⟨G60, w60⟩ := u
  obtain ⟨hX9, q60⟩ := q60
  have hX9 : cX (some q55) (chs []) G w55 G60 w60 := hX9
  obtain ⟨hOx60, a60, hG_a60, hN9_a60, hMx_a60, hMx60⟩ := q60
  have hN_a60 := hX.new0 (hT.no hN9_a60) hN9_a60
  have hP : va_P D vwCl w60 H := hP9
  have hD : va_D A w60 := hD9
  have hT : cT cy G60 w60 := hT9
  have hG_b := hX9.1 _ _ hG_b
  have hO_q55 := hOx60
  have hM_a60 := hMx_a60
  have hM_q55 : cIn w60 q55 (.inr (2, [.ref b, .ref a60, .int 3, .long 0, .long 0])) := hMx60
  have hX := hX.trN hN_q55 hX9
  obtain ⟨Gk60, hGk⟩ : ∃ z, z = va_up G60 q55 (some (3, 2, 8 * w + h)) := ⟨_, rfl⟩
  have hE9 : cE G60 Gk60 := by rw [hGk]; exact cE.add hO_q55
  have hG_q55 : Gk60 q55 = some (3, 2, 8 * w + h) := by rw [hGk]; simp [va_up]
  have hG_b := hE9 _ _ hG_b
  have hG_a60 := hE9 _ _ hG_a60
  have hT : cT cy Gk60 w60 := by rw [hGk]; exact hT.kind hO_q55 hM_q55 (by rw [← hGk]; exact ⟨_, _, _, _, _, _, _, _, rfl, hG_b, hG_a60, ⟨rfl, Or.inr (Or.inl ⟨rfl, rfl⟩)⟩⟩)
  have hX := hX.trN hN_q55 (show cX (some q55) (chs []) G60 w60 Gk60 w60 by rw [hGk]; exact cX.kind hO_q55)
  have hJ_q55 : cJk Gk60 2 (8 * w + h) w h [] := ⟨rfl, Or.inr (Or.inl ⟨rfl, rfl⟩)⟩
  refine W.widen (k := 3) (n := 86) (Nat.le_of_ble_eq_true rfl) (Nat.le_of_ble_eq_true rfl) ?_
  exact W.aret (v := .ref q55) hx hb hr (Or.inl ⟨_, rfl⟩) (Or.inr ⟨_, rfl⟩) (fun t ht hW => ⟨⟨(some q55), (Gk60, w60), rfl, ⟨hX, (by have ek9 : kcl kind = 2 := (by unfold kcl; rw [if_neg s1_0, if_neg s1_1, if_neg s1_2]); rw [ek9]; exact ⟨_, rfl, hG_q55, hN_q55, _, _, hG_a60, hN_a60, hM_q55, hM_a60, (fun z9 => absurd z9 (by decide))⟩)⟩, by show va_P D vwCl w60 t.heap; rw [ht]; exact hP, hD, hT⟩, hS.F ht⟩) hS.2.2 dX9_newJob_63
set_option maxHeartbeats 4000000 in
set_option maxRecDepth 100000 in
theorem c_X9_job_z (l : Launch) (D : va_G) (cy : Nat → ClassId) (A : Nat → Prop) (G : cG) (ws : va_W) (o : Nat) (kind : Int32) (wide : Int32) (high : Int32) {bs_o js_o sh_o wk_o ll_o : Nat} {jc_o lc_o : Int32} {mo_o lb_o : Option Nat} {fa : Nat → Option Nat} {Wd Ht : Nat → Nat} (hD : va_D A ws) (hT : cT cy G ws) (hG_o : G o = some (7, 0, 0)) (hM_o : cIn ws o (.inr (8, [.ref bs_o, .ref js_o, .int jc_o, .ref sh_o, .ref wk_o, va_rf mo_o, .ref ll_o, .int lc_o, va_rf lb_o]))) (hM_js_o : cIn ws js_o (.inl (cy 4, cqa 8 fa)))  : Ci l D cy A yX9_job wsX9_job ({ frames := 6, cells := 7, slots := 588, locals := 124 }) 7 588 ws [.ref o, .int kind, .int wide, .int high] (fun r0 u => cX none (chs [1, 7, 8, 9]) G ws u.1 u.2 ∧ (r0.toInt = jA kind wide high jc_o ∧ ∃ jc fb, cIn u.2 o (.inr (8, [.ref bs_o, .ref js_o, .int jc, .ref sh_o, .ref wk_o, va_rf mo_o, .ref ll_o, .int lc_o, va_rf lb_o])) ∧ cIn u.2 js_o (.inl (cy 4, cqa 8 fb)) ∧ ((okJ kind wide high jc_o ∧ jc.toInt = jc_o.toInt + 1 ∧ ∃ x b a ms, fb = va_up fa jc_o.toNatClampNeg (some x) ∧ u.1 x = some (3, kcl kind, 8 * wide.toNatClampNeg + high.toNatClampNeg) ∧ (∀ e, ¬ cIn ws x e) ∧ (∀ e, ¬ cIn ws a e) ∧ cIn u.2 x (.inr (kcl kind, .ref b :: .ref a :: .int (nI 3) :: .long 0 :: .long 0 :: ms)) ∧ cIn u.2 a (.inl (cy 0, 44, .inl (fun _ => 0))) ∧ (kcl kind = 4 → ∃ c, ms = [.ref c] ∧ (∀ e, ¬ cIn ws c e) ∧ c ≠ a ∧ cIn u.2 c (.inl (cy 0, wide.toNatClampNeg * high.toNatClampNeg, .inl (fun _ => 0))))) ∨ (¬ okJ kind wide high jc_o ∧ jc = jc_o ∧ fb = fa)))) := by
  refine Met.ofW (cc := cX9_job) (maxL := 5) (ret := (some .int)) (by decide) rfl ?_
  intro p e s m args below meth c s₁ B hml hv
  obtain ⟨rfl, hP, hK, hA, hV⟩ := hv
  have hx := B.exec
  have hb := B.bytes
  have hr := B.returns
  have hts := atoms_spec (ws := wsX9_job) B.pre
  have hown : s.vm.findClass RX9 = some m.cls := findClass_of_methodNamed B.named
  have hlocks := B.notSynchronized
  have hS : va_S A s.heap s.heap [] := va_S.rf
  have hX : cX none (chs [1, 7, 8, 9]) G ws G ws := cX.rf
  have hl := lv_entry ([.ref o, .int kind, .int wide, .int high]) (n := 5) (Nat.le_of_ble_eq_true rfl)
  rw [lg_entry_eq]
  generalize (lg_sl ([.ref o, .int kind, .int wide, .int high]) ++ List.replicate (5 - (lg_sl ([.ref o, .int kind, .int wide, .int high])).length) Slot.unset).toArray = ls at hl ⊢
  have hl : lv_has ls 5 [(0, .ref o), (1, .int kind), (2, .int wide), (3, .int high)] := hl
  have k_m2 : (-2 : Int32).toInt = -2 := by decide
  have k_m1 : (-1 : Int32).toInt = -1 := by decide
  have k_0 : (0 : Int32).toInt = 0 := by decide
  have k_1 : (1 : Int32).toInt = 1 := by decide
  have k_3 : (3 : Int32).toInt = 3 := by decide
  have k_8 : (8 : Int32).toInt = 8 := by decide
  obtain ⟨hjc_o, hlc_o, hG_bs_o, hG_js_o, hG_sh_o, hG_wk_o, hmo_o, hG_ll_o, hlb_o⟩ := w7sh hD hT hG_o hM_o
  have hf_js_o := w9sh hD hT hG_js_o hM_js_o
  refine lv_aload_n hx hb dX9_job_0 rfl (lv_at hl 0 rfl) ?_
  refine lv_iload_n hx hb dX9_job_1 rfl (lv_at hl 2 rfl) ?_
  refine lv_iload_n hx hb dX9_job_2 rfl (lv_at hl 3 rfl) ?_
  refine t_calla (va_runV (g := F0 m 3 ls ([.int high, .int wide, .ref o])) (As := [.int wide, .int high]) (rest := []) ⟨hx, hb, hml, hown, hts⟩ (c_X9_boardOf_x l D cy A G ws o wide high hD hT hG_o ) (cwV 2 hts gX9_job_X9_boardOf rfl rfl rfl (by decide +kernel) ⟨Nat.le_of_ble_eq_true rfl, Nat.le_of_ble_eq_true rfl⟩) (c_preV hM_o rfl hP hK hA hS hV) rfl rfl hl.1 rfl (lv_room (Nat.le_of_ble_eq_true rfl)) dX9_job_3 ⟨Nat.le_of_ble_eq_true rfl, Nat.le_of_ble_eq_true rfl⟩) hS (fun r3 u H locs q3 hP9 hD9 hT9 hS => ?_)
  obtain ⟨G3, w3⟩ := u
  obtain ⟨hX9, q3⟩ := q3
  have hX9 : cX none (chs [1, 8]) G ws G3 w3 := hX9
  have hP : va_P D vwCl w3 H := hP9
  have hD : va_D A w3 := hD9
  have hT : cT cy G3 w3 := hT9
  have hM_o := hX9.2.1 _ _ (cP.no hG_o rfl) hM_o
  have hM_js_o := hX9.2.1 _ _ (cP.no hG_js_o rfl) hM_js_o
  have hG_o := hX9.1 _ _ hG_o
  have hG_bs_o := hX9.1 _ _ hG_bs_o
  have hG_js_o := hX9.1 _ _ hG_js_o
  have hG_sh_o := hX9.1 _ _ hG_sh_o
  have hG_wk_o := hX9.1 _ _ hG_wk_o
  have hG_ll_o := hX9.1 _ _ hG_ll_o
  have hf_js_o := fun i9 x9 (h9 : i9 < 8) z9 => (hf_js_o i9 x9 h9 z9).elim fun k9 z8 => z8.elim fun n9 z7 => (⟨k9, n9, hX9.1 _ _ z7⟩ : ∃ k n, G3 x9 = some (3, k, n))
  have hmo_o := fun x9 z9 => hX9.1 _ _ (hmo_o x9 z9)
  have hlb_o : ∀ x9, lb_o = some x9 → ∃ w9 h9, _ = some (2, w9, h9) := fun x9 z9 => (hlb_o x9 z9).elim fun w9 z9 => z9.elim fun h9 z9 => ⟨w9, h9, hX9.1 _ _ z9⟩
  have hX := hX.tr (hX9.wk (chs_sub (by decide)))
  rcases r3 with _ | x3
  · skip
    have vn3 := q3.2.1 rfl
    refine lv_astoreN (lv' := [(4, .null), (0, .ref o), (1, .int kind), (2, .int wide), (3, .int high)]) hx hb dX9_job_6 hl (by decide) rfl (fun ls hl => ?_)
    refine lv_aloadN hx hb dX9_job_8 (lv_at hl 0 rfl) ?_
    refine lv_ifnullN (tgt := 22) hx hb dX9_job_10 (by decide) ?_
    refine lv_iconst (v := (-1)) hx hb dX9_job_22 (by decide) ?_
    refine W.widen (k := 7) (n := 588) (Nat.le_of_ble_eq_true rfl) (Nat.le_of_ble_eq_true rfl) ?_
    exact W.iret (v := ((-1) : Int32)) hx hb hr (fun t ht hW => ⟨⟨_, (G3, w3), rfl, ⟨hX, ⟨(by unfold jA; rw [if_neg (by omega)]; rfl), _, _, hM_o, hM_js_o, Or.inr ⟨(by unfold okJ; omega), rfl, rfl⟩⟩⟩, by show va_P D vwCl w3 t.heap; rw [ht]; exact hP, hD, hT⟩, hS.F ht⟩) hS.2.2 dX9_job_23
  · skip
    have hG_x3 := q3.1 x3 rfl
    have vb3 := q3.2.2 x3 rfl
    refine lv_astore (lv' := [(4, .ref x3), (0, .ref o), (1, .int kind), (2, .int wide), (3, .int high)]) hx hb dX9_job_6 hl (by decide) rfl (fun ls hl => ?_)
    refine lv_aload hx hb dX9_job_8 (lv_at hl 0 rfl) ?_
    refine lv_ifnull hx hb dX9_job_10 ?_
    refine lv_iload_n hx hb dX9_job_13 rfl (lv_at hl 2 rfl) ?_
    refine lv_if_lt (tgt := 22) hx hb dX9_job_14 (by decide) (fun c14 => ?_) (fun c14 => ?_)
    · skip
      have d14 := c14
      rw [fa_lt] at d14
      refine lv_iconst (v := (-1)) hx hb dX9_job_22 (by decide) ?_
      refine W.widen (k := 7) (n := 588) (Nat.le_of_ble_eq_true rfl) (Nat.le_of_ble_eq_true rfl) ?_
      exact W.iret (v := ((-1) : Int32)) hx hb hr (fun t ht hW => ⟨⟨_, (G3, w3), rfl, ⟨hX, ⟨(by unfold jA; rw [if_neg (by omega)]; rfl), _, _, hM_o, hM_js_o, Or.inr ⟨(by unfold okJ; omega), rfl, rfl⟩⟩⟩, by show va_P D vwCl w3 t.heap; rw [ht]; exact hP, hD, hT⟩, hS.F ht⟩) hS.2.2 dX9_job_23
    · skip
      have d14 := c14
      rw [fa_lt] at d14
      refine lv_iload_n hx hb dX9_job_17 rfl (lv_at hl 2 rfl) ?_
      refine lv_iconst (v := 3) hx hb dX9_job_18 (by decide) ?_
      refine lv_icmp_le (tgt := 24) hx hb dX9_job_19 (by decide) (fun c19 => ?_) (fun c19 => ?_)
      · skip
        have d19 := c19
        rw [fa_le] at d19
        refine lv_aload_n hx hb dX9_job_24 rfl (lv_at hl 1 rfl) ?_
        refine t_get (v := .int jc_o) (C := RX9) (T := TX9) (N := 9) hx hb hts (by decide +kernel) hown hK hP hM_o rfl 2 (by decide) (hts (.fieldLink RX9 21 "ShadowBench" "jobCount" "I") (by decide +kernel)) (fun _ h9 => h9) rfl dX9_job_25 ?_
        refine lv_bipush (v := 8) hx hb dX9_job_28 (by decide) ?_
        refine lv_icmp_lt (tgt := 36) hx hb dX9_job_30 (by decide) (fun c30 => ?_) (fun c30 => ?_)
        · skip
          have d30 := c30
          rw [fa_lt] at d30
          refine lv_aload_n hx hb dX9_job_36 rfl (lv_at hl 1 rfl) ?_
          refine t_get (v := .ref js_o) (C := RX9) (T := TX9) (N := 9) hx hb hts (by decide +kernel) hown hK hP hM_o rfl 1 (by decide) (hts (.fieldLink RX9 17 "ShadowBench" "jobs" "[LShadowBench$Job;") (by decide +kernel)) (fun _ h9 => h9) rfl dX9_job_37 ?_
          refine lv_aload_n hx hb dX9_job_40 rfl (lv_at hl 1 rfl) ?_
          refine t_get (v := .int jc_o) (C := RX9) (T := TX9) (N := 9) hx hb hts (by decide +kernel) hown hK hP hM_o rfl 2 (by decide) (hts (.fieldLink RX9 21 "ShadowBench" "jobCount" "I") (by decide +kernel)) (fun _ h9 => h9) rfl dX9_job_41 ?_
          refine lv_iload_n hx hb dX9_job_44 rfl (lv_at hl 2 rfl) ?_
          refine lv_aload hx hb dX9_job_45 (lv_at hl 0 rfl) ?_
          have hT47 := hT
          have hX47 := hX
          refine t_calla (va_runS (g := F0 m 47 ls ([.ref x3, .int kind, .int jc_o, .ref js_o])) (As := [.int kind, .ref x3]) (rest := [.int jc_o, .ref js_o]) ⟨hx, hb, hml, hown, hts⟩ (c_X9_newJob_z l D cy A G3 w3 kind x3 hD hT hG_x3 ) (va_cwS 2 hts gX9_job_X9_newJob rfl rfl rfl (by decide +kernel) ⟨Nat.le_of_ble_eq_true rfl, Nat.le_of_ble_eq_true rfl⟩) (c_preS hP hK hA hS hV) rfl rfl hl.1 rfl (lv_room (Nat.le_of_ble_eq_true rfl)) dX9_job_47 ⟨Nat.le_of_ble_eq_true rfl, Nat.le_of_ble_eq_true rfl⟩) hS (fun r47 u H locs q47 hP9 hD9 hT9 hS => ?_)
          obtain ⟨G47, w47⟩ := u
          obtain ⟨hX9, q47⟩ := q47
          have hX9 : cX none (chs []) G3 w3 G47 w47 := hX9
          have hP : va_P D vwCl w47 H := hP9
          have hD : va_D A w47 := hD9
          have hT : cT cy G47 w47 := hT9
          have hM_o := hX9.2.1 _ _ (cP.no hG_o rfl) hM_o
          have hM_js_o := hX9.2.1 _ _ (cP.no hG_js_o rfl) hM_js_o
          have hG_o := hX9.1 _ _ hG_o
          have hG_bs_o := hX9.1 _ _ hG_bs_o
          have hG_js_o := hX9.1 _ _ hG_js_o
          have hG_sh_o := hX9.1 _ _ hG_sh_o
          have hG_wk_o := hX9.1 _ _ hG_wk_o
          have hG_ll_o := hX9.1 _ _ hG_ll_o
          have hG_x3 := hX9.1 _ _ hG_x3
          have hf_js_o := fun i9 x9 (h9 : i9 < 8) z9 => (hf_js_o i9 x9 h9 z9).elim fun k9 z8 => z8.elim fun n9 z7 => (⟨k9, n9, hX9.1 _ _ z7⟩ : ∃ k n, G47 x9 = some (3, k, n))
          have hmo_o := fun x9 z9 => hX9.1 _ _ (hmo_o x9 z9)
          have hlb_o : ∀ x9, lb_o = some x9 → ∃ w9 h9, _ = some (2, w9, h9) := fun x9 z9 => (hlb_o x9 z9).elim fun w9 z9 => z9.elim fun h9 z9 => ⟨w9, h9, hX9.1 _ _ z9⟩
          have hX := hX.tr (hX9.wk (chs_sub (by decide)))
          obtain ⟨x47, rfl, hG_x47, hNx47, an47, mn47, hG_an47, hNa47, hMx47, hMa47, hmk47⟩ := q47
          have hM_x47 : cIn w47 x47 (.inr (kcl kind, .ref x3 :: .ref an47 :: .int (nI 3) :: .long 0 :: .long 0 :: mn47)) := hMx47
          have hM_an47 := hMa47
          refine t_aast9f hx hb hV hK hP hD hS hT hG_js_o hM_js_o hf_js_o hG_x47 (vp_in_iff.mpr ⟨by omega, by omega⟩) dX9_job_50 (fun H locs w50 hU50 hM9_js_o hf9_js_o hP hD hT hS => ?_)
          have hM_o := hU50 _ _ (cne hG_o hG_js_o (show (7 : Nat) ≠ 9 by decide)) hM_o
          have hM_x47 := hU50 _ _ (cne hG_x47 hG_js_o (show (3 : Nat) ≠ 9 by decide)) hM_x47
          have hM_an47 := hU50 _ _ (cne hG_an47 hG_js_o (show (14 : Nat) ≠ 9 by decide)) hM_an47
          have hM_js_o := hM9_js_o
          have hf_js_o := hf9_js_o
          have hX := hX.tr (cX.uF hU50 (Or.inr ⟨_, hG_js_o, rfl⟩))
          refine lv_aload_n hx hb dX9_job_51 rfl (lv_at hl 1 rfl) ?_
          refine lv_dup hx hb dX9_job_52 rfl ?_
          refine t_get (v := .int jc_o) (C := RX9) (T := TX9) (N := 9) hx hb hts (by decide +kernel) hown hK hP hM_o rfl 2 (by decide) (hts (.fieldLink RX9 21 "ShadowBench" "jobCount" "I") (by decide +kernel)) (fun _ h9 => h9) rfl dX9_job_53 ?_
          refine lv_iconst (v := 1) hx hb dX9_job_56 (by decide) ?_
          refine lv_iadd hx hb dX9_job_57 ?_
          refine lv_topi (fun v57 e57 => ?_)
          have i57 : v57.toInt = jc_o.toInt + (1 : Int32).toInt := by rw [e57]; exact fb_addI (by omega) (by omega)
          refine t_put (v := .int v57) (C := RX9) (T := TX9) (N := 9) (ty0 := tyX9) hx hb hts (by decide +kernel) tyX9_ok nmX9 hown hK hP hD hS hM_o rfl 2 (by decide) (hts (.fieldLink RX9 21 "ShadowBench" "jobCount" "I") (by decide +kernel)) (fun _ h9 => h9) rfl rfl rfl (Nat.le_of_ble_eq_true rfl) dX9_job_58 (fun H locs w58 hU58 hP hD hS => ?_)
          have hM_js_o := hU58.2 _ _ (cne hG_js_o hG_o (show (9 : Nat) ≠ 7 by decide)) hM_js_o
          have hM_x47 := hU58.2 _ _ (cne hG_x47 hG_o (show (3 : Nat) ≠ 7 by decide)) hM_x47
          have hM_an47 := hU58.2 _ _ (cne hG_an47 hG_o (show (14 : Nat) ≠ 7 by decide)) hM_an47
          have hT := hT.up hU58 hG_o ⟨_, _, _, _, _, _, _, mo_o, lb_o, rfl, ⟨by omega, by omega⟩, ⟨by omega, by omega⟩, hG_bs_o, hG_js_o, hG_sh_o, hG_wk_o, hmo_o, hG_ll_o, hlb_o⟩
          have hM_o : cIn w58 o (.inr (8, [.ref bs_o, .ref js_o, .int v57, .ref sh_o, .ref wk_o, va_rf mo_o, .ref ll_o, .int lc_o, va_rf lb_o])) := hU58.1
          have hX := hX.tr (cX.up hU58 (Or.inr ⟨_, hG_o, rfl⟩))
          refine lv_aload_n hx hb dX9_job_61 rfl (lv_at hl 1 rfl) ?_
          refine t_get (v := .int v57) (C := RX9) (T := TX9) (N := 9) hx hb hts (by decide +kernel) hown hK hP hM_o rfl 2 (by decide) (hts (.fieldLink RX9 21 "ShadowBench" "jobCount" "I") (by decide +kernel)) (fun _ h9 => h9) rfl dX9_job_62 ?_
          refine lv_iconst (v := 1) hx hb dX9_job_65 (by decide) ?_
          refine lv_isub hx hb dX9_job_66 ?_
          refine lv_topi (fun v66 e66 => ?_)
          have i66 : v66.toInt = v57.toInt - (1 : Int32).toInt := by rw [e66]; exact fb_subI (by omega) (by omega)
          refine W.widen (k := 7) (n := 588) (Nat.le_of_ble_eq_true rfl) (Nat.le_of_ble_eq_true rfl) ?_
          exact W.iret (v := v66) hx hb hr (fun t ht hW => ⟨⟨_, (G47, w58), rfl, ⟨hX, ⟨(by unfold jA; rw [if_pos (by omega), if_pos (by omega)]; omega), _, _, hM_o, hM_js_o, Or.inl ⟨(by unfold okJ; omega), (by omega), _, _, _, _, rfl, hG_x47, (hX47.new0 (hT47.no hNx47) hNx47), (hX47.new0 (hT47.no hNa47) hNa47), hM_x47, hM_an47, (fun z9 => by obtain ⟨c9, e9, g9, n9, ne9, m9⟩ := hmk47 z9; refine ⟨c9, e9, (hX47.new0 (hT47.no n9) n9), ne9, ?_⟩; exact hU58.2 _ _ (cne g9 hG_o (show (14 : Nat) ≠ 7 by decide)) (hU50 _ _ (cne g9 hG_js_o (show (14 : Nat) ≠ 9 by decide)) m9))⟩⟩⟩, by show va_P D vwCl w58 t.heap; rw [ht]; exact hP, hD, hT⟩, hS.F ht⟩) hS.2.2 dX9_job_67
        · skip
          have d30 := c30
          rw [fa_lt] at d30
          refine lv_bipush (v := (-2)) hx hb dX9_job_33 (by decide) ?_
          refine W.widen (k := 7) (n := 588) (Nat.le_of_ble_eq_true rfl) (Nat.le_of_ble_eq_true rfl) ?_
          exact W.iret (v := ((-2) : Int32)) hx hb hr (fun t ht hW => ⟨⟨_, (G3, w3), rfl, ⟨hX, ⟨(by unfold jA; rw [if_pos (by omega), if_neg (by omega)]; rfl), _, _, hM_o, hM_js_o, Or.inr ⟨(by unfold okJ; omega), rfl, rfl⟩⟩⟩, by show va_P D vwCl w3 t.heap; rw [ht]; exact hP, hD, hT⟩, hS.F ht⟩) hS.2.2 dX9_job_35
      · skip
        have d19 := c19
        rw [fa_le] at d19
        refine lv_iconst (v := (-1)) hx hb dX9_job_22 (by decide) ?_
        refine W.widen (k := 7) (n := 588) (Nat.le_of_ble_eq_true rfl) (Nat.le_of_ble_eq_true rfl) ?_
        exact W.iret (v := ((-1) : Int32)) hx hb hr (fun t ht hW => ⟨⟨_, (G3, w3), rfl, ⟨hX, ⟨(by unfold jA; rw [if_neg (by omega)]; rfl), _, _, hM_o, hM_js_o, Or.inr ⟨(by unfold okJ; omega), rfl, rfl⟩⟩⟩, by show va_P D vwCl w3 t.heap; rw [ht]; exact hP, hD, hT⟩, hS.F ht⟩) hS.2.2 dX9_job_23

theorem cJ4c {G : cG} {n w h c : Nat} (h0 : cJk G 4 n w h [.ref c]) : G c = some (14, w * h, 0) := by
  obtain ⟨-, c', e1, e2⟩ := cJ4 h0
  simp only [List.cons.injEq, Value.ref.injEq, and_true] at e1
  rw [e1]
  exact e2
set_option maxHeartbeats 4000000 in
set_option maxRecDepth 100000 in
theorem c_X5_setMark_x (l : Launch) (D : va_G) (cy : Nat → ClassId) (A : Nat → Prop) (G : cG) (ws : va_W) (o : Nat) (s0 : Int32) (v : Int32) {w h b_o s_o c_o : Nat} {t_o : Int32} {x_o y_o : Int64} {fm : Nat → Int32} (hD : va_D A ws) (hT : cT cy G ws) (hG_o : G o = some (3, 4, 8 * w + h)) (hM_o : cIn ws o (.inr (4, [.ref b_o, .ref s_o, .int t_o, .long x_o, .long y_o, .ref c_o]))) (hM_c_o : cIn ws c_o (.inl (cy 0, (w * h), .inl fm))) (hb9 : 1 ≤ w ∧ w ≤ 6 ∧ 1 ≤ h ∧ h ≤ 6) (hs1 : 0 ≤ s0.toInt ∧ s0.toInt < ((w * h : Nat) : Int)) : Ci l D cy A yX5_setMark wsX5_setMark ({ frames := 0, cells := 0, slots := 0, locals := 0 }) 0 0 ws [.ref o, .int s0, .int v] (fun r0 u => ∃ w1, u = (G, w1) ∧ cF (fun b9 => b9 = c_o) ws w1 ∧ (Bo r0 (¬ fm s0.toNatClampNeg = v) ∧ cIn w1 c_o (.inl (cy 0, w * h, .inl (upd fm s0.toNatClampNeg v))))) := by
  refine Met.ofW (cc := cX5_setMark) (maxL := 3) (ret := (some .boolean)) (by decide) rfl ?_
  intro p e s m args below meth c s₁ B hml hv
  obtain ⟨rfl, hP, hK, hA, hV⟩ := hv
  have hx := B.exec
  have hb := B.bytes
  have hr := B.returns
  have hts := atoms_spec (ws := wsX5_setMark) B.pre
  have hown : s.vm.findClass RX5 = some m.cls := findClass_of_methodNamed B.named
  have hlocks := B.notSynchronized
  have hS : va_S A s.heap s.heap [] := va_S.rf
  have hF : cF (fun b9 => b9 = c_o) ws ws := cF.rf
  have hl := lv_entry ([.ref o, .int s0, .int v]) (n := 3) (Nat.le_of_ble_eq_true rfl)
  rw [lg_entry_eq]
  generalize (lg_sl ([.ref o, .int s0, .int v]) ++ List.replicate (3 - (lg_sl ([.ref o, .int s0, .int v])).length) Slot.unset).toArray = ls at hl ⊢
  have hl : lv_has ls 3 [(0, .ref o), (1, .int s0), (2, .int v)] := hl
  have k_0 : (0 : Int32).toInt = 0 := by decide
  have k_1 : (1 : Int32).toInt = 1 := by decide
  obtain ⟨hG_b_o, hG_s_o, hJ_o⟩ := w3sh hD hT hG_o hb9 hM_o
  have hG_c_o := cJ4c hJ_o
  have m36 := cb_mul hb9
  refine lv_iload_n hx hb dX5_setMark_0 rfl (lv_at hl 1 rfl) ?_
  refine lv_if_lt (tgt := 23) hx hb dX5_setMark_1 (by decide) (fun c1 => ?_) (fun c1 => ?_)
  · skip
    have d1 := c1
    rw [fa_lt] at d1
    refine lv_iconst (v := 0) hx hb dX5_setMark_23 (by decide) ?_
    exact W.zret (v := (0 : Int32)) hx hb hr (by decide) (fun t ht hW => ⟨⟨_, (G, ws), rfl, ⟨ws, rfl, hF, (by first | (exfalso; omega) | exact ⟨Or.inr ⟨rfl, fun z9 => z9 (e18.symm.trans c20)⟩, (by rw [upd_same (e18.symm.trans c20)]; exact hM_c_o)⟩)⟩, by show va_P D vwCl ws t.heap; rw [ht]; exact hP, hD, hT⟩, hS.F ht⟩) hS.2.2 dX5_setMark_24
  · skip
    have d1 := c1
    rw [fa_lt] at d1
    refine lv_iload_n hx hb dX5_setMark_4 rfl (lv_at hl 1 rfl) ?_
    refine lv_aload_n hx hb dX5_setMark_5 rfl (lv_at hl 0 rfl) ?_
    refine t_get (v := .ref c_o) (C := RX5) (T := TX5) (N := 6) hx hb hts (by decide +kernel) hown hK hP hM_o rfl 5 (by decide) (hts (.fieldLink RX5 13 "ShadowBench$MarkedJob" "marks" "[I") (by decide +kernel)) (fun _ h9 => h9) rfl dX5_setMark_6 ?_
    refine t_alenI hx hb hK hP hT (Or.inr (Or.inl rfl)) hG_c_o dX5_setMark_9 ?_
    have i9 : (nI (w * h)).toInt = _ := nI_toInt (by omega)
    refine lv_icmp_ge (tgt := 23) hx hb dX5_setMark_10 (by decide) (fun c10 => ?_) (fun c10 => ?_)
    · skip
      have d10 := c10
      rw [fa_le] at d10
      refine lv_iconst (v := 0) hx hb dX5_setMark_23 (by decide) ?_
      exact W.zret (v := (0 : Int32)) hx hb hr (by decide) (fun t ht hW => ⟨⟨_, (G, ws), rfl, ⟨ws, rfl, hF, (by first | (exfalso; omega) | exact ⟨Or.inr ⟨rfl, fun z9 => z9 (e18.symm.trans c20)⟩, (by rw [upd_same (e18.symm.trans c20)]; exact hM_c_o)⟩)⟩, by show va_P D vwCl ws t.heap; rw [ht]; exact hP, hD, hT⟩, hS.F ht⟩) hS.2.2 dX5_setMark_24
    · skip
      have d10 := c10
      rw [fa_le] at d10
      refine lv_aload_n hx hb dX5_setMark_13 rfl (lv_at hl 0 rfl) ?_
      refine t_get (v := .ref c_o) (C := RX5) (T := TX5) (N := 6) hx hb hts (by decide +kernel) hown hK hP hM_o rfl 5 (by decide) (hts (.fieldLink RX5 13 "ShadowBench$MarkedJob" "marks" "[I") (by decide +kernel)) (fun _ h9 => h9) rfl dX5_setMark_14 ?_
      refine lv_iload_n hx hb dX5_setMark_17 rfl (lv_at hl 1 rfl) ?_
      refine t_ialdM hx hb hK hP hM_c_o (vp_in_iff.mpr ⟨by omega, by omega⟩) dX5_setMark_18 ?_
      refine lv_topi (fun v18 e18 => ?_)
      refine lv_iload_n hx hb dX5_setMark_19 rfl (lv_at hl 2 rfl) ?_
      refine lv_icmp_ne (tgt := 25) hx hb dX5_setMark_20 (by decide) (fun c20 => ?_) (fun c20 => ?_)
      · skip
        have d20 := c20
        rw [fa_eq] at d20
        refine lv_aload_n hx hb dX5_setMark_25 rfl (lv_at hl 0 rfl) ?_
        refine t_get (v := .ref c_o) (C := RX5) (T := TX5) (N := 6) hx hb hts (by decide +kernel) hown hK hP hM_o rfl 5 (by decide) (hts (.fieldLink RX5 13 "ShadowBench$MarkedJob" "marks" "[I") (by decide +kernel)) (fun _ h9 => h9) rfl dX5_setMark_26 ?_
        refine lv_iload_n hx hb dX5_setMark_29 rfl (lv_at hl 1 rfl) ?_
        refine lv_iload_n hx hb dX5_setMark_30 rfl (lv_at hl 2 rfl) ?_
        refine t_iastK hx hb hK hP hD hS hT (Or.inr (Or.inl rfl)) hG_c_o hM_c_o (vp_in_iff.mpr ⟨by omega, by omega⟩) dX5_setMark_31 (fun H locs w31 hU31 hP hD hT hS => ?_)
        have hM_o := hU31.2 _ _ (cne hG_o hG_c_o (show (3 : Nat) ≠ 14 by decide)) hM_o
        have hM_c_o := hU31.1
        have hF := hF.tr (cF.up hU31 rfl)
        refine lv_iconst (v := 1) hx hb dX5_setMark_32 (by decide) ?_
        exact W.zret (v := (1 : Int32)) hx hb hr (by decide) (fun t ht hW => ⟨⟨_, (G, w31), rfl, ⟨w31, rfl, hF, ⟨Or.inl ⟨rfl, fun z9 => c20 (e18.trans z9)⟩, hM_c_o⟩⟩, by show va_P D vwCl w31 t.heap; rw [ht]; exact hP, hD, hT⟩, hS.F ht⟩) hS.2.2 dX5_setMark_33
      · skip
        have d20 := c20
        rw [fa_eq] at d20
        refine lv_iconst (v := 0) hx hb dX5_setMark_23 (by decide) ?_
        exact W.zret (v := (0 : Int32)) hx hb hr (by decide) (fun t ht hW => ⟨⟨_, (G, ws), rfl, ⟨ws, rfl, hF, (by first | (exfalso; omega) | exact ⟨Or.inr ⟨rfl, fun z9 => z9 (e18.symm.trans c20)⟩, (by rw [upd_same (e18.symm.trans c20)]; exact hM_c_o)⟩)⟩, by show va_P D vwCl ws t.heap; rw [ht]; exact hP, hD, hT⟩, hS.F ht⟩) hS.2.2 dX5_setMark_24
set_option maxHeartbeats 4000000 in
set_option maxRecDepth 100000 in
theorem c_X9_mark_j (l : Launch) (D : va_G) (cy : Nat → ClassId) (A : Nat → Prop) (G : cG) (ws : va_W) (o : Nat) (j : Int32) (s0 : Int32) (v : Int32) {bs_o js_o sh_o wk_o ll_o : Nat} {jc_o lc_o : Int32} {mo_o lb_o : Option Nat} {fa : Nat → Option Nat} {xj kj bj sj tj wj hj : Nat} {oj nj : Int64} {msj : List Value} {fsj : Nat → Int32} {cj : Nat} {fmj : Nat → Int32} (hD : va_D A ws) (hT : cT cy G ws) (hG_o : G o = some (7, 0, 0)) (hM_o : cIn ws o (.inr (8, [.ref bs_o, .ref js_o, .int jc_o, .ref sh_o, .ref wk_o, va_rf mo_o, .ref ll_o, .int lc_o, va_rf lb_o]))) (hM_js_o : cIn ws js_o (.inl (cy 4, cqa 8 fa))) (hJ1 : ∀ i : Nat, (i : Int) < jc_o.toInt → ∃ x, fa i = some x) (hJ : okJob jc_o j → jobS cy G ws fa j.toNatClampNeg xj kj bj sj tj wj hj oj nj msj fsj) (hJ4 : okJob jc_o j → kj = 4 → msj = [.ref cj] ∧ cIn ws cj (.inl (cy 0, wj * hj, .inl fmj))) : Ci l D cy A yX9_mark wsX9_mark ({ frames := 1, cells := 0, slots := 0, locals := 22 }) 0 0 ws [.ref o, .int j, .int s0, .int v] (fun r0 u => ∃ w1, u = (G, w1) ∧ cF (fun b9 => b9 = cj) ws w1 ∧ ((okMark9 jc_o wj hj j s0 v ∧ ((kj = 4 ∧ Bo r0 (¬ fmj s0.toNatClampNeg = v) ∧ cIn w1 cj (.inl (cy 0, wj * hj, .inl (upd fmj s0.toNatClampNeg v)))) ∨ (¬ kj = 4 ∧ r0 = -4 ∧ w1 = ws))) ∨ (¬ okMark9 jc_o wj hj j s0 v ∧ r0 = -1 ∧ w1 = ws))) := by
  refine Met.ofW (cc := cX9_mark) (maxL := 6) (ret := (some .int)) (by decide) rfl ?_
  intro p e s m args below meth c s₁ B hml hv
  obtain ⟨rfl, hP, hK, hA, hV⟩ := hv
  have hx := B.exec
  have hb := B.bytes
  have hr := B.returns
  have hts := atoms_spec (ws := wsX9_mark) B.pre
  have hown : s.vm.findClass RX9 = some m.cls := findClass_of_methodNamed B.named
  have hlocks := B.notSynchronized
  have hS : va_S A s.heap s.heap [] := va_S.rf
  have hinJ : ∀ w ∈ wsX10 ++ wsX30 ++ wsX40 ++ wsX50, w ∈ wsX9_mark := by decide +kernel
  have hF : cF (fun b9 => b9 = cj) ws ws := cF.rf
  have hl := lv_entry ([.ref o, .int j, .int s0, .int v]) (n := 6) (Nat.le_of_ble_eq_true rfl)
  rw [lg_entry_eq]
  generalize (lg_sl ([.ref o, .int j, .int s0, .int v]) ++ List.replicate (6 - (lg_sl ([.ref o, .int j, .int s0, .int v])).length) Slot.unset).toArray = ls at hl ⊢
  have hl : lv_has ls 6 [(0, .ref o), (1, .int j), (2, .int s0), (3, .int v)] := hl
  have k_m99 : (-99 : Int32).toInt = -99 := by decide
  have k_m4 : (-4 : Int32).toInt = -4 := by decide
  have k_m1 : (-1 : Int32).toInt = -1 := by decide
  have k_0 : (0 : Int32).toInt = 0 := by decide
  have k_1 : (1 : Int32).toInt = 1 := by decide
  have k_99 : (99 : Int32).toInt = 99 := by decide
  obtain ⟨hjc_o, hlc_o, hG_bs_o, hG_js_o, hG_sh_o, hG_wk_o, hmo_o, hG_ll_o, hlb_o⟩ := w7sh hD hT hG_o hM_o
  have hf_js_o := w9sh hD hT hG_js_o hM_js_o
  refine lv_aload_n hx hb dX9_mark_0 rfl (lv_at hl 0 rfl) ?_
  refine lv_iload_n hx hb dX9_mark_1 rfl (lv_at hl 1 rfl) ?_
  refine t_calla (va_runV (g := F0 m 2 ls ([.int j, .ref o])) (As := [.int j]) (rest := []) ⟨hx, hb, hml, hown, hts⟩ (c_X9_jobOf_j l D cy A G ws o j hD hT hG_o hM_o hM_js_o hJ1) (cwV 1 hts gX9_mark_X9_jobOf rfl rfl rfl (by decide +kernel) ⟨Nat.le_of_ble_eq_true rfl, Nat.le_of_ble_eq_true rfl⟩) (c_preV hM_o rfl hP hK hA hS hV) rfl rfl hl.1 rfl (lv_room (Nat.le_of_ble_eq_true rfl)) dX9_mark_2 ⟨Nat.le_of_ble_eq_true rfl, Nat.le_of_ble_eq_true rfl⟩) hS (fun r2 u H locs q2 hP9 hD9 hT9 hS => ?_)
  obtain ⟨rfl, q2⟩ := q2
  have hP : va_P D vwCl ws H := hP9
  rcases r2 with _ | x2
  · skip
    have vn2 := q2.2 rfl
    refine lv_astoreN (lv' := [(4, .null), (0, .ref o), (1, .int j), (2, .int s0), (3, .int v)]) hx hb dX9_mark_5 hl (by decide) rfl (fun ls hl => ?_)
    refine lv_aloadN hx hb dX9_mark_7 (lv_at hl 0 rfl) ?_
    refine lv_ifnullN (tgt := 36) hx hb dX9_mark_9 (by decide) ?_
    refine lv_iconst (v := (-1)) hx hb dX9_mark_36 (by decide) ?_
    exact W.iret (v := ((-1) : Int32)) hx hb hr (fun t ht hW => ⟨⟨_, (G, ws), rfl, ⟨ws, rfl, hF, (Or.inr ⟨(fun z9 => by first | exact vn2 z9.1 | (have z7 := z9.2; omega)), rfl, rfl⟩)⟩, by show va_P D vwCl ws t.heap; rw [ht]; exact hP, hD, hT⟩, hS.F ht⟩) hS.2.2 dX9_mark_37
  · skip
    obtain ⟨vj2, fj2⟩ := q2.1 x2 rfl
    obtain ⟨hfa9, hG_xj, hb9, ht9, hM_xj, hM_sj⟩ := hJ vj2
    obtain rfl : xj = x2 := Option.some.inj (hfa9.symm.trans fj2)
    obtain ⟨hG_bj, hG_sj, hJ_xj⟩ := w3sh hD hT hG_xj hb9 hM_xj
    refine lv_astore (lv' := [(4, .ref xj), (0, .ref o), (1, .int j), (2, .int s0), (3, .int v)]) hx hb dX9_mark_5 hl (by decide) rfl (fun ls hl => ?_)
    refine lv_aload hx hb dX9_mark_7 (lv_at hl 0 rfl) ?_
    refine lv_ifnull hx hb dX9_mark_9 ?_
    refine lv_aload hx hb dX9_mark_12 (lv_at hl 0 rfl) ?_
    refine t_getJ (v := .ref bj) hx hb hts hinJ hown hK hP hJ_xj.kc hM_xj 0 (by decide) (hts (.fieldLink RX9 65 "ShadowBench$Job" "board" "LShadowBench$Board;") (by decide +kernel)) (fun _ h9 => h9) rfl dX9_mark_14 ?_
    refine lv_iload_n hx hb dX9_mark_17 rfl (lv_at hl 3 rfl) ?_
    obtain ⟨_, hM_bj, hb_bj, l_bj, f_bj, r_bj, rfl, hG_l_bj, hG_f_bj, hG_r_bj⟩ := hT _ _ hG_bj
    refine t_calli (va_runV (g := F0 m 18 ls ([.int s0, .ref bj])) (As := [.int s0]) (rest := []) ⟨hx, hb, hml, hown, hts⟩ (c_X0_isSquare l D cy A G ws bj s0 hD hT hG_bj ) (cwV 1 hts gX9_mark_X0_isSquare rfl rfl rfl (by decide +kernel) ⟨Nat.le_of_ble_eq_true rfl, Nat.le_of_ble_eq_true rfl⟩) (c_preV hM_bj rfl hP hK hA hS hV) rfl rfl hl.1 rfl (lv_room (Nat.le_of_ble_eq_true rfl)) dX9_mark_18 ⟨Nat.le_of_ble_eq_true rfl, Nat.le_of_ble_eq_true rfl⟩) hS (fun r18 u H locs q18 hP9 hD9 hT9 hS => ?_)
    obtain ⟨rfl, q18⟩ := q18
    have hP : va_P D vwCl ws H := hP9
    refine lv_if_eq (tgt := 36) hx hb dX9_mark_21 (by decide) (fun c21 => ?_) (fun c21 => ?_)
    · skip
      have b21 := bo_f q18 c21
      refine lv_iconst (v := (-1)) hx hb dX9_mark_36 (by decide) ?_
      exact W.iret (v := ((-1) : Int32)) hx hb hr (fun t ht hW => ⟨⟨_, (G, ws), rfl, ⟨ws, rfl, hF, (Or.inr ⟨(fun z9 => by first | exact vn2 z9.1 | (have z7 := z9.2; omega)), rfl, rfl⟩)⟩, by show va_P D vwCl ws t.heap; rw [ht]; exact hP, hD, hT⟩, hS.F ht⟩) hS.2.2 dX9_mark_37
    · skip
      have b21 := bo_t q18 c21
      refine lv_iload_n hx hb dX9_mark_24 rfl (lv_at hl 4 rfl) ?_
      refine lv_bipush (v := (-99)) hx hb dX9_mark_25 (by decide) ?_
      refine lv_icmp_lt (tgt := 36) hx hb dX9_mark_27 (by decide) (fun c27 => ?_) (fun c27 => ?_)
      · skip
        have d27 := c27
        rw [fa_lt] at d27
        refine lv_iconst (v := (-1)) hx hb dX9_mark_36 (by decide) ?_
        exact W.iret (v := ((-1) : Int32)) hx hb hr (fun t ht hW => ⟨⟨_, (G, ws), rfl, ⟨ws, rfl, hF, (Or.inr ⟨(fun z9 => by first | exact vn2 z9.1 | (have z7 := z9.2; omega)), rfl, rfl⟩)⟩, by show va_P D vwCl ws t.heap; rw [ht]; exact hP, hD, hT⟩, hS.F ht⟩) hS.2.2 dX9_mark_37
      · skip
        have d27 := c27
        rw [fa_lt] at d27
        refine lv_iload_n hx hb dX9_mark_30 rfl (lv_at hl 4 rfl) ?_
        refine lv_bipush (v := 99) hx hb dX9_mark_31 (by decide) ?_
        refine lv_icmp_le (tgt := 38) hx hb dX9_mark_33 (by decide) (fun c33 => ?_) (fun c33 => ?_)
        · skip
          have d33 := c33
          rw [fa_le] at d33
          refine lv_aload hx hb dX9_mark_38 (lv_at hl 0 rfl) ?_
          have hJ9 := hJ_xj
          obtain ⟨hn9, hJ9⟩ := hJ9
          rcases hJ9 with ⟨rfl, rfl⟩ | ⟨rfl, rfl⟩ | ⟨rfl, rfl⟩ | ⟨rfl, c9, rfl, hG_c9⟩
          · skip
            have hM_xj : cIn ws xj (.inr (1, [.ref bj, .ref sj, .int (nI tj), .long oj, .long nj])) := hM_xj
            refine va_instNo hx hb hown (hts (.classLink RX9 112 RX5) (by decide +kernel)) hV.2.2.2.1.1 (t_recJ hK hP hM_xj rfl) dX9_mark_40 ?_
            refine lv_if_eq (tgt := 69) hx hb dX9_mark_43 (by decide) (fun c43 => ?_) (fun c43 => ?_)
            · skip
              have d43 := c43
              rw [fa_eq] at d43
              refine lv_bipush (v := (-4)) hx hb dX9_mark_69 (by decide) ?_
              exact W.iret (v := ((-4) : Int32)) hx hb hr (fun t ht hW => ⟨⟨_, (G, ws), rfl, ⟨ws, rfl, hF, (Or.inl ⟨⟨vj2, (by omega), (by omega)⟩, Or.inr ⟨(by decide), rfl, rfl⟩⟩)⟩, by show va_P D vwCl ws t.heap; rw [ht]; exact hP, hD, hT⟩, hS.F ht⟩) hS.2.2 dX9_mark_71
            · first | exact absurd c43 (by decide) | exact absurd (by decide) c43
          · skip
            have hM_xj : cIn ws xj (.inr (2, [.ref bj, .ref sj, .int (nI tj), .long oj, .long nj])) := hM_xj
            refine va_instNo hx hb hown (hts (.classLink RX9 112 RX5) (by decide +kernel)) hV.2.2.2.1.2.1 (t_recJ hK hP hM_xj rfl) dX9_mark_40 ?_
            refine lv_if_eq (tgt := 69) hx hb dX9_mark_43 (by decide) (fun c43 => ?_) (fun c43 => ?_)
            · skip
              have d43 := c43
              rw [fa_eq] at d43
              refine lv_bipush (v := (-4)) hx hb dX9_mark_69 (by decide) ?_
              exact W.iret (v := ((-4) : Int32)) hx hb hr (fun t ht hW => ⟨⟨_, (G, ws), rfl, ⟨ws, rfl, hF, (Or.inl ⟨⟨vj2, (by omega), (by omega)⟩, Or.inr ⟨(by decide), rfl, rfl⟩⟩)⟩, by show va_P D vwCl ws t.heap; rw [ht]; exact hP, hD, hT⟩, hS.F ht⟩) hS.2.2 dX9_mark_71
            · first | exact absurd c43 (by decide) | exact absurd (by decide) c43
          · skip
            have hM_xj : cIn ws xj (.inr (3, [.ref bj, .ref sj, .int (nI tj), .long oj, .long nj])) := hM_xj
            refine va_instNo hx hb hown (hts (.classLink RX9 112 RX5) (by decide +kernel)) hV.2.2.2.1.2.2 (t_recJ hK hP hM_xj rfl) dX9_mark_40 ?_
            refine lv_if_eq (tgt := 69) hx hb dX9_mark_43 (by decide) (fun c43 => ?_) (fun c43 => ?_)
            · skip
              have d43 := c43
              rw [fa_eq] at d43
              refine lv_bipush (v := (-4)) hx hb dX9_mark_69 (by decide) ?_
              exact W.iret (v := ((-4) : Int32)) hx hb hr (fun t ht hW => ⟨⟨_, (G, ws), rfl, ⟨ws, rfl, hF, (Or.inl ⟨⟨vj2, (by omega), (by omega)⟩, Or.inr ⟨(by decide), rfl, rfl⟩⟩)⟩, by show va_P D vwCl ws t.heap; rw [ht]; exact hP, hD, hT⟩, hS.F ht⟩) hS.2.2 dX9_mark_71
            · first | exact absurd c43 (by decide) | exact absurd (by decide) c43
          · skip
            have hM_xj : cIn ws xj (.inr (4, [.ref bj, .ref sj, .int (nI tj), .long oj, .long nj, .ref c9])) := hM_xj
            have hn36 := cb_mul (c_hb hT hG_bj)
            obtain ⟨e49, hM_cj⟩ := hJ4 vj2 rfl
            simp only [List.cons.injEq, Value.ref.injEq, and_true] at e49
            obtain rfl : cj = c9 := e49.symm
            have hG_cj := hG_c9
            have hM_xj : cIn ws xj (.inr (4, [.ref bj, .ref sj, .int (nI tj), .long oj, .long nj, .ref cj])) := hM_xj
            refine va_instS hx hb hown (hts (.classLink RX9 112 RX5) (by decide +kernel)) (hK.1 4 _ rfl).2 (t_recJ hK hP hM_xj rfl) dX9_mark_40 ?_
            refine lv_if_eq (tgt := 69) hx hb dX9_mark_43 (by decide) (fun c43 => ?_) (fun c43 => ?_)
            · first | exact absurd c43 (by decide) | exact absurd (by decide) c43
            · skip
              have d43 := c43
              rw [fa_eq] at d43
              refine lv_aload hx hb dX9_mark_46 (lv_at hl 0 rfl) ?_
              refine va_castS hx hb hown (hts (.classLink RX9 112 RX5) (by decide +kernel)) (hK.1 4 _ rfl).2 (t_recJ hK hP hM_xj rfl) dX9_mark_48 ?_
              refine lv_astore (lv' := [(5, .ref xj), (4, .ref xj), (0, .ref o), (1, .int j), (2, .int s0), (3, .int v)]) hx hb dX9_mark_51 hl (by decide) rfl (fun ls hl => ?_)
              refine lv_aload hx hb dX9_mark_53 (lv_at hl 0 rfl) ?_
              refine lv_iload_n hx hb dX9_mark_55 rfl (lv_at hl 4 rfl) ?_
              refine lv_iload_n hx hb dX9_mark_56 rfl (lv_at hl 5 rfl) ?_
              refine t_calli (va_runV (g := F0 m 57 ls ([.int v, .int s0, .ref xj])) (As := [.int s0, .int v]) (rest := []) ⟨hx, hb, hml, hown, hts⟩ (c_X5_setMark_x l D cy A G ws xj s0 v hD hT hG_xj hM_xj hM_cj hb9 (by omega)) (cwV 2 hts gX9_mark_X5_setMark rfl rfl rfl (by decide +kernel) ⟨Nat.le_of_ble_eq_true rfl, Nat.le_of_ble_eq_true rfl⟩) (c_preV hM_xj rfl hP hK hA hS hV) rfl rfl hl.1 rfl (lv_room (Nat.le_of_ble_eq_true rfl)) dX9_mark_57 ⟨Nat.le_of_ble_eq_true rfl, Nat.le_of_ble_eq_true rfl⟩) hS (fun r57 u H locs q57 hP9 hD9 hT9 hS => ?_)
              obtain ⟨w57, rfl, hF57, q57⟩ := q57
              have hP : va_P D vwCl w57 H := hP9
              have hD : va_D A w57 := hD9
              have hT : cT cy G w57 := hT9
              have hM_o := hF57 _ _ (cne hG_o hG_cj (show (7 : Nat) ≠ 14 by decide)) hM_o
              have hM_js_o := hF57 _ _ (cne hG_js_o hG_cj (show (9 : Nat) ≠ 14 by decide)) hM_js_o
              have hM_xj := hF57 _ _ (cne hG_xj hG_cj (show (3 : Nat) ≠ 14 by decide)) hM_xj
              have hM_bj := hF57 _ _ (cne hG_bj hG_cj (show (2 : Nat) ≠ 14 by decide)) hM_bj
              have hF := hF.tr hF57
              have hM_cj : cIn w57 cj (.inl (cy 0, (wj * hj), .inl (upd fmj s0.toNatClampNeg v))) := q57.2
              refine lv_if_eq (tgt := 67) hx hb dX9_mark_60 (by decide) (fun c60 => ?_) (fun c60 => ?_)
              · skip
                have d60 := c60
                rw [fa_eq] at d60
                refine lv_iconst (v := 0) hx hb dX9_mark_67 (by decide) ?_
                exact W.iret (v := (0 : Int32)) hx hb hr (fun t ht hW => ⟨⟨_, (G, w57), rfl, ⟨w57, rfl, hF, (Or.inl ⟨⟨vj2, (by omega), (by omega)⟩, Or.inl ⟨rfl, (by rcases q57.1 with ⟨z9, z8⟩ | ⟨z9, z8⟩; (first | exact Or.inl ⟨rfl, z8⟩ | exact absurd (z9.symm.trans c60) (by decide)); (first | exact Or.inr ⟨rfl, z8⟩ | exact absurd z9 c60)), hM_cj⟩⟩)⟩, by show va_P D vwCl w57 t.heap; rw [ht]; exact hP, hD, hT⟩, hS.F ht⟩) hS.2.2 dX9_mark_68
              · skip
                have d60 := c60
                rw [fa_eq] at d60
                refine lv_iconst (v := 1) hx hb dX9_mark_63 (by decide) ?_
                refine lv_goto (tgt := 68) hx hb dX9_mark_64 (by decide) ?_
                exact W.iret (v := (1 : Int32)) hx hb hr (fun t ht hW => ⟨⟨_, (G, w57), rfl, ⟨w57, rfl, hF, (Or.inl ⟨⟨vj2, (by omega), (by omega)⟩, Or.inl ⟨rfl, (by rcases q57.1 with ⟨z9, z8⟩ | ⟨z9, z8⟩; (first | exact Or.inl ⟨rfl, z8⟩ | exact absurd (z9.symm.trans c60) (by decide)); (first | exact Or.inr ⟨rfl, z8⟩ | exact absurd z9 c60)), hM_cj⟩⟩)⟩, by show va_P D vwCl w57 t.heap; rw [ht]; exact hP, hD, hT⟩, hS.F ht⟩) hS.2.2 dX9_mark_68
        · skip
          have d33 := c33
          rw [fa_le] at d33
          refine lv_iconst (v := (-1)) hx hb dX9_mark_36 (by decide) ?_
          exact W.iret (v := ((-1) : Int32)) hx hb hr (fun t ht hW => ⟨⟨_, (G, ws), rfl, ⟨ws, rfl, hF, (Or.inr ⟨(fun z9 => by first | exact vn2 z9.1 | (have z7 := z9.2; omega)), rfl, rfl⟩)⟩, by show va_P D vwCl ws t.heap; rw [ht]; exact hP, hD, hT⟩, hS.F ht⟩) hS.2.2 dX9_mark_37

set_option maxHeartbeats 4000000 in
set_option maxRecDepth 100000 in
theorem c_X10_mark_y (l : Launch) (D : va_G) (cy : Nat → ClassId) (mo : Nat) (a : Nat → Nat) (f : Nat → Int32) (g : Nat → Int64) (r : Nat → Nat → Int32) (q : Nat → Nat → Int64) (j : Int32) (s0 : Int32) (v0 : Int32) (hD : DM cy mo a) (hI : MI f r) : Mi l D cy mo a yX10_mark wsX10_mark ({ frames := 2, cells := 0, slots := 0, locals := 43 }) f g r q [.int j, .int s0, .int v0] (fun r0 u => ∃ (wt : Nat → Int32), u = ((upd f 0 (0 : Int32)), g, (va_up r 8 wt), q) ∧ ((okMark9 (f 1) (r 3 j.toNatClampNeg).toNatClampNeg (r 4 j.toNatClampNeg).toNatClampNeg j s0 v0 ∧ ((r 2 j.toNatClampNeg = 3 ∧ r0 = (if r 8 (36 * j.toNatClampNeg + s0.toNatClampNeg) = v0 then 0 else 1) ∧ wt = upd (r 8) (36 * j.toNatClampNeg + s0.toNatClampNeg) v0) ∨ (¬ r 2 j.toNatClampNeg = 3 ∧ r0 = -4 ∧ wt = r 8))) ∨ (¬ okMark9 (f 1) (r 3 j.toNatClampNeg).toNatClampNeg (r 4 j.toNatClampNeg).toNatClampNeg j s0 v0 ∧ r0 = -1 ∧ wt = r 8))) := by
  refine Met.ofW (cc := cX10_mark) (maxL := 5) (ret := (some .int)) (by decide) rfl ?_
  intro p e s m args below meth c s₁ B hml hv
  obtain ⟨rfl, hP, hK⟩ := hv
  have hx := B.exec
  have hb := B.bytes
  have hr := B.returns
  have hts := atoms_spec (ws := wsX10_mark) B.pre
  have hin : ∀ w ∈ u_ws RX10 TX10 35, w ∈ wsX10_mark := by decide +kernel
  have hown : s.vm.findClass RX10 = some m.cls := findClass_of_methodNamed B.named
  have hlocks := B.notSynchronized
  have hS : va_S (AM mo a) s.heap s.heap [] := va_S.rf
  have hl := lv_entry ([.ref mo, .int j, .int s0, .int v0]) (n := 5) (Nat.le_of_ble_eq_true rfl)
  rw [lg_entry_eq]
  generalize (lg_sl ([.ref mo, .int j, .int s0, .int v0]) ++ List.replicate (5 - (lg_sl ([.ref mo, .int j, .int s0, .int v0])).length) Slot.unset).toArray = ls at hl ⊢
  have hl : lv_has ls 5 [(0, .ref mo), (1, .int j), (2, .int s0), (3, .int v0)] := hl
  have k_m4 : (-4 : Int32).toInt = -4 := by decide
  have k_m1 : (-1 : Int32).toInt = -1 := by decide
  have k_0 : (0 : Int32).toInt = 0 := by decide
  have k_1 : (1 : Int32).toInt = 1 := by decide
  have k_3 : (3 : Int32).toInt = 3 := by decide
  have k_36 : (36 : Int32).toInt = 36 := by decide
  have k_m99L : (-99 : Int64).toInt = -99 := by decide
  have k_99L : (99 : Int64).toInt = 99 := by decide
  have hI1 := hI.1
  refine lv_aload_n hx hb dX10_mark_0 rfl (lv_at hl 0 rfl) ?_
  refine lv_iconst (v := 0) hx hb dX10_mark_1 (by decide) ?_
  refine m_put (v := .int (0 : Int32)) (ty := .int) hx hb hts hin hown hK hP hD hS 0 (by decide) rfl (hts (.fieldLink RX10 79 "ShadowBenchModel" "thrown" "I") (by decide +kernel)) rfl (by decide +kernel) rfl rfl (upd f 0 (0 : Int32)) g rfl dX10_mark_2 (fun H locs hP hS => ?_)
  refine lv_aload_n hx hb dX10_mark_5 rfl (lv_at hl 0 rfl) ?_
  refine lv_iload_n hx hb dX10_mark_6 rfl (lv_at hl 1 rfl) ?_
  refine lv_iload_n hx hb dX10_mark_7 rfl (lv_at hl 2 rfl) ?_
  refine m_calli (As := [.int j, .int s0]) (rest := []) ⟨hx, hb, hml, hown, hts⟩ (c_X10_isSquare l D cy mo a (upd f 0 (0 : Int32)) g r q j s0 hD hI) (cwV 2 hts gX10_mark_X10_isSquare rfl rfl rfl (by decide +kernel) ⟨Nat.le_of_ble_eq_true rfl, Nat.le_of_ble_eq_true rfl⟩) hK hP rfl hl.1 rfl (Nat.le_of_ble_eq_true rfl) dX10_mark_8 ⟨Nat.le_of_ble_eq_true rfl, Nat.le_of_ble_eq_true rfl⟩ hS (fun r8 u H locs q8 hP hS => ?_)
  obtain ⟨rfl, q8⟩ := q8
  have hP : va_P D vwCl (WM cy mo a (upd f 0 (0 : Int32)) g r q) H := hP
  have q8 : Bo r8 ((0 ≤ j.toInt ∧ j.toInt < ((f 1)).toInt) ∧ 0 ≤ s0.toInt ∧ s0.toInt < ((r 3) j.toNatClampNeg).toInt * ((r 4) j.toNatClampNeg).toInt) := q8
  refine lv_if_eq (tgt := 28) hx hb dX10_mark_11 (by decide) (fun c11 => ?_) (fun c11 => ?_)
  · skip
    have b11 := bo_f q8 c11
    refine lv_iconst (v := (-1)) hx hb dX10_mark_28 (by decide) ?_
    exact W.iret (v := ((-1) : Int32)) hx hb hr (fun t ht hW => ⟨⟨_, ((upd f 0 (0 : Int32)), g, (va_up r 8 (r 8)), q), rfl, ⟨(r 8), rfl, (Or.inr ⟨(fun z9 => by have z8 := z9.1; unfold okJob at z8; have z7 := z9.2.1; have z6 := z9.2.2; rw [sq_eq hI z8.1 z8.2] at z7; first | exact b11 ⟨z8, z7⟩ | exact b25 z6 | omega | (have y25 := b25; simp only [k64, show (-99 : Int64).toInt = -99 from rfl, show (99 : Int64).toInt = 99 from rfl] at y25; omega)), rfl, rfl⟩)⟩, by unfold mB; rw [ht]; exact hP⟩, hS.F ht⟩) hS.2.2 dX10_mark_29
  · skip
    have b11 := bo_t q8 c11
    refine lv_iload_n hx hb dX10_mark_14 rfl (lv_at hl 3 rfl) ?_
    refine lv_i2l (v := v0.toInt64) hx hb dX10_mark_15 rfl ?_
    refine lv_ldc2 hx hb hown (hts (.constantLong RX10 139 (-99)) (by decide +kernel)) dX10_mark_16 ?_
    refine lv_ldc2 hx hb hown (hts (.constantLong RX10 141 (99)) (by decide +kernel)) dX10_mark_19 ?_
    refine m_pu (As := [.long (v0.toInt64), .long (-99 : Int64), .long (99 : Int64)]) (rest := []) ⟨hx, hb, hml, hown, hts⟩ (c_X10_isIn l v0.toInt64 (-99 : Int64) (99 : Int64) ) (va_cwS 3 hts gX10_mark_X10_isIn rfl rfl rfl (by decide +kernel) ⟨Nat.le_of_ble_eq_true rfl, Nat.le_of_ble_eq_true rfl⟩) hP rfl hl.1 rfl (Nat.le_of_ble_eq_true rfl) dX10_mark_22 ⟨Nat.le_of_ble_eq_true rfl, Nat.le_of_ble_eq_true rfl⟩ hS (fun r22 H locs q22 hP hS => ?_)
    have q22 := q22
    simp only [k64, show (0 : Int64).toInt = 0 from rfl, show (1 : Int64).toInt = 1 from rfl, show (2 : Int64).toInt = 2 from rfl, show (3 : Int64).toInt = 3 from rfl, show (6 : Int64).toInt = 6 from rfl] at q22
    refine lv_if_ne (tgt := 30) hx hb dX10_mark_25 (by decide) (fun c25 => ?_) (fun c25 => ?_)
    · skip
      have b25 := bo_t q22 c25
      have hsb := mul66 (mi_w hI (x := j) (by omega) (by omega) rfl) (mi_h hI (x := j) (by omega) (by omega) rfl)
      have y25 := b25
      try simp only [k64, show (-99 : Int64).toInt = -99 from rfl, show (99 : Int64).toInt = 99 from rfl] at y25
      refine lv_aload_n hx hb dX10_mark_30 rfl (lv_at hl 0 rfl) ?_
      refine m_get (v := .ref (a 2)) hx hb hts hin hown hK hP 2 (by decide) rfl (hts (.fieldLink RX10 7 "ShadowBenchModel" "kind" "[I") (by decide +kernel)) rfl dX10_mark_31 ?_
      refine lv_iload_n hx hb dX10_mark_34 rfl (lv_at hl 1 rfl) ?_
      refine m_iald (w := (r 2)) hx hb hK hP 1 rfl (vp_in_iff.mpr ⟨by omega, by omega⟩) dX10_mark_35 ?_
      refine lv_topi (fun v35 e35 => ?_)
      have i35 : v35.toInt = ((r 2) j.toNatClampNeg).toInt := congrArg Int32.toInt e35
      refine lv_iconst (v := 3) hx hb dX10_mark_36 (by decide) ?_
      refine lv_icmp_eq (tgt := 43) hx hb dX10_mark_37 (by decide) (fun c37 => ?_) (fun c37 => ?_)
      · skip
        have d37 := c37
        rw [fa_eq] at d37
        refine lv_aload_n hx hb dX10_mark_43 rfl (lv_at hl 0 rfl) ?_
        refine m_get (v := .ref (a 8)) hx hb hts hin hown hK hP 8 (by decide) rfl (hts (.fieldLink RX10 29 "ShadowBenchModel" "weight" "[I") (by decide +kernel)) rfl dX10_mark_44 ?_
        refine lv_bipush (v := 36) hx hb dX10_mark_47 (by decide) ?_
        refine lv_iload_n hx hb dX10_mark_49 rfl (lv_at hl 1 rfl) ?_
        refine lv_imul hx hb dX10_mark_50 ?_
        refine lv_topi (fun v50 e50 => ?_)
        have i50 : v50.toInt = 36 * j.toInt := by rw [e50]; exact mulcL rfl (by omega) (by omega)
        refine lv_iload_n hx hb dX10_mark_51 rfl (lv_at hl 2 rfl) ?_
        refine lv_iadd hx hb dX10_mark_52 ?_
        refine lv_topi (fun v52 e52 => ?_)
        have i52 : v52.toInt = v50.toInt + s0.toInt := by rw [e52]; exact fb_addI (by omega) (by omega)
        refine m_iald (w := (r 8)) hx hb hK hP 7 rfl (vp_in_iff.mpr ⟨by omega, by omega⟩) dX10_mark_53 ?_
        refine lv_topi (fun v53 e53 => ?_)
        have i53 : v53.toInt = ((r 8) v52.toNatClampNeg).toInt := congrArg Int32.toInt e53
        have cj9 := m_cl (x := j) (by omega)
        have cs9 := m_cl (x := s0) (by omega)
        have cv9 := m_cl (x := v52) (by omega)
        have f52 : v52.toNatClampNeg = (36 * j.toNatClampNeg + s0.toNatClampNeg) := by omega
        refine lv_iload_n hx hb dX10_mark_54 rfl (lv_at hl 3 rfl) ?_
        refine lv_icmp_eq (tgt := 62) hx hb dX10_mark_55 (by decide) (fun c55 => ?_) (fun c55 => ?_)
        · skip
          have d55 := c55
          rw [fa_eq] at d55
          refine lv_iconst (v := 0) hx hb dX10_mark_62 (by decide) ?_
          refine lv_istore (lv' := [(4, .int (0 : Int32)), (0, .ref mo), (1, .int j), (2, .int s0), (3, .int v0)]) hx hb dX10_mark_63 hl (by decide) rfl (fun ls hl => ?_)
          refine lv_aload_n hx hb dX10_mark_65 rfl (lv_at hl 1 rfl) ?_
          refine m_get (v := .ref (a 8)) hx hb hts hin hown hK hP 8 (by decide) rfl (hts (.fieldLink RX10 29 "ShadowBenchModel" "weight" "[I") (by decide +kernel)) rfl dX10_mark_66 ?_
          refine lv_bipush (v := 36) hx hb dX10_mark_69 (by decide) ?_
          refine lv_iload_n hx hb dX10_mark_71 rfl (lv_at hl 2 rfl) ?_
          refine lv_imul hx hb dX10_mark_72 ?_
          refine lv_topi (fun v72 e72 => ?_)
          have i72 : v72.toInt = 36 * j.toInt := by rw [e72]; exact mulcL rfl (by omega) (by omega)
          refine lv_iload_n hx hb dX10_mark_73 rfl (lv_at hl 3 rfl) ?_
          refine lv_iadd hx hb dX10_mark_74 ?_
          refine lv_topi (fun v74 e74 => ?_)
          have i74 : v74.toInt = v72.toInt + s0.toInt := by rw [e74]; exact fb_addI (by omega) (by omega)
          refine lv_iload_n hx hb dX10_mark_75 rfl (lv_at hl 4 rfl) ?_
          have cv8 := m_cl (x := v74) (by omega)
          have f74 : v74.toNatClampNeg = (36 * j.toNatClampNeg + s0.toNatClampNeg) := by omega
          refine m_iast (w := (r 8)) hx hb hK hP hD hS 7 rfl (vp_in_iff.mpr ⟨by omega, by omega⟩) (va_up r 8 ((upd (r 8) v74.toNatClampNeg v0))) rfl dX10_mark_76 (fun H locs hP hS => ?_)
          refine lv_iload hx hb dX10_mark_77 (lv_at hl 0 rfl) ?_
          refine lv_if_eq (tgt := 86) hx hb dX10_mark_79 (by decide) (fun c79 => ?_) (fun c79 => ?_)
          · skip
            have d79 := c79
            rw [fa_eq] at d79
            refine lv_iconst (v := 0) hx hb dX10_mark_86 (by decide) ?_
            exact W.iret (v := (0 : Int32)) hx hb hr (fun t ht hW => ⟨⟨_, ((upd f 0 (0 : Int32)), g, (va_up r 8 (((upd (r 8) v74.toNatClampNeg v0)))), q), rfl, ⟨((upd (r 8) v74.toNatClampNeg v0)), rfl, (Or.inl ⟨⟨b11.1, (by rw [sq_eq hI b11.1.1 b11.1.2]; exact b11.2), (by omega)⟩, Or.inl ⟨(e35.symm.trans c37), (by rw [← f52, ← e53]; first | (rw [if_pos c55]; done) | (rw [if_neg c55]; done)), (by rw [f74])⟩⟩)⟩, by unfold mB; rw [ht]; exact hP⟩, hS.F ht⟩) hS.2.2 dX10_mark_87
          · first | exact absurd c79 (by decide) | exact absurd (by decide) c79
        · skip
          have d55 := c55
          rw [fa_eq] at d55
          refine lv_iconst (v := 1) hx hb dX10_mark_58 (by decide) ?_
          refine lv_goto (tgt := 63) hx hb dX10_mark_59 (by decide) ?_
          refine lv_istore (lv' := [(4, .int (1 : Int32)), (0, .ref mo), (1, .int j), (2, .int s0), (3, .int v0)]) hx hb dX10_mark_63 hl (by decide) rfl (fun ls hl => ?_)
          refine lv_aload_n hx hb dX10_mark_65 rfl (lv_at hl 1 rfl) ?_
          refine m_get (v := .ref (a 8)) hx hb hts hin hown hK hP 8 (by decide) rfl (hts (.fieldLink RX10 29 "ShadowBenchModel" "weight" "[I") (by decide +kernel)) rfl dX10_mark_66 ?_
          refine lv_bipush (v := 36) hx hb dX10_mark_69 (by decide) ?_
          refine lv_iload_n hx hb dX10_mark_71 rfl (lv_at hl 2 rfl) ?_
          refine lv_imul hx hb dX10_mark_72 ?_
          refine lv_topi (fun v72 e72 => ?_)
          have i72 : v72.toInt = 36 * j.toInt := by rw [e72]; exact mulcL rfl (by omega) (by omega)
          refine lv_iload_n hx hb dX10_mark_73 rfl (lv_at hl 3 rfl) ?_
          refine lv_iadd hx hb dX10_mark_74 ?_
          refine lv_topi (fun v74 e74 => ?_)
          have i74 : v74.toInt = v72.toInt + s0.toInt := by rw [e74]; exact fb_addI (by omega) (by omega)
          refine lv_iload_n hx hb dX10_mark_75 rfl (lv_at hl 4 rfl) ?_
          have cv8 := m_cl (x := v74) (by omega)
          have f74 : v74.toNatClampNeg = (36 * j.toNatClampNeg + s0.toNatClampNeg) := by omega
          refine m_iast (w := (r 8)) hx hb hK hP hD hS 7 rfl (vp_in_iff.mpr ⟨by omega, by omega⟩) (va_up r 8 ((upd (r 8) v74.toNatClampNeg v0))) rfl dX10_mark_76 (fun H locs hP hS => ?_)
          refine lv_iload hx hb dX10_mark_77 (lv_at hl 0 rfl) ?_
          refine lv_if_eq (tgt := 86) hx hb dX10_mark_79 (by decide) (fun c79 => ?_) (fun c79 => ?_)
          · first | exact absurd c79 (by decide) | exact absurd (by decide) c79
          · skip
            have d79 := c79
            rw [fa_eq] at d79
            refine lv_iconst (v := 1) hx hb dX10_mark_82 (by decide) ?_
            refine lv_goto (tgt := 87) hx hb dX10_mark_83 (by decide) ?_
            exact W.iret (v := (1 : Int32)) hx hb hr (fun t ht hW => ⟨⟨_, ((upd f 0 (0 : Int32)), g, (va_up r 8 (((upd (r 8) v74.toNatClampNeg v0)))), q), rfl, ⟨((upd (r 8) v74.toNatClampNeg v0)), rfl, (Or.inl ⟨⟨b11.1, (by rw [sq_eq hI b11.1.1 b11.1.2]; exact b11.2), (by omega)⟩, Or.inl ⟨(e35.symm.trans c37), (by rw [← f52, ← e53]; first | (rw [if_pos c55]; done) | (rw [if_neg c55]; done)), (by rw [f74])⟩⟩)⟩, by unfold mB; rw [ht]; exact hP⟩, hS.F ht⟩) hS.2.2 dX10_mark_87
      · skip
        have d37 := c37
        rw [fa_eq] at d37
        refine lv_bipush (v := (-4)) hx hb dX10_mark_40 (by decide) ?_
        exact W.iret (v := ((-4) : Int32)) hx hb hr (fun t ht hW => ⟨⟨_, ((upd f 0 (0 : Int32)), g, (va_up r 8 (r 8)), q), rfl, ⟨(r 8), rfl, (Or.inl ⟨⟨b11.1, (by rw [sq_eq hI b11.1.1 b11.1.2]; exact b11.2), (by omega)⟩, Or.inr ⟨(fun z9 => c37 (e35.trans z9)), rfl, rfl⟩⟩)⟩, by unfold mB; rw [ht]; exact hP⟩, hS.F ht⟩) hS.2.2 dX10_mark_42
    · skip
      have b25 := bo_f q22 c25
      refine lv_iconst (v := (-1)) hx hb dX10_mark_28 (by decide) ?_
      exact W.iret (v := ((-1) : Int32)) hx hb hr (fun t ht hW => ⟨⟨_, ((upd f 0 (0 : Int32)), g, (va_up r 8 (r 8)), q), rfl, ⟨(r 8), rfl, (Or.inr ⟨(fun z9 => by have z8 := z9.1; unfold okJob at z8; have z7 := z9.2.1; have z6 := z9.2.2; rw [sq_eq hI z8.1 z8.2] at z7; first | exact b11 ⟨z8, z7⟩ | exact b25 z6 | omega | (have y25 := b25; simp only [k64, show (-99 : Int64).toInt = -99 from rfl, show (99 : Int64).toInt = 99 from rfl] at y25; omega)), rfl, rfl⟩)⟩, by unfold mB; rw [ht]; exact hP⟩, hS.F ht⟩) hS.2.2 dX10_mark_29
set_option maxHeartbeats 4000000 in
set_option maxRecDepth 100000 in
theorem c_X10_job_z (l : Launch) (D : va_G) (cy : Nat → ClassId) (mo : Nat) (a : Nat → Nat) (f : Nat → Int32) (g : Nat → Int64) (r : Nat → Nat → Int32) (q : Nat → Nat → Int64) (k0 : Int32) (w : Int32) (h : Int32) (hD : DM cy mo a) (hI : MI f r) : Mi l D cy mo a yX10_job wsX10_job ({ frames := 2, cells := 0, slots := 0, locals := 46 }) f g r q [.int k0, .int w, .int h] (fun r0 u => ∃ (kd : Nat → Int32), ∃ (wd : Nat → Int32), ∃ (hg : Nat → Int32), ∃ (tl : Nat → Int32), ∃ (hd : Nat → Int32), ∃ (jb : Int32), u = ((upd (upd f 0 (0 : Int32)) 1 jb), g, (va_up (va_up (va_up (va_up (va_up r 2 kd) 3 wd) 4 hg) 6 tl) 7 hd), q) ∧ (r0.toInt = jA k0 w h (f 1) ∧ ((okJ k0 w h (f 1) ∧ jb.toInt = (f 1).toInt + 1 ∧ wd = upd (r 3) (f 1).toNatClampNeg w ∧ hg = upd (r 4) (f 1).toNatClampNeg h ∧ kd = upd (r 2) (f 1).toNatClampNeg k0 ∧ tl = upd (upd (r 6) (4 * (f 1).toNatClampNeg) 1) (4 * (f 1).toNatClampNeg + 1) 1 ∧ hd = setB (r 7) (36 * (f 1).toNatClampNeg) (fun _ => 2) 36) ∨ (¬ okJ k0 w h (f 1) ∧ jb = f 1 ∧ wd = r 3 ∧ hg = r 4 ∧ kd = r 2 ∧ tl = r 6 ∧ hd = r 7)) ∧ MI (upd (upd f 0 (0 : Int32)) 1 jb) (va_up (va_up (va_up (va_up (va_up r 2 kd) 3 wd) 4 hg) 6 tl) 7 hd))) := by
  refine Met.ofW (cc := cX10_job) (maxL := 5) (ret := (some .int)) (by decide) rfl ?_
  intro p e s m args below meth c s₁ B hml hv
  obtain ⟨rfl, hP, hK⟩ := hv
  have hx := B.exec
  have hb := B.bytes
  have hr := B.returns
  have hts := atoms_spec (ws := wsX10_job) B.pre
  have hin : ∀ w ∈ u_ws RX10 TX10 35, w ∈ wsX10_job := by decide +kernel
  have hown : s.vm.findClass RX10 = some m.cls := findClass_of_methodNamed B.named
  have hlocks := B.notSynchronized
  have hS : va_S (AM mo a) s.heap s.heap [] := va_S.rf
  have hl := lv_entry ([.ref mo, .int k0, .int w, .int h]) (n := 5) (Nat.le_of_ble_eq_true rfl)
  rw [lg_entry_eq]
  generalize (lg_sl ([.ref mo, .int k0, .int w, .int h]) ++ List.replicate (5 - (lg_sl ([.ref mo, .int k0, .int w, .int h])).length) Slot.unset).toArray = ls at hl ⊢
  have hl : lv_has ls 5 [(0, .ref mo), (1, .int k0), (2, .int w), (3, .int h)] := hl
  have k_m2 : (-2 : Int32).toInt = -2 := by decide
  have k_m1 : (-1 : Int32).toInt = -1 := by decide
  have k_0 : (0 : Int32).toInt = 0 := by decide
  have k_1 : (1 : Int32).toInt = 1 := by decide
  have k_2 : (2 : Int32).toInt = 2 := by decide
  have k_4 : (4 : Int32).toInt = 4 := by decide
  have k_8 : (8 : Int32).toInt = 8 := by decide
  have k_36 : (36 : Int32).toInt = 36 := by decide
  have k_0L : (0 : Int64).toInt = 0 := by decide
  have k_3L : (3 : Int64).toInt = 3 := by decide
  have hI1 := hI.1
  refine lv_aload_n hx hb dX10_job_0 rfl (lv_at hl 0 rfl) ?_
  refine lv_iconst (v := 0) hx hb dX10_job_1 (by decide) ?_
  refine m_put (v := .int (0 : Int32)) (ty := .int) hx hb hts hin hown hK hP hD hS 0 (by decide) rfl (hts (.fieldLink RX10 79 "ShadowBenchModel" "thrown" "I") (by decide +kernel)) rfl (by decide +kernel) rfl rfl (upd f 0 (0 : Int32)) g rfl dX10_job_2 (fun H locs hP hS => ?_)
  refine lv_iload_n hx hb dX10_job_5 rfl (lv_at hl 1 rfl) ?_
  refine lv_i2l (v := k0.toInt64) hx hb dX10_job_6 rfl ?_
  refine lv_lconst (v := 0) hx hb dX10_job_7 (by decide) ?_
  refine lv_ldc2 hx hb hown (hts (.constantLong RX10 116 (3)) (by decide +kernel)) dX10_job_8 ?_
  refine m_pu (As := [.long (k0.toInt64), .long (0 : Int64), .long (3 : Int64)]) (rest := []) ⟨hx, hb, hml, hown, hts⟩ (c_X10_isIn l k0.toInt64 (0 : Int64) (3 : Int64) ) (va_cwS 3 hts gX10_job_X10_isIn rfl rfl rfl (by decide +kernel) ⟨Nat.le_of_ble_eq_true rfl, Nat.le_of_ble_eq_true rfl⟩) hP rfl hl.1 rfl (Nat.le_of_ble_eq_true rfl) dX10_job_11 ⟨Nat.le_of_ble_eq_true rfl, Nat.le_of_ble_eq_true rfl⟩ hS (fun r11 H locs q11 hP hS => ?_)
  have q11 := q11
  simp only [k64, show (0 : Int64).toInt = 0 from rfl, show (1 : Int64).toInt = 1 from rfl, show (2 : Int64).toInt = 2 from rfl, show (3 : Int64).toInt = 3 from rfl, show (6 : Int64).toInt = 6 from rfl] at q11
  refine lv_if_eq (tgt := 25) hx hb dX10_job_14 (by decide) (fun c14 => ?_) (fun c14 => ?_)
  · skip
    have b14 := bo_f q11 c14
    refine lv_iconst (v := (-1)) hx hb dX10_job_25 (by decide) ?_
    have hP := wm_eq (ec_f_0__0_1 f (0 : Int32)) rfl (ec_r___2_3_4_6_7 r ) rfl hP
    exact W.iret (v := ((-1) : Int32)) hx hb hr (fun t ht hW => ⟨⟨_, ((upd (upd f 0 (0 : Int32)) 1 (f 1)), g, (va_up (va_up (va_up (va_up (va_up r 2 (r 2)) 3 (r 3)) 4 (r 4)) 6 (r 6)) 7 (r 7)), q), rfl, ⟨(r 2), (r 3), (r 4), (r 6), (r 7), (f 1), rfl, ⟨(by unfold jA; rw [if_neg (by omega)]; rfl), (Or.inr ⟨(by unfold okJ; omega), rfl, rfl, rfl, rfl, rfl, rfl⟩), (by first | exact hI | exact mi_job hI (k := k0) (w := w) (hh := h) (jb := (f 1)) (by omega) (by omega) (by omega) (by omega) (by omega) rfl rfl rfl rfl rfl rfl rfl rfl)⟩⟩, by unfold mB; rw [ht]; exact hP⟩, hS.F ht⟩) hS.2.2 dX10_job_26
  · skip
    have b14 := bo_t q11 c14
    refine lv_iload_n hx hb dX10_job_17 rfl (lv_at hl 2 rfl) ?_
    refine lv_iload_n hx hb dX10_job_18 rfl (lv_at hl 3 rfl) ?_
    refine m_pu (As := [.int w, .int h]) (rest := []) ⟨hx, hb, hml, hown, hts⟩ (c_X10_isBoard l w h ) (va_cwS 2 hts gX10_job_X10_isBoard rfl rfl rfl (by decide +kernel) ⟨Nat.le_of_ble_eq_true rfl, Nat.le_of_ble_eq_true rfl⟩) hP rfl hl.1 rfl (Nat.le_of_ble_eq_true rfl) dX10_job_19 ⟨Nat.le_of_ble_eq_true rfl, Nat.le_of_ble_eq_true rfl⟩ hS (fun r19 H locs q19 hP hS => ?_)
    refine lv_if_ne (tgt := 27) hx hb dX10_job_22 (by decide) (fun c22 => ?_) (fun c22 => ?_)
    · skip
      have b22 := bo_t q19 c22
      refine lv_aload_n hx hb dX10_job_27 rfl (lv_at hl 0 rfl) ?_
      refine m_get (v := .int (f 1)) hx hb hts hin hown hK hP 1 (by decide) rfl (hts (.fieldLink RX10 93 "ShadowBenchModel" "jobs" "I") (by decide +kernel)) rfl dX10_job_28 ?_
      refine lv_bipush (v := 8) hx hb dX10_job_31 (by decide) ?_
      refine lv_icmp_ne (tgt := 39) hx hb dX10_job_33 (by decide) (fun c33 => ?_) (fun c33 => ?_)
      · skip
        have d33 := c33
        rw [fa_eq] at d33
        refine lv_aload_n hx hb dX10_job_39 rfl (lv_at hl 0 rfl) ?_
        refine m_get (v := .ref (a 2)) hx hb hts hin hown hK hP 2 (by decide) rfl (hts (.fieldLink RX10 7 "ShadowBenchModel" "kind" "[I") (by decide +kernel)) rfl dX10_job_40 ?_
        refine lv_aload_n hx hb dX10_job_43 rfl (lv_at hl 0 rfl) ?_
        refine m_get (v := .int (f 1)) hx hb hts hin hown hK hP 1 (by decide) rfl (hts (.fieldLink RX10 93 "ShadowBenchModel" "jobs" "I") (by decide +kernel)) rfl dX10_job_44 ?_
        refine lv_iload_n hx hb dX10_job_47 rfl (lv_at hl 1 rfl) ?_
        refine m_iast (w := (r 2)) hx hb hK hP hD hS 1 rfl (vp_in_iff.mpr ⟨by omega, by omega⟩) (va_up r 2 (upd (r 2) (f 1).toNatClampNeg k0)) (ms_2 cy mo a _ _ _ _ _) dX10_job_48 (fun H locs hP hS => ?_)
        refine lv_aload_n hx hb dX10_job_49 rfl (lv_at hl 0 rfl) ?_
        refine m_get (v := .ref (a 3)) hx hb hts hin hown hK hP 3 (by decide) rfl (hts (.fieldLink RX10 13 "ShadowBenchModel" "wide" "[I") (by decide +kernel)) rfl dX10_job_50 ?_
        refine lv_aload_n hx hb dX10_job_53 rfl (lv_at hl 0 rfl) ?_
        refine m_get (v := .int (f 1)) hx hb hts hin hown hK hP 1 (by decide) rfl (hts (.fieldLink RX10 93 "ShadowBenchModel" "jobs" "I") (by decide +kernel)) rfl dX10_job_54 ?_
        refine lv_iload_n hx hb dX10_job_57 rfl (lv_at hl 2 rfl) ?_
        refine m_iast (w := (r 3)) hx hb hK hP hD hS 2 rfl (vp_in_iff.mpr ⟨by omega, by omega⟩) (va_up (va_up r 2 ((upd (r 2) (f 1).toNatClampNeg k0))) 3 (upd (r 3) (f 1).toNatClampNeg w)) (ms_3 cy mo a _ _ _ _ _) dX10_job_58 (fun H locs hP hS => ?_)
        refine lv_aload_n hx hb dX10_job_59 rfl (lv_at hl 0 rfl) ?_
        refine m_get (v := .ref (a 4)) hx hb hts hin hown hK hP 4 (by decide) rfl (hts (.fieldLink RX10 16 "ShadowBenchModel" "high" "[I") (by decide +kernel)) rfl dX10_job_60 ?_
        refine lv_aload_n hx hb dX10_job_63 rfl (lv_at hl 0 rfl) ?_
        refine m_get (v := .int (f 1)) hx hb hts hin hown hK hP 1 (by decide) rfl (hts (.fieldLink RX10 93 "ShadowBenchModel" "jobs" "I") (by decide +kernel)) rfl dX10_job_64 ?_
        refine lv_iload_n hx hb dX10_job_67 rfl (lv_at hl 3 rfl) ?_
        refine m_iast (w := (r 4)) hx hb hK hP hD hS 3 rfl (vp_in_iff.mpr ⟨by omega, by omega⟩) (va_up (va_up (va_up r 2 ((upd (r 2) (f 1).toNatClampNeg k0))) 3 ((upd (r 3) (f 1).toNatClampNeg w))) 4 (upd (r 4) (f 1).toNatClampNeg h)) (ms_4 cy mo a _ _ _ _ _) dX10_job_68 (fun H locs hP hS => ?_)
        refine lv_aload_n hx hb dX10_job_69 rfl (lv_at hl 0 rfl) ?_
        refine m_get (v := .ref (a 6)) hx hb hts hin hown hK hP 6 (by decide) rfl (hts (.fieldLink RX10 22 "ShadowBenchModel" "isTold" "[Z") (by decide +kernel)) rfl dX10_job_70 ?_
        refine lv_iconst (v := 4) hx hb dX10_job_73 (by decide) ?_
        refine lv_aload_n hx hb dX10_job_74 rfl (lv_at hl 0 rfl) ?_
        refine m_get (v := .int (f 1)) hx hb hts hin hown hK hP 1 (by decide) rfl (hts (.fieldLink RX10 93 "ShadowBenchModel" "jobs" "I") (by decide +kernel)) rfl dX10_job_75 ?_
        refine lv_imul hx hb dX10_job_78 ?_
        refine lv_topi (fun v78 e78 => ?_)
        have i78 : v78.toInt = 4 * (f 1).toInt := by rw [e78]; exact mulcL rfl (by omega) (by omega)
        have cf9 := m_cl (x := f 1) (by omega)
        have cv9 := m_cl (x := v78) (by omega)
        have f78 : v78.toNatClampNeg = 4 * (f 1).toNatClampNeg := by omega
        refine lv_iconst (v := 1) hx hb dX10_job_79 (by decide) ?_
        refine m_zast (w := (r 6)) hx hb hK hP hD hS 5 rfl (vp_in_iff.mpr ⟨by omega, by omega⟩) (va_up (va_up (va_up (va_up r 2 ((upd (r 2) (f 1).toNatClampNeg k0))) 3 ((upd (r 3) (f 1).toNatClampNeg w))) 4 ((upd (r 4) (f 1).toNatClampNeg h))) 6 (upd (r 6) v78.toNatClampNeg ((1 : Int32) &&& 1))) (ms_6 cy mo a _ _ _ _ _) dX10_job_80 (fun H locs hP hS => ?_)
        refine lv_aload_n hx hb dX10_job_81 rfl (lv_at hl 0 rfl) ?_
        refine m_get (v := .ref (a 6)) hx hb hts hin hown hK hP 6 (by decide) rfl (hts (.fieldLink RX10 22 "ShadowBenchModel" "isTold" "[Z") (by decide +kernel)) rfl dX10_job_82 ?_
        refine lv_iconst (v := 4) hx hb dX10_job_85 (by decide) ?_
        refine lv_aload_n hx hb dX10_job_86 rfl (lv_at hl 0 rfl) ?_
        refine m_get (v := .int (f 1)) hx hb hts hin hown hK hP 1 (by decide) rfl (hts (.fieldLink RX10 93 "ShadowBenchModel" "jobs" "I") (by decide +kernel)) rfl dX10_job_87 ?_
        refine lv_imul hx hb dX10_job_90 ?_
        refine lv_topi (fun v90 e90 => ?_)
        have i90 : v90.toInt = 4 * (f 1).toInt := by rw [e90]; exact mulcL rfl (by omega) (by omega)
        refine lv_iconst (v := 1) hx hb dX10_job_91 (by decide) ?_
        refine lv_iadd hx hb dX10_job_92 ?_
        refine lv_topi (fun v92 e92 => ?_)
        have i92 : v92.toInt = v90.toInt + (1 : Int32).toInt := by rw [e92]; exact fb_addI (by omega) (by omega)
        have cv8 := m_cl (x := v92) (by omega)
        have f92 : v92.toNatClampNeg = 4 * (f 1).toNatClampNeg + 1 := by omega
        refine lv_iconst (v := 1) hx hb dX10_job_93 (by decide) ?_
        refine m_zast (w := ((upd (r 6) v78.toNatClampNeg ((1 : Int32) &&& 1)))) hx hb hK hP hD hS 5 rfl (vp_in_iff.mpr ⟨by omega, by omega⟩) (va_up (va_up (va_up (va_up (va_up r 2 ((upd (r 2) (f 1).toNatClampNeg k0))) 3 ((upd (r 3) (f 1).toNatClampNeg w))) 4 ((upd (r 4) (f 1).toNatClampNeg h))) 6 ((upd (r 6) v78.toNatClampNeg ((1 : Int32) &&& 1)))) 6 (upd ((upd (r 6) v78.toNatClampNeg ((1 : Int32) &&& 1))) v92.toNatClampNeg ((1 : Int32) &&& 1))) (ms_6 cy mo a _ _ _ _ _) dX10_job_94 (fun H locs hP hS => ?_)
        have hP := wm_eq rfl rfl (es_r_2_3_4_6__6 r ((upd (r 2) (f 1).toNatClampNeg k0)) ((upd (r 3) (f 1).toNatClampNeg w)) ((upd (r 4) (f 1).toNatClampNeg h)) ((upd (r 6) v78.toNatClampNeg ((1 : Int32) &&& 1))) (upd ((upd (r 6) v78.toNatClampNeg ((1 : Int32) &&& 1))) v92.toNatClampNeg ((1 : Int32) &&& 1))) rfl hP
        refine lv_bipush (v := 36) hx hb dX10_job_95 (by decide) ?_
        refine lv_aload_n hx hb dX10_job_97 rfl (lv_at hl 0 rfl) ?_
        refine m_get (v := .int (f 1)) hx hb hts hin hown hK hP 1 (by decide) rfl (hts (.fieldLink RX10 93 "ShadowBenchModel" "jobs" "I") (by decide +kernel)) rfl dX10_job_98 ?_
        refine lv_imul hx hb dX10_job_101 ?_
        refine lv_topi (fun v101 e101 => ?_)
        have i101 : v101.toInt = 36 * (f 1).toInt := by rw [e101]; exact mulcL rfl (by omega) (by omega)
        refine lv_istore (lv' := [(4, .int v101), (0, .ref mo), (1, .int k0), (2, .int w), (3, .int h)]) hx hb dX10_job_102 hl (by decide) rfl (fun ls hl => ?_)
        have loop_104 : ∀ (n : Nat) (x4 : Int32) (hd : Nat → Int32), (36 * (f 1).toInt ≤ x4.toInt ∧ x4.toInt ≤ 36 * (f 1).toInt + 36) → (hd = setB (r 7) (36 * (f 1).toNatClampNeg) (fun _ => 2) (x4.toNatClampNeg - 36 * (f 1).toNatClampNeg)) → (36 * (f 1).toInt + 36 - x4.toInt).toNat < n → ∀ (H : Heap) (locs : List Loc), va_P D vwCl (WM cy mo a (upd f 0 (0 : Int32)) g (va_up (va_up (va_up (va_up (va_up r 2 ((upd (r 2) (f 1).toNatClampNeg k0))) 3 ((upd (r 3) (f 1).toNatClampNeg w))) 4 ((upd (r 4) (f 1).toNatClampNeg h))) 6 ((upd ((upd (r 6) v78.toNatClampNeg ((1 : Int32) &&& 1))) v92.toNatClampNeg ((1 : Int32) &&& 1)))) 7 hd) q) H → va_S (AM mo a) s.heap H locs → ∀ (ls : Array Slot), lv_has ls 5 [(4, .int x4), (0, .ref mo), (1, .int k0), (2, .int w), (3, .int h)] → W p l e (headSpec wsX10_job ({ frames := 2, cells := 0, slots := 0, locals := 46 })).room s m #[Value.ref mo, Value.int k0, Value.int w, Value.int h] below meth c H locs 0 0 (MQ below (va_Qi (fun r0 u => ∃ (kd : Nat → Int32), ∃ (wd : Nat → Int32), ∃ (hg : Nat → Int32), ∃ (tl : Nat → Int32), ∃ (hd : Nat → Int32), ∃ (jb : Int32), u = ((upd (upd f 0 (0 : Int32)) 1 jb), g, (va_up (va_up (va_up (va_up (va_up r 2 kd) 3 wd) 4 hg) 6 tl) 7 hd), q) ∧ (r0.toInt = jA k0 w h (f 1) ∧ ((okJ k0 w h (f 1) ∧ jb.toInt = (f 1).toInt + 1 ∧ wd = upd (r 3) (f 1).toNatClampNeg w ∧ hg = upd (r 4) (f 1).toNatClampNeg h ∧ kd = upd (r 2) (f 1).toNatClampNeg k0 ∧ tl = upd (upd (r 6) (4 * (f 1).toNatClampNeg) 1) (4 * (f 1).toNatClampNeg + 1) 1 ∧ hd = setB (r 7) (36 * (f 1).toNatClampNeg) (fun _ => 2) 36) ∨ (¬ okJ k0 w h (f 1) ∧ jb = f 1 ∧ wd = r 3 ∧ hg = r 4 ∧ kd = r 2 ∧ tl = r 6 ∧ hd = r 7)) ∧ MI (upd (upd f 0 (0 : Int32)) 1 jb) (va_up (va_up (va_up (va_up (va_up r 2 kd) 3 wd) 4 hg) 6 tl) 7 hd))) (mB D cy mo a) (AM mo a)) #[Value.ref mo, Value.int k0, Value.int w, Value.int h] s 0 0 (AM mo a)) (F0 m 104 ls []) := by
          intro n
          induction n with
          | zero => intro x4 hd j104_0 j104_1 hn; exact absurd hn (Nat.not_lt_zero _)
          | succ n ih_104 =>
            intro x4 hd j104_0 j104_1 hn_104 H locs hP hS ls hl
            have cx4 := m_cl (x := x4) (by omega)
            have cv7 := m_cl (x := v101) (by omega)
            refine lv_iload hx hb dX10_job_104 (lv_at hl 0 rfl) ?_
            refine lv_bipush (v := 36) hx hb dX10_job_106 (by decide) ?_
            refine lv_aload_n hx hb dX10_job_108 rfl (lv_at hl 1 rfl) ?_
            refine m_get (v := .int (f 1)) hx hb hts hin hown hK hP 1 (by decide) rfl (hts (.fieldLink RX10 93 "ShadowBenchModel" "jobs" "I") (by decide +kernel)) rfl dX10_job_109 ?_
            refine lv_imul hx hb dX10_job_112 ?_
            refine lv_topi (fun v112 e112 => ?_)
            have i112 : v112.toInt = 36 * (f 1).toInt := by rw [e112]; exact mulcL rfl (by omega) (by omega)
            refine lv_bipush (v := 36) hx hb dX10_job_113 (by decide) ?_
            refine lv_iadd hx hb dX10_job_115 ?_
            refine lv_topi (fun v115 e115 => ?_)
            have i115 : v115.toInt = v112.toInt + (36 : Int32).toInt := by rw [e115]; exact fb_addI (by omega) (by omega)
            refine lv_icmp_ge (tgt := 133) hx hb dX10_job_116 (by decide) (fun c116 => ?_) (fun c116 => ?_)
            · skip
              have d116 := c116
              rw [fa_le] at d116
              refine lv_aload_n hx hb dX10_job_133 rfl (lv_at hl 1 rfl) ?_
              refine lv_dup hx hb dX10_job_134 rfl ?_
              refine m_get (v := .int (f 1)) hx hb hts hin hown hK hP 1 (by decide) rfl (hts (.fieldLink RX10 93 "ShadowBenchModel" "jobs" "I") (by decide +kernel)) rfl dX10_job_135 ?_
              refine lv_iconst (v := 1) hx hb dX10_job_138 (by decide) ?_
              refine lv_iadd hx hb dX10_job_139 ?_
              refine lv_topi (fun v139 e139 => ?_)
              have i139 : v139.toInt = (f 1).toInt + (1 : Int32).toInt := by rw [e139]; exact fb_addI (by omega) (by omega)
              refine m_put (v := .int v139) (ty := .int) hx hb hts hin hown hK hP hD hS 1 (by decide) rfl (hts (.fieldLink RX10 93 "ShadowBenchModel" "jobs" "I") (by decide +kernel)) rfl (by decide +kernel) rfl rfl (upd (upd f 0 (0 : Int32)) 1 v139) g rfl dX10_job_140 (fun H locs hP hS => ?_)
              refine lv_aload_n hx hb dX10_job_143 rfl (lv_at hl 1 rfl) ?_
              refine m_get (v := .int v139) hx hb hts hin hown hK hP 1 (by decide) rfl (hts (.fieldLink RX10 93 "ShadowBenchModel" "jobs" "I") (by decide +kernel)) rfl dX10_job_144 ?_
              refine lv_iconst (v := 1) hx hb dX10_job_147 (by decide) ?_
              refine lv_isub hx hb dX10_job_148 ?_
              refine lv_topi (fun v148 e148 => ?_)
              have i148 : v148.toInt = v139.toInt - (1 : Int32).toInt := by rw [e148]; exact fb_subI (by omega) (by omega)
              have hP := wm_eq rfl rfl (ec_r_2_3_4_6_7__2_3_4_6_7 r ((upd (r 2) (f 1).toNatClampNeg k0)) ((upd (r 3) (f 1).toNatClampNeg w)) ((upd (r 4) (f 1).toNatClampNeg h)) ((upd ((upd (r 6) v78.toNatClampNeg ((1 : Int32) &&& 1))) v92.toNatClampNeg ((1 : Int32) &&& 1))) hd) rfl hP
              exact W.iret (v := v148) hx hb hr (fun t ht hW => ⟨⟨_, ((upd (upd f 0 (0 : Int32)) 1 v139), g, (va_up (va_up (va_up (va_up (va_up r 2 (((upd (r 2) (f 1).toNatClampNeg k0)))) 3 (((upd (r 3) (f 1).toNatClampNeg w)))) 4 (((upd (r 4) (f 1).toNatClampNeg h)))) 6 (((upd ((upd (r 6) v78.toNatClampNeg ((1 : Int32) &&& 1))) v92.toNatClampNeg ((1 : Int32) &&& 1))))) 7 hd), q), rfl, ⟨((upd (r 2) (f 1).toNatClampNeg k0)), ((upd (r 3) (f 1).toNatClampNeg w)), ((upd (r 4) (f 1).toNatClampNeg h)), ((upd ((upd (r 6) v78.toNatClampNeg ((1 : Int32) &&& 1))) v92.toNatClampNeg ((1 : Int32) &&& 1))), hd, v139, rfl, ⟨(by unfold jA; rw [if_pos (by omega), if_pos (by omega)]; omega), (Or.inl ⟨(by unfold okJ; omega), (by omega), rfl, rfl, rfl, (by rw [f78, f92]; rfl), (by rw [j104_1, show x4.toNatClampNeg - 36 * (f 1).toNatClampNeg = 36 by omega])⟩), (by first | exact hI | exact mi_job hI (k := k0) (w := w) (hh := h) (jb := v139) (by omega) (by omega) (by omega) (by omega) (by omega) rfl rfl rfl rfl rfl rfl rfl rfl)⟩⟩, by unfold mB; rw [ht]; exact hP⟩, hS.F ht⟩) hS.2.2 dX10_job_149
            · skip
              have d116 := c116
              rw [fa_le] at d116
              refine lv_aload_n hx hb dX10_job_119 rfl (lv_at hl 1 rfl) ?_
              refine m_get (v := .ref (a 7)) hx hb hts hin hown hK hP 7 (by decide) rfl (hts (.fieldLink RX10 26 "ShadowBenchModel" "held" "[I") (by decide +kernel)) rfl dX10_job_120 ?_
              refine lv_iload hx hb dX10_job_123 (lv_at hl 0 rfl) ?_
              refine lv_iconst (v := 2) hx hb dX10_job_125 (by decide) ?_
              refine m_iast (w := hd) hx hb hK hP hD hS 6 rfl (vp_in_iff.mpr ⟨by omega, by omega⟩) (va_up (va_up (va_up (va_up (va_up (va_up r 2 ((upd (r 2) (f 1).toNatClampNeg k0))) 3 ((upd (r 3) (f 1).toNatClampNeg w))) 4 ((upd (r 4) (f 1).toNatClampNeg h))) 6 ((upd ((upd (r 6) v78.toNatClampNeg ((1 : Int32) &&& 1))) v92.toNatClampNeg ((1 : Int32) &&& 1)))) 7 hd) 7 (upd hd x4.toNatClampNeg (2 : Int32))) (ms_7 cy mo a _ _ _ _ _) dX10_job_126 (fun H locs hP hS => ?_)
              have hP := wm_eq rfl rfl (es_r_2_3_4_6_7__7 r ((upd (r 2) (f 1).toNatClampNeg k0)) ((upd (r 3) (f 1).toNatClampNeg w)) ((upd (r 4) (f 1).toNatClampNeg h)) ((upd ((upd (r 6) v78.toNatClampNeg ((1 : Int32) &&& 1))) v92.toNatClampNeg ((1 : Int32) &&& 1))) hd (upd hd x4.toNatClampNeg (2 : Int32))) rfl hP
              obtain ⟨v127, e127⟩ : ∃ y : Int32, y = x4 + 1 := ⟨_, rfl⟩
              have i127 : v127.toInt = x4.toInt + 1 := by rw [e127]; exact fb_addI (by omega) (by omega)
              refine lv_iinc (v := v127) (lv' := [(4, .int v127), (0, .ref mo), (1, .int k0), (2, .int w), (3, .int h)]) hx hb dX10_job_127 hl (k := 0) rfl (by rw [e127]; rfl) (by decide) rfl (fun ls hl => ?_)
              refine lv_goto (tgt := 104) hx hb dX10_job_130 (by decide) ?_
              have hP := wm_eq rfl rfl (ec_r_2_3_4_6_7__2_3_4_6_7 r ((upd (r 2) (f 1).toNatClampNeg k0)) ((upd (r 3) (f 1).toNatClampNeg w)) ((upd (r 4) (f 1).toNatClampNeg h)) ((upd ((upd (r 6) v78.toNatClampNeg ((1 : Int32) &&& 1))) v92.toNatClampNeg ((1 : Int32) &&& 1))) ((upd hd x4.toNatClampNeg (2 : Int32)))) rfl hP
              exact ih_104 v127 (((upd hd x4.toNatClampNeg (2 : Int32)))) (by omega) (by rw [j104_1, show v127.toNatClampNeg - 36 * (f 1).toNatClampNeg = (x4.toNatClampNeg - 36 * (f 1).toNatClampNeg) + 1 by have := m_cl (x := v127) (by omega); omega, ← setB_s, show 36 * (f 1).toNatClampNeg + (x4.toNatClampNeg - 36 * (f 1).toNatClampNeg) = x4.toNatClampNeg by omega]) (by omega) _ _ hP hS ls (lv_sub hl [0, 1, 2, 3, 4] rfl)
        have hP := wm_eq rfl rfl (ec_r_2_3_4_6__2_3_4_6_7 r ((upd (r 2) (f 1).toNatClampNeg k0)) ((upd (r 3) (f 1).toNatClampNeg w)) ((upd (r 4) (f 1).toNatClampNeg h)) ((upd ((upd (r 6) v78.toNatClampNeg ((1 : Int32) &&& 1))) v92.toNatClampNeg ((1 : Int32) &&& 1)))) rfl hP
        exact loop_104 (36 + 1) v101 (r 7) (by omega) (by rw [show v101.toNatClampNeg - 36 * (f 1).toNatClampNeg = 0 by have := m_cl (x := v101) (by omega); omega, setB_0]) (by omega) _ _ hP hS ls (lv_sub hl [0, 1, 2, 3, 4] rfl)
      · skip
        have d33 := c33
        rw [fa_eq] at d33
        refine lv_bipush (v := (-2)) hx hb dX10_job_36 (by decide) ?_
        have hP := wm_eq (ec_f_0__0_1 f (0 : Int32)) rfl (ec_r___2_3_4_6_7 r ) rfl hP
        exact W.iret (v := ((-2) : Int32)) hx hb hr (fun t ht hW => ⟨⟨_, ((upd (upd f 0 (0 : Int32)) 1 (f 1)), g, (va_up (va_up (va_up (va_up (va_up r 2 (r 2)) 3 (r 3)) 4 (r 4)) 6 (r 6)) 7 (r 7)), q), rfl, ⟨(r 2), (r 3), (r 4), (r 6), (r 7), (f 1), rfl, ⟨(by unfold jA; rw [if_pos (by omega), if_neg (by omega)]; rfl), (Or.inr ⟨(by unfold okJ; omega), rfl, rfl, rfl, rfl, rfl, rfl⟩), (by first | exact hI | exact mi_job hI (k := k0) (w := w) (hh := h) (jb := (f 1)) (by omega) (by omega) (by omega) (by omega) (by omega) rfl rfl rfl rfl rfl rfl rfl rfl)⟩⟩, by unfold mB; rw [ht]; exact hP⟩, hS.F ht⟩) hS.2.2 dX10_job_38
    · skip
      have b22 := bo_f q19 c22
      refine lv_iconst (v := (-1)) hx hb dX10_job_25 (by decide) ?_
      have hP := wm_eq (ec_f_0__0_1 f (0 : Int32)) rfl (ec_r___2_3_4_6_7 r ) rfl hP
      exact W.iret (v := ((-1) : Int32)) hx hb hr (fun t ht hW => ⟨⟨_, ((upd (upd f 0 (0 : Int32)) 1 (f 1)), g, (va_up (va_up (va_up (va_up (va_up r 2 (r 2)) 3 (r 3)) 4 (r 4)) 6 (r 6)) 7 (r 7)), q), rfl, ⟨(r 2), (r 3), (r 4), (r 6), (r 7), (f 1), rfl, ⟨(by unfold jA; rw [if_neg (by omega)]; rfl), (Or.inr ⟨(by unfold okJ; omega), rfl, rfl, rfl, rfl, rfl, rfl⟩), (by first | exact hI | exact mi_job hI (k := k0) (w := w) (hh := h) (jb := (f 1)) (by omega) (by omega) (by omega) (by omega) (by omega) rfl rfl rfl rfl rfl rfl rfl rfl)⟩⟩, by unfold mB; rw [ht]; exact hP⟩, hS.F ht⟩) hS.2.2 dX10_job_26

/-- what is told of a job in the class: its cells and numbers -/
abbrev JT : Type := (Nat × Nat × Nat × Nat × Nat × Nat × Nat × Nat) × (Int64 × Int64) × List Value × (Nat → Int32) × (Nat → Int32)
abbrev jX (T : JT) : Nat := T.1.1
abbrev jK (T : JT) : Nat := T.1.2.1
abbrev jB (T : JT) : Nat := T.1.2.2.1
abbrev jS (T : JT) : Nat := T.1.2.2.2.1
abbrev jL (T : JT) : Nat := T.1.2.2.2.2.1
abbrev jW (T : JT) : Nat := T.1.2.2.2.2.2.1
abbrev jH (T : JT) : Nat := T.1.2.2.2.2.2.2.1
abbrev jC (T : JT) : Nat := T.1.2.2.2.2.2.2.2
abbrev jO (T : JT) : Int64 := T.2.1.1
abbrev jNn (T : JT) : Int64 := T.2.1.2
abbrev jM (T : JT) : List Value := T.2.2.1
abbrev jF (T : JT) : Nat → Int32 := T.2.2.2.1
abbrev jG (T : JT) : Nat → Int32 := T.2.2.2.2
/-- a job's numbers are the reference's -/
def jP (j : Nat) (T : JT) (r : Nat → Nat → Int32) : Prop :=
  jK T = kcl (r 2 j) ∧ jW T = (r 3 j).toNatClampNeg ∧ jH T = (r 4 j).toNatClampNeg ∧
  (∀ y, y < 4 → (r 6 (4 * j + y) = 0 ↔ tB (jL T) y = false)) ∧
  (∀ y l, y < 4 → l < lnC (jW T) (jH T) y → jF T (y * 11 + l) = if tB (jL T) y then r 5 (44 * j + 11 * y + l) else 0) ∧
  (∀ s, s < jW T * jH T → r 7 (36 * j + s) = hH (jO T) (jNn T) s ∧ ¬ (lb (jO T) s = true ∧ lb (jNn T) s = true)) ∧ (∀ s, jW T * jH T ≤ s → lb (jO T) s = false) ∧
  (jK T = 4 → ∀ s, s < jW T * jH T → jG T s = r 8 (36 * j + s)) ∧ (∀ s, jW T * jH T ≤ s → s < 36 → r 8 (36 * j + s) = 0) ∧
  (tB (jL T) 0 = true ∧ tB (jL T) 1 = true) ∧ (∀ y l, y < 4 → l < lnC (jW T) (jH T) y → 0 ≤ (jF T (y * 11 + l)).toInt ∧ (jF T (y * 11 + l)).toInt ≤ 6)
def jobT (cy : Nat → ClassId) (G : cG) (W : va_W) (fa : Nat → Option Nat) (j : Nat) (T : JT) (r : Nat → Nat → Int32) : Prop :=
  jobS cy G W fa j (jX T) (jK T) (jB T) (jS T) (jL T) (jW T) (jH T) (jO T) (jNn T) (jM T) (jF T) ∧ (jK T = 4 → jM T = [.ref (jC T)] ∧ cIn W (jC T) (.inl (cy 0, jW T * jH T, .inl (jG T)))) ∧ jP j T r
def jDif (S T : JT) : Prop := jX S ≠ jX T ∧ jS S ≠ jS T ∧ (jK S = 4 → jC S ≠ jS T) ∧ (jK T = 4 → jC T ≠ jS S) ∧ (jK S = 4 → jK T = 4 → jC S ≠ jC T)
def jZ (j : Nat) (r : Nat → Nat → Int32) : Prop := (∀ e, e < 44 → r 5 (44 * j + e) = 0) ∧ (∀ y, y < 4 → r 6 (4 * j + y) = 0) ∧ (∀ s, s < 36 → r 8 (36 * j + s) = 0)
def RJ (cy : Nat → ClassId) (G : cG) (W : va_W) (fa : Nat → Option Nat) (jc : Int32) (J : Nat → JT) (r : Nat → Nat → Int32) : Prop :=
  (∀ j : Nat, (j : Int) < jc.toInt → jobT cy G W fa j (J j) r) ∧ (∀ i j : Nat, (i : Int) < jc.toInt → (j : Int) < jc.toInt → i ≠ j → jDif (J i) (J j)) ∧ (∀ i : Nat, (i : Int) < jc.toInt → jK (J i) = 4 → jC (J i) ≠ jS (J i)) ∧ (∀ j : Nat, jc.toInt ≤ (j : Int) → j < 8 → jZ j r)
theorem bs_mono {f g : Nat → Bool} {n : Nat} (h : ∀ i, i < n → f i = true → g i = true) : bs f n ≤ bs g n := by
  induction n with
  | zero => exact Nat.le_refl _
  | succ n ih =>
    have h1 := ih (fun i hi => h i (by omega))
    have h2 := h n (by omega)
    simp only [bs]
    cases hf : f n
    · simp only [Bool.toNat_false]; omega
    · rw [h2 hf]; simp only [Bool.toNat_true]; omega
theorem ln_6 : ∀ w, w < 7 → ∀ h, h < 7 → ∀ way, way < 4 → ∀ line, line < 11 → bs (fun s => decide (lnT h way (s % w) (s / w) = line)) (w * h) ≤ 6 := by decide +kernel
theorem shN_6 {w h : Nat} (hb : 1 ≤ w ∧ w ≤ 6 ∧ 1 ≤ h ∧ h ≤ 6) {p : Int64} {way line : Nat} (hy : way < 4) (hl : line < 11) : shN w h p way line ≤ 6 := by
  have a := ln_6 w (by omega) h (by omega) way hy line hl
  have b : shN w h p way line ≤ bs (fun s => decide (lnT h way (s % w) (s / w) = line)) (w * h) := by
    unfold shN
    exact bs_mono (fun i _ hi => (Bool.and_eq_true_iff.mp hi).1)
  omega
theorem shN_I {w h : Nat} (hb : 1 ≤ w ∧ w ≤ 6 ∧ 1 ≤ h ∧ h ≤ 6) {p : Int64} {way line : Nat} (hy : way < 4) (hl : line < 11) : 0 ≤ (nI (shN w h p way line)).toInt ∧ (nI (shN w h p way line)).toInt ≤ 6 := by
  have a := shN_6 hb (p := p) hy hl
  rw [nI_toInt (by omega)]
  omega
section RJS
variable {cy : Nat → ClassId} {A : Nat → Prop} {G G1 : cG} {W W1 : va_W} {fa : Nat → Option Nat} {jc : Int32} {J : Nat → JT} {r r1 : Nat → Nat → Int32}
/-- the cells of a job and their kinds -/
theorem jobT.kinds (hD : va_D A W) (hT : cT cy G W) {j : Nat} {T : JT} (h : jobT cy G W fa j T r) : G (jX T) = some (3, jK T, 8 * jW T + jH T) ∧ G (jS T) = some (14, 44, 0) ∧ (jK T = 4 → G (jC T) = some (14, jW T * jH T, 0)) := by
  obtain ⟨⟨-, hx, hb, -, hm, -⟩, h2, -⟩ := h
  obtain ⟨-, hs, hj⟩ := w3sh hD hT hx hb hm
  refine ⟨hx, hs, fun z => ?_⟩
  rw [z] at hj
  obtain ⟨-, c, e1, e2⟩ := cJ4 hj
  have e3 := (h2 z).1
  rw [e3] at e1
  simp only [List.cons.injEq, Value.ref.injEq, and_true] at e1
  rw [e1]
  exact e2
/-- a job stays where its cells stay -/
theorem jobT.stay {j : Nat} {T : JT} (h : jobT cy G W fa j T r) (hE : cE G G1) (hx : ∀ e, cIn W (jX T) e → cIn W1 (jX T) e) (hs : ∀ e, cIn W (jS T) e → cIn W1 (jS T) e) (hc : jK T = 4 → ∀ e, cIn W (jC T) e → cIn W1 (jC T) e) (hp : jP j T r1) : jobT cy G1 W1 fa j T r1 := by
  obtain ⟨⟨h1, h2, h3, h4, h5, h6⟩, h7, -⟩ := h
  exact ⟨⟨h1, hE _ _ h2, h3, h4, hx _ h5, hs _ h6⟩, fun z => ⟨(h7 z).1, hc z _ (h7 z).2⟩, hp⟩
theorem jP.same {j : Nat} {T : JT} (h : jP j T r) (e2 : r1 2 = r 2) (e3 : r1 3 = r 3) (e4 : r1 4 = r 4) (e5 : r1 5 = r 5) (e6 : r1 6 = r 6) (e7 : r1 7 = r 7) (e8 : r1 8 = r 8) : jP j T r1 := by
  unfold jP
  rw [e2, e3, e4, e5, e6, e7, e8]
  exact h
theorem jZ.same {j : Nat} (h : jZ j r) (e5 : r1 5 = r 5) (e6 : r1 6 = r 6) (e8 : r1 8 = r 8) : jZ j r1 := by
  unfold jZ
  rw [e5, e6, e8]
  exact h
/-- nothing of the jobs changes -/
theorem RJ.keep (h : RJ cy G W fa jc J r) (hD : va_D A W) (hT : cT cy G W) {ch : List Nat} (hX : cX none (chs ch) G W G1 W1) (h3 : chs ch 3 = false) (h14 : chs ch 14 = false) (e2 : r1 2 = r 2) (e3 : r1 3 = r 3) (e4 : r1 4 = r 4) (e5 : r1 5 = r 5) (e6 : r1 6 = r 6) (e7 : r1 7 = r 7) (e8 : r1 8 = r 8) : RJ cy G1 W1 fa jc J r1 := by
  obtain ⟨a, b, c, d⟩ := h
  refine ⟨fun j hj => ?_, b, c, fun j h1 h2 => (d j h1 h2).same e5 e6 e8⟩
  obtain ⟨k1, k2, k3⟩ := (a j hj).kinds hD hT
  exact (a j hj).stay hX.1 (fun e hi => hX.2.1 _ _ (cP.no k1 h3) hi) (fun e hi => hX.2.1 _ _ (cP.no k2 h14) hi) (fun z e hi => hX.2.1 _ _ (cP.no (k3 z) h14) hi) ((a j hj).2.2.same e2 e3 e4 e5 e6 e7 e8)
/-- one job changes, at its own cells -/
theorem RJ.up (h : RJ cy G W fa jc J r) (hD : va_D A W) (hT : cT cy G W) {i : Nat} (hi : (i : Int) < jc.toInt) {P : Nat → Prop} (hP : ∀ z, P z → z = jX (J i) ∨ z = jS (J i) ∨ (jK (J i) = 4 ∧ z = jC (J i))) (hF : cF P W W1) {T : JT} (eX : jX T = jX (J i)) (eS : jS T = jS (J i)) (eC : jC T = jC (J i)) (eK : jK T = jK (J i)) (hTi : jobT cy G W1 fa i T r1)
    (hr : ∀ j : Nat, j ≠ i → j < 8 → (∀ S : JT, (1 ≤ jW S ∧ jW S ≤ 6 ∧ 1 ≤ jH S ∧ jH S ≤ 6) → jP j S r → jP j S r1) ∧ (jZ j r → jZ j r1)) (h8 : jc.toInt ≤ 8) : RJ cy G W1 fa jc (va_up J i T) r1 := by
  obtain ⟨a, b, c, d⟩ := h
  obtain ⟨i1, i2, i3⟩ := (a i hi).kinds hD hT
  refine ⟨fun j hj => ?_, fun j k hj hk hn => ?_, fun j hj => ?_, fun j h1 h2 => (hr j (by omega) h2).2 (d j h1 h2)⟩
  · by_cases z : j = i
    · subst z
      simp only [va_up, if_true]
      exact hTi
    · simp only [va_up, z, if_false]
      obtain ⟨k1, k2, k3⟩ := (a j hj).kinds hD hT
      obtain ⟨d1, d2, d3, d4, d5⟩ := b j i hj hi z
      refine (a j hj).stay cE.rf (fun e he => hF _ _ (fun y => ?_) he) (fun e he => hF _ _ (fun y => ?_) he) (fun y4 e he => hF _ _ (fun y => ?_) he) ((hr j z (by omega)).1 _ (a j hj).1.2.2.1 (a j hj).2.2)
      · rcases hP _ y with y | y | ⟨y4, y⟩
        · exact d1 y
        · exact cne k1 i2 (show (3 : Nat) ≠ 14 by decide) y
        · exact cne k1 (i3 y4) (show (3 : Nat) ≠ 14 by decide) y
      · rcases hP _ y with y | y | ⟨y4, y⟩
        · exact cne k2 i1 (show (14 : Nat) ≠ 3 by decide) y
        · exact d2 y
        · exact d4 y4 y.symm
      · rcases hP _ y with y | y | ⟨z4, y⟩
        · exact cne (k3 y4) i1 (show (14 : Nat) ≠ 3 by decide) y
        · exact d3 y4 y
        · exact d5 y4 z4 y
  · have key : ∀ j : Nat, jX (va_up J i T j) = jX (J j) ∧ jS (va_up J i T j) = jS (J j) ∧ jC (va_up J i T j) = jC (J j) ∧ jK (va_up J i T j) = jK (J j) := fun j => by
      by_cases z : j = i
      · subst z; simp only [va_up, if_true]; exact ⟨eX, eS, eC, eK⟩
      · simp only [va_up, z, if_false]; exact ⟨trivial, trivial, trivial, trivial⟩
    unfold jDif
    rw [(key j).1, (key j).2.1, (key j).2.2.1, (key j).2.2.2, (key k).1, (key k).2.1, (key k).2.2.1, (key k).2.2.2]
    exact b j k hj hk hn
  · by_cases z : j = i
    · subst z; simp only [va_up, if_true]; rw [eK, eC, eS]; exact c j hj
    · simp only [va_up, z, if_false]; exact c j hj
/-- other jobs' numbers are seen at their own places alone -/
theorem jP.other {j : Nat} {T : JT} (hb : 1 ≤ jW T ∧ jW T ≤ 6 ∧ 1 ≤ jH T ∧ jH T ≤ 6) (h : jP j T r) (e2 : r1 2 = r 2) (e3 : r1 3 = r 3) (e4 : r1 4 = r 4) (e5 : ∀ e, e < 44 → r1 5 (44 * j + e) = r 5 (44 * j + e)) (e6 : ∀ y, y < 4 → r1 6 (4 * j + y) = r 6 (4 * j + y)) (e7 : ∀ s, s < 36 → r1 7 (36 * j + s) = r 7 (36 * j + s)) (e8 : ∀ s, s < 36 → r1 8 (36 * j + s) = r 8 (36 * j + s)) : jP j T r1 := by
  obtain ⟨a1, a2, a3, a4, a5, a6, a7, a8, a9, aA⟩ := h
  have m36 := cb_mul hb
  refine ⟨by rw [e2]; exact a1, by rw [e3]; exact a2, by rw [e4]; exact a3, fun y hy => by rw [e6 y hy]; exact a4 y hy, fun y l hy hl => ?_, fun s hs => by rw [e7 s (by omega)]; exact a6 s hs, a7, fun z s hs => by rw [e8 s (by omega)]; exact a8 z s hs, fun s h1 h2 => by rw [e8 s h2]; exact a9 s h1 h2, aA⟩
  have lc := lnC_b hb y
  rw [show 44 * j + 11 * y + l = 44 * j + (11 * y + l) by omega, e5 (11 * y + l) (by omega), ← show 44 * j + 11 * y + l = 44 * j + (11 * y + l) by omega]
  exact a5 y l hy hl
theorem jZ.other {j : Nat} (h : jZ j r) (e5 : ∀ e, e < 44 → r1 5 (44 * j + e) = r 5 (44 * j + e)) (e6 : ∀ y, y < 4 → r1 6 (4 * j + y) = r 6 (4 * j + y)) (e8 : ∀ s, s < 36 → r1 8 (36 * j + s) = r 8 (36 * j + s)) : jZ j r1 :=
  ⟨fun e he => by rw [e5 e he]; exact h.1 e he, fun y hy => by rw [e6 y hy]; exact h.2.1 y hy, fun s hs => by rw [e8 s hs]; exact h.2.2 s hs⟩
/-- the same cells, other numbers -/
def jtSet (T : JT) (t : Nat) (fs : Nat → Int32) : JT := ((jX T, jK T, jB T, jS T, t, jW T, jH T, jC T), T.2.1, jM T, fs, jG T)
def jtHold (T : JT) (o n : Int64) : JT := (T.1, (o, n), T.2.2)
def jtMark (T : JT) (fm : Nat → Int32) : JT := (T.1, T.2.1, jM T, jF T, fm)
theorem jP_tell {j y0 : Nat} {T : JT} {g fs1 : Nat → Int32} (h : jP j T r) (ht : jL T < 16) (hy0 : y0 < 4) (hf : ∀ y l, y < 4 → l < lnC (jW T) (jH T) y → fs1 (y * 11 + l) = if y = y0 then g l else jF T (y * 11 + l)) (hg : ∀ l, l < lnC (jW T) (jH T) y0 → 0 ≤ (g l).toInt ∧ (g l).toInt ≤ 6) (e2 : r1 2 = r 2) (e3 : r1 3 = r 3) (e4 : r1 4 = r 4) (e7 : r1 7 = r 7) (e8 : r1 8 = r 8) (e6 : ∀ y, y < 4 → r1 6 (4 * j + y) = if y = y0 then 1 else r 6 (4 * j + y)) (e5 : ∀ y l, y < 4 → l < lnC (jW T) (jH T) y → r1 5 (44 * j + 11 * y + l) = if y = y0 then g l else r 5 (44 * j + 11 * y + l)) : jP j (jtSet T (tU (jL T) y0) fs1) r1 := by
  obtain ⟨a1, a2, a3, a4, a5, a6, a7, a8, a9, ⟨aA, aB⟩, aC⟩ := h
  refine ⟨by rw [e2]; exact a1, by rw [e3]; exact a2, by rw [e4]; exact a3, fun y hy => ?_, fun y l hy hl => ?_, by rw [e7]; exact a6, a7, by rw [e8]; exact a8, by rw [e8]; exact a9, ⟨(by show tB (tU (jL T) y0) 0 = true; rw [(tB_1 _ ht y0 hy0 0 (by omega)).1, aA, Bool.or_true]), (by show tB (tU (jL T) y0) 1 = true; rw [(tB_1 _ ht y0 hy0 1 (by omega)).1, aB, Bool.or_true])⟩, fun y l hy hl => (by
    show 0 ≤ (fs1 (y * 11 + l)).toInt ∧ (fs1 (y * 11 + l)).toInt ≤ 6
    have hl' : l < lnC (jW T) (jH T) y := hl
    rw [hf y l hy hl']
    by_cases z : y = y0
    · rw [if_pos z]; rw [z] at hl'; exact hg l hl'
    · rw [if_neg z]; exact aC y l hy hl')⟩
  · show _ ↔ tB (tU (jL T) y0) y = false
    rw [e6 y hy, (tB_1 _ ht y0 hy0 y hy).1]
    by_cases z : y = y0
    · rw [if_pos z, decide_eq_true z, Bool.true_or]; exact ⟨fun c => absurd c (by decide), fun c => by cases c⟩
    · rw [if_neg z, decide_eq_false z, Bool.false_or]; exact a4 y hy
  · show fs1 (y * 11 + l) = if tB (tU (jL T) y0) y then _ else _
    have hl' : l < lnC (jW T) (jH T) y := hl
    rw [hf y l hy hl', e5 y l hy hl', (tB_1 _ ht y0 hy0 y hy).1]
    by_cases z : y = y0
    · rw [if_pos z, if_pos z, decide_eq_true z, Bool.true_or, if_pos rfl]
    · rw [if_neg z, if_neg z, decide_eq_false z, Bool.false_or]; exact a5 y l hy hl'
theorem jP_untell {j y0 : Nat} {T : JT} {fs1 : Nat → Int32} (h : jP j T r) (ht : jL T < 16) (hy0 : y0 < 4) (hy2 : 2 ≤ y0) (hf : ∀ y l, y < 4 → l < lnC (jW T) (jH T) y → fs1 (y * 11 + l) = if y = y0 then 0 else jF T (y * 11 + l)) (e2 : r1 2 = r 2) (e3 : r1 3 = r 3) (e4 : r1 4 = r 4) (e5 : r1 5 = r 5) (e7 : r1 7 = r 7) (e8 : r1 8 = r 8) (e6 : ∀ y, y < 4 → r1 6 (4 * j + y) = if y = y0 then 0 else r 6 (4 * j + y)) : jP j (jtSet T (tD (jL T) y0) fs1) r1 := by
  obtain ⟨a1, a2, a3, a4, a5, a6, a7, a8, a9, ⟨aA, aB⟩, aC⟩ := h
  refine ⟨by rw [e2]; exact a1, by rw [e3]; exact a2, by rw [e4]; exact a3, fun y hy => ?_, fun y l hy hl => ?_, by rw [e7]; exact a6, a7, by rw [e8]; exact a8, by rw [e8]; exact a9, ⟨(by show tB (tD (jL T) y0) 0 = true; rw [(tB_1 _ ht y0 hy0 0 (by omega)).2, aA, decide_eq_false (by omega)]; rfl), (by show tB (tD (jL T) y0) 1 = true; rw [(tB_1 _ ht y0 hy0 1 (by omega)).2, aB, decide_eq_false (by omega)]; rfl)⟩, fun y l hy hl => (by
    show 0 ≤ (fs1 (y * 11 + l)).toInt ∧ (fs1 (y * 11 + l)).toInt ≤ 6
    have hl' : l < lnC (jW T) (jH T) y := hl
    rw [hf y l hy hl']
    by_cases z : y = y0
    · rw [if_pos z]; decide
    · rw [if_neg z]; exact aC y l hy hl')⟩
  · show _ ↔ tB (tD (jL T) y0) y = false
    rw [e6 y hy, (tB_1 _ ht y0 hy0 y hy).2]
    by_cases z : y = y0
    · rw [if_pos z, decide_eq_true z, Bool.not_true, Bool.false_and]; exact ⟨fun _ => rfl, fun _ => rfl⟩
    · rw [if_neg z, decide_eq_false z, Bool.not_false, Bool.true_and]; exact a4 y hy
  · show fs1 (y * 11 + l) = if tB (tD (jL T) y0) y then _ else _
    have hl' : l < lnC (jW T) (jH T) y := hl
    rw [hf y l hy hl', e5, (tB_1 _ ht y0 hy0 y hy).2]
    by_cases z : y = y0
    · rw [if_pos z, decide_eq_true z, Bool.not_true, Bool.false_and]; rfl
    · rw [if_neg z, decide_eq_false z, Bool.not_false, Bool.true_and]; exact a5 y l hy hl'
theorem jP_hold {j s0 : Nat} {T : JT} {x1 y1 : Int64} {how : Int32} (h : jP j T r) (h36 : jW T * jH T ≤ 36) (hs : s0 < jW T * jH T) (hw : 0 ≤ how.toInt ∧ how.toInt ≤ 2) (hx : hO (jO T) s0 (decide (how.toInt = 1)) x1) (hy : hO (jNn T) s0 (decide (how.toInt = 0)) y1) (e2 : r1 2 = r 2) (e3 : r1 3 = r 3) (e4 : r1 4 = r 4) (e5 : r1 5 = r 5) (e6 : r1 6 = r 6) (e8 : r1 8 = r 8) (e7 : r1 7 = upd (r 7) (36 * j + s0) how) : jP j (jtHold T x1 y1) r1 := by
  obtain ⟨a1, a2, a3, a4, a5, a6, a7, a8, a9, aA⟩ := h
  refine ⟨by rw [e2]; exact a1, by rw [e3]; exact a2, by rw [e4]; exact a3, by rw [e6]; exact a4, by rw [e5]; exact a5, fun s h1 => ?_, fun s h1 => ?_, by rw [e8]; exact a8, by rw [e8]; exact a9, aA⟩
  · have h1' : s < jW T * jH T := h1
    show r1 7 (36 * j + s) = hH x1 y1 s ∧ ¬ (lb x1 s = true ∧ lb y1 s = true)
    have ex := hx s (by omega)
    have ey := hy s (by omega)
    rw [e7]
    unfold hH upd
    rw [ex, ey]
    by_cases z : s = s0
    · rw [if_pos z, if_pos z, if_pos (by omega)]
      have c : how.toInt = 0 ∨ how.toInt = 1 ∨ how.toInt = 2 := by omega
      rcases c with c | c | c
      · have e : how = 0 := Int32.toInt_inj.mp (by rw [c]; rfl)
        rw [e]; decide
      · have e : how = 1 := Int32.toInt_inj.mp (by rw [c]; rfl)
        rw [e]; decide
      · have e : how = 2 := Int32.toInt_inj.mp (by rw [c]; rfl)
        rw [e]; decide
    · rw [if_neg z, if_neg z, if_neg (by omega)]
      exact a6 s h1'
  · have h1' : jW T * jH T ≤ s := h1
    show lb x1 s = false
    by_cases z : s < 64
    · rw [hx s z, if_neg (by omega)]; exact a7 s h1'
    · exact lb_big (by omega)
theorem jP_mark {j s0 : Nat} {T : JT} {v : Int32} (h : jP j T r) (h36 : jW T * jH T ≤ 36) (hs : s0 < jW T * jH T) (e2 : r1 2 = r 2) (e3 : r1 3 = r 3) (e4 : r1 4 = r 4) (e5 : r1 5 = r 5) (e6 : r1 6 = r 6) (e7 : r1 7 = r 7) (e8 : r1 8 = upd (r 8) (36 * j + s0) v) : jP j (jtMark T (upd (jG T) s0 v)) r1 := by
  obtain ⟨a1, a2, a3, a4, a5, a6, a7, a8, a9, aA⟩ := h
  refine ⟨by rw [e2]; exact a1, by rw [e3]; exact a2, by rw [e4]; exact a3, by rw [e6]; exact a4, by rw [e5]; exact a5, by rw [e7]; exact a6, a7, fun z s h1 => ?_, fun s h1 h2 => ?_, aA⟩
  · show upd (jG T) s0 v s = r1 8 (36 * j + s)
    rw [e8]
    unfold upd
    by_cases y : s = s0
    · rw [if_pos y, if_pos (by omega)]
    · rw [if_neg y, if_neg (by omega)]; exact a8 z s h1
  · have h1' : jW T * jH T ≤ s := h1
    rw [e8]
    unfold upd
    rw [if_neg (by omega)]
    exact a9 s h1' h2
/-- rows of the class: what setL, upd show at a line -/
theorem setL_at {fs g : Nat → Int32} {y0 n y l : Nat} (hn : n ≤ 11) (hl : l < 11) (hn0 : y = y0 → l < n) : setL fs y0 g n (y * 11 + l) = if y = y0 then g l else fs (y * 11 + l) := by
  unfold setL
  by_cases z : y = y0
  · have := hn0 z
    rw [if_pos z, if_pos (by subst z; omega), z, Nat.add_sub_cancel_left]
  · rw [if_neg z, if_neg (by omega)]
theorem setB_at {fs g : Nat → Int32} {j y0 n y l : Nat} (hn : n ≤ 11) (hl : l < 11) (hn0 : y = y0 → l < n) : setB fs (44 * j + 11 * y0) g n (44 * j + 11 * y + l) = if y = y0 then g l else fs (44 * j + 11 * y + l) := by
  unfold setB
  by_cases z : y = y0
  · have := hn0 z
    rw [if_pos z, if_pos (by subst z; omega), z, Nat.add_sub_cancel_left]
  · rw [if_neg z, if_neg (by omega)]
/-- the reference's row behind tell -/
theorem tell_at {j y0 y l : Nat} {T : JT} (h : jP j T r) (hy0 : y0 < 4) (hl : l < 11) (hl2 : y = y0 → l < lnC (jW T) (jH T) y0) : (if r 6 (4 * j + y0) = 0 then zL (r 5) (44 * j + 11 * y0) 11 else r 5) (44 * j + 11 * y + l) = if y = y0 then (jF T (y0 * 11 + l)) else r 5 (44 * j + 11 * y + l) := by
  by_cases z : y = y0
  · rw [if_pos z, z, h.2.2.2.2.1 y0 l hy0 (hl2 z)]
    by_cases c : r 6 (4 * j + y0) = 0
    · rw [if_pos c, (h.2.2.2.1 y0 hy0).mp c]
      unfold zL
      rw [if_pos (by omega)]; rfl
    · have c2 : tB (jL T) y0 = true := by cases hb : tB (jL T) y0; exact absurd ((h.2.2.2.1 y0 hy0).mpr hb) c; rfl
      rw [if_neg c, c2]; rfl
  · rw [if_neg z]
    by_cases c : r 6 (4 * j + y0) = 0
    · rw [if_pos c]; unfold zL; rw [if_neg (by omega)]
    · rw [if_neg c]
/-- a valid job's own tuple -/
theorem RJ.at (h : RJ cy G W fa jc J r) {j : Int32} (hj : okJob jc j) : jobT cy G W fa j.toNatClampNeg (J j.toNatClampNeg) r := h.1 _ (by have := m_cl (x := j) hj.1; have := hj.2; omega)
theorem RJ.js (h : RJ cy G W fa jc J r) {j : Int32} : okJob jc j → jobS cy G W fa j.toNatClampNeg (jX (J j.toNatClampNeg)) (jK (J j.toNatClampNeg)) (jB (J j.toNatClampNeg)) (jS (J j.toNatClampNeg)) (jL (J j.toNatClampNeg)) (jW (J j.toNatClampNeg)) (jH (J j.toNatClampNeg)) (jO (J j.toNatClampNeg)) (jNn (J j.toNatClampNeg)) (jM (J j.toNatClampNeg)) (jF (J j.toNatClampNeg)) := fun hj => (h.at hj).1
theorem RJ.sm (h : RJ cy G W fa jc J r) : ∀ i : Nat, (i : Int) < jc.toInt → ∃ x, fa i = some x := fun i hi => ⟨_, (h.1 i hi).1.1⟩
theorem RJ.sz (h : RJ cy G W fa jc J r) {j : Int32} (hj : okJob jc j) : jW (J j.toNatClampNeg) = (r 3 j.toNatClampNeg).toNatClampNeg ∧ jH (J j.toNatClampNeg) = (r 4 j.toNatClampNeg).toNatClampNeg := ⟨(h.at hj).2.2.2.1, (h.at hj).2.2.2.2.1⟩
/-- other places of the rows -/
theorem ne_44 {i j e e' : Nat} (h : j ≠ i) (he : e < 44) (he' : e' < 44) : 44 * j + e ≠ 44 * i + e' := by omega
theorem ne_36 {i j e e' : Nat} (h : j ≠ i) (he : e < 36) (he' : e' < 36) : 36 * j + e ≠ 36 * i + e' := by omega
theorem ne_4 {i j e e' : Nat} (h : j ≠ i) (he : e < 4) (he' : e' < 4) : 4 * j + e ≠ 4 * i + e' := by omega
theorem oth_sm {f6 f5 : Nat → Int32} {n y0 i e x : Nat} (hi : i ≠ n) (he : e < 44) (hy : y0 < 4) : (if f6 x = 0 then zL f5 (44 * n + 11 * y0) 11 else f5) (44 * i + e) = f5 (44 * i + e) := by
  by_cases c : f6 x = 0
  · rw [if_pos c]; unfold zL; rw [if_neg (by omega)]
  · rw [if_neg c]
theorem oth_u {f : Nat → Int32} {a b : Nat} {v : Int32} (h : a ≠ b) : upd f b v a = f a := by unfold upd; rw [if_neg h]
theorem oth_B {f g : Nat → Int32} {n y0 i e m : Nat} (hi : i ≠ n) (he : e < 44) (hy : y0 < 4) (hm : m ≤ 11) : setB f (44 * n + 11 * y0) g m (44 * i + e) = f (44 * i + e) := by
  unfold setB
  rw [if_neg (by omega)]
theorem RJ.sum (h : RJ cy G W fa jc J r) (hD : va_D A W) (hT : cT cy G W) (h8 : jc.toInt ≤ 8) {j way line v : Int32} (hF : cF (fun b => b = jX (J j.toNatClampNeg) ∨ b = jS (J j.toNatClampNeg)) W W1)
    (hc : (okSum9 jc (jW (J j.toNatClampNeg)) (jH (J j.toNatClampNeg)) j way line v ∧ cIn W1 (jX (J j.toNatClampNeg)) (.inr (jK (J j.toNatClampNeg), .ref (jB (J j.toNatClampNeg)) :: .ref (jS (J j.toNatClampNeg)) :: .int (nI (tU (jL (J j.toNatClampNeg)) way.toNatClampNeg)) :: .long (jO (J j.toNatClampNeg)) :: .long (jNn (J j.toNatClampNeg)) :: jM (J j.toNatClampNeg))) ∧ cIn W1 (jS (J j.toNatClampNeg)) (.inl (cy 0, 44, .inl (upd (jF (J j.toNatClampNeg)) (way.toNatClampNeg * 11 + line.toNatClampNeg) v)))) ∨ (¬ okSum9 jc (jW (J j.toNatClampNeg)) (jH (J j.toNatClampNeg)) j way line v ∧ W1 = W))
    (hr : (okSum9 jc (r 3 j.toNatClampNeg).toNatClampNeg (r 4 j.toNatClampNeg).toNatClampNeg j way line v ∧ r1 6 = upd (r 6) (4 * j.toNatClampNeg + way.toNatClampNeg) 1 ∧ r1 5 = upd (if r 6 (4 * j.toNatClampNeg + way.toNatClampNeg) = 0 then zL (r 5) (44 * j.toNatClampNeg + 11 * way.toNatClampNeg) 11 else r 5) (44 * j.toNatClampNeg + 11 * way.toNatClampNeg + line.toNatClampNeg) v) ∨ (¬ okSum9 jc (r 3 j.toNatClampNeg).toNatClampNeg (r 4 j.toNatClampNeg).toNatClampNeg j way line v ∧ r1 6 = r 6 ∧ r1 5 = r 5))
    (e2 : r1 2 = r 2) (e3 : r1 3 = r 3) (e4 : r1 4 = r 4) (e7 : r1 7 = r 7) (e8 : r1 8 = r 8) : ∃ J', RJ cy G W1 fa jc J' r1 := by
  rcases hc with ⟨ok, c1, c2⟩ | ⟨no, c1⟩
  · have hj := ok.1
    have sz := h.sz hj
    rcases hr with ⟨-, r6, r5⟩ | ⟨no2, -⟩
    · obtain ⟨⟨f1, f2, f3, f4, f5, f6⟩, f7, f8⟩ := h.at hj
      have cj := m_cl (x := j) hj.1
      have hj2 := hj.2
      obtain ⟨⟨ow1, ow2⟩, ol1, ol2⟩ := ok.2.1
      have cw := m_cl (x := way) ow1
      have cl := m_cl (x := line) ol1
      have lc := lnC_b f3 way.toNatClampNeg
      generalize hn : j.toNatClampNeg = n at *
      generalize hy : way.toNatClampNeg = y0 at *
      generalize hl : line.toNatClampNeg = l0 at *
      refine ⟨va_up J n (jtSet (J n) (tU (jL (J n)) y0) (upd (jF (J n)) (y0 * 11 + l0) v)), h.up hD hT (i := n) (by omega) (fun z hz => hz.imp id Or.inl) hF rfl rfl rfl rfl ?_ (fun i hi hi8 => ⟨fun S hS hP => hP.other hS e2 e3 e4 (fun e he => ?_) (fun y hy => ?_) (fun s hs => by rw [e7]) (fun s hs => by rw [e8]), fun hz => hz.other (fun e he => ?_) (fun y hy => ?_) (fun s hs => by rw [e8])⟩) h8⟩
      · have lt := tU_0 _ f4 y0 (by omega)
        refine ⟨⟨f1, f2, f3, lt.2.1, c1, c2⟩, fun z => ⟨(f7 z).1, hF _ _ (fun y => ?_) (f7 z).2⟩, jP_tell (g := fun l => if l = l0 then v else jF (J n) (y0 * 11 + l)) f8 f4 (by omega) (fun y l hy hl => ?_) (fun l hl => ?_) e2 e3 e4 e7 e8 (fun y hy => ?_) (fun y l hy hl => ?_)⟩
        · obtain ⟨k1, -, k3⟩ := (h.1 n (by omega)).kinds hD hT
          rcases y with y | y
          · exact cne (k3 z) k1 (show (14 : Nat) ≠ 3 by decide) y
          · exact h.2.2.1 n (by omega) z y
        · have := lnC_b f3 y
          unfold upd
          by_cases z : y = y0
          · subst z
            rw [if_pos rfl]
            by_cases z2 : l = l0
            · rw [if_pos (by omega), if_pos z2]
            · rw [if_neg (by omega), if_neg z2]
          · rw [if_neg z, if_neg (by omega)]
        · show 0 ≤ (if l = l0 then v else jF (J n) (y0 * 11 + l)).toInt ∧ (if l = l0 then v else jF (J n) (y0 * 11 + l)).toInt ≤ 6
          by_cases z : l = l0
          · rw [if_pos z]; exact ok.2.2
          · rw [if_neg z]; exact f8.2.2.2.2.2.2.2.2.2.2 y0 l (by omega) hl
        · rw [r6]
          unfold upd
          by_cases z : y = y0
          · rw [if_pos z, if_pos (by omega)]
          · rw [if_neg z, if_neg (by omega)]
        · have := lnC_b f3 y
          rw [r5]
          have ta := tell_at (y := y) (l := l) f8 (show y0 < 4 by omega) (by omega) (fun z => by rw [← z]; exact hl)
          show upd _ _ _ _ = _
          simp only [upd]
          by_cases z : y = y0
          · subst z
            rw [if_pos rfl]
            by_cases z2 : l = l0
            · rw [if_pos (by omega), if_pos z2]
            · rw [if_neg (by omega), if_neg z2, ta, if_pos rfl]
          · rw [if_neg z, if_neg (by omega), ta, if_neg z]
      · rw [r5, oth_u (by omega)]; exact oth_sm hi he (by omega)
      · rw [r6, oth_u (by omega)]
      · rw [r5, oth_u (by omega)]; exact oth_sm hi he (by omega)
      · rw [r6, oth_u (by omega)]
    · exact absurd ⟨hj, by rw [← sz.1, ← sz.2]; exact ok.2.1, ok.2.2⟩ no2
  · subst c1
    rcases hr with ⟨ok, -⟩ | ⟨-, r6, r5⟩
    · have sz := h.sz ok.1
      exact absurd ⟨ok.1, by rw [sz.1, sz.2]; exact ok.2.1, ok.2.2⟩ no
    · exact ⟨J, h.keep hD hT (ch := []) cX.rf rfl rfl e2 e3 e4 r5 r6 e7 e8⟩
theorem RJ.cast (h : RJ cy G W fa jc J r) (hD : va_D A W) (hT : cT cy G W) (h8 : jc.toInt ≤ 8) {j way : Int32} {p0 : Int64} (hF : cF (fun b => b = jX (J j.toNatClampNeg) ∨ b = jS (J j.toNatClampNeg)) W W1)
    (hc : (okCast9 jc (jW (J j.toNatClampNeg)) (jH (J j.toNatClampNeg)) j way p0 ∧ cIn W1 (jX (J j.toNatClampNeg)) (.inr (jK (J j.toNatClampNeg), .ref (jB (J j.toNatClampNeg)) :: .ref (jS (J j.toNatClampNeg)) :: .int (nI (tU (jL (J j.toNatClampNeg)) way.toNatClampNeg)) :: .long (jO (J j.toNatClampNeg)) :: .long (jNn (J j.toNatClampNeg)) :: jM (J j.toNatClampNeg))) ∧ cIn W1 (jS (J j.toNatClampNeg)) (.inl (cy 0, 44, .inl (setL (jF (J j.toNatClampNeg)) way.toNatClampNeg (fun l => nI (shN (jW (J j.toNatClampNeg)) (jH (J j.toNatClampNeg)) p0 way.toNatClampNeg l)) (lnC (jW (J j.toNatClampNeg)) (jH (J j.toNatClampNeg)) way.toNatClampNeg))))) ∨ (¬ okCast9 jc (jW (J j.toNatClampNeg)) (jH (J j.toNatClampNeg)) j way p0 ∧ W1 = W))
    (hr : (okCast9 jc (r 3 j.toNatClampNeg).toNatClampNeg (r 4 j.toNatClampNeg).toNatClampNeg j way p0 ∧ r1 6 = upd (r 6) (4 * j.toNatClampNeg + way.toNatClampNeg) 1 ∧ r1 5 = setB (if r 6 (4 * j.toNatClampNeg + way.toNatClampNeg) = 0 then zL (r 5) (44 * j.toNatClampNeg + 11 * way.toNatClampNeg) 11 else r 5) (44 * j.toNatClampNeg + 11 * way.toNatClampNeg) (fun l => nI (shN (r 3 j.toNatClampNeg).toNatClampNeg (r 4 j.toNatClampNeg).toNatClampNeg p0 way.toNatClampNeg l)) (lnC (r 3 j.toNatClampNeg).toNatClampNeg (r 4 j.toNatClampNeg).toNatClampNeg way.toNatClampNeg)) ∨ (¬ okCast9 jc (r 3 j.toNatClampNeg).toNatClampNeg (r 4 j.toNatClampNeg).toNatClampNeg j way p0 ∧ r1 6 = r 6 ∧ r1 5 = r 5))
    (e2 : r1 2 = r 2) (e3 : r1 3 = r 3) (e4 : r1 4 = r 4) (e7 : r1 7 = r 7) (e8 : r1 8 = r 8) : ∃ J', RJ cy G W1 fa jc J' r1 := by
  rcases hc with ⟨ok, c1, c2⟩ | ⟨no, c1⟩
  · have hj := ok.1
    have sz := h.sz hj
    rcases hr with ⟨-, r6, r5⟩ | ⟨no2, -⟩
    · obtain ⟨⟨f1, f2, f3, f4, f5, f6⟩, f7, f8⟩ := h.at hj
      have cj := m_cl (x := j) hj.1
      have hj2 := hj.2
      obtain ⟨ow1, ow2⟩ := ok.2.1
      have cw := m_cl (x := way) ow1
      have lc := lnC_b f3 way.toNatClampNeg
      rw [← sz.1, ← sz.2] at r5
      generalize hn : j.toNatClampNeg = n at *
      generalize hy : way.toNatClampNeg = y0 at *
      refine ⟨va_up J n (jtSet (J n) (tU (jL (J n)) y0) (setL (jF (J n)) y0 (fun l => nI (shN (jW (J n)) (jH (J n)) p0 y0 l)) (lnC (jW (J n)) (jH (J n)) y0))), h.up hD hT (i := n) (by omega) (fun z hz => hz.imp id Or.inl) hF rfl rfl rfl rfl ⟨⟨f1, f2, f3, (tU_0 _ f4 y0 (by omega)).2.1, c1, c2⟩, fun z => ⟨(f7 z).1, hF _ _ (fun y => ?_) (f7 z).2⟩, jP_tell (g := fun l => nI (shN (jW (J n)) (jH (J n)) p0 y0 l)) f8 f4 (by omega) (fun y l hy hl => ?_) (fun l hl => shN_I f3 (by omega) (by omega)) e2 e3 e4 e7 e8 (fun y hy => ?_) (fun y l hy hl => ?_)⟩ (fun i hi hi8 => ⟨fun S hS hP => hP.other hS e2 e3 e4 (fun e he => ?_) (fun y hy => ?_) (fun s hs => by rw [e7]) (fun s hs => by rw [e8]), fun hz => hz.other (fun e he => ?_) (fun y hy => ?_) (fun s hs => by rw [e8])⟩) h8⟩
      · obtain ⟨k1, -, k3⟩ := (h.1 n (by omega)).kinds hD hT
        rcases y with y | y
        · exact cne (k3 z) k1 (show (14 : Nat) ≠ 3 by decide) y
        · exact h.2.2.1 n (by omega) z y
      · have := lnC_b f3 y
        exact setL_at (y := y) (l := l) lc (show l < 11 by omega) (fun z => by rw [← z]; exact hl)
      · rw [r6]
        unfold upd
        by_cases z : y = y0
        · rw [if_pos z, if_pos (by omega)]
        · rw [if_neg z, if_neg (by omega)]
      · have := lnC_b f3 y
        rw [r5, setB_at lc (by omega) (fun z => by rw [← z]; exact hl)]
        by_cases z : y = y0
        · rw [if_pos z, if_pos z]
        · rw [if_neg z, if_neg z, tell_at (y := y) (l := l) f8 (show y0 < 4 by omega) (by omega) (fun z2 => absurd z2 z), if_neg z]
      · rw [r5, oth_B hi he (by omega) lc]; exact oth_sm hi he (by omega)
      · rw [r6, oth_u (by omega)]
      · rw [r5, oth_B hi he (by omega) lc]; exact oth_sm hi he (by omega)
      · rw [r6, oth_u (by omega)]
    · exact absurd ⟨hj, ok.2.1, by rw [← sz.1, ← sz.2]; exact ok.2.2⟩ no2
  · subst c1
    rcases hr with ⟨ok, -⟩ | ⟨-, r6, r5⟩
    · have sz := h.sz ok.1
      exact absurd ⟨ok.1, ok.2.1, by rw [sz.1, sz.2]; exact ok.2.2⟩ no
    · exact ⟨J, h.keep hD hT (ch := []) cX.rf rfl rfl e2 e3 e4 r5 r6 e7 e8⟩
theorem RJ.untell (h : RJ cy G W fa jc J r) (hD : va_D A W) (hT : cT cy G W) (h8 : jc.toInt ≤ 8) {j way : Int32} (hF : cF (fun b => b = jX (J j.toNatClampNeg) ∨ b = jS (J j.toNatClampNeg)) W W1)
    (hc : (okUn9 jc j way ∧ cIn W1 (jX (J j.toNatClampNeg)) (.inr (jK (J j.toNatClampNeg), .ref (jB (J j.toNatClampNeg)) :: .ref (jS (J j.toNatClampNeg)) :: .int (nI (tD (jL (J j.toNatClampNeg)) way.toNatClampNeg)) :: .long (jO (J j.toNatClampNeg)) :: .long (jNn (J j.toNatClampNeg)) :: jM (J j.toNatClampNeg))) ∧ cIn W1 (jS (J j.toNatClampNeg)) (.inl (cy 0, 44, .inl (setL (jF (J j.toNatClampNeg)) way.toNatClampNeg (fun _ => 0) (lnC (jW (J j.toNatClampNeg)) (jH (J j.toNatClampNeg)) way.toNatClampNeg))))) ∨ (¬ okUn9 jc j way ∧ W1 = W))
    (hr : (okUn9 jc j way ∧ r1 6 = upd (r 6) (4 * j.toNatClampNeg + way.toNatClampNeg) 0) ∨ (¬ okUn9 jc j way ∧ r1 6 = r 6))
    (e2 : r1 2 = r 2) (e3 : r1 3 = r 3) (e4 : r1 4 = r 4) (e5 : r1 5 = r 5) (e7 : r1 7 = r 7) (e8 : r1 8 = r 8) : ∃ J', RJ cy G W1 fa jc J' r1 := by
  rcases hc with ⟨ok, c1, c2⟩ | ⟨no, c1⟩
  · have hj := ok.1
    rcases hr with ⟨-, r6⟩ | ⟨no2, -⟩
    · obtain ⟨⟨f1, f2, f3, f4, f5, f6⟩, f7, f8⟩ := h.at hj
      have cj := m_cl (x := j) hj.1
      have hj2 := hj.2
      obtain ⟨ow1, ow2⟩ := ok.2
      have cw := m_cl (x := way) (by omega)
      have lc := lnC_b f3 way.toNatClampNeg
      generalize hn : j.toNatClampNeg = n at *
      generalize hy : way.toNatClampNeg = y0 at *
      refine ⟨va_up J n (jtSet (J n) (tD (jL (J n)) y0) (setL (jF (J n)) y0 (fun _ => 0) (lnC (jW (J n)) (jH (J n)) y0))), h.up hD hT (i := n) (by omega) (fun z hz => hz.imp id Or.inl) hF rfl rfl rfl rfl ⟨⟨f1, f2, f3, (tU_0 _ f4 y0 (by omega)).2.2.1, c1, c2⟩, fun z => ⟨(f7 z).1, hF _ _ (fun y => ?_) (f7 z).2⟩, jP_untell f8 f4 (by omega) (by omega) (fun y l hy hl => ?_) e2 e3 e4 e5 e7 e8 (fun y hy => ?_)⟩ (fun i hi hi8 => ⟨fun S hS hP => hP.other hS e2 e3 e4 (fun e he => by rw [e5]) (fun y hy => ?_) (fun s hs => by rw [e7]) (fun s hs => by rw [e8]), fun hz => hz.other (fun e he => by rw [e5]) (fun y hy => ?_) (fun s hs => by rw [e8])⟩) h8⟩
      · obtain ⟨k1, -, k3⟩ := (h.1 n (by omega)).kinds hD hT
        rcases y with y | y
        · exact cne (k3 z) k1 (show (14 : Nat) ≠ 3 by decide) y
        · exact h.2.2.1 n (by omega) z y
      · have := lnC_b f3 y
        exact setL_at (y := y) (l := l) lc (show l < 11 by omega) (fun z => by rw [← z]; exact hl)
      · rw [r6]
        unfold upd
        by_cases z : y = y0
        · rw [if_pos z, if_pos (by omega)]
        · rw [if_neg z, if_neg (by omega)]
      · rw [r6, oth_u (by omega)]
      · rw [r6, oth_u (by omega)]
    · exact absurd ok no2
  · subst c1
    rcases hr with ⟨ok, -⟩ | ⟨-, r6⟩
    · exact absurd ok no
    · exact ⟨J, h.keep hD hT (ch := []) cX.rf rfl rfl e2 e3 e4 e5 r6 e7 e8⟩
theorem RJ.hold (h : RJ cy G W fa jc J r) (hD : va_D A W) (hT : cT cy G W) (h8 : jc.toInt ≤ 8) {j s0 how : Int32} (hF : cF (fun b => b = jX (J j.toNatClampNeg)) W W1)
    (hc : (okHold9 jc (jW (J j.toNatClampNeg)) (jH (J j.toNatClampNeg)) j s0 how ∧ ∃ x1 y1, cIn W1 (jX (J j.toNatClampNeg)) (.inr (jK (J j.toNatClampNeg), .ref (jB (J j.toNatClampNeg)) :: .ref (jS (J j.toNatClampNeg)) :: .int (nI (jL (J j.toNatClampNeg))) :: .long x1 :: .long y1 :: jM (J j.toNatClampNeg))) ∧ hO (jO (J j.toNatClampNeg)) s0.toNatClampNeg (decide (how.toInt = 1)) x1 ∧ hO (jNn (J j.toNatClampNeg)) s0.toNatClampNeg (decide (how.toInt = 0)) y1) ∨ (¬ okHold9 jc (jW (J j.toNatClampNeg)) (jH (J j.toNatClampNeg)) j s0 how ∧ W1 = W))
    (hr : (okHold9 jc (r 3 j.toNatClampNeg).toNatClampNeg (r 4 j.toNatClampNeg).toNatClampNeg j s0 how ∧ r1 7 = upd (r 7) (36 * j.toNatClampNeg + s0.toNatClampNeg) how) ∨ (¬ okHold9 jc (r 3 j.toNatClampNeg).toNatClampNeg (r 4 j.toNatClampNeg).toNatClampNeg j s0 how ∧ r1 7 = r 7))
    (e2 : r1 2 = r 2) (e3 : r1 3 = r 3) (e4 : r1 4 = r 4) (e5 : r1 5 = r 5) (e6 : r1 6 = r 6) (e8 : r1 8 = r 8) : ∃ J', RJ cy G W1 fa jc J' r1 := by
  rcases hc with ⟨ok, x1, y1, c1, c2, c3⟩ | ⟨no, c1⟩
  · have hj := ok.1
    have sz := h.sz hj
    rcases hr with ⟨-, r7⟩ | ⟨no2, -⟩
    · obtain ⟨⟨f1, f2, f3, f4, f5, f6⟩, f7, f8⟩ := h.at hj
      have cj := m_cl (x := j) hj.1
      have hj2 := hj.2
      obtain ⟨⟨os1, os2⟩, oh⟩ := ok.2
      have cs := m_cl (x := s0) os1
      have m36 := cb_mul f3
      generalize hn : j.toNatClampNeg = n at *
      generalize hy : s0.toNatClampNeg = q0 at *
      refine ⟨va_up J n (jtHold (J n) x1 y1), h.up hD hT (i := n) (by omega) (fun z hz => Or.inl hz) hF rfl rfl rfl rfl ⟨⟨f1, f2, f3, f4, c1, hF _ _ (fun y => ?_) f6⟩, fun z => ⟨(f7 z).1, hF _ _ (fun y => ?_) (f7 z).2⟩, jP_hold f8 m36.2 (by omega) oh c2 c3 e2 e3 e4 e5 e6 e8 r7⟩ (fun i hi hi8 => ⟨fun S hS hP => hP.other hS e2 e3 e4 (fun e he => by rw [e5]) (fun y hy => by rw [e6]) (fun s hs => ?_) (fun s hs => by rw [e8]), fun hz => hz.other (fun e he => by rw [e5]) (fun y hy => by rw [e6]) (fun s hs => by rw [e8])⟩) h8⟩
      · obtain ⟨k1, k2, -⟩ := (h.1 n (by omega)).kinds hD hT
        exact cne k2 k1 (show (14 : Nat) ≠ 3 by decide) y
      · obtain ⟨k1, -, k3⟩ := (h.1 n (by omega)).kinds hD hT
        exact cne (k3 z) k1 (show (14 : Nat) ≠ 3 by decide) y
      · rw [r7, oth_u (by omega)]
    · exact absurd ⟨hj, by rw [← sz.1, ← sz.2]; exact ok.2.1, ok.2.2⟩ no2
  · subst c1
    rcases hr with ⟨ok, -⟩ | ⟨-, r7⟩
    · have sz := h.sz ok.1
      exact absurd ⟨ok.1, by rw [sz.1, sz.2]; exact ok.2.1, ok.2.2⟩ no
    · exact ⟨J, h.keep hD hT (ch := []) cX.rf rfl rfl e2 e3 e4 e5 e6 r7 e8⟩
theorem kcl_4 {k : Int32} : kcl k = 4 ↔ k = 3 := by
  unfold kcl
  constructor
  · intro h
    by_cases a : k.toInt = 1
    · rw [if_pos a] at h; cases h
    · rw [if_neg a] at h
      by_cases b : k.toInt = 2
      · rw [if_pos b] at h; cases h
      · rw [if_neg b] at h
        by_cases c : k.toInt = 3
        · exact Int32.toInt_inj.mp (by rw [c]; rfl)
        · rw [if_neg c] at h; cases h
  · intro h; subst h; rfl
theorem RJ.mark (h : RJ cy G W fa jc J r) (hD : va_D A W) (hT : cT cy G W) (h8 : jc.toInt ≤ 8) {j s0 v : Int32} (hF : cF (fun b => b = jC (J j.toNatClampNeg)) W W1)
    (hc : (okMark9 jc (jW (J j.toNatClampNeg)) (jH (J j.toNatClampNeg)) j s0 v ∧ ((jK (J j.toNatClampNeg) = 4 ∧ cIn W1 (jC (J j.toNatClampNeg)) (.inl (cy 0, jW (J j.toNatClampNeg) * jH (J j.toNatClampNeg), .inl (upd (jG (J j.toNatClampNeg)) s0.toNatClampNeg v)))) ∨ (¬ jK (J j.toNatClampNeg) = 4 ∧ W1 = W))) ∨ (¬ okMark9 jc (jW (J j.toNatClampNeg)) (jH (J j.toNatClampNeg)) j s0 v ∧ W1 = W))
    (hr : (okMark9 jc (r 3 j.toNatClampNeg).toNatClampNeg (r 4 j.toNatClampNeg).toNatClampNeg j s0 v ∧ ((r 2 j.toNatClampNeg = 3 ∧ r1 8 = upd (r 8) (36 * j.toNatClampNeg + s0.toNatClampNeg) v) ∨ (¬ r 2 j.toNatClampNeg = 3 ∧ r1 8 = r 8))) ∨ (¬ okMark9 jc (r 3 j.toNatClampNeg).toNatClampNeg (r 4 j.toNatClampNeg).toNatClampNeg j s0 v ∧ r1 8 = r 8))
    (e2 : r1 2 = r 2) (e3 : r1 3 = r 3) (e4 : r1 4 = r 4) (e5 : r1 5 = r 5) (e6 : r1 6 = r 6) (e7 : r1 7 = r 7) : ∃ J', RJ cy G W1 fa jc J' r1 := by
  have keep : W1 = W → r1 8 = r 8 → ∃ J', RJ cy G W1 fa jc J' r1 := fun c e8 => by
    subst c
    exact ⟨J, h.keep hD hT (ch := []) cX.rf rfl rfl e2 e3 e4 e5 e6 e7 e8⟩
  rcases hc with ⟨ok, hc⟩ | ⟨no, c1⟩
  · have hj := ok.1
    have sz := h.sz hj
    have kk := (h.at hj).2.2.1
    rcases hr with ⟨-, hr⟩ | ⟨no2, -⟩
    · rcases hc with ⟨k4, c1⟩ | ⟨k4, c1⟩
      · rcases hr with ⟨-, r8⟩ | ⟨r3, -⟩
        · obtain ⟨⟨f1, f2, f3, f4, f5, f6⟩, f7, f8⟩ := h.at hj
          have cj := m_cl (x := j) hj.1
          have hj2 := hj.2
          obtain ⟨⟨os1, os2⟩, -⟩ := ok.2
          have cs := m_cl (x := s0) os1
          have m36 := cb_mul f3
          generalize hn : j.toNatClampNeg = n at *
          generalize hy : s0.toNatClampNeg = q0 at *
          obtain ⟨k1, k2, k3⟩ := (h.1 n (by omega)).kinds hD hT
          refine ⟨va_up J n (jtMark (J n) (upd (jG (J n)) q0 v)), h.up hD hT (i := n) (by omega) (fun z hz => Or.inr (Or.inr ⟨k4, hz⟩)) hF rfl rfl rfl rfl ⟨⟨f1, f2, f3, f4, hF _ _ (cne k1 (k3 k4) (show (3 : Nat) ≠ 14 by decide)) f5, hF _ _ (fun y => h.2.2.1 n (by omega) k4 y.symm) f6⟩, fun z => ⟨(f7 z).1, c1⟩, jP_mark f8 m36.2 (by omega) e2 e3 e4 e5 e6 e7 r8⟩ (fun i hi hi8 => ⟨fun S hS hP => hP.other hS e2 e3 e4 (fun e he => by rw [e5]) (fun y hy => by rw [e6]) (fun s hs => by rw [e7]) (fun s hs => by rw [r8, oth_u (by omega)]), fun hz => hz.other (fun e he => by rw [e5]) (fun y hy => by rw [e6]) (fun s hs => by rw [r8, oth_u (by omega)])⟩) h8⟩
        · exact absurd (kcl_4.mp (kk.symm.trans k4)) r3
      · rcases hr with ⟨r3, -⟩ | ⟨-, r8⟩
        · exact absurd (kk.trans (kcl_4.mpr r3)) k4
        · exact keep c1 r8
    · exact absurd ⟨hj, by rw [← sz.1, ← sz.2]; exact ok.2.1, ok.2.2⟩ no2
  · rcases hr with ⟨ok, -⟩ | ⟨-, r8⟩
    · have sz := h.sz ok.1
      exact absurd ⟨ok.1, by rw [sz.1, sz.2]; exact ok.2.1, ok.2.2⟩ no
    · exact keep c1 r8
/-- a job more -/
theorem RJ.add (h : RJ cy G W fa jc J r) (hD : va_D A W) (hT : cT cy G W) {kind wide high jc1 : Int32} (h0 : 0 ≤ jc.toInt) (ok : okJ kind wide high jc) (e1 : jc1.toInt = jc.toInt + 1) {ch : List Nat} (hX : cX none (chs ch) G W G1 W1) (h3 : chs ch 3 = false) (h14 : chs ch 14 = false) {x b a : Nat} {ms : List Value} (hx : G1 x = some (3, kcl kind, 8 * wide.toNatClampNeg + high.toNatClampNeg)) (nx : ∀ e, ¬ cIn W x e) (na : ∀ e, ¬ cIn W a e) (mx : cIn W1 x (.inr (kcl kind, .ref b :: .ref a :: .int (nI 3) :: .long 0 :: .long 0 :: ms))) (ma : cIn W1 a (.inl (cy 0, 44, .inl (fun _ => 0)))) (mk : kcl kind = 4 → ∃ c, ms = [.ref c] ∧ (∀ e, ¬ cIn W c e) ∧ c ≠ a ∧ cIn W1 c (.inl (cy 0, wide.toNatClampNeg * high.toNatClampNeg, .inl (fun _ => 0))))
    (e2 : r1 2 = upd (r 2) jc.toNatClampNeg kind) (e3 : r1 3 = upd (r 3) jc.toNatClampNeg wide) (e4 : r1 4 = upd (r 4) jc.toNatClampNeg high) (e5 : r1 5 = r 5) (e6 : r1 6 = upd (upd (r 6) (4 * jc.toNatClampNeg) 1) (4 * jc.toNatClampNeg + 1) 1) (e7 : r1 7 = setB (r 7) (36 * jc.toNatClampNeg) (fun _ => 2) 36) (e8 : r1 8 = r 8) : ∃ J', RJ cy G1 W1 (va_up fa jc.toNatClampNeg (some x)) jc1 J' r1 := by
  obtain ⟨⟨⟨ok1, ok1'⟩, ⟨ok2, ok2'⟩, ok3, ok3'⟩, ok4⟩ := ok
  have cj := m_cl (x := jc) h0
  have cw := m_cl (x := wide) (by omega)
  have chh := m_cl (x := high) (by omega)
  obtain ⟨a1, a2, a3, a4⟩ := h
  obtain ⟨c, hc⟩ : ∃ c, kcl kind = 4 → ms = [.ref c] ∧ (∀ e, ¬ cIn W c e) ∧ c ≠ a ∧ cIn W1 c (.inl (cy 0, wide.toNatClampNeg * high.toNatClampNeg, .inl (fun _ => 0))) := by
    by_cases z : kcl kind = 4
    · obtain ⟨c, hc⟩ := mk z; exact ⟨c, fun _ => hc⟩
    · exact ⟨0, fun y => absurd y z⟩
  generalize hn : jc.toNatClampNeg = n at *
  have hnew : ∀ {i : Nat}, (i : Int) < jc.toInt → jDif (J i) ((x, kcl kind, b, a, 3, wide.toNatClampNeg, high.toNatClampNeg, c), (0, 0), ms, (fun _ => 0), (fun _ => 0)) := fun {i} hi => by
    obtain ⟨⟨-, -, -, -, i5, i6⟩, i7, -⟩ := a1 i hi
    refine ⟨fun z => ?_, fun z => ?_, fun k z => ?_, fun k z => ?_, fun k k2 z => ?_⟩
    · have z' : jX (J i) = x := z
      rw [z'] at i5
      exact nx _ i5
    · have z' : jS (J i) = a := z
      rw [z'] at i6
      exact na _ i6
    · have z' : jC (J i) = a := z
      have i8 := (i7 k).2
      rw [z'] at i8
      exact na _ i8
    · have z' : c = jS (J i) := z
      rw [← z'] at i6
      exact (hc k).2.1 _ i6
    · have z' : jC (J i) = c := z
      have i8 := (i7 k).2
      rw [z'] at i8
      exact (hc k2).2.1 _ i8
  have hsym : ∀ {S T : JT}, jDif S T → jDif T S := fun {S T} d => ⟨fun z => d.1 z.symm, fun z => d.2.1 z.symm, d.2.2.2.1, d.2.2.1, fun k1 k2 z => d.2.2.2.2 k2 k1 z.symm⟩
  refine ⟨va_up J n ((x, kcl kind, b, a, 3, wide.toNatClampNeg, high.toNatClampNeg, c), (0, 0), ms, (fun _ => 0), (fun _ => 0)), fun j hj => ?_, fun i j hi hj hij => ?_, fun i hi => ?_, fun j h1 h2 => ?_⟩
  · by_cases z : j = n
    · subst z
      simp only [va_up, if_true]
      obtain ⟨z5, z6, z8⟩ := a4 j (by omega) (by omega)
      refine ⟨⟨by simp only [va_up, if_true], hx, by show 1 ≤ wide.toNatClampNeg ∧ wide.toNatClampNeg ≤ 6 ∧ 1 ≤ high.toNatClampNeg ∧ high.toNatClampNeg ≤ 6; omega, by show (3 : Nat) < 16; omega, mx, ma⟩, fun k => ⟨(hc k).1, (hc k).2.2.2⟩, ?_⟩
      refine ⟨by rw [e2]; simp only [upd, if_true], by rw [e3]; simp only [upd, if_true], by rw [e4]; simp only [upd, if_true], fun y hy => ?_, fun y l hy hl => ?_, fun s hs => ?_, fun s hs => lb_0 s, fun k s hs => ?_, fun s h1 h2 => ?_, ⟨(by show tB 3 0 = true; decide), (by show tB 3 1 = true; decide)⟩, fun y l hy hl => (by show 0 ≤ (0 : Int32).toInt ∧ (0 : Int32).toInt ≤ 6; decide)⟩
      · rw [e6]
        show _ ↔ tB 3 y = false
        have c4 : y = 0 ∨ y = 1 ∨ y = 2 ∨ y = 3 := by omega
        simp only [upd]
        rcases c4 with rfl | rfl | rfl | rfl
        · rw [if_neg (by omega), if_pos (by omega)]; decide
        · rw [if_pos (by omega)]; decide
        · rw [if_neg (by omega), if_neg (by omega), z6 2 (by omega)]; decide
        · rw [if_neg (by omega), if_neg (by omega), z6 3 (by omega)]; decide
      · have lc := lnC_b (w := wide.toNatClampNeg) (h := high.toNatClampNeg) (by omega) y
        have hl' : l < lnC wide.toNatClampNeg high.toNatClampNeg y := hl
        rw [e5, show 44 * j + 11 * y + l = 44 * j + (11 * y + l) by omega, z5 (11 * y + l) (by omega)]
        show (0 : Int32) = _
        split <;> rfl
      · have m36 := cb_mul (w := wide.toNatClampNeg) (h := high.toNatClampNeg) (by omega)
        have hs' : s < wide.toNatClampNeg * high.toNatClampNeg := hs
        rw [e7]
        refine ⟨?_, fun y => by have := y.1; rw [show lb (0 : Int64) s = false from lb_0 s] at this; cases this⟩
        unfold setB
        rw [if_pos (by omega)]
        show (2 : Int32) = hH 0 0 s
        unfold hH
        rw [lb_0]; rfl
      · have m36 := cb_mul (w := wide.toNatClampNeg) (h := high.toNatClampNeg) (by omega)
        have hs' : s < wide.toNatClampNeg * high.toNatClampNeg := hs
        rw [e8, z8 s (by omega)]
      · rw [e8, z8 s h2]
    · simp only [va_up, z, if_false]
      have hj' : (j : Int) < jc.toInt := by omega
      obtain ⟨k1, k2, k3⟩ := (a1 j hj').kinds hD hT
      have st := (a1 j hj').stay (r1 := r1) hX.1 (fun e hi => hX.2.1 _ _ (cP.no k1 h3) hi) (fun e hi => hX.2.1 _ _ (cP.no k2 h14) hi) (fun z e hi => hX.2.1 _ _ (cP.no (k3 z) h14) hi) (by
        obtain ⟨p1, p2, p3, p4, p5, p6, p7, p8, p9, pA⟩ := (a1 j hj').2.2
        have m36 := cb_mul (a1 j hj').1.2.2.1
        refine ⟨by rw [e2, oth_u z]; exact p1, by rw [e3, oth_u z]; exact p2, by rw [e4, oth_u z]; exact p3, fun y hy => by rw [e6, oth_u (by omega), oth_u (by omega)]; exact p4 y hy, by rw [e5]; exact p5, fun s hs => ?_, p7, by rw [e8]; exact p8, by rw [e8]; exact p9, pA⟩
        rw [e7]
        refine ⟨?_, (p6 s hs).2⟩
        unfold setB
        rw [if_neg (by omega)]
        exact (p6 s hs).1)
      obtain ⟨⟨q1, q2⟩, q3⟩ := st
      exact ⟨⟨by simp only [va_up, z, if_false]; exact q1, q2⟩, q3⟩
  · by_cases z : i = n
    · by_cases y : j = n
      · exact absurd (z.trans y.symm) hij
      · subst z
        simp only [va_up, y, if_false, if_true]
        exact hsym (hnew (by omega))
    · by_cases y : j = n
      · subst y
        simp only [va_up, z, if_false, if_true]
        exact hnew (by omega)
      · simp only [va_up, y, z, if_false]
        exact a2 i j (by omega) (by omega) hij
  · by_cases z : i = n
    · subst z
      simp only [va_up, if_true]
      exact fun k => (hc k).2.2.1
    · simp only [va_up, z, if_false]
      exact a3 i (by omega)
  · obtain ⟨z5, z6, z8⟩ := a4 j (by omega) h2
    exact ⟨fun e he => by rw [e5]; exact z5 e he, fun y hy => by rw [e6, oth_u (by omega), oth_u (by omega)]; exact z6 y hy, fun s hs => by rw [e8]; exact z8 s hs⟩
end RJS


theorem and_0 {a b v : Int64} (e : v = a &&& b) : v = 0 ↔ ∀ s, s < 64 → ¬ (lb a s = true ∧ lb b s = true) := by
  constructor
  · intro h s hs hz
    have z : lb v s = true := by rw [e, lb_and, hz.1, hz.2]; rfl
    rw [h, lb_0] at z
    cases z
  · intro h
    apply lb_ext
    intro s hs
    rw [e, lb_and, lb_0]
    cases ha : lb a s
    · rfl
    · cases hb : lb b s
      · rfl
      · exact absurd ⟨ha, hb⟩ (h s hs)
theorem nand_0 {a b v v1 : Int64} (e1 : v1 = a ^^^ (-1)) (e : v = v1 &&& b) : v = 0 ↔ ∀ s, s < 64 → lb b s = true → lb a s = true := by
  rw [and_0 e]
  constructor
  · intro h s hs hb
    cases ha : lb a s
    · exact absurd ⟨by rw [e1, lb_xor, lb_m1 s hs, ha]; rfl, hb⟩ (h s hs)
    · rfl
  · intro h s hs ⟨h1, h2⟩
    rw [e1, lb_xor, lb_m1 s hs, h s hs h2] at h1
    cases h1
/-- shadows as told, squares as held, as the kind asks -/
def shOK (w h : Nat) (p : Int64) (tb : Nat → Bool) (sm : Nat → Nat → Int32) : Prop := ∀ y l, y < 4 → tb y = true → l < lnC w h y → nI (shN w h p y l) = sm y l
def heldC (p o n : Int64) : Prop := (∀ s, s < 64 → ¬ (lb p s = true ∧ lb n s = true)) ∧ ∀ s, s < 64 → lb o s = true → lb p s = true
def heldR (m : Nat) (p : Int64) (hd : Nat → Int32) : Prop := ∀ s, s < m → hd s = 2 ∨ hd s = if lb p s then 1 else 0
def kindC (k w h : Nat) (p : Int64) : Prop := (k = 3 → jOK w h p) ∧ (k = 1 → jOK w h p ∧ rowsW w h p ∧ colsW w h p)
def kindR (k : Int32) (w h : Nat) (p : Int64) : Prop := (k = 0 ∨ k = 3) ∨ (jOK w h p ∧ (k = 1 ∨ (rowsW w h p ∧ colsW w h p)))
def fitC (k w h t : Nat) (o n : Int64) (fs : Nat → Int32) (p : Int64) : Prop := heldC p o n ∧ shOK w h p (tB t) (fun y l => fs (y * 11 + l)) ∧ kindC k w h p
def fitR (j : Nat) (r : Nat → Nat → Int32) (p : Int64) : Prop := heldR ((r 3 j).toNatClampNeg * (r 4 j).toNatClampNeg) p (fun s => r 7 (36 * j + s)) ∧ shOK (r 3 j).toNatClampNeg (r 4 j).toNatClampNeg p (fun y => !decide (r 6 (4 * j + y) = 0)) (fun y l => r 5 (44 * j + 11 * y + l)) ∧ kindR (r 2 j) (r 3 j).toNatClampNeg (r 4 j).toNatClampNeg p
theorem kind_eq {k : Int32} (hk : 0 ≤ k.toInt ∧ k.toInt ≤ 3) {w h : Nat} {p : Int64} : kindC (kcl k) w h p ↔ kindR k w h p := by
  have c : k.toInt = 0 ∨ k.toInt = 1 ∨ k.toInt = 2 ∨ k.toInt = 3 := by omega
  unfold kindC kindR
  rcases c with c | c | c | c
  · have e : k = 0 := Int32.toInt_inj.mp (by rw [c]; rfl)
    subst e
    exact ⟨fun _ => Or.inl (Or.inl rfl), fun _ => ⟨fun z => absurd z (by decide), fun z => absurd z (by decide)⟩⟩
  · have e : k = 1 := Int32.toInt_inj.mp (by rw [c]; rfl)
    subst e
    exact ⟨fun z => Or.inr ⟨z.1 (by decide), Or.inl rfl⟩, fun z => ⟨fun _ => z.elim (fun y => y.elim (fun x => absurd x (by decide)) (fun x => absurd x (by decide))) (fun y => y.1), fun y => absurd y (by decide)⟩⟩
  · have e : k = 2 := Int32.toInt_inj.mp (by rw [c]; rfl)
    subst e
    exact ⟨fun z => Or.inr ⟨(z.2 (by decide)).1, Or.inr (z.2 (by decide)).2⟩, fun z => ⟨fun y => absurd y (by decide), fun _ => z.elim (fun y => y.elim (fun x => absurd x (by decide)) (fun x => absurd x (by decide))) (fun y => ⟨y.1, y.2.elim (fun x => absurd x (by decide)) id⟩)⟩⟩
  · have e : k = 3 := Int32.toInt_inj.mp (by rw [c]; rfl)
    subst e
    exact ⟨fun _ => Or.inl (Or.inr rfl), fun _ => ⟨fun z => absurd z (by decide), fun z => absurd z (by decide)⟩⟩
theorem fit_eq {j : Nat} {T : JT} {r : Nat → Nat → Int32} (h : jP j T r) (h36 : jW T * jH T ≤ 36) (hk : 0 ≤ (r 2 j).toInt ∧ (r 2 j).toInt ≤ 3) {p : Int64} (hp : isPic (jW T * jH T) p) : fitC (jK T) (jW T) (jH T) (jL T) (jO T) (jNn T) (jF T) p ↔ fitR j r p := by
  obtain ⟨a1, a2, a3, a4, a5, a6, a7, -⟩ := h
  unfold fitC fitR
  rw [← a2, ← a3, a1, kind_eq hk]
  have e1 : heldC p (jO T) (jNn T) ↔ heldR (jW T * jH T) p (fun s => r 7 (36 * j + s)) := by
    constructor
    · rintro ⟨h1, h2⟩ s hs
      obtain ⟨b1, b2⟩ := a6 s hs
      show r 7 (36 * j + s) = 2 ∨ r 7 (36 * j + s) = _
      rw [b1]
      unfold hH
      cases ho : lb (jO T) s
      · cases hn : lb (jNn T) s
        · exact Or.inl rfl
        · cases hq : lb p s
          · exact Or.inr rfl
          · exact absurd ⟨hq, hn⟩ (h1 s (by omega))
      · rw [h2 s (by omega) ho]; exact Or.inr rfl
    · intro h1
      refine ⟨fun s hs hz => ?_, fun s hs ho => ?_⟩
      · by_cases z : s < jW T * jH T
        · obtain ⟨b1, b2⟩ := a6 s z
          have c := h1 s z
          have ho : lb (jO T) s = false := by cases ho : lb (jO T) s; rfl; exact absurd ⟨ho, hz.2⟩ b2
          have c2 : r 7 (36 * j + s) = 2 ∨ r 7 (36 * j + s) = if lb p s then 1 else 0 := c
          rw [b1, hz.1] at c2
          unfold hH at c2
          rw [ho, hz.2] at c2
          revert c2
          decide
        · rw [pic_hi h36 hp (by omega)] at hz; cases hz.1
      · by_cases z : s < jW T * jH T
        · obtain ⟨b1, b2⟩ := a6 s z
          have c2 : r 7 (36 * j + s) = 2 ∨ r 7 (36 * j + s) = if lb p s then 1 else 0 := h1 s z
          rw [b1] at c2
          unfold hH at c2
          rw [ho] at c2
          cases hq : lb p s
          · rw [hq] at c2
            have c3 : (1 : Int32) = 2 ∨ (1 : Int32) = 0 := c2
            exact absurd c3 (by decide)
          · rfl
        · rw [a7 s (by omega)] at ho; cases ho
  have e2 : shOK (jW T) (jH T) p (tB (jL T)) (fun y l => jF T (y * 11 + l)) ↔ shOK (jW T) (jH T) p (fun y => !decide (r 6 (4 * j + y) = 0)) (fun y l => r 5 (44 * j + 11 * y + l)) := by
    have tt : ∀ y, y < 4 → (tB (jL T) y = true ↔ (!decide (r 6 (4 * j + y) = 0)) = true) := fun y hy => by
      have z := a4 y hy
      cases hb : tB (jL T) y
      · rw [decide_eq_true (z.mpr hb)]; decide
      · rw [decide_eq_false (fun c => by rw [z.mp c] at hb; cases hb)]; decide
    constructor
    · intro h1 y l hy ht hl
      have ht2 := (tt y hy).mpr ht
      have z := h1 y l hy ht2 hl
      have z2 : nI (shN (jW T) (jH T) p y l) = jF T (y * 11 + l) := z
      rw [z2, a5 y l hy hl, ht2]; rfl
    · intro h1 y l hy ht hl
      have z : nI (shN (jW T) (jH T) p y l) = r 5 (44 * j + 11 * y + l) := h1 y l hy ((tt y hy).mp ht) hl
      show _ = jF T (y * 11 + l)
      rw [z, a5 y l hy hl, ht]; rfl
  rw [e1, e2]
set_option maxHeartbeats 4000000 in
set_option maxRecDepth 100000 in
theorem c_X3_hasShadowsAsTold_x (l : Launch) (D : va_G) (cy : Nat → ClassId) (A : Nat → Prop) (G : cG) (ws : va_W) (o : Nat) (p0 : Int64) {kq w h b_o s_o t_o : Nat} {x_o y_o : Int64} {ms_o : List Value} {fs : Nat → Int32} (hD : va_D A ws) (hT : cT cy G ws) (hG_o : G o = some (3, kq, 8 * w + h)) (hM_o : cIn ws o (.inr (kq, .ref b_o :: .ref s_o :: .int (nI t_o) :: .long x_o :: .long y_o :: ms_o))) (hM_s_o : cIn ws s_o (.inl (cy 0, 44, .inl fs))) (hb9 : 1 ≤ w ∧ w ≤ 6 ∧ 1 ≤ h ∧ h ≤ 6) (ht9 : t_o < 16) : Ci l D cy A yX3_hasShadowsAsTold wsX3_hasShadowsAsTold ({ frames := 2, cells := 0, slots := 0, locals := 46 }) 0 0 ws [.ref o, .long p0] (fun r0 u => u = (G, ws) ∧ (Bo r0 (shOK w h p0 (tB t_o) (fun y l => fs (y * 11 + l))))) := by
  refine Met.ofW (cc := cX3_hasShadowsAsTold) (maxL := 5) (ret := (some .boolean)) (by decide) rfl ?_
  intro p e s m args below meth c s₁ B hml hv
  obtain ⟨rfl, hP, hK, hA, hV⟩ := hv
  have hx := B.exec
  have hb := B.bytes
  have hr := B.returns
  have hts := atoms_spec (ws := wsX3_hasShadowsAsTold) B.pre
  have hown : s.vm.findClass RX3 = some m.cls := findClass_of_methodNamed B.named
  have hlocks := B.notSynchronized
  have hS : va_S A s.heap s.heap [] := va_S.rf
  have hinJ : ∀ w ∈ wsX10 ++ wsX30 ++ wsX40 ++ wsX50, w ∈ wsX3_hasShadowsAsTold := by decide +kernel
  have hl := lv_entry ([.ref o, .long p0]) (n := 5) (Nat.le_of_ble_eq_true rfl)
  rw [lg_entry_eq]
  generalize (lg_sl ([.ref o, .long p0]) ++ List.replicate (5 - (lg_sl ([.ref o, .long p0])).length) Slot.unset).toArray = ls at hl ⊢
  have hl : lv_has ls 5 [(0, .ref o), (1, .long p0)] := hl
  have k_0 : (0 : Int32).toInt = 0 := by decide
  have k_1 : (1 : Int32).toInt = 1 := by decide
  have k_4 : (4 : Int32).toInt = 4 := by decide
  obtain ⟨hG_b_o, hG_s_o, hJ_o⟩ := w3sh hD hT hG_o hb9 hM_o
  refine lv_iconst (v := 0) hx hb dX3_hasShadowsAsTold_0 (by decide) ?_
  refine lv_istore_n (lv' := [(3, .int (0 : Int32)), (0, .ref o), (1, .long p0)]) hx hb dX3_hasShadowsAsTold_1 rfl hl (by decide) rfl (fun ls hl => ?_)
  have loop_2 : ∀ (n : Nat) (k1 : Nat), (k1 ≤ 4) → (∀ y l, y < k1 → tB t_o y = true → l < lnC w h y → nI (shN w h p0 y l) = fs (y * 11 + l)) → 4 - k1 < n → ∀ (H : Heap) (locs : List Loc), va_P D vwCl ws H → va_S A s.heap H locs → ∀ (ls : Array Slot), lv_has ls 5 [(3, .int (nI k1)), (0, .ref o), (1, .long p0)] → W p l e (headSpec wsX3_hasShadowsAsTold ({ frames := 2, cells := 0, slots := 0, locals := 46 })).room s m #[Value.ref o, Value.long p0] below meth c H locs 0 0 (MQ below (va_Qi (fun r0 u => u = (G, ws) ∧ (Bo r0 (shOK w h p0 (tB t_o) (fun y l => fs (y * 11 + l))))) (cB D cy A) A) #[Value.ref o, Value.long p0] s 0 0 A) (F0 m 2 ls []) := by
    intro n
    induction n with
    | zero => intro k1 j2_0 j2_1 hn; exact absurd hn (Nat.not_lt_zero _)
    | succ n ih_2 =>
      intro k1 j2_0 j2_1 hn_2 H locs hP hS  ls hl
      have ik1 : (nI k1).toInt = (k1 : Int) := nI_toInt (by omega)
      refine lv_iload_n hx hb dX3_hasShadowsAsTold_2 rfl (lv_at hl 0 rfl) ?_
      refine lv_iconst (v := 4) hx hb dX3_hasShadowsAsTold_3 (by decide) ?_
      refine lv_icmp_ge (tgt := 66) hx hb dX3_hasShadowsAsTold_4 (by decide) (fun c4 => ?_) (fun c4 => ?_)
      · skip
        have d4 := c4
        rw [fa_le] at d4
        refine lv_iconst (v := 1) hx hb dX3_hasShadowsAsTold_66 (by decide) ?_
        exact W.zret (v := (1 : Int32)) hx hb hr (by decide) (fun t ht hW => ⟨⟨_, (G, ws), rfl, ⟨rfl, Or.inl ⟨rfl, (fun y9 l9 h9 h8 h7 => j2_1 y9 l9 (by omega) h8 h7)⟩⟩, by show va_P D vwCl ws t.heap; rw [ht]; exact hP, hD, hT⟩, hS.F ht⟩) hS.2.2 dX3_hasShadowsAsTold_67
      · skip
        have d4 := c4
        rw [fa_le] at d4
        refine lv_iconst (v := 0) hx hb dX3_hasShadowsAsTold_7 (by decide) ?_
        refine lv_istore (lv' := [(4, .int (0 : Int32)), (3, .int (nI k1)), (0, .ref o), (1, .long p0)]) hx hb dX3_hasShadowsAsTold_8 hl (by decide) rfl (fun ls hl => ?_)
        have loop_10 : ∀ (n : Nat) (i : Nat), (i ≤ 11) → (∀ l, l < i → nI (shN w h p0 k1 l) = fs (k1 * 11 + l)) → 11 - i < n → ∀ (H : Heap) (locs : List Loc), va_P D vwCl ws H → va_S A s.heap H locs → ∀ (ls : Array Slot), lv_has ls 5 [(4, .int (nI i)), (3, .int (nI k1)), (0, .ref o), (1, .long p0)] → W p l e (headSpec wsX3_hasShadowsAsTold ({ frames := 2, cells := 0, slots := 0, locals := 46 })).room s m #[Value.ref o, Value.long p0] below meth c H locs 0 0 (MQ below (va_Qi (fun r0 u => u = (G, ws) ∧ (Bo r0 (shOK w h p0 (tB t_o) (fun y l => fs (y * 11 + l))))) (cB D cy A) A) #[Value.ref o, Value.long p0] s 0 0 A) (F0 m 10 ls []) := by
          intro n
          induction n with
          | zero => intro i j10_0 j10_1 hn; exact absurd hn (Nat.not_lt_zero _)
          | succ n ih_10 =>
            intro i j10_0 j10_1 hn_10 H locs hP hS  ls hl
            have ii : (nI i).toInt = (i : Int) := nI_toInt (by omega)
            refine lv_aload_n hx hb dX3_hasShadowsAsTold_10 rfl (lv_at hl 2 rfl) ?_
            refine lv_iload_n hx hb dX3_hasShadowsAsTold_11 rfl (lv_at hl 1 rfl) ?_
            refine t_calli (t_runJ (g := F0 m 12 ls ([.int (nI k1), .ref o])) (As := [.int (nI k1)]) (rest := []) ⟨hx, hb, hml, hown, hts⟩ (c_X3_isTold_x l D cy A G ws o (nI k1) hD hT hG_o hM_o hb9 ht9 (by omega)) (va_cwU 1 hts gX3_hasShadowsAsTold_X3_isTold_u68X1 rfl rfl rfl rfl (by decide +kernel) ⟨Nat.le_of_ble_eq_true rfl, Nat.le_of_ble_eq_true rfl⟩) (cwV 1 hts gX3_hasShadowsAsTold_X3_isTold rfl rfl rfl (by decide +kernel) ⟨Nat.le_of_ble_eq_true rfl, Nat.le_of_ble_eq_true rfl⟩) (va_cwU 1 hts gX3_hasShadowsAsTold_X3_isTold_u68X4 rfl rfl rfl rfl (by decide +kernel) ⟨Nat.le_of_ble_eq_true rfl, Nat.le_of_ble_eq_true rfl⟩) (va_cwU 1 hts gX3_hasShadowsAsTold_X3_isTold_u68X5 rfl rfl rfl rfl (by decide +kernel) ⟨Nat.le_of_ble_eq_true rfl, Nat.le_of_ble_eq_true rfl⟩) hJ_o.kc hM_o hP hK c_blind (c_preS hP hK hA hS hV).2 rfl rfl hl.1 rfl (lv_room (Nat.le_of_ble_eq_true rfl)) dX3_hasShadowsAsTold_12 ⟨Nat.le_of_ble_eq_true rfl, Nat.le_of_ble_eq_true rfl⟩) hS (fun r12 u H locs q12 hP9 hD9 hT9 hS => ?_)
            obtain ⟨rfl, q12⟩ := q12
            have hP : va_P D vwCl ws H := hP9
            have ck1 : (nI k1).toNatClampNeg = k1 := nI_clamp (by omega)
            rw [ck1] at q12
            refine lv_if_eq (tgt := 60) hx hb dX3_hasShadowsAsTold_15 (by decide) (fun c15 => ?_) (fun c15 => ?_)
            · skip
              have b15 := bo_f q12 c15
              refine lv_iinc (v := (nI (k1 + 1))) (lv' := [(3, .int (nI (k1 + 1))), (4, .int (nI i)), (0, .ref o), (1, .long p0)]) hx hb dX3_hasShadowsAsTold_60 hl (k := 1) rfl (nI_1 _) (by decide) rfl (fun ls hl => ?_)
              refine lv_goto (tgt := 2) hx hb dX3_hasShadowsAsTold_63 (by decide) ?_
              exact ih_2 (k1 + 1) (by omega) (fun y l h1 h2 h3 => by
            by_cases e9 : y = k1
            · rw [e9] at h2 h3 ⊢
              first
              | exact absurd h2 b15
              | exact j10_1 l (by omega)
            · exact j2_1 y l (by omega) h2 h3) (by omega) _ _ hP hS  ls (lv_sub hl [0, 2, 3] rfl)
            · skip
              have b15 := bo_t q12 c15
              refine lv_iload hx hb dX3_hasShadowsAsTold_18 (lv_at hl 0 rfl) ?_
              refine lv_aload_n hx hb dX3_hasShadowsAsTold_20 rfl (lv_at hl 2 rfl) ?_
              refine t_getJ (v := .ref b_o) hx hb hts hinJ hown hK hP hJ_o.kc hM_o 0 (by decide) (hts (.fieldLink RX3 28 "ShadowBench$Job" "board" "LShadowBench$Board;") (by decide +kernel)) (fun _ h9 => h9) rfl dX3_hasShadowsAsTold_21 ?_
              refine lv_iload_n hx hb dX3_hasShadowsAsTold_24 rfl (lv_at hl 1 rfl) ?_
              obtain ⟨_, hM_b_o, hb_b_o, l_b_o, f_b_o, r_b_o, rfl, hG_l_b_o, hG_f_b_o, hG_r_b_o⟩ := hT _ _ hG_b_o
              refine t_calli (va_runV (g := F0 m 25 ls ([.int (nI k1), .ref b_o, .int (nI i)])) (As := [.int (nI k1)]) (rest := [.int (nI i)]) ⟨hx, hb, hml, hown, hts⟩ (c_X0_lineCount l D cy A G ws b_o (nI k1) hD hT hG_b_o ) (cwV 1 hts gX3_hasShadowsAsTold_X0_lineCount rfl rfl rfl (by decide +kernel) ⟨Nat.le_of_ble_eq_true rfl, Nat.le_of_ble_eq_true rfl⟩) (c_preV hM_b_o rfl hP hK hA hS hV) rfl rfl hl.1 rfl (lv_room (Nat.le_of_ble_eq_true rfl)) dX3_hasShadowsAsTold_25 ⟨Nat.le_of_ble_eq_true rfl, Nat.le_of_ble_eq_true rfl⟩) hS (fun r25 u H locs q25 hP9 hD9 hT9 hS => ?_)
              obtain ⟨rfl, q25⟩ := q25
              have hP : va_P D vwCl ws H := hP9
              have lc9 := lnC_b hb9 k1
              have z25 := congrArg Int32.toInt q25
              rw [cLn hb9 (by omega), ck1] at z25
              refine lv_icmp_ge (tgt := 60) hx hb dX3_hasShadowsAsTold_28 (by decide) (fun c28 => ?_) (fun c28 => ?_)
              · skip
                have d28 := c28
                rw [fa_le] at d28
                refine lv_iinc (v := (nI (k1 + 1))) (lv' := [(3, .int (nI (k1 + 1))), (4, .int (nI i)), (0, .ref o), (1, .long p0)]) hx hb dX3_hasShadowsAsTold_60 hl (k := 1) rfl (nI_1 _) (by decide) rfl (fun ls hl => ?_)
                refine lv_goto (tgt := 2) hx hb dX3_hasShadowsAsTold_63 (by decide) ?_
                exact ih_2 (k1 + 1) (by omega) (fun y l h1 h2 h3 => by
            by_cases e9 : y = k1
            · rw [e9] at h2 h3 ⊢
              first
              | exact absurd h2 b15
              | exact j10_1 l (by omega)
            · exact j2_1 y l (by omega) h2 h3) (by omega) _ _ hP hS  ls (lv_sub hl [0, 2, 3] rfl)
              · skip
                have d28 := c28
                rw [fa_le] at d28
                refine lv_aload_n hx hb dX3_hasShadowsAsTold_31 rfl (lv_at hl 2 rfl) ?_
                refine t_getJ (v := .ref b_o) hx hb hts hinJ hown hK hP hJ_o.kc hM_o 0 (by decide) (hts (.fieldLink RX3 28 "ShadowBench$Job" "board" "LShadowBench$Board;") (by decide +kernel)) (fun _ h9 => h9) rfl dX3_hasShadowsAsTold_32 ?_
                refine lv_iload_n hx hb dX3_hasShadowsAsTold_35 rfl (lv_at hl 1 rfl) ?_
                refine lv_iload hx hb dX3_hasShadowsAsTold_36 (lv_at hl 0 rfl) ?_
                refine lv_lload_n hx hb dX3_hasShadowsAsTold_38 rfl (lv_at hl 3 rfl) ?_
                refine t_calli (va_runV (g := F0 m 39 ls ([.long p0, .int (nI i), .int (nI k1), .ref b_o])) (As := [.int (nI k1), .int (nI i), .long p0]) (rest := []) ⟨hx, hb, hml, hown, hts⟩ (c_X0_onesOfLine_x l D cy A G ws b_o (nI k1) (nI i) p0 hD hT hG_b_o (by omega) (by omega)) (cwV 3 hts gX3_hasShadowsAsTold_X0_onesOfLine rfl rfl rfl (by decide +kernel) ⟨Nat.le_of_ble_eq_true rfl, Nat.le_of_ble_eq_true rfl⟩) (c_preV hM_b_o rfl hP hK hA hS hV) rfl rfl hl.1 rfl (lv_room (Nat.le_of_ble_eq_true rfl)) dX3_hasShadowsAsTold_39 ⟨Nat.le_of_ble_eq_true rfl, Nat.le_of_ble_eq_true rfl⟩) hS (fun r39 u H locs q39 hP9 hD9 hT9 hS => ?_)
                obtain ⟨rfl, q39⟩ := q39
                have hP : va_P D vwCl ws H := hP9
                refine lv_aload_n hx hb dX3_hasShadowsAsTold_42 rfl (lv_at hl 2 rfl) ?_
                refine lv_iload_n hx hb dX3_hasShadowsAsTold_43 rfl (lv_at hl 1 rfl) ?_
                refine lv_iload hx hb dX3_hasShadowsAsTold_44 (lv_at hl 0 rfl) ?_
                refine t_calli (t_runJ (g := F0 m 46 ls ([.int (nI i), .int (nI k1), .ref o, .int r39])) (As := [.int (nI k1), .int (nI i)]) (rest := [.int r39]) ⟨hx, hb, hml, hown, hts⟩ (c_X3_sumOf_x l D cy A G ws o (nI k1) (nI i) hD hT hG_o hM_o hM_s_o hb9 ht9 (by omega) (by omega)) (va_cwU 2 hts gX3_hasShadowsAsTold_X3_sumOf_u57X1 rfl rfl rfl rfl (by decide +kernel) ⟨Nat.le_of_ble_eq_true rfl, Nat.le_of_ble_eq_true rfl⟩) (cwV 2 hts gX3_hasShadowsAsTold_X3_sumOf rfl rfl rfl (by decide +kernel) ⟨Nat.le_of_ble_eq_true rfl, Nat.le_of_ble_eq_true rfl⟩) (va_cwU 2 hts gX3_hasShadowsAsTold_X3_sumOf_u57X4 rfl rfl rfl rfl (by decide +kernel) ⟨Nat.le_of_ble_eq_true rfl, Nat.le_of_ble_eq_true rfl⟩) (va_cwU 2 hts gX3_hasShadowsAsTold_X3_sumOf_u57X5 rfl rfl rfl rfl (by decide +kernel) ⟨Nat.le_of_ble_eq_true rfl, Nat.le_of_ble_eq_true rfl⟩) hJ_o.kc hM_o hP hK c_blind (c_preS hP hK hA hS hV).2 rfl rfl hl.1 rfl (lv_room (Nat.le_of_ble_eq_true rfl)) dX3_hasShadowsAsTold_46 ⟨Nat.le_of_ble_eq_true rfl, Nat.le_of_ble_eq_true rfl⟩) hS (fun r46 u H locs q46 hP9 hD9 hT9 hS => ?_)
                obtain ⟨rfl, q46⟩ := q46
                have hP : va_P D vwCl ws H := hP9
                have ci9 : (nI i).toNatClampNeg = i := nI_clamp (by omega)
                rw [ck1, ci9] at q39 q46
                refine lv_icmp_eq (tgt := 54) hx hb dX3_hasShadowsAsTold_49 (by decide) (fun c49 => ?_) (fun c49 => ?_)
                · skip
                  have d49 := c49
                  rw [fa_eq] at d49
                  refine lv_iinc (v := (nI (i + 1))) (lv' := [(4, .int (nI (i + 1))), (3, .int (nI k1)), (0, .ref o), (1, .long p0)]) hx hb dX3_hasShadowsAsTold_54 hl (k := 0) rfl (nI_1 _) (by decide) rfl (fun ls hl => ?_)
                  refine lv_goto (tgt := 10) hx hb dX3_hasShadowsAsTold_57 (by decide) ?_
                  exact ih_10 (i + 1) (by omega) (fun l hl => by
            by_cases e9 : l = i
            · rw [e9, ← q39, ← q46]; exact c49
            · exact j10_1 l (by omega)) (by omega) _ _ hP hS  ls (lv_sub hl [0, 1, 2, 3] rfl)
                · skip
                  have d49 := c49
                  rw [fa_eq] at d49
                  refine lv_iconst (v := 0) hx hb dX3_hasShadowsAsTold_52 (by decide) ?_
                  exact W.zret (v := (0 : Int32)) hx hb hr (by decide) (fun t ht hW => ⟨⟨_, (G, ws), rfl, ⟨rfl, Or.inr ⟨rfl, (fun z9 => c49 (q39.trans ((z9 k1 i (by omega) b15 (by omega)).trans q46.symm)))⟩⟩, by show va_P D vwCl ws t.heap; rw [ht]; exact hP, hD, hT⟩, hS.F ht⟩) hS.2.2 dX3_hasShadowsAsTold_53
        exact loop_10 (11 + 1) 0 (by omega) (fun l h => absurd h (Nat.not_lt_zero _)) (by omega) _ _ hP hS  ls (lv_sub hl [0, 1, 2, 3] rfl)
  exact loop_2 (4 + 1) 0 (by omega) (fun y l h => absurd h (Nat.not_lt_zero _)) (by omega) _ _ hP hS  ls (lv_sub hl [0, 1, 2] rfl)
set_option maxHeartbeats 4000000 in
set_option maxRecDepth 100000 in
theorem c_X3_isAsKindAsks_x (l : Launch) (D : va_G) (cy : Nat → ClassId) (A : Nat → Prop) (G : cG) (ws : va_W) (o : Nat) (p0 : Int64) {kq w h b_o s_o t_o : Nat} {x_o y_o : Int64} {ms_o : List Value} (hD : va_D A ws) (hT : cT cy G ws) (hG_o : G o = some (3, kq, 8 * w + h)) (hM_o : cIn ws o (.inr (kq, .ref b_o :: .ref s_o :: .int (nI t_o) :: .long x_o :: .long y_o :: ms_o))) (hb9 : 1 ≤ w ∧ w ≤ 6 ∧ 1 ≤ h ∧ h ≤ 6) (ht9 : t_o < 16) (hp9 : isPic (w * h) p0) : Ci l D cy A yX3_isAsKindAsks wsX3_isAsKindAsks ({ frames := 0, cells := 0, slots := 0, locals := 0 }) 0 0 ws [.ref o, .long p0] (fun r0 u => u = (G, ws) ∧ (r0 = 1)) := by
  refine Met.ofW (cc := cX3_isAsKindAsks) (maxL := 3) (ret := (some .boolean)) (by decide) rfl ?_
  intro p e s m args below meth c s₁ B hml hv
  obtain ⟨rfl, hP, hK, hA, hV⟩ := hv
  have hx := B.exec
  have hb := B.bytes
  have hr := B.returns
  have hts := atoms_spec (ws := wsX3_isAsKindAsks) B.pre
  have hown : s.vm.findClass RX3 = some m.cls := findClass_of_methodNamed B.named
  have hlocks := B.notSynchronized
  have hS : va_S A s.heap s.heap [] := va_S.rf
  have hl := lv_entry ([.ref o, .long p0]) (n := 3) (Nat.le_of_ble_eq_true rfl)
  rw [lg_entry_eq]
  generalize (lg_sl ([.ref o, .long p0]) ++ List.replicate (3 - (lg_sl ([.ref o, .long p0])).length) Slot.unset).toArray = ls at hl ⊢
  have hl : lv_has ls 3 [(0, .ref o), (1, .long p0)] := hl
  have k_0 : (0 : Int32).toInt = 0 := by decide
  have k_1 : (1 : Int32).toInt = 1 := by decide
  obtain ⟨hG_b_o, hG_s_o, hJ_o⟩ := w3sh hD hT hG_o hb9 hM_o
  refine lv_iconst (v := 1) hx hb dX3_isAsKindAsks_0 (by decide) ?_
  exact W.zret (v := (1 : Int32)) hx hb hr (by decide) (fun t ht hW => ⟨⟨_, (G, ws), rfl, ⟨rfl, rfl⟩, by show va_P D vwCl ws t.heap; rw [ht]; exact hP, hD, hT⟩, hS.F ht⟩) hS.2.2 dX3_isAsKindAsks_1
set_option maxHeartbeats 4000000 in
set_option maxRecDepth 100000 in
theorem c_X4_isAsKindAsks_x (l : Launch) (D : va_G) (cy : Nat → ClassId) (A : Nat → Prop) (G : cG) (ws : va_W) (o : Nat) (p0 : Int64) {kq w h b_o s_o t_o : Nat} {x_o y_o : Int64} {ms_o : List Value} (hD : va_D A ws) (hT : cT cy G ws) (hG_o : G o = some (3, kq, 8 * w + h)) (hM_o : cIn ws o (.inr (kq, .ref b_o :: .ref s_o :: .int (nI t_o) :: .long x_o :: .long y_o :: ms_o))) (hb9 : 1 ≤ w ∧ w ≤ 6 ∧ 1 ≤ h ∧ h ≤ 6) (ht9 : t_o < 16) (hp9 : isPic (w * h) p0) : Ci l D cy A yX4_isAsKindAsks wsX4_isAsKindAsks ({ frames := 1, cells := 0, slots := 0, locals := 33 }) 0 0 ws [.ref o, .long p0] (fun r0 u => u = (G, ws) ∧ (Bo r0 (jOK w h p0))) := by
  refine Met.ofW (cc := cX4_isAsKindAsks) (maxL := 3) (ret := (some .boolean)) (by decide) rfl ?_
  intro p e s m args below meth c s₁ B hml hv
  obtain ⟨rfl, hP, hK, hA, hV⟩ := hv
  have hx := B.exec
  have hb := B.bytes
  have hr := B.returns
  have hts := atoms_spec (ws := wsX4_isAsKindAsks) B.pre
  have hown : s.vm.findClass RX4 = some m.cls := findClass_of_methodNamed B.named
  have hlocks := B.notSynchronized
  have hS : va_S A s.heap s.heap [] := va_S.rf
  have hinJ : ∀ w ∈ wsX10 ++ wsX30 ++ wsX40 ++ wsX50, w ∈ wsX4_isAsKindAsks := by decide +kernel
  have hl := lv_entry ([.ref o, .long p0]) (n := 3) (Nat.le_of_ble_eq_true rfl)
  rw [lg_entry_eq]
  generalize (lg_sl ([.ref o, .long p0]) ++ List.replicate (3 - (lg_sl ([.ref o, .long p0])).length) Slot.unset).toArray = ls at hl ⊢
  have hl : lv_has ls 3 [(0, .ref o), (1, .long p0)] := hl
  have k_0 : (0 : Int32).toInt = 0 := by decide
  obtain ⟨hG_b_o, hG_s_o, hJ_o⟩ := w3sh hD hT hG_o hb9 hM_o
  refine lv_aload_n hx hb dX4_isAsKindAsks_0 rfl (lv_at hl 0 rfl) ?_
  refine t_getJ (v := .ref b_o) hx hb hts hinJ hown hK hP hJ_o.kc hM_o 0 (by decide) (hts (.fieldLink RX4 7 "ShadowBench$JoinedJob" "board" "LShadowBench$Board;") (by decide +kernel)) (fun _ h9 => u_same (hts (.sameField "ShadowBench$JoinedJob" "ShadowBench$Job" "board" "LShadowBench$Board;") (by decide +kernel)) _ h9) rfl dX4_isAsKindAsks_1 ?_
  refine lv_lload_n hx hb dX4_isAsKindAsks_4 rfl (lv_at hl 1 rfl) ?_
  obtain ⟨_, hM_b_o, hb_b_o, l_b_o, f_b_o, r_b_o, rfl, hG_l_b_o, hG_f_b_o, hG_r_b_o⟩ := hT _ _ hG_b_o
  refine t_calli (va_runV (g := F0 m 5 ls ([.long p0, .ref b_o])) (As := [.long p0]) (rest := []) ⟨hx, hb, hml, hown, hts⟩ (c_X0_hangsTogether_x l D cy A G ws b_o p0 hD hT hG_b_o hp9) (cwV 1 hts gX4_isAsKindAsks_X0_hangsTogether rfl rfl rfl (by decide +kernel) ⟨Nat.le_of_ble_eq_true rfl, Nat.le_of_ble_eq_true rfl⟩) (c_preV hM_b_o rfl hP hK hA hS hV) rfl rfl hl.1 rfl (lv_room (Nat.le_of_ble_eq_true rfl)) dX4_isAsKindAsks_5 ⟨Nat.le_of_ble_eq_true rfl, Nat.le_of_ble_eq_true rfl⟩) hS (fun r5 u H locs q5 hP9 hD9 hT9 hS => ?_)
  obtain ⟨rfl, q5⟩ := q5
  have hP : va_P D vwCl ws H := hP9
  exact W.zret (v := r5) hx hb hr (bo_z q5) (fun t ht hW => ⟨⟨_, (G, ws), rfl, ⟨rfl, q5⟩, by show va_P D vwCl ws t.heap; rw [ht]; exact hP, hD, hT⟩, hS.F ht⟩) hS.2.2 dX4_isAsKindAsks_8
set_option maxHeartbeats 4000000 in
set_option maxRecDepth 100000 in
theorem c_X1_isAsKindAsks_x (l : Launch) (D : va_G) (cy : Nat → ClassId) (A : Nat → Prop) (G : cG) (ws : va_W) (o : Nat) (p0 : Int64) {w h b_o s_o t_o : Nat} {x_o y_o : Int64} (hD : va_D A ws) (hT : cT cy G ws) (hG_o : G o = some (3, 1, 8 * w + h)) (hM_o : cIn ws o (.inr (1, [.ref b_o, .ref s_o, .int (nI t_o), .long x_o, .long y_o]))) (hb9 : 1 ≤ w ∧ w ≤ 6 ∧ 1 ≤ h ∧ h ≤ 6) (ht9 : t_o < 16) (hp9 : isPic (w * h) p0) : Ci l D cy A yX1_isAsKindAsks wsX1_isAsKindAsks ({ frames := 2, cells := 0, slots := 0, locals := 55 }) 0 0 ws [.ref o, .long p0] (fun r0 u => u = (G, ws) ∧ (Bo r0 (jOK w h p0 ∧ rowsW w h p0 ∧ colsW w h p0))) := by
  refine Met.ofW (cc := cX1_isAsKindAsks) (maxL := 3) (ret := (some .boolean)) (by decide) rfl ?_
  intro p e s m args below meth c s₁ B hml hv
  obtain ⟨rfl, hP, hK, hA, hV⟩ := hv
  have hx := B.exec
  have hb := B.bytes
  have hr := B.returns
  have hts := atoms_spec (ws := wsX1_isAsKindAsks) B.pre
  have hown : s.vm.findClass RX1 = some m.cls := findClass_of_methodNamed B.named
  have hlocks := B.notSynchronized
  have hS : va_S A s.heap s.heap [] := va_S.rf
  have hl := lv_entry ([.ref o, .long p0]) (n := 3) (Nat.le_of_ble_eq_true rfl)
  rw [lg_entry_eq]
  generalize (lg_sl ([.ref o, .long p0]) ++ List.replicate (3 - (lg_sl ([.ref o, .long p0])).length) Slot.unset).toArray = ls at hl ⊢
  have hl : lv_has ls 3 [(0, .ref o), (1, .long p0)] := hl
  have k_0 : (0 : Int32).toInt = 0 := by decide
  have k_1 : (1 : Int32).toInt = 1 := by decide
  obtain ⟨hG_b_o, hG_s_o, hJ_o⟩ := w3sh hD hT hG_o hb9 hM_o
  refine lv_aload_n hx hb dX1_isAsKindAsks_0 rfl (lv_at hl 0 rfl) ?_
  refine lv_lload_n hx hb dX1_isAsKindAsks_1 rfl (lv_at hl 1 rfl) ?_
  refine t_calli (va_runSU (g := F0 m 2 ls ([.long p0, .ref o])) (As := [.long p0]) (rest := []) (hK.1 1 _ rfl).2 ⟨hx, hb, hml, hown, hts⟩ (c_X4_isAsKindAsks_x l D cy A G ws o p0 hD hT hG_o hM_o hb9 ht9 hp9) (va_cwSU 1 hts gX1_isAsKindAsks_X4_isAsKindAsks_s7 rfl rfl rfl (by decide +kernel) ⟨Nat.le_of_ble_eq_true rfl, Nat.le_of_ble_eq_true rfl⟩) (c_preV hM_o rfl hP hK hA hS hV) rfl rfl hl.1 rfl (lv_room (Nat.le_of_ble_eq_true rfl)) dX1_isAsKindAsks_2 ⟨Nat.le_of_ble_eq_true rfl, Nat.le_of_ble_eq_true rfl⟩) hS (fun r2 u H locs q2 hP9 hD9 hT9 hS => ?_)
  obtain ⟨rfl, q2⟩ := q2
  have hP : va_P D vwCl ws H := hP9
  refine lv_if_eq (tgt := 34) hx hb dX1_isAsKindAsks_5 (by decide) (fun c5 => ?_) (fun c5 => ?_)
  · skip
    have b5 := bo_f q2 c5
    refine lv_iconst (v := 0) hx hb dX1_isAsKindAsks_34 (by decide) ?_
    exact W.zret (v := (0 : Int32)) hx hb hr (by decide) (fun t ht hW => ⟨⟨_, (G, ws), rfl, ⟨rfl, Or.inr ⟨rfl, (fun z9 => by first | exact b27 z9.2.2 | exact b16 z9.2.1 | exact b5 z9.1)⟩⟩, by show va_P D vwCl ws t.heap; rw [ht]; exact hP, hD, hT⟩, hS.F ht⟩) hS.2.2 dX1_isAsKindAsks_35
  · skip
    have b5 := bo_t q2 c5
    refine lv_aload_n hx hb dX1_isAsKindAsks_8 rfl (lv_at hl 0 rfl) ?_
    refine t_get (v := .ref b_o) (C := RX1) (T := TX1) (N := 5) hx hb hts (by decide +kernel) hown hK hP hM_o rfl 0 (by decide) (hts (.fieldLink RX1 11 "ShadowBench$EvenJob" "board" "LShadowBench$Board;") (by decide +kernel)) (fun _ h9 => u_same (hts (.sameField "ShadowBench$EvenJob" "ShadowBench$Job" "board" "LShadowBench$Board;") (by decide +kernel)) _ h9) rfl dX1_isAsKindAsks_9 ?_
    refine lv_lload_n hx hb dX1_isAsKindAsks_12 rfl (lv_at hl 1 rfl) ?_
    obtain ⟨_, hM_b_o, hb_b_o, l_b_o, f_b_o, r_b_o, rfl, hG_l_b_o, hG_f_b_o, hG_r_b_o⟩ := hT _ _ hG_b_o
    refine t_calli (va_runV (g := F0 m 13 ls ([.long p0, .ref b_o])) (As := [.long p0]) (rest := []) ⟨hx, hb, hml, hown, hts⟩ (c_X0_rowsAreWhole_x l D cy A G ws b_o p0 hD hT hG_b_o ) (cwV 1 hts gX1_isAsKindAsks_X0_rowsAreWhole rfl rfl rfl (by decide +kernel) ⟨Nat.le_of_ble_eq_true rfl, Nat.le_of_ble_eq_true rfl⟩) (c_preV hM_b_o rfl hP hK hA hS hV) rfl rfl hl.1 rfl (lv_room (Nat.le_of_ble_eq_true rfl)) dX1_isAsKindAsks_13 ⟨Nat.le_of_ble_eq_true rfl, Nat.le_of_ble_eq_true rfl⟩) hS (fun r13 u H locs q13 hP9 hD9 hT9 hS => ?_)
    obtain ⟨rfl, q13⟩ := q13
    have hP : va_P D vwCl ws H := hP9
    refine lv_if_eq (tgt := 34) hx hb dX1_isAsKindAsks_16 (by decide) (fun c16 => ?_) (fun c16 => ?_)
    · skip
      have b16 := bo_f q13 c16
      refine lv_iconst (v := 0) hx hb dX1_isAsKindAsks_34 (by decide) ?_
      exact W.zret (v := (0 : Int32)) hx hb hr (by decide) (fun t ht hW => ⟨⟨_, (G, ws), rfl, ⟨rfl, Or.inr ⟨rfl, (fun z9 => by first | exact b27 z9.2.2 | exact b16 z9.2.1 | exact b5 z9.1)⟩⟩, by show va_P D vwCl ws t.heap; rw [ht]; exact hP, hD, hT⟩, hS.F ht⟩) hS.2.2 dX1_isAsKindAsks_35
    · skip
      have b16 := bo_t q13 c16
      refine lv_aload_n hx hb dX1_isAsKindAsks_19 rfl (lv_at hl 0 rfl) ?_
      refine t_get (v := .ref b_o) (C := RX1) (T := TX1) (N := 5) hx hb hts (by decide +kernel) hown hK hP hM_o rfl 0 (by decide) (hts (.fieldLink RX1 11 "ShadowBench$EvenJob" "board" "LShadowBench$Board;") (by decide +kernel)) (fun _ h9 => u_same (hts (.sameField "ShadowBench$EvenJob" "ShadowBench$Job" "board" "LShadowBench$Board;") (by decide +kernel)) _ h9) rfl dX1_isAsKindAsks_20 ?_
      refine lv_lload_n hx hb dX1_isAsKindAsks_23 rfl (lv_at hl 1 rfl) ?_
      refine t_calli (va_runV (g := F0 m 24 ls ([.long p0, .ref b_o])) (As := [.long p0]) (rest := []) ⟨hx, hb, hml, hown, hts⟩ (c_X0_columnsAreWhole_x l D cy A G ws b_o p0 hD hT hG_b_o ) (cwV 1 hts gX1_isAsKindAsks_X0_columnsAreWhole rfl rfl rfl (by decide +kernel) ⟨Nat.le_of_ble_eq_true rfl, Nat.le_of_ble_eq_true rfl⟩) (c_preV hM_b_o rfl hP hK hA hS hV) rfl rfl hl.1 rfl (lv_room (Nat.le_of_ble_eq_true rfl)) dX1_isAsKindAsks_24 ⟨Nat.le_of_ble_eq_true rfl, Nat.le_of_ble_eq_true rfl⟩) hS (fun r24 u H locs q24 hP9 hD9 hT9 hS => ?_)
      obtain ⟨rfl, q24⟩ := q24
      have hP : va_P D vwCl ws H := hP9
      refine lv_if_eq (tgt := 34) hx hb dX1_isAsKindAsks_27 (by decide) (fun c27 => ?_) (fun c27 => ?_)
      · skip
        have b27 := bo_f q24 c27
        refine lv_iconst (v := 0) hx hb dX1_isAsKindAsks_34 (by decide) ?_
        exact W.zret (v := (0 : Int32)) hx hb hr (by decide) (fun t ht hW => ⟨⟨_, (G, ws), rfl, ⟨rfl, Or.inr ⟨rfl, (fun z9 => by first | exact b27 z9.2.2 | exact b16 z9.2.1 | exact b5 z9.1)⟩⟩, by show va_P D vwCl ws t.heap; rw [ht]; exact hP, hD, hT⟩, hS.F ht⟩) hS.2.2 dX1_isAsKindAsks_35
      · skip
        have b27 := bo_t q24 c27
        refine lv_iconst (v := 1) hx hb dX1_isAsKindAsks_30 (by decide) ?_
        refine lv_goto (tgt := 35) hx hb dX1_isAsKindAsks_31 (by decide) ?_
        exact W.zret (v := (1 : Int32)) hx hb hr (by decide) (fun t ht hW => ⟨⟨_, (G, ws), rfl, ⟨rfl, Or.inl ⟨rfl, ⟨b5, b16, b27⟩⟩⟩, by show va_P D vwCl ws t.heap; rw [ht]; exact hP, hD, hT⟩, hS.F ht⟩) hS.2.2 dX1_isAsKindAsks_35
set_option maxHeartbeats 4000000 in
set_option maxRecDepth 100000 in
theorem c_X3_admits_x (l : Launch) (D : va_G) (cy : Nat → ClassId) (A : Nat → Prop) (G : cG) (ws : va_W) (o : Nat) (p0 : Int64) {kq w h b_o s_o t_o : Nat} {x_o y_o : Int64} {ms_o : List Value} {fs : Nat → Int32} (hD : va_D A ws) (hT : cT cy G ws) (hG_o : G o = some (3, kq, 8 * w + h)) (hM_o : cIn ws o (.inr (kq, .ref b_o :: .ref s_o :: .int (nI t_o) :: .long x_o :: .long y_o :: ms_o))) (hM_s_o : cIn ws s_o (.inl (cy 0, 44, .inl fs))) (hb9 : 1 ≤ w ∧ w ≤ 6 ∧ 1 ≤ h ∧ h ≤ 6) (ht9 : t_o < 16) (hp9 : isPic (w * h) p0) : Ci l D cy A yX3_admits wsX3_admits ({ frames := 3, cells := 0, slots := 0, locals := 77 }) 0 0 ws [.ref o, .long p0] (fun r0 u => u = (G, ws) ∧ (Bo r0 (fitC kq w h t_o x_o y_o fs p0))) := by
  refine Met.ofW (cc := cX3_admits) (maxL := 3) (ret := (some .boolean)) (by decide) rfl ?_
  intro p e s m args below meth c s₁ B hml hv
  obtain ⟨rfl, hP, hK, hA, hV⟩ := hv
  have hx := B.exec
  have hb := B.bytes
  have hr := B.returns
  have hts := atoms_spec (ws := wsX3_admits) B.pre
  have hown : s.vm.findClass RX3 = some m.cls := findClass_of_methodNamed B.named
  have hlocks := B.notSynchronized
  have hS : va_S A s.heap s.heap [] := va_S.rf
  have hinJ : ∀ w ∈ wsX10 ++ wsX30 ++ wsX40 ++ wsX50, w ∈ wsX3_admits := by decide +kernel
  have hl := lv_entry ([.ref o, .long p0]) (n := 3) (Nat.le_of_ble_eq_true rfl)
  rw [lg_entry_eq]
  generalize (lg_sl ([.ref o, .long p0]) ++ List.replicate (3 - (lg_sl ([.ref o, .long p0])).length) Slot.unset).toArray = ls at hl ⊢
  have hl : lv_has ls 3 [(0, .ref o), (1, .long p0)] := hl
  have k_0 : (0 : Int32).toInt = 0 := by decide
  have k_1 : (1 : Int32).toInt = 1 := by decide
  have k_m1L : (-1 : Int64).toInt = -1 := by decide
  have k_0L : (0 : Int64).toInt = 0 := by decide
  obtain ⟨hG_b_o, hG_s_o, hJ_o⟩ := w3sh hD hT hG_o hb9 hM_o
  refine lv_lload_n hx hb dX3_admits_0 rfl (lv_at hl 1 rfl) ?_
  refine lv_aload_n hx hb dX3_admits_1 rfl (lv_at hl 0 rfl) ?_
  refine t_getJ (v := .long y_o) hx hb hts hinJ hown hK hP hJ_o.kc hM_o 4 (by decide) (hts (.fieldLink RX3 25 "ShadowBench$Job" "heldNoughts" "J") (by decide +kernel)) (fun _ h9 => h9) rfl dX3_admits_2 ?_
  refine lv_land hx hb dX3_admits_5 ?_
  refine lv_topl (fun v5 e5 => ?_)
  refine lv_lconst (v := 0) hx hb dX3_admits_6 (by decide) ?_
  refine W.lcmp hx hb dX3_admits_7 ?_
  refine lv_if_ne (tgt := 46) hx hb dX3_admits_8 (by decide) (fun c8 => ?_) (fun c8 => ?_)
  · skip
    have d8 := c8
    rw [lg_cmp_eq, fa_eq64] at d8
    refine lv_iconst (v := 0) hx hb dX3_admits_46 (by decide) ?_
    exact W.zret (v := (0 : Int32)) hx hb hr (by decide) (fun t ht hW => ⟨⟨_, (G, ws), rfl, ⟨rfl, Or.inr ⟨rfl, (fun z9 => by first | exact c8 ((lg_cmp_eq _ _).mpr ((and_0 e5).mpr z9.1.1)) | exact c23 ((lg_cmp_eq _ _).mpr ((nand_0 e15 e20).mpr z9.1.2)) | exact b31 z9.2.1 | exact b39 (z9.2.2.2 rfl) | exact b39 (z9.2.2.1 rfl) | exact absurd (q36.symm.trans c39) (by decide))⟩⟩, by show va_P D vwCl ws t.heap; rw [ht]; exact hP, hD, hT⟩, hS.F ht⟩) hS.2.2 dX3_admits_47
  · skip
    have d8 := c8
    rw [lg_cmp_eq, fa_eq64] at d8
    refine lv_lload_n hx hb dX3_admits_11 rfl (lv_at hl 1 rfl) ?_
    refine lv_ldc2 hx hb hown (hts (.constantLong RX3 48 (-1)) (by decide +kernel)) dX3_admits_12 ?_
    refine lv_lxor hx hb dX3_admits_15 ?_
    refine lv_topl (fun v15 e15 => ?_)
    refine lv_aload_n hx hb dX3_admits_16 rfl (lv_at hl 0 rfl) ?_
    refine t_getJ (v := .long x_o) hx hb hts hinJ hown hK hP hJ_o.kc hM_o 3 (by decide) (hts (.fieldLink RX3 21 "ShadowBench$Job" "heldOnes" "J") (by decide +kernel)) (fun _ h9 => h9) rfl dX3_admits_17 ?_
    refine lv_land hx hb dX3_admits_20 ?_
    refine lv_topl (fun v20 e20 => ?_)
    refine lv_lconst (v := 0) hx hb dX3_admits_21 (by decide) ?_
    refine W.lcmp hx hb dX3_admits_22 ?_
    refine lv_if_ne (tgt := 46) hx hb dX3_admits_23 (by decide) (fun c23 => ?_) (fun c23 => ?_)
    · skip
      have d23 := c23
      rw [lg_cmp_eq, fa_eq64] at d23
      refine lv_iconst (v := 0) hx hb dX3_admits_46 (by decide) ?_
      exact W.zret (v := (0 : Int32)) hx hb hr (by decide) (fun t ht hW => ⟨⟨_, (G, ws), rfl, ⟨rfl, Or.inr ⟨rfl, (fun z9 => by first | exact c8 ((lg_cmp_eq _ _).mpr ((and_0 e5).mpr z9.1.1)) | exact c23 ((lg_cmp_eq _ _).mpr ((nand_0 e15 e20).mpr z9.1.2)) | exact b31 z9.2.1 | exact b39 (z9.2.2.2 rfl) | exact b39 (z9.2.2.1 rfl) | exact absurd (q36.symm.trans c39) (by decide))⟩⟩, by show va_P D vwCl ws t.heap; rw [ht]; exact hP, hD, hT⟩, hS.F ht⟩) hS.2.2 dX3_admits_47
    · skip
      have d23 := c23
      rw [lg_cmp_eq, fa_eq64] at d23
      refine lv_aload_n hx hb dX3_admits_26 rfl (lv_at hl 0 rfl) ?_
      refine lv_lload_n hx hb dX3_admits_27 rfl (lv_at hl 1 rfl) ?_
      refine t_calli (t_runJ (g := F0 m 28 ls ([.long p0, .ref o])) (As := [.long p0]) (rest := []) ⟨hx, hb, hml, hown, hts⟩ (c_X3_hasShadowsAsTold_x l D cy A G ws o p0 hD hT hG_o hM_o hM_s_o hb9 ht9) (va_cwU 1 hts gX3_admits_X3_hasShadowsAsTold_u61X1 rfl rfl rfl rfl (by decide +kernel) ⟨Nat.le_of_ble_eq_true rfl, Nat.le_of_ble_eq_true rfl⟩) (cwV 1 hts gX3_admits_X3_hasShadowsAsTold rfl rfl rfl (by decide +kernel) ⟨Nat.le_of_ble_eq_true rfl, Nat.le_of_ble_eq_true rfl⟩) (va_cwU 1 hts gX3_admits_X3_hasShadowsAsTold_u61X4 rfl rfl rfl rfl (by decide +kernel) ⟨Nat.le_of_ble_eq_true rfl, Nat.le_of_ble_eq_true rfl⟩) (va_cwU 1 hts gX3_admits_X3_hasShadowsAsTold_u61X5 rfl rfl rfl rfl (by decide +kernel) ⟨Nat.le_of_ble_eq_true rfl, Nat.le_of_ble_eq_true rfl⟩) hJ_o.kc hM_o hP hK c_blind (c_preS hP hK hA hS hV).2 rfl rfl hl.1 rfl (lv_room (Nat.le_of_ble_eq_true rfl)) dX3_admits_28 ⟨Nat.le_of_ble_eq_true rfl, Nat.le_of_ble_eq_true rfl⟩) hS (fun r28 u H locs q28 hP9 hD9 hT9 hS => ?_)
      obtain ⟨rfl, q28⟩ := q28
      have hP : va_P D vwCl ws H := hP9
      refine lv_if_eq (tgt := 46) hx hb dX3_admits_31 (by decide) (fun c31 => ?_) (fun c31 => ?_)
      · skip
        have b31 := bo_f q28 c31
        refine lv_iconst (v := 0) hx hb dX3_admits_46 (by decide) ?_
        exact W.zret (v := (0 : Int32)) hx hb hr (by decide) (fun t ht hW => ⟨⟨_, (G, ws), rfl, ⟨rfl, Or.inr ⟨rfl, (fun z9 => by first | exact c8 ((lg_cmp_eq _ _).mpr ((and_0 e5).mpr z9.1.1)) | exact c23 ((lg_cmp_eq _ _).mpr ((nand_0 e15 e20).mpr z9.1.2)) | exact b31 z9.2.1 | exact b39 (z9.2.2.2 rfl) | exact b39 (z9.2.2.1 rfl) | exact absurd (q36.symm.trans c39) (by decide))⟩⟩, by show va_P D vwCl ws t.heap; rw [ht]; exact hP, hD, hT⟩, hS.F ht⟩) hS.2.2 dX3_admits_47
      · skip
        have b31 := bo_t q28 c31
        refine lv_aload_n hx hb dX3_admits_34 rfl (lv_at hl 0 rfl) ?_
        refine lv_lload_n hx hb dX3_admits_35 rfl (lv_at hl 1 rfl) ?_
        have hJ9 := hJ_o
        obtain ⟨hn9, hJ9⟩ := hJ9
        rcases hJ9 with ⟨rfl, rfl⟩ | ⟨rfl, rfl⟩ | ⟨rfl, rfl⟩ | ⟨rfl, c9, rfl, hG_c9⟩
        · skip
          have hM_o : cIn ws o (.inr (1, [.ref b_o, .ref s_o, .int (nI t_o), .long x_o, .long y_o])) := hM_o
          refine t_calli (va_runU (g := F0 m 36 ls ([.long p0, .ref o])) (As := [.long p0]) (rest := []) ⟨hx, hb, hml, hown, hts⟩ (c_X1_isAsKindAsks_x l D cy A G ws o p0 hD hT hG_o hM_o hb9 ht9 hp9) (va_cwO 1 hts gX3_admits_X1_isAsKindAsks_u65X1 rfl rfl rfl (b0 := cX3_isAsKindAsks) (m0 := 3) (r0 := (some .boolean)) (by decide +kernel) (by decide +kernel) ⟨Nat.le_of_ble_eq_true rfl, Nat.le_of_ble_eq_true rfl⟩) (c_preV hM_o rfl hP hK hA hS hV) rfl rfl hl.1 rfl (lv_room (Nat.le_of_ble_eq_true rfl)) dX3_admits_36 ⟨Nat.le_of_ble_eq_true rfl, Nat.le_of_ble_eq_true rfl⟩) hS (fun r36 u H locs q36 hP9 hD9 hT9 hS => ?_)
          obtain ⟨rfl, q36⟩ := q36
          have hP : va_P D vwCl ws H := hP9
          refine lv_if_eq (tgt := 46) hx hb dX3_admits_39 (by decide) (fun c39 => ?_) (fun c39 => ?_)
          · skip
            have b39 := bo_f q36 c39
            refine lv_iconst (v := 0) hx hb dX3_admits_46 (by decide) ?_
            exact W.zret (v := (0 : Int32)) hx hb hr (by decide) (fun t ht hW => ⟨⟨_, (G, ws), rfl, ⟨rfl, Or.inr ⟨rfl, (fun z9 => by first | exact c8 ((lg_cmp_eq _ _).mpr ((and_0 e5).mpr z9.1.1)) | exact c23 ((lg_cmp_eq _ _).mpr ((nand_0 e15 e20).mpr z9.1.2)) | exact b31 z9.2.1 | exact b39 (z9.2.2.2 rfl) | exact b39 (z9.2.2.1 rfl) | exact absurd (q36.symm.trans c39) (by decide))⟩⟩, by show va_P D vwCl ws t.heap; rw [ht]; exact hP, hD, hT⟩, hS.F ht⟩) hS.2.2 dX3_admits_47
          · skip
            have b39 := bo_t q36 c39
            refine lv_iconst (v := 1) hx hb dX3_admits_42 (by decide) ?_
            refine lv_goto (tgt := 47) hx hb dX3_admits_43 (by decide) ?_
            exact W.zret (v := (1 : Int32)) hx hb hr (by decide) (fun t ht hW => ⟨⟨_, (G, ws), rfl, ⟨rfl, Or.inl ⟨rfl, ⟨⟨(and_0 e5).mp ((lg_cmp_eq _ _).mp c8), (nand_0 e15 e20).mp ((lg_cmp_eq _ _).mp c23)⟩, b31, (by refine ⟨fun z9 => ?_, fun z9 => ?_⟩ <;> first | exact absurd z9 (by decide) | exact b39)⟩⟩⟩, by show va_P D vwCl ws t.heap; rw [ht]; exact hP, hD, hT⟩, hS.F ht⟩) hS.2.2 dX3_admits_47
        · skip
          have hM_o : cIn ws o (.inr (2, [.ref b_o, .ref s_o, .int (nI t_o), .long x_o, .long y_o])) := hM_o
          refine t_calli (va_runV (g := F0 m 36 ls ([.long p0, .ref o])) (As := [.long p0]) (rest := []) ⟨hx, hb, hml, hown, hts⟩ (c_X3_isAsKindAsks_x l D cy A G ws o p0 hD hT hG_o hM_o hb9 ht9 hp9) (cwV 1 hts gX3_admits_X3_isAsKindAsks rfl rfl rfl (by decide +kernel) ⟨Nat.le_of_ble_eq_true rfl, Nat.le_of_ble_eq_true rfl⟩) (c_preV hM_o rfl hP hK hA hS hV) rfl rfl hl.1 rfl (lv_room (Nat.le_of_ble_eq_true rfl)) dX3_admits_36 ⟨Nat.le_of_ble_eq_true rfl, Nat.le_of_ble_eq_true rfl⟩) hS (fun r36 u H locs q36 hP9 hD9 hT9 hS => ?_)
          obtain ⟨rfl, q36⟩ := q36
          have hP : va_P D vwCl ws H := hP9
          refine lv_if_eq (tgt := 46) hx hb dX3_admits_39 (by decide) (fun c39 => ?_) (fun c39 => ?_)
          · skip
            have d39 := c39
            rw [fa_eq] at d39
            refine lv_iconst (v := 0) hx hb dX3_admits_46 (by decide) ?_
            exact W.zret (v := (0 : Int32)) hx hb hr (by decide) (fun t ht hW => ⟨⟨_, (G, ws), rfl, ⟨rfl, Or.inr ⟨rfl, (fun z9 => by first | exact c8 ((lg_cmp_eq _ _).mpr ((and_0 e5).mpr z9.1.1)) | exact c23 ((lg_cmp_eq _ _).mpr ((nand_0 e15 e20).mpr z9.1.2)) | exact b31 z9.2.1 | exact b39 (z9.2.2.2 rfl) | exact b39 (z9.2.2.1 rfl) | exact absurd (q36.symm.trans c39) (by decide))⟩⟩, by show va_P D vwCl ws t.heap; rw [ht]; exact hP, hD, hT⟩, hS.F ht⟩) hS.2.2 dX3_admits_47
          · skip
            have d39 := c39
            rw [fa_eq] at d39
            refine lv_iconst (v := 1) hx hb dX3_admits_42 (by decide) ?_
            refine lv_goto (tgt := 47) hx hb dX3_admits_43 (by decide) ?_
            exact W.zret (v := (1 : Int32)) hx hb hr (by decide) (fun t ht hW => ⟨⟨_, (G, ws), rfl, ⟨rfl, Or.inl ⟨rfl, ⟨⟨(and_0 e5).mp ((lg_cmp_eq _ _).mp c8), (nand_0 e15 e20).mp ((lg_cmp_eq _ _).mp c23)⟩, b31, (by refine ⟨fun z9 => ?_, fun z9 => ?_⟩ <;> first | exact absurd z9 (by decide) | exact b39)⟩⟩⟩, by show va_P D vwCl ws t.heap; rw [ht]; exact hP, hD, hT⟩, hS.F ht⟩) hS.2.2 dX3_admits_47
        · skip
          have hM_o : cIn ws o (.inr (3, [.ref b_o, .ref s_o, .int (nI t_o), .long x_o, .long y_o])) := hM_o
          refine t_calli (va_runU (g := F0 m 36 ls ([.long p0, .ref o])) (As := [.long p0]) (rest := []) ⟨hx, hb, hml, hown, hts⟩ (c_X4_isAsKindAsks_x l D cy A G ws o p0 hD hT hG_o hM_o hb9 ht9 hp9) (va_cwO 1 hts gX3_admits_X4_isAsKindAsks_u65X4 rfl rfl rfl (b0 := cX3_isAsKindAsks) (m0 := 3) (r0 := (some .boolean)) (by decide +kernel) (by decide +kernel) ⟨Nat.le_of_ble_eq_true rfl, Nat.le_of_ble_eq_true rfl⟩) (c_preV hM_o rfl hP hK hA hS hV) rfl rfl hl.1 rfl (lv_room (Nat.le_of_ble_eq_true rfl)) dX3_admits_36 ⟨Nat.le_of_ble_eq_true rfl, Nat.le_of_ble_eq_true rfl⟩) hS (fun r36 u H locs q36 hP9 hD9 hT9 hS => ?_)
          obtain ⟨rfl, q36⟩ := q36
          have hP : va_P D vwCl ws H := hP9
          refine lv_if_eq (tgt := 46) hx hb dX3_admits_39 (by decide) (fun c39 => ?_) (fun c39 => ?_)
          · skip
            have b39 := bo_f q36 c39
            refine lv_iconst (v := 0) hx hb dX3_admits_46 (by decide) ?_
            exact W.zret (v := (0 : Int32)) hx hb hr (by decide) (fun t ht hW => ⟨⟨_, (G, ws), rfl, ⟨rfl, Or.inr ⟨rfl, (fun z9 => by first | exact c8 ((lg_cmp_eq _ _).mpr ((and_0 e5).mpr z9.1.1)) | exact c23 ((lg_cmp_eq _ _).mpr ((nand_0 e15 e20).mpr z9.1.2)) | exact b31 z9.2.1 | exact b39 (z9.2.2.2 rfl) | exact b39 (z9.2.2.1 rfl) | exact absurd (q36.symm.trans c39) (by decide))⟩⟩, by show va_P D vwCl ws t.heap; rw [ht]; exact hP, hD, hT⟩, hS.F ht⟩) hS.2.2 dX3_admits_47
          · skip
            have b39 := bo_t q36 c39
            refine lv_iconst (v := 1) hx hb dX3_admits_42 (by decide) ?_
            refine lv_goto (tgt := 47) hx hb dX3_admits_43 (by decide) ?_
            exact W.zret (v := (1 : Int32)) hx hb hr (by decide) (fun t ht hW => ⟨⟨_, (G, ws), rfl, ⟨rfl, Or.inl ⟨rfl, ⟨⟨(and_0 e5).mp ((lg_cmp_eq _ _).mp c8), (nand_0 e15 e20).mp ((lg_cmp_eq _ _).mp c23)⟩, b31, (by refine ⟨fun z9 => ?_, fun z9 => ?_⟩ <;> first | exact absurd z9 (by decide) | exact b39)⟩⟩⟩, by show va_P D vwCl ws t.heap; rw [ht]; exact hP, hD, hT⟩, hS.F ht⟩) hS.2.2 dX3_admits_47
        · skip
          have hM_o : cIn ws o (.inr (4, [.ref b_o, .ref s_o, .int (nI t_o), .long x_o, .long y_o, .ref c9])) := hM_o
          have hn36 := cb_mul (c_hb hT hG_b_o)
          refine t_calli (va_runU (g := F0 m 36 ls ([.long p0, .ref o])) (As := [.long p0]) (rest := []) ⟨hx, hb, hml, hown, hts⟩ (c_X3_isAsKindAsks_x l D cy A G ws o p0 hD hT hG_o hM_o hb9 ht9 hp9) (va_cwU 1 hts gX3_admits_X3_isAsKindAsks_u65X5 rfl rfl rfl rfl (by decide +kernel) ⟨Nat.le_of_ble_eq_true rfl, Nat.le_of_ble_eq_true rfl⟩) (c_preV hM_o rfl hP hK hA hS hV) rfl rfl hl.1 rfl (lv_room (Nat.le_of_ble_eq_true rfl)) dX3_admits_36 ⟨Nat.le_of_ble_eq_true rfl, Nat.le_of_ble_eq_true rfl⟩) hS (fun r36 u H locs q36 hP9 hD9 hT9 hS => ?_)
          obtain ⟨rfl, q36⟩ := q36
          have hP : va_P D vwCl ws H := hP9
          refine lv_if_eq (tgt := 46) hx hb dX3_admits_39 (by decide) (fun c39 => ?_) (fun c39 => ?_)
          · skip
            have d39 := c39
            rw [fa_eq] at d39
            refine lv_iconst (v := 0) hx hb dX3_admits_46 (by decide) ?_
            exact W.zret (v := (0 : Int32)) hx hb hr (by decide) (fun t ht hW => ⟨⟨_, (G, ws), rfl, ⟨rfl, Or.inr ⟨rfl, (fun z9 => by first | exact c8 ((lg_cmp_eq _ _).mpr ((and_0 e5).mpr z9.1.1)) | exact c23 ((lg_cmp_eq _ _).mpr ((nand_0 e15 e20).mpr z9.1.2)) | exact b31 z9.2.1 | exact b39 (z9.2.2.2 rfl) | exact b39 (z9.2.2.1 rfl) | exact absurd (q36.symm.trans c39) (by decide))⟩⟩, by show va_P D vwCl ws t.heap; rw [ht]; exact hP, hD, hT⟩, hS.F ht⟩) hS.2.2 dX3_admits_47
          · skip
            have d39 := c39
            rw [fa_eq] at d39
            refine lv_iconst (v := 1) hx hb dX3_admits_42 (by decide) ?_
            refine lv_goto (tgt := 47) hx hb dX3_admits_43 (by decide) ?_
            exact W.zret (v := (1 : Int32)) hx hb hr (by decide) (fun t ht hW => ⟨⟨_, (G, ws), rfl, ⟨rfl, Or.inl ⟨rfl, ⟨⟨(and_0 e5).mp ((lg_cmp_eq _ _).mp c8), (nand_0 e15 e20).mp ((lg_cmp_eq _ _).mp c23)⟩, b31, (by refine ⟨fun z9 => ?_, fun z9 => ?_⟩ <;> first | exact absurd z9 (by decide) | exact b39)⟩⟩⟩, by show va_P D vwCl ws t.heap; rw [ht]; exact hP, hD, hT⟩, hS.F ht⟩) hS.2.2 dX3_admits_47
set_option maxHeartbeats 4000000 in
set_option maxRecDepth 100000 in
theorem c_X9_fits_j (l : Launch) (D : va_G) (cy : Nat → ClassId) (A : Nat → Prop) (G : cG) (ws : va_W) (o : Nat) (j : Int32) (p0 : Int64) {bs_o js_o sh_o wk_o ll_o : Nat} {jc_o lc_o : Int32} {mo_o lb_o : Option Nat} {fa : Nat → Option Nat} {xj kj bj sj tj wj hj : Nat} {oj nj : Int64} {msj : List Value} {fsj : Nat → Int32} (hD : va_D A ws) (hT : cT cy G ws) (hG_o : G o = some (7, 0, 0)) (hM_o : cIn ws o (.inr (8, [.ref bs_o, .ref js_o, .int jc_o, .ref sh_o, .ref wk_o, va_rf mo_o, .ref ll_o, .int lc_o, va_rf lb_o]))) (hM_js_o : cIn ws js_o (.inl (cy 4, cqa 8 fa))) (hJ1 : ∀ i : Nat, (i : Int) < jc_o.toInt → ∃ x, fa i = some x) (hJ : okJob jc_o j → jobS cy G ws fa j.toNatClampNeg xj kj bj sj tj wj hj oj nj msj fsj) : Ci l D cy A yX9_fits wsX9_fits ({ frames := 4, cells := 0, slots := 0, locals := 99 }) 0 0 ws [.ref o, .int j, .long p0] (fun r0 u => u = (G, ws) ∧ (((okJob jc_o j ∧ isPic (wj * hj) p0) ∧ Bo r0 (fitC kj wj hj tj oj nj fsj p0)) ∨ (¬ (okJob jc_o j ∧ isPic (wj * hj) p0) ∧ r0 = -1))) := by
  refine Met.ofW (cc := cX9_fits) (maxL := 5) (ret := (some .int)) (by decide) rfl ?_
  intro p e s m args below meth c s₁ B hml hv
  obtain ⟨rfl, hP, hK, hA, hV⟩ := hv
  have hx := B.exec
  have hb := B.bytes
  have hr := B.returns
  have hts := atoms_spec (ws := wsX9_fits) B.pre
  have hown : s.vm.findClass RX9 = some m.cls := findClass_of_methodNamed B.named
  have hlocks := B.notSynchronized
  have hS : va_S A s.heap s.heap [] := va_S.rf
  have hinJ : ∀ w ∈ wsX10 ++ wsX30 ++ wsX40 ++ wsX50, w ∈ wsX9_fits := by decide +kernel
  have hl := lv_entry ([.ref o, .int j, .long p0]) (n := 5) (Nat.le_of_ble_eq_true rfl)
  rw [lg_entry_eq]
  generalize (lg_sl ([.ref o, .int j, .long p0]) ++ List.replicate (5 - (lg_sl ([.ref o, .int j, .long p0])).length) Slot.unset).toArray = ls at hl ⊢
  have hl : lv_has ls 5 [(0, .ref o), (1, .int j), (2, .long p0)] := hl
  have k_m1 : (-1 : Int32).toInt = -1 := by decide
  have k_0 : (0 : Int32).toInt = 0 := by decide
  have k_1 : (1 : Int32).toInt = 1 := by decide
  obtain ⟨hjc_o, hlc_o, hG_bs_o, hG_js_o, hG_sh_o, hG_wk_o, hmo_o, hG_ll_o, hlb_o⟩ := w7sh hD hT hG_o hM_o
  have hf_js_o := w9sh hD hT hG_js_o hM_js_o
  refine lv_aload_n hx hb dX9_fits_0 rfl (lv_at hl 0 rfl) ?_
  refine lv_iload_n hx hb dX9_fits_1 rfl (lv_at hl 1 rfl) ?_
  refine t_calla (va_runV (g := F0 m 2 ls ([.int j, .ref o])) (As := [.int j]) (rest := []) ⟨hx, hb, hml, hown, hts⟩ (c_X9_jobOf_j l D cy A G ws o j hD hT hG_o hM_o hM_js_o hJ1) (cwV 1 hts gX9_fits_X9_jobOf rfl rfl rfl (by decide +kernel) ⟨Nat.le_of_ble_eq_true rfl, Nat.le_of_ble_eq_true rfl⟩) (c_preV hM_o rfl hP hK hA hS hV) rfl rfl hl.1 rfl (lv_room (Nat.le_of_ble_eq_true rfl)) dX9_fits_2 ⟨Nat.le_of_ble_eq_true rfl, Nat.le_of_ble_eq_true rfl⟩) hS (fun r2 u H locs q2 hP9 hD9 hT9 hS => ?_)
  obtain ⟨rfl, q2⟩ := q2
  have hP : va_P D vwCl ws H := hP9
  rcases r2 with _ | x2
  · skip
    have vn2 := q2.2 rfl
    refine lv_astoreN (lv' := [(4, .null), (0, .ref o), (1, .int j), (2, .long p0)]) hx hb dX9_fits_5 hl (by decide) rfl (fun ls hl => ?_)
    refine lv_aloadN hx hb dX9_fits_7 (lv_at hl 0 rfl) ?_
    refine lv_ifnullN (tgt := 24) hx hb dX9_fits_9 (by decide) ?_
    refine lv_iconst (v := (-1)) hx hb dX9_fits_24 (by decide) ?_
    exact W.iret (v := ((-1) : Int32)) hx hb hr (fun t ht hW => ⟨⟨_, (G, ws), rfl, ⟨rfl, (Or.inr ⟨(fun z9 => by first | exact vn2 z9.1 | exact b21 z9.2), rfl⟩)⟩, by show va_P D vwCl ws t.heap; rw [ht]; exact hP, hD, hT⟩, hS.F ht⟩) hS.2.2 dX9_fits_25
  · skip
    obtain ⟨vj2, fj2⟩ := q2.1 x2 rfl
    obtain ⟨hfa9, hG_xj, hb9, ht9, hM_xj, hM_sj⟩ := hJ vj2
    obtain rfl : xj = x2 := Option.some.inj (hfa9.symm.trans fj2)
    obtain ⟨hG_bj, hG_sj, hJ_xj⟩ := w3sh hD hT hG_xj hb9 hM_xj
    refine lv_astore (lv' := [(4, .ref xj), (0, .ref o), (1, .int j), (2, .long p0)]) hx hb dX9_fits_5 hl (by decide) rfl (fun ls hl => ?_)
    refine lv_aload hx hb dX9_fits_7 (lv_at hl 0 rfl) ?_
    refine lv_ifnull hx hb dX9_fits_9 ?_
    refine lv_aload hx hb dX9_fits_12 (lv_at hl 0 rfl) ?_
    refine t_getJ (v := .ref bj) hx hb hts hinJ hown hK hP hJ_xj.kc hM_xj 0 (by decide) (hts (.fieldLink RX9 65 "ShadowBench$Job" "board" "LShadowBench$Board;") (by decide +kernel)) (fun _ h9 => h9) rfl dX9_fits_14 ?_
    refine lv_lload_n hx hb dX9_fits_17 rfl (lv_at hl 3 rfl) ?_
    obtain ⟨_, hM_bj, hb_bj, l_bj, f_bj, r_bj, rfl, hG_l_bj, hG_f_bj, hG_r_bj⟩ := hT _ _ hG_bj
    refine t_calli (va_runV (g := F0 m 18 ls ([.long p0, .ref bj])) (As := [.long p0]) (rest := []) ⟨hx, hb, hml, hown, hts⟩ (c_X0_isPicture_x l D cy A G ws bj p0 hD hT hG_bj ) (cwV 1 hts gX9_fits_X0_isPicture rfl rfl rfl (by decide +kernel) ⟨Nat.le_of_ble_eq_true rfl, Nat.le_of_ble_eq_true rfl⟩) (c_preV hM_bj rfl hP hK hA hS hV) rfl rfl hl.1 rfl (lv_room (Nat.le_of_ble_eq_true rfl)) dX9_fits_18 ⟨Nat.le_of_ble_eq_true rfl, Nat.le_of_ble_eq_true rfl⟩) hS (fun r18 u H locs q18 hP9 hD9 hT9 hS => ?_)
    obtain ⟨rfl, q18⟩ := q18
    have hP : va_P D vwCl ws H := hP9
    refine lv_if_ne (tgt := 26) hx hb dX9_fits_21 (by decide) (fun c21 => ?_) (fun c21 => ?_)
    · skip
      have b21 := bo_t q18 c21
      refine lv_aload hx hb dX9_fits_26 (lv_at hl 0 rfl) ?_
      refine lv_lload_n hx hb dX9_fits_28 rfl (lv_at hl 3 rfl) ?_
      refine t_calli (t_runJ (g := F0 m 29 ls ([.long p0, .ref xj])) (As := [.long p0]) (rest := []) ⟨hx, hb, hml, hown, hts⟩ (c_X3_admits_x l D cy A G ws xj p0 hD hT hG_xj hM_xj hM_sj hb9 ht9 b21) (va_cwU 1 hts gX9_fits_X3_admits_u128X1 rfl rfl rfl rfl (by decide +kernel) ⟨Nat.le_of_ble_eq_true rfl, Nat.le_of_ble_eq_true rfl⟩) (cwV 1 hts gX9_fits_X3_admits rfl rfl rfl (by decide +kernel) ⟨Nat.le_of_ble_eq_true rfl, Nat.le_of_ble_eq_true rfl⟩) (va_cwU 1 hts gX9_fits_X3_admits_u128X4 rfl rfl rfl rfl (by decide +kernel) ⟨Nat.le_of_ble_eq_true rfl, Nat.le_of_ble_eq_true rfl⟩) (va_cwU 1 hts gX9_fits_X3_admits_u128X5 rfl rfl rfl rfl (by decide +kernel) ⟨Nat.le_of_ble_eq_true rfl, Nat.le_of_ble_eq_true rfl⟩) hJ_xj.kc hM_xj hP hK c_blind (c_preS hP hK hA hS hV).2 rfl rfl hl.1 rfl (lv_room (Nat.le_of_ble_eq_true rfl)) dX9_fits_29 ⟨Nat.le_of_ble_eq_true rfl, Nat.le_of_ble_eq_true rfl⟩) hS (fun r29 u H locs q29 hP9 hD9 hT9 hS => ?_)
      obtain ⟨rfl, q29⟩ := q29
      have hP : va_P D vwCl ws H := hP9
      refine lv_if_eq (tgt := 39) hx hb dX9_fits_32 (by decide) (fun c32 => ?_) (fun c32 => ?_)
      · skip
        have b32 := bo_f q29 c32
        refine lv_iconst (v := 0) hx hb dX9_fits_39 (by decide) ?_
        exact W.iret (v := (0 : Int32)) hx hb hr (fun t ht hW => ⟨⟨_, (G, ws), rfl, ⟨rfl, (Or.inl ⟨⟨vj2, b21⟩, Or.inr ⟨rfl, b32⟩⟩)⟩, by show va_P D vwCl ws t.heap; rw [ht]; exact hP, hD, hT⟩, hS.F ht⟩) hS.2.2 dX9_fits_40
      · skip
        have b32 := bo_t q29 c32
        refine lv_iconst (v := 1) hx hb dX9_fits_35 (by decide) ?_
        refine lv_goto (tgt := 40) hx hb dX9_fits_36 (by decide) ?_
        exact W.iret (v := (1 : Int32)) hx hb hr (fun t ht hW => ⟨⟨_, (G, ws), rfl, ⟨rfl, (Or.inl ⟨⟨vj2, b21⟩, Or.inl ⟨rfl, b32⟩⟩)⟩, by show va_P D vwCl ws t.heap; rw [ht]; exact hP, hD, hT⟩, hS.F ht⟩) hS.2.2 dX9_fits_40
    · skip
      have b21 := bo_f q18 c21
      refine lv_iconst (v := (-1)) hx hb dX9_fits_24 (by decide) ?_
      exact W.iret (v := ((-1) : Int32)) hx hb hr (fun t ht hW => ⟨⟨_, (G, ws), rfl, ⟨rfl, (Or.inr ⟨(fun z9 => by first | exact vn2 z9.1 | exact b21 z9.2), rfl⟩)⟩, by show va_P D vwCl ws t.heap; rw [ht]; exact hP, hD, hT⟩, hS.F ht⟩) hS.2.2 dX9_fits_25

theorem bo_y {x : Int32} {P Q : Prop} (h : Bo x P) (hx : ¬ x = 0) (q : P → Q) : Bo 1 Q := h.elim (fun z => Or.inl ⟨rfl, q z.2⟩) (fun z => absurd z.1 hx)
theorem bo_n0 {x : Int32} {P Q : Prop} (h : Bo x P) (hx : x = 0) (q : Q → P) : Bo 0 Q := h.elim (fun z => absurd (z.1.symm.trans hx) (by decide)) (fun z => Or.inr ⟨rfl, fun y => z.2 (q y)⟩)
theorem bo_n1 {Q : Prop} (q : ¬ Q) : Bo 0 Q := Or.inr ⟨rfl, q⟩
theorem bo_m {x : Int32} {P Q : Prop} (h : Bo x P) (hx : x = 0) (q : Q → P) : Bo x Q := h.elim (fun z => absurd (z.1.symm.trans hx) (by decide)) (fun z => Or.inr ⟨z.1, fun y => z.2 (q y)⟩)
theorem bo_iff {x : Int32} {P Q : Prop} (h : Bo x P) (e : P ↔ Q) : Bo x Q := h.elim (fun z => Or.inl ⟨z.1, e.mp z.2⟩) (fun z => Or.inr ⟨z.1, fun y => z.2 (e.mpr y)⟩)
theorem bo_get {x : Int32} {P : Prop} (h : Bo x P) (hx : ¬ x = 0) : P := h.elim (fun z => z.2) (fun z => absurd z.1 hx)
theorem bo_no {x : Int32} {P : Prop} (h : Bo x P) (hx : x = 0) : ¬ P := h.elim (fun z => absurd (z.1.symm.trans hx) (by decide)) (fun z => z.2)
theorem all_s {P : Nat → Prop} {n : Nat} (z : ∀ s, s < n → P s) (q : P n) : ∀ s, s < n + 1 → P s := fun s hs => by
  by_cases e : s = n
  · rw [e]; exact q
  · exact z s (by omega)
theorem all_y {P : Nat → Nat → Prop} {T : Nat → Bool} {L : Nat → Nat} {n : Nat} (z : ∀ y l, y < n → T y = true → l < L y → P y l) (q : T n = true → ∀ l, l < L n → P n l) : ∀ y l, y < n + 1 → T y = true → l < L y → P y l := fun y l hy ht hl => by
  by_cases e : y = n
  · rw [e] at ht hl ⊢; exact q ht l hl
  · exact z y l (by omega) ht hl

theorem nt_ {v x : Int32} (e : v = x) (c : v = 0) : ¬ (!decide (x = 0)) = true := by rw [← e, c]; decide
theorem yt_ {v x : Int32} (e : v = x) (c : ¬ v = 0) : (!decide (x = 0)) = true := by rw [← e, decide_eq_false c]; rfl

set_option maxHeartbeats 4000000 in
set_option maxRecDepth 100000 in
theorem c_X10_isKind_x (l : Launch) (D : va_G) (cy : Nat → ClassId) (mo : Nat) (a : Nat → Nat) (f : Nat → Int32) (g : Nat → Int64) (r : Nat → Nat → Int32) (q : Nat → Nat → Int64) (j : Int32) (p0 : Int64) (hD : DM cy mo a) (hI : MI f r) (hj : 0 ≤ j.toInt ∧ j.toInt < (f 1).toInt) : Mi l D cy mo a yX10_isKind wsX10_isKind ({ frames := 2, cells := 0, slots := 0, locals := 54 }) f g r q [.int j, .long p0] (fun r0 u => ∃ (mt : Nat → Int32), u = (f, g, (va_up r 9 mt), q) ∧ (Bo r0 (kindR (r 2 j.toNatClampNeg) (r 3 j.toNatClampNeg).toNatClampNeg (r 4 j.toNatClampNeg).toNatClampNeg p0))) := by
  refine Met.ofW (cc := cX10_isKind) (maxL := 6) (ret := (some .boolean)) (by decide) rfl ?_
  intro p e s m args below meth c s₁ B hml hv
  obtain ⟨rfl, hP, hK⟩ := hv
  have hx := B.exec
  have hb := B.bytes
  have hr := B.returns
  have hts := atoms_spec (ws := wsX10_isKind) B.pre
  have hin : ∀ w ∈ u_ws RX10 TX10 35, w ∈ wsX10_isKind := by decide +kernel
  have hown : s.vm.findClass RX10 = some m.cls := findClass_of_methodNamed B.named
  have hlocks := B.notSynchronized
  have hS : va_S (AM mo a) s.heap s.heap [] := va_S.rf
  have hl := lv_entry ([.ref mo, .int j, .long p0]) (n := 6) (Nat.le_of_ble_eq_true rfl)
  rw [lg_entry_eq]
  generalize (lg_sl ([.ref mo, .int j, .long p0]) ++ List.replicate (6 - (lg_sl ([.ref mo, .int j, .long p0])).length) Slot.unset).toArray = ls at hl ⊢
  have hl : lv_has ls 6 [(0, .ref mo), (1, .int j), (2, .long p0)] := hl
  have k_0 : (0 : Int32).toInt = 0 := by decide
  have k_1 : (1 : Int32).toInt = 1 := by decide
  have k_3 : (3 : Int32).toInt = 3 := by decide
  have hI1 := hI.1
  refine lv_aload_n hx hb dX10_isKind_0 rfl (lv_at hl 0 rfl) ?_
  refine m_get (v := .ref (a 3)) hx hb hts hin hown hK hP 3 (by decide) rfl (hts (.fieldLink RX10 13 "ShadowBenchModel" "wide" "[I") (by decide +kernel)) rfl dX10_isKind_1 ?_
  refine lv_iload_n hx hb dX10_isKind_4 rfl (lv_at hl 1 rfl) ?_
  refine m_iald (w := (r 3)) hx hb hK hP 2 rfl (vp_in_iff.mpr ⟨by omega, by omega⟩) dX10_isKind_5 ?_
  refine lv_topi (fun v5 e5 => ?_)
  have i5 : v5.toInt = ((r 3) j.toNatClampNeg).toInt := congrArg Int32.toInt e5
  have w5 := mi_w hI (x := j) (by omega) (by omega) e5
  refine lv_istore (lv' := [(4, .int v5), (0, .ref mo), (1, .int j), (2, .long p0)]) hx hb dX10_isKind_6 hl (by decide) rfl (fun ls hl => ?_)
  refine lv_aload_n hx hb dX10_isKind_8 rfl (lv_at hl 1 rfl) ?_
  refine m_get (v := .ref (a 4)) hx hb hts hin hown hK hP 4 (by decide) rfl (hts (.fieldLink RX10 16 "ShadowBenchModel" "high" "[I") (by decide +kernel)) rfl dX10_isKind_9 ?_
  refine lv_iload_n hx hb dX10_isKind_12 rfl (lv_at hl 2 rfl) ?_
  refine m_iald (w := (r 4)) hx hb hK hP 3 rfl (vp_in_iff.mpr ⟨by omega, by omega⟩) dX10_isKind_13 ?_
  refine lv_topi (fun v13 e13 => ?_)
  have i13 : v13.toInt = ((r 4) j.toNatClampNeg).toInt := congrArg Int32.toInt e13
  have w13 := mi_h hI (x := j) (by omega) (by omega) e13
  refine lv_istore (lv' := [(5, .int v13), (4, .int v5), (0, .ref mo), (1, .int j), (2, .long p0)]) hx hb dX10_isKind_14 hl (by decide) rfl (fun ls hl => ?_)
  refine lv_aload_n hx hb dX10_isKind_16 rfl (lv_at hl 2 rfl) ?_
  refine m_get (v := .ref (a 2)) hx hb hts hin hown hK hP 2 (by decide) rfl (hts (.fieldLink RX10 7 "ShadowBenchModel" "kind" "[I") (by decide +kernel)) rfl dX10_isKind_17 ?_
  refine lv_iload_n hx hb dX10_isKind_20 rfl (lv_at hl 3 rfl) ?_
  refine m_iald (w := (r 2)) hx hb hK hP 1 rfl (vp_in_iff.mpr ⟨by omega, by omega⟩) dX10_isKind_21 ?_
  refine lv_topi (fun v21 e21 => ?_)
  have i21 : v21.toInt = ((r 2) j.toNatClampNeg).toInt := congrArg Int32.toInt e21
  refine lv_if_eq (tgt := 35) hx hb dX10_isKind_22 (by decide) (fun c22 => ?_) (fun c22 => ?_)
  · skip
    have d22 := c22
    rw [fa_eq] at d22
    refine lv_iconst (v := 1) hx hb dX10_isKind_35 (by decide) ?_
    exact W.zret (v := (1 : Int32)) hx hb hr (by decide) (fun t ht hW => ⟨⟨_, (f, g, (va_up r 9 (r 9)), q), rfl, ⟨(r 9), rfl, Or.inl ⟨rfl, (by first | exact Or.inl (Or.inl (e21.symm.trans c22)) | exact Or.inl (Or.inr (e30.symm.trans c32)) | exact Or.inr ⟨b46, Or.inl (e54.symm.trans c56)⟩ | exact Or.inr ⟨b46, Or.inr ⟨(by have z9 := b68; rw [if_pos rfl] at z9; exact z9), (by have z9 := b80; rw [if_neg (by decide)] at z9; exact z9)⟩⟩)⟩⟩, by unfold mB; rw [ht]; exact hP⟩, hS.F ht⟩) hS.2.2 dX10_isKind_36
  · skip
    have d22 := c22
    rw [fa_eq] at d22
    refine lv_aload_n hx hb dX10_isKind_25 rfl (lv_at hl 2 rfl) ?_
    refine m_get (v := .ref (a 2)) hx hb hts hin hown hK hP 2 (by decide) rfl (hts (.fieldLink RX10 7 "ShadowBenchModel" "kind" "[I") (by decide +kernel)) rfl dX10_isKind_26 ?_
    refine lv_iload_n hx hb dX10_isKind_29 rfl (lv_at hl 3 rfl) ?_
    refine m_iald (w := (r 2)) hx hb hK hP 1 rfl (vp_in_iff.mpr ⟨by omega, by omega⟩) dX10_isKind_30 ?_
    refine lv_topi (fun v30 e30 => ?_)
    have i30 : v30.toInt = ((r 2) j.toNatClampNeg).toInt := congrArg Int32.toInt e30
    refine lv_iconst (v := 3) hx hb dX10_isKind_31 (by decide) ?_
    refine lv_icmp_ne (tgt := 37) hx hb dX10_isKind_32 (by decide) (fun c32 => ?_) (fun c32 => ?_)
    · skip
      have d32 := c32
      rw [fa_eq] at d32
      refine lv_aload_n hx hb dX10_isKind_37 rfl (lv_at hl 2 rfl) ?_
      refine lv_iload hx hb dX10_isKind_38 (lv_at hl 1 rfl) ?_
      refine lv_iload hx hb dX10_isKind_40 (lv_at hl 0 rfl) ?_
      refine lv_lload_n hx hb dX10_isKind_42 rfl (lv_at hl 4 rfl) ?_
      refine m_calli (As := [.int v5, .int v13, .long p0]) (rest := []) ⟨hx, hb, hml, hown, hts⟩ (c_X10_isJoined_x l D cy mo a f g r q v5 v13 p0 hD w5 w13) (cwV 3 hts gX10_isKind_X10_isJoined rfl rfl rfl (by decide +kernel) ⟨Nat.le_of_ble_eq_true rfl, Nat.le_of_ble_eq_true rfl⟩) hK hP rfl hl.1 rfl (Nat.le_of_ble_eq_true rfl) dX10_isKind_43 ⟨Nat.le_of_ble_eq_true rfl, Nat.le_of_ble_eq_true rfl⟩ hS (fun r43 u H locs q43 hP hS => ?_)
      obtain ⟨mt_43, rfl, q43⟩ := q43
      have hP : va_P D vwCl (WM cy mo a f g (va_up r 9 mt_43) q) H := hP
      have q43 : Bo r43 (jOK v5.toNatClampNeg v13.toNatClampNeg p0) := q43
      rw [e5, e13] at q43
      refine lv_if_eq (tgt := 87) hx hb dX10_isKind_46 (by decide) (fun c46 => ?_) (fun c46 => ?_)
      · skip
        have b46 := bo_f q43 c46
        refine lv_iconst (v := 0) hx hb dX10_isKind_87 (by decide) ?_
        exact W.zret (v := (0 : Int32)) hx hb hr (by decide) (fun t ht hW => ⟨⟨_, (f, g, (va_up r 9 mt_43), q), rfl, ⟨mt_43, rfl, Or.inr ⟨rfl, (fun z9 => by rcases z9 with (z9 | z9) | ⟨z9, z8⟩; exact c22 (e21.trans z9); exact c32 (e30.trans z9); first | exact b46 z9 | (rcases z8 with z8 | ⟨z8, z7⟩; exact c56 (e54.trans z8); first | (have y9 := b68; rw [if_pos rfl] at y9; exact y9 z8) | (have y9 := b80; rw [if_neg (by decide)] at y9; exact y9 z7)))⟩⟩, by unfold mB; rw [ht]; exact hP⟩, hS.F ht⟩) hS.2.2 dX10_isKind_88
      · skip
        have b46 := bo_t q43 c46
        refine lv_aload_n hx hb dX10_isKind_49 rfl (lv_at hl 2 rfl) ?_
        refine m_get (v := .ref (a 2)) hx hb hts hin hown hK hP 2 (by decide) rfl (hts (.fieldLink RX10 7 "ShadowBenchModel" "kind" "[I") (by decide +kernel)) rfl dX10_isKind_50 ?_
        refine lv_iload_n hx hb dX10_isKind_53 rfl (lv_at hl 3 rfl) ?_
        refine m_iald (w := (r 2)) hx hb hK hP 1 rfl (vp_in_iff.mpr ⟨by omega, by omega⟩) dX10_isKind_54 ?_
        refine lv_topi (fun v54 e54 => ?_)
        have i54 : v54.toInt = ((r 2) j.toNatClampNeg).toInt := congrArg Int32.toInt e54
        refine lv_iconst (v := 1) hx hb dX10_isKind_55 (by decide) ?_
        refine lv_icmp_eq (tgt := 83) hx hb dX10_isKind_56 (by decide) (fun c56 => ?_) (fun c56 => ?_)
        · skip
          have d56 := c56
          rw [fa_eq] at d56
          refine lv_iconst (v := 1) hx hb dX10_isKind_83 (by decide) ?_
          refine lv_goto (tgt := 88) hx hb dX10_isKind_84 (by decide) ?_
          exact W.zret (v := (1 : Int32)) hx hb hr (by decide) (fun t ht hW => ⟨⟨_, (f, g, (va_up r 9 mt_43), q), rfl, ⟨mt_43, rfl, Or.inl ⟨rfl, (by first | exact Or.inl (Or.inl (e21.symm.trans c22)) | exact Or.inl (Or.inr (e30.symm.trans c32)) | exact Or.inr ⟨b46, Or.inl (e54.symm.trans c56)⟩ | exact Or.inr ⟨b46, Or.inr ⟨(by have z9 := b68; rw [if_pos rfl] at z9; exact z9), (by have z9 := b80; rw [if_neg (by decide)] at z9; exact z9)⟩⟩)⟩⟩, by unfold mB; rw [ht]; exact hP⟩, hS.F ht⟩) hS.2.2 dX10_isKind_88
        · skip
          have d56 := c56
          rw [fa_eq] at d56
          refine lv_iload hx hb dX10_isKind_59 (lv_at hl 1 rfl) ?_
          refine lv_iload hx hb dX10_isKind_61 (lv_at hl 0 rfl) ?_
          refine lv_lload_n hx hb dX10_isKind_63 rfl (lv_at hl 4 rfl) ?_
          refine lv_iconst (v := 0) hx hb dX10_isKind_64 (by decide) ?_
          refine m_pu (As := [.int v5, .int v13, .long p0, .int (0 : Int32)]) (rest := []) ⟨hx, hb, hml, hown, hts⟩ (c_X10_isEven_x l v5 v13 p0 (0 : Int32) w5 w13) (va_cwS 4 hts gX10_isKind_X10_isEven rfl rfl rfl (by decide +kernel) ⟨Nat.le_of_ble_eq_true rfl, Nat.le_of_ble_eq_true rfl⟩) hP rfl hl.1 rfl (Nat.le_of_ble_eq_true rfl) dX10_isKind_65 ⟨Nat.le_of_ble_eq_true rfl, Nat.le_of_ble_eq_true rfl⟩ hS (fun r65 H locs q65 hP hS => ?_)
          rw [e5, e13] at q65
          refine lv_if_eq (tgt := 87) hx hb dX10_isKind_68 (by decide) (fun c68 => ?_) (fun c68 => ?_)
          · skip
            have b68 := bo_f q65 c68
            refine lv_iconst (v := 0) hx hb dX10_isKind_87 (by decide) ?_
            exact W.zret (v := (0 : Int32)) hx hb hr (by decide) (fun t ht hW => ⟨⟨_, (f, g, (va_up r 9 mt_43), q), rfl, ⟨mt_43, rfl, Or.inr ⟨rfl, (fun z9 => by rcases z9 with (z9 | z9) | ⟨z9, z8⟩; exact c22 (e21.trans z9); exact c32 (e30.trans z9); first | exact b46 z9 | (rcases z8 with z8 | ⟨z8, z7⟩; exact c56 (e54.trans z8); first | (have y9 := b68; rw [if_pos rfl] at y9; exact y9 z8) | (have y9 := b80; rw [if_neg (by decide)] at y9; exact y9 z7)))⟩⟩, by unfold mB; rw [ht]; exact hP⟩, hS.F ht⟩) hS.2.2 dX10_isKind_88
          · skip
            have b68 := bo_t q65 c68
            refine lv_iload hx hb dX10_isKind_71 (lv_at hl 1 rfl) ?_
            refine lv_iload hx hb dX10_isKind_73 (lv_at hl 0 rfl) ?_
            refine lv_lload_n hx hb dX10_isKind_75 rfl (lv_at hl 4 rfl) ?_
            refine lv_iconst (v := 1) hx hb dX10_isKind_76 (by decide) ?_
            refine m_pu (As := [.int v5, .int v13, .long p0, .int (1 : Int32)]) (rest := []) ⟨hx, hb, hml, hown, hts⟩ (c_X10_isEven_x l v5 v13 p0 (1 : Int32) w5 w13) (va_cwS 4 hts gX10_isKind_X10_isEven rfl rfl rfl (by decide +kernel) ⟨Nat.le_of_ble_eq_true rfl, Nat.le_of_ble_eq_true rfl⟩) hP rfl hl.1 rfl (Nat.le_of_ble_eq_true rfl) dX10_isKind_77 ⟨Nat.le_of_ble_eq_true rfl, Nat.le_of_ble_eq_true rfl⟩ hS (fun r77 H locs q77 hP hS => ?_)
            rw [e5, e13] at q77
            refine lv_if_eq (tgt := 87) hx hb dX10_isKind_80 (by decide) (fun c80 => ?_) (fun c80 => ?_)
            · skip
              have b80 := bo_f q77 c80
              refine lv_iconst (v := 0) hx hb dX10_isKind_87 (by decide) ?_
              exact W.zret (v := (0 : Int32)) hx hb hr (by decide) (fun t ht hW => ⟨⟨_, (f, g, (va_up r 9 mt_43), q), rfl, ⟨mt_43, rfl, Or.inr ⟨rfl, (fun z9 => by rcases z9 with (z9 | z9) | ⟨z9, z8⟩; exact c22 (e21.trans z9); exact c32 (e30.trans z9); first | exact b46 z9 | (rcases z8 with z8 | ⟨z8, z7⟩; exact c56 (e54.trans z8); first | (have y9 := b68; rw [if_pos rfl] at y9; exact y9 z8) | (have y9 := b80; rw [if_neg (by decide)] at y9; exact y9 z7)))⟩⟩, by unfold mB; rw [ht]; exact hP⟩, hS.F ht⟩) hS.2.2 dX10_isKind_88
            · skip
              have b80 := bo_t q77 c80
              refine lv_iconst (v := 1) hx hb dX10_isKind_83 (by decide) ?_
              refine lv_goto (tgt := 88) hx hb dX10_isKind_84 (by decide) ?_
              exact W.zret (v := (1 : Int32)) hx hb hr (by decide) (fun t ht hW => ⟨⟨_, (f, g, (va_up r 9 mt_43), q), rfl, ⟨mt_43, rfl, Or.inl ⟨rfl, (by first | exact Or.inl (Or.inl (e21.symm.trans c22)) | exact Or.inl (Or.inr (e30.symm.trans c32)) | exact Or.inr ⟨b46, Or.inl (e54.symm.trans c56)⟩ | exact Or.inr ⟨b46, Or.inr ⟨(by have z9 := b68; rw [if_pos rfl] at z9; exact z9), (by have z9 := b80; rw [if_neg (by decide)] at z9; exact z9)⟩⟩)⟩⟩, by unfold mB; rw [ht]; exact hP⟩, hS.F ht⟩) hS.2.2 dX10_isKind_88
    · skip
      have d32 := c32
      rw [fa_eq] at d32
      refine lv_iconst (v := 1) hx hb dX10_isKind_35 (by decide) ?_
      exact W.zret (v := (1 : Int32)) hx hb hr (by decide) (fun t ht hW => ⟨⟨_, (f, g, (va_up r 9 (r 9)), q), rfl, ⟨(r 9), rfl, Or.inl ⟨rfl, (by first | exact Or.inl (Or.inl (e21.symm.trans c22)) | exact Or.inl (Or.inr (e30.symm.trans c32)) | exact Or.inr ⟨b46, Or.inl (e54.symm.trans c56)⟩ | exact Or.inr ⟨b46, Or.inr ⟨(by have z9 := b68; rw [if_pos rfl] at z9; exact z9), (by have z9 := b80; rw [if_neg (by decide)] at z9; exact z9)⟩⟩)⟩⟩, by unfold mB; rw [ht]; exact hP⟩, hS.F ht⟩) hS.2.2 dX10_isKind_36
set_option maxHeartbeats 4000000 in
set_option maxRecDepth 100000 in
theorem c_X10_isFitting_x (l : Launch) (D : va_G) (cy : Nat → ClassId) (mo : Nat) (a : Nat → Nat) (f : Nat → Int32) (g : Nat → Int64) (r : Nat → Nat → Int32) (q : Nat → Nat → Int64) (j : Int32) (p0 : Int64) (hD : DM cy mo a) (hI : MI f r) (hj : 0 ≤ j.toInt ∧ j.toInt < (f 1).toInt) : Mi l D cy mo a yX10_isFitting wsX10_isFitting ({ frames := 3, cells := 0, slots := 0, locals := 79 }) f g r q [.int j, .long p0] (fun r0 u => ∃ (mt : Nat → Int32), u = (f, g, (va_up r 9 mt), q) ∧ (Bo r0 (fitR j.toNatClampNeg r p0))) := by
  refine Met.ofW (cc := cX10_isFitting) (maxL := 7) (ret := (some .boolean)) (by decide) rfl ?_
  intro p e s m args below meth c s₁ B hml hv
  obtain ⟨rfl, hP, hK⟩ := hv
  have hx := B.exec
  have hb := B.bytes
  have hr := B.returns
  have hts := atoms_spec (ws := wsX10_isFitting) B.pre
  have hin : ∀ w ∈ u_ws RX10 TX10 35, w ∈ wsX10_isFitting := by decide +kernel
  have hown : s.vm.findClass RX10 = some m.cls := findClass_of_methodNamed B.named
  have hlocks := B.notSynchronized
  have hS : va_S (AM mo a) s.heap s.heap [] := va_S.rf
  have hl := lv_entry ([.ref mo, .int j, .long p0]) (n := 7) (Nat.le_of_ble_eq_true rfl)
  rw [lg_entry_eq]
  generalize (lg_sl ([.ref mo, .int j, .long p0]) ++ List.replicate (7 - (lg_sl ([.ref mo, .int j, .long p0])).length) Slot.unset).toArray = ls at hl ⊢
  have hl : lv_has ls 7 [(0, .ref mo), (1, .int j), (2, .long p0)] := hl
  have k_0 : (0 : Int32).toInt = 0 := by decide
  have k_1 : (1 : Int32).toInt = 1 := by decide
  have k_2 : (2 : Int32).toInt = 2 := by decide
  have k_4 : (4 : Int32).toInt = 4 := by decide
  have k_11 : (11 : Int32).toInt = 11 := by decide
  have k_36 : (36 : Int32).toInt = 36 := by decide
  have k_44 : (44 : Int32).toInt = 44 := by decide
  have hI1 := hI.1
  have sq := sq_eq hI hj.1 hj.2
  have szw := mi_w hI (x := j) (by omega) (by omega) rfl
  have szh := mi_h hI (x := j) (by omega) (by omega) rfl
  have hb9 : 1 ≤ (r 3 j.toNatClampNeg).toNatClampNeg ∧ (r 3 j.toNatClampNeg).toNatClampNeg ≤ 6 ∧ 1 ≤ (r 4 j.toNatClampNeg).toNatClampNeg ∧ (r 4 j.toNatClampNeg).toNatClampNeg ≤ 6 := by have := m_cl (x := r 3 j.toNatClampNeg) (by omega); have := m_cl (x := r 4 j.toNatClampNeg) (by omega); omega
  have cj9 := m_cl (x := j) (by omega)
  refine lv_iconst (v := 1) hx hb dX10_isFitting_0 (by decide) ?_
  refine lv_istore (lv' := [(4, .int (1 : Int32)), (0, .ref mo), (1, .int j), (2, .long p0)]) hx hb dX10_isFitting_1 hl (by decide) rfl (fun ls hl => ?_)
  refine lv_iconst (v := 0) hx hb dX10_isFitting_3 (by decide) ?_
  refine lv_istore (lv' := [(5, .int (0 : Int32)), (4, .int (1 : Int32)), (0, .ref mo), (1, .int j), (2, .long p0)]) hx hb dX10_isFitting_4 hl (by decide) rfl (fun ls hl => ?_)
  have loop_6 : ∀ (n : Nat) (s1 : Nat) (x4 : Int32), (s1 ≤ 36 ∧ s1 ≤ (r 3 j.toNatClampNeg).toNatClampNeg * (r 4 j.toNatClampNeg).toNatClampNeg) → (Bo x4 (∀ s, s < s1 → r 7 (36 * j.toNatClampNeg + s) = 2 ∨ r 7 (36 * j.toNatClampNeg + s) = if lb p0 s then 1 else 0)) → 36 - s1 < n → ∀ (H : Heap) (locs : List Loc), va_P D vwCl (WM cy mo a f g r q) H → va_S (AM mo a) s.heap H locs → ∀ (ls : Array Slot), lv_has ls 7 [(5, .int (nI s1)), (4, .int x4), (0, .ref mo), (1, .int j), (2, .long p0)] → W p l e (headSpec wsX10_isFitting ({ frames := 3, cells := 0, slots := 0, locals := 79 })).room s m #[Value.ref mo, Value.int j, Value.long p0] below meth c H locs 0 0 (MQ below (va_Qi (fun r0 u => ∃ (mt : Nat → Int32), u = (f, g, (va_up r 9 mt), q) ∧ (Bo r0 (fitR j.toNatClampNeg r p0))) (mB D cy mo a) (AM mo a)) #[Value.ref mo, Value.int j, Value.long p0] s 0 0 (AM mo a)) (F0 m 6 ls []) := by
    intro n
    induction n with
    | zero => intro s1 x4  j6_0 j6_1 hn; exact absurd hn (Nat.not_lt_zero _)
    | succ n ih_6 =>
      intro s1 x4  j6_0 j6_1 hn_6 H locs hP hS ls hl
      have is1 : (nI s1).toInt = (s1 : Int) := nI_toInt (by omega)
      refine lv_iload hx hb dX10_isFitting_6 (lv_at hl 0 rfl) ?_
      refine lv_aload_n hx hb dX10_isFitting_8 rfl (lv_at hl 2 rfl) ?_
      refine m_get (v := .ref (a 3)) hx hb hts hin hown hK hP 3 (by decide) rfl (hts (.fieldLink RX10 13 "ShadowBenchModel" "wide" "[I") (by decide +kernel)) rfl dX10_isFitting_9 ?_
      refine lv_iload_n hx hb dX10_isFitting_12 rfl (lv_at hl 3 rfl) ?_
      refine m_iald (w := (r 3)) hx hb hK hP 2 rfl (vp_in_iff.mpr ⟨by omega, by omega⟩) dX10_isFitting_13 ?_
      refine lv_topi (fun v13 e13 => ?_)
      have i13 : v13.toInt = ((r 3) j.toNatClampNeg).toInt := congrArg Int32.toInt e13
      have w13 := mi_w hI (x := j) (by omega) (by omega) e13
      refine lv_aload_n hx hb dX10_isFitting_14 rfl (lv_at hl 2 rfl) ?_
      refine m_get (v := .ref (a 4)) hx hb hts hin hown hK hP 4 (by decide) rfl (hts (.fieldLink RX10 16 "ShadowBenchModel" "high" "[I") (by decide +kernel)) rfl dX10_isFitting_15 ?_
      refine lv_iload_n hx hb dX10_isFitting_18 rfl (lv_at hl 3 rfl) ?_
      refine m_iald (w := (r 4)) hx hb hK hP 3 rfl (vp_in_iff.mpr ⟨by omega, by omega⟩) dX10_isFitting_19 ?_
      refine lv_topi (fun v19 e19 => ?_)
      have i19 : v19.toInt = ((r 4) j.toNatClampNeg).toInt := congrArg Int32.toInt e19
      have w19 := mi_h hI (x := j) (by omega) (by omega) e19
      have m20 := mul66 w13 w19
      refine lv_imul hx hb dX10_isFitting_20 ?_
      refine lv_topi (fun v20 e20 => ?_)
      have i20 : v20.toInt = v13.toInt * v19.toInt := by rw [e20]; exact fb_mulI (by omega) (by omega)
      have y20 : v20.toInt = (((r 3 j.toNatClampNeg).toNatClampNeg * (r 4 j.toNatClampNeg).toNatClampNeg : Nat) : Int) := by rw [sq, i20, e13, e19]
      refine lv_icmp_ge (tgt := 73) hx hb dX10_isFitting_21 (by decide) (fun c21 => ?_) (fun c21 => ?_)
      · skip
        have d21 := c21
        rw [fa_le] at d21
        refine lv_iconst (v := 0) hx hb dX10_isFitting_73 (by decide) ?_
        refine lv_istore (lv' := [(5, .int (0 : Int32)), (4, .int x4), (0, .ref mo), (1, .int j), (2, .long p0)]) hx hb dX10_isFitting_74 hl (by decide) rfl (fun ls hl => ?_)
        have loop_76 : ∀ (n : Nat) (wy : Nat) (y4 : Int32), (wy ≤ 4) → (Bo y4 (heldR ((r 3 j.toNatClampNeg).toNatClampNeg * (r 4 j.toNatClampNeg).toNatClampNeg) p0 (fun s => r 7 (36 * j.toNatClampNeg + s)) ∧ ∀ y l, y < wy → (fun y => !decide (r 6 (4 * j.toNatClampNeg + y) = 0)) y = true → l < lnC (r 3 j.toNatClampNeg).toNatClampNeg (r 4 j.toNatClampNeg).toNatClampNeg y → nI (shN (r 3 j.toNatClampNeg).toNatClampNeg (r 4 j.toNatClampNeg).toNatClampNeg p0 y l) = r 5 (44 * j.toNatClampNeg + 11 * y + l))) → 4 - wy < n → ∀ (H : Heap) (locs : List Loc), va_P D vwCl (WM cy mo a f g r q) H → va_S (AM mo a) s.heap H locs → ∀ (ls : Array Slot), lv_has ls 7 [(5, .int (nI wy)), (4, .int y4), (0, .ref mo), (1, .int j), (2, .long p0)] → W p l e (headSpec wsX10_isFitting ({ frames := 3, cells := 0, slots := 0, locals := 79 })).room s m #[Value.ref mo, Value.int j, Value.long p0] below meth c H locs 0 0 (MQ below (va_Qi (fun r0 u => ∃ (mt : Nat → Int32), u = (f, g, (va_up r 9 mt), q) ∧ (Bo r0 (fitR j.toNatClampNeg r p0))) (mB D cy mo a) (AM mo a)) #[Value.ref mo, Value.int j, Value.long p0] s 0 0 (AM mo a)) (F0 m 76 ls []) := by
          intro n
          induction n with
          | zero => intro wy y4  j76_0 j76_1 hn; exact absurd hn (Nat.not_lt_zero _)
          | succ n ih_76 =>
            intro wy y4  j76_0 j76_1 hn_76 H locs hP hS ls hl
            have iwy : (nI wy).toInt = (wy : Int) := nI_toInt (by omega)
            refine lv_iload hx hb dX10_isFitting_76 (lv_at hl 0 rfl) ?_
            refine lv_iconst (v := 4) hx hb dX10_isFitting_78 (by decide) ?_
            refine lv_icmp_ge (tgt := 186) hx hb dX10_isFitting_79 (by decide) (fun c79 => ?_) (fun c79 => ?_)
            · skip
              have d79 := c79
              rw [fa_le] at d79
              refine lv_iload hx hb dX10_isFitting_186 (lv_at hl 1 rfl) ?_
              refine lv_if_eq (tgt := 204) hx hb dX10_isFitting_188 (by decide) (fun c188 => ?_) (fun c188 => ?_)
              · skip
                have d188 := c188
                rw [fa_eq] at d188
                refine lv_iconst (v := 0) hx hb dX10_isFitting_204 (by decide) ?_
                exact W.zret (v := (0 : Int32)) hx hb hr (by decide) (fun t ht hW => ⟨⟨_, (f, g, (va_up r 9 (r 9)), q), rfl, ⟨(r 9), rfl, Or.inr ⟨rfl, (fun z9 => by first | exact b197 z9.2.2 | exact (bo_no j76_1 c188) ⟨z9.1, fun y9 l9 h9 => z9.2.1 y9 l9 (by omega)⟩)⟩⟩, by unfold mB; rw [ht]; exact hP⟩, hS.F ht⟩) hS.2.2 dX10_isFitting_205
              · skip
                have d188 := c188
                rw [fa_eq] at d188
                refine lv_aload_n hx hb dX10_isFitting_191 rfl (lv_at hl 2 rfl) ?_
                refine lv_iload_n hx hb dX10_isFitting_192 rfl (lv_at hl 3 rfl) ?_
                refine lv_lload_n hx hb dX10_isFitting_193 rfl (lv_at hl 4 rfl) ?_
                refine m_calli (As := [.int j, .long p0]) (rest := []) ⟨hx, hb, hml, hown, hts⟩ (c_X10_isKind_x l D cy mo a f g r q j p0 hD hI hj) (cwV 2 hts gX10_isFitting_X10_isKind rfl rfl rfl (by decide +kernel) ⟨Nat.le_of_ble_eq_true rfl, Nat.le_of_ble_eq_true rfl⟩) hK hP rfl hl.1 rfl (Nat.le_of_ble_eq_true rfl) dX10_isFitting_194 ⟨Nat.le_of_ble_eq_true rfl, Nat.le_of_ble_eq_true rfl⟩ hS (fun r194 u H locs q194 hP hS => ?_)
                obtain ⟨mt_194, rfl, q194⟩ := q194
                have hP : va_P D vwCl (WM cy mo a f g (va_up r 9 mt_194) q) H := hP
                have q194 : Bo r194 (kindR ((r 2) j.toNatClampNeg) ((r 3) j.toNatClampNeg).toNatClampNeg ((r 4) j.toNatClampNeg).toNatClampNeg p0) := q194
                refine lv_if_eq (tgt := 204) hx hb dX10_isFitting_197 (by decide) (fun c197 => ?_) (fun c197 => ?_)
                · skip
                  have b197 := bo_f q194 c197
                  refine lv_iconst (v := 0) hx hb dX10_isFitting_204 (by decide) ?_
                  exact W.zret (v := (0 : Int32)) hx hb hr (by decide) (fun t ht hW => ⟨⟨_, (f, g, (va_up r 9 mt_194), q), rfl, ⟨mt_194, rfl, Or.inr ⟨rfl, (fun z9 => by first | exact b197 z9.2.2 | exact (bo_no j76_1 c188) ⟨z9.1, fun y9 l9 h9 => z9.2.1 y9 l9 (by omega)⟩)⟩⟩, by unfold mB; rw [ht]; exact hP⟩, hS.F ht⟩) hS.2.2 dX10_isFitting_205
                · skip
                  have b197 := bo_t q194 c197
                  refine lv_iconst (v := 1) hx hb dX10_isFitting_200 (by decide) ?_
                  refine lv_goto (tgt := 205) hx hb dX10_isFitting_201 (by decide) ?_
                  exact W.zret (v := (1 : Int32)) hx hb hr (by decide) (fun t ht hW => ⟨⟨_, (f, g, (va_up r 9 mt_194), q), rfl, ⟨mt_194, rfl, Or.inl ⟨rfl, (by have z9 := bo_get j76_1 c188; exact ⟨z9.1, fun y9 l9 h9 => z9.2 y9 l9 (by omega), b197⟩)⟩⟩, by unfold mB; rw [ht]; exact hP⟩, hS.F ht⟩) hS.2.2 dX10_isFitting_205
            · skip
              have d79 := c79
              rw [fa_le] at d79
              refine lv_iconst (v := 0) hx hb dX10_isFitting_82 (by decide) ?_
              refine lv_istore (lv' := [(6, .int (0 : Int32)), (5, .int (nI wy)), (4, .int y4), (0, .ref mo), (1, .int j), (2, .long p0)]) hx hb dX10_isFitting_83 hl (by decide) rfl (fun ls hl => ?_)
              have loop_85 : ∀ (n : Nat) (l1 : Nat) (z4 : Int32), (l1 ≤ 11 ∧ l1 ≤ lnC (r 3 j.toNatClampNeg).toNatClampNeg (r 4 j.toNatClampNeg).toNatClampNeg wy) → (Bo z4 (heldR ((r 3 j.toNatClampNeg).toNatClampNeg * (r 4 j.toNatClampNeg).toNatClampNeg) p0 (fun s => r 7 (36 * j.toNatClampNeg + s)) ∧ (∀ y l, y < wy → (fun y => !decide (r 6 (4 * j.toNatClampNeg + y) = 0)) y = true → l < lnC (r 3 j.toNatClampNeg).toNatClampNeg (r 4 j.toNatClampNeg).toNatClampNeg y → nI (shN (r 3 j.toNatClampNeg).toNatClampNeg (r 4 j.toNatClampNeg).toNatClampNeg p0 y l) = r 5 (44 * j.toNatClampNeg + 11 * y + l)) ∧ ∀ l, l < l1 → ((fun y => !decide (r 6 (4 * j.toNatClampNeg + y) = 0)) wy) = true → nI (shN (r 3 j.toNatClampNeg).toNatClampNeg (r 4 j.toNatClampNeg).toNatClampNeg p0 wy l) = r 5 (44 * j.toNatClampNeg + 11 * wy + l))) → 11 - l1 < n → ∀ (H : Heap) (locs : List Loc), va_P D vwCl (WM cy mo a f g r q) H → va_S (AM mo a) s.heap H locs → ∀ (ls : Array Slot), lv_has ls 7 [(6, .int (nI l1)), (5, .int (nI wy)), (4, .int z4), (0, .ref mo), (1, .int j), (2, .long p0)] → W p l e (headSpec wsX10_isFitting ({ frames := 3, cells := 0, slots := 0, locals := 79 })).room s m #[Value.ref mo, Value.int j, Value.long p0] below meth c H locs 0 0 (MQ below (va_Qi (fun r0 u => ∃ (mt : Nat → Int32), u = (f, g, (va_up r 9 mt), q) ∧ (Bo r0 (fitR j.toNatClampNeg r p0))) (mB D cy mo a) (AM mo a)) #[Value.ref mo, Value.int j, Value.long p0] s 0 0 (AM mo a)) (F0 m 85 ls []) := by
                intro n
                induction n with
                | zero => intro l1 z4  j85_0 j85_1 hn; exact absurd hn (Nat.not_lt_zero _)
                | succ n ih_85 =>
                  intro l1 z4  j85_0 j85_1 hn_85 H locs hP hS ls hl
                  have il1 : (nI l1).toInt = (l1 : Int) := nI_toInt (by omega)
                  refine lv_iload hx hb dX10_isFitting_85 (lv_at hl 0 rfl) ?_
                  refine lv_aload_n hx hb dX10_isFitting_87 rfl (lv_at hl 3 rfl) ?_
                  refine m_get (v := .ref (a 3)) hx hb hts hin hown hK hP 3 (by decide) rfl (hts (.fieldLink RX10 13 "ShadowBenchModel" "wide" "[I") (by decide +kernel)) rfl dX10_isFitting_88 ?_
                  refine lv_iload_n hx hb dX10_isFitting_91 rfl (lv_at hl 4 rfl) ?_
                  refine m_iald (w := (r 3)) hx hb hK hP 2 rfl (vp_in_iff.mpr ⟨by omega, by omega⟩) dX10_isFitting_92 ?_
                  refine lv_topi (fun v92 e92 => ?_)
                  have i92 : v92.toInt = ((r 3) j.toNatClampNeg).toInt := congrArg Int32.toInt e92
                  have w92 := mi_w hI (x := j) (by omega) (by omega) e92
                  refine lv_aload_n hx hb dX10_isFitting_93 rfl (lv_at hl 3 rfl) ?_
                  refine m_get (v := .ref (a 4)) hx hb hts hin hown hK hP 4 (by decide) rfl (hts (.fieldLink RX10 16 "ShadowBenchModel" "high" "[I") (by decide +kernel)) rfl dX10_isFitting_94 ?_
                  refine lv_iload_n hx hb dX10_isFitting_97 rfl (lv_at hl 4 rfl) ?_
                  refine m_iald (w := (r 4)) hx hb hK hP 3 rfl (vp_in_iff.mpr ⟨by omega, by omega⟩) dX10_isFitting_98 ?_
                  refine lv_topi (fun v98 e98 => ?_)
                  have i98 : v98.toInt = ((r 4) j.toNatClampNeg).toInt := congrArg Int32.toInt e98
                  have w98 := mi_h hI (x := j) (by omega) (by omega) e98
                  refine lv_iload hx hb dX10_isFitting_99 (lv_at hl 1 rfl) ?_
                  refine m_pu (As := [.int v92, .int v98, .int (nI wy)]) (rest := [.int (nI l1)]) ⟨hx, hb, hml, hown, hts⟩ (c_X10_linesOf l v92 v98 (nI wy) ) (va_cwS 3 hts gX10_isFitting_X10_linesOf rfl rfl rfl (by decide +kernel) ⟨Nat.le_of_ble_eq_true rfl, Nat.le_of_ble_eq_true rfl⟩) hP rfl hl.1 rfl (Nat.le_of_ble_eq_true rfl) dX10_isFitting_101 ⟨Nat.le_of_ble_eq_true rfl, Nat.le_of_ble_eq_true rfl⟩ hS (fun r101 H locs q101 hP hS => ?_)
                  have i101 : r101.toInt = (r_lines v92 v98 (nI wy)).toInt := congrArg Int32.toInt q101
                  have hlb := lines_lt w92 w98 (nI wy)
                  have i101 := congrArg Int32.toInt q101
                  rw [e92, e98, rLn szw szh (way := nI wy) (by omega), nI_clamp (n := wy) (by omega)] at i101
                  have lc9 := lnC_b hb9 wy
                  refine lv_icmp_ge (tgt := 180) hx hb dX10_isFitting_104 (by decide) (fun c104 => ?_) (fun c104 => ?_)
                  · skip
                    have d104 := c104
                    rw [fa_le] at d104
                    refine lv_iinc (v := (nI (wy + 1))) (lv' := [(5, .int (nI (wy + 1))), (6, .int (nI l1)), (4, .int z4), (0, .ref mo), (1, .int j), (2, .long p0)]) hx hb dX10_isFitting_180 hl (k := 1) rfl (nI_1 _) (by decide) rfl (fun ls hl => ?_)
                    refine lv_goto (tgt := 76) hx hb dX10_isFitting_183 (by decide) ?_
                    exact ih_76 (wy + 1) z4 (by omega) (by first | exact bo_m j85_1 c123 (fun z => ⟨z.1, fun y l h => z.2 y l (Nat.lt_succ_of_lt h), fun l hl ht => z.2 wy l (Nat.lt_succ_self _) ht (by omega)⟩) | exact bo_iff j85_1 ⟨fun z => ⟨z.1, all_y z.2.1 (fun ht l hl => z.2.2 l (by omega) ht)⟩, fun z => ⟨z.1, fun y l h => z.2 y l (Nat.lt_succ_of_lt h), fun l hl ht => z.2 wy l (Nat.lt_succ_self _) ht (by omega)⟩⟩ | exact bo_iff j85_1 ⟨fun z => ⟨z.1, all_y z.2.1 (fun ht l hl => absurd ht (nt_ f117 c118))⟩, fun z => ⟨z.1, fun y l h => z.2 y l (Nat.lt_succ_of_lt h), fun l hl ht => absurd ht (nt_ f117 c118)⟩⟩) (by omega) _ _ hP hS ls (lv_sub hl [0, 2, 3, 4, 5] rfl)
                  · skip
                    have d104 := c104
                    rw [fa_le] at d104
                    refine lv_aload_n hx hb dX10_isFitting_107 rfl (lv_at hl 3 rfl) ?_
                    refine m_get (v := .ref (a 6)) hx hb hts hin hown hK hP 6 (by decide) rfl (hts (.fieldLink RX10 22 "ShadowBenchModel" "isTold" "[Z") (by decide +kernel)) rfl dX10_isFitting_108 ?_
                    refine lv_iconst (v := 4) hx hb dX10_isFitting_111 (by decide) ?_
                    refine lv_iload_n hx hb dX10_isFitting_112 rfl (lv_at hl 4 rfl) ?_
                    refine lv_imul hx hb dX10_isFitting_113 ?_
                    refine lv_topi (fun v113 e113 => ?_)
                    have i113 : v113.toInt = 4 * j.toInt := by rw [e113]; exact mulcL rfl (by omega) (by omega)
                    refine lv_iload hx hb dX10_isFitting_114 (lv_at hl 1 rfl) ?_
                    refine lv_iadd hx hb dX10_isFitting_116 ?_
                    refine lv_topi (fun v116 e116 => ?_)
                    have i116 : v116.toInt = v113.toInt + (nI wy).toInt := by rw [e116]; exact fb_addI (by omega) (by omega)
                    refine m_zald (w := (r 6)) hx hb hK hP 5 rfl (vp_in_iff.mpr ⟨by omega, by omega⟩) dX10_isFitting_117 ?_
                    refine lv_topi (fun v117 e117 => ?_)
                    have i117 : v117.toInt = ((r 6) v116.toNatClampNeg).toInt := congrArg Int32.toInt e117
                    have cv8 := m_cl (x := v116) (by omega)
                    have f117 : v117 = r 6 (4 * j.toNatClampNeg + wy) := by rw [e117, show v116.toNatClampNeg = 4 * j.toNatClampNeg + wy by omega]
                    refine lv_if_eq (tgt := 180) hx hb dX10_isFitting_118 (by decide) (fun c118 => ?_) (fun c118 => ?_)
                    · skip
                      have d118 := c118
                      rw [fa_eq] at d118
                      refine lv_iinc (v := (nI (wy + 1))) (lv' := [(5, .int (nI (wy + 1))), (6, .int (nI l1)), (4, .int z4), (0, .ref mo), (1, .int j), (2, .long p0)]) hx hb dX10_isFitting_180 hl (k := 1) rfl (nI_1 _) (by decide) rfl (fun ls hl => ?_)
                      refine lv_goto (tgt := 76) hx hb dX10_isFitting_183 (by decide) ?_
                      exact ih_76 (wy + 1) z4 (by omega) (by first | exact bo_m j85_1 c123 (fun z => ⟨z.1, fun y l h => z.2 y l (Nat.lt_succ_of_lt h), fun l hl ht => z.2 wy l (Nat.lt_succ_self _) ht (by omega)⟩) | exact bo_iff j85_1 ⟨fun z => ⟨z.1, all_y z.2.1 (fun ht l hl => z.2.2 l (by omega) ht)⟩, fun z => ⟨z.1, fun y l h => z.2 y l (Nat.lt_succ_of_lt h), fun l hl ht => z.2 wy l (Nat.lt_succ_self _) ht (by omega)⟩⟩ | exact bo_iff j85_1 ⟨fun z => ⟨z.1, all_y z.2.1 (fun ht l hl => absurd ht (nt_ f117 c118))⟩, fun z => ⟨z.1, fun y l h => z.2 y l (Nat.lt_succ_of_lt h), fun l hl ht => absurd ht (nt_ f117 c118)⟩⟩) (by omega) _ _ hP hS ls (lv_sub hl [0, 2, 3, 4, 5] rfl)
                    · skip
                      have d118 := c118
                      rw [fa_eq] at d118
                      refine lv_iload hx hb dX10_isFitting_121 (lv_at hl 2 rfl) ?_
                      refine lv_if_eq (tgt := 180) hx hb dX10_isFitting_123 (by decide) (fun c123 => ?_) (fun c123 => ?_)
                      · skip
                        have d123 := c123
                        rw [fa_eq] at d123
                        refine lv_iinc (v := (nI (wy + 1))) (lv' := [(5, .int (nI (wy + 1))), (6, .int (nI l1)), (4, .int z4), (0, .ref mo), (1, .int j), (2, .long p0)]) hx hb dX10_isFitting_180 hl (k := 1) rfl (nI_1 _) (by decide) rfl (fun ls hl => ?_)
                        refine lv_goto (tgt := 76) hx hb dX10_isFitting_183 (by decide) ?_
                        exact ih_76 (wy + 1) z4 (by omega) (by first | exact bo_m j85_1 c123 (fun z => ⟨z.1, fun y l h => z.2 y l (Nat.lt_succ_of_lt h), fun l hl ht => z.2 wy l (Nat.lt_succ_self _) ht (by omega)⟩) | exact bo_iff j85_1 ⟨fun z => ⟨z.1, all_y z.2.1 (fun ht l hl => z.2.2 l (by omega) ht)⟩, fun z => ⟨z.1, fun y l h => z.2 y l (Nat.lt_succ_of_lt h), fun l hl ht => z.2 wy l (Nat.lt_succ_self _) ht (by omega)⟩⟩ | exact bo_iff j85_1 ⟨fun z => ⟨z.1, all_y z.2.1 (fun ht l hl => absurd ht (nt_ f117 c118))⟩, fun z => ⟨z.1, fun y l h => z.2 y l (Nat.lt_succ_of_lt h), fun l hl ht => absurd ht (nt_ f117 c118)⟩⟩) (by omega) _ _ hP hS ls (lv_sub hl [0, 2, 3, 4, 5] rfl)
                      · skip
                        have d123 := c123
                        rw [fa_eq] at d123
                        refine lv_aload_n hx hb dX10_isFitting_126 rfl (lv_at hl 3 rfl) ?_
                        refine m_get (v := .ref (a 3)) hx hb hts hin hown hK hP 3 (by decide) rfl (hts (.fieldLink RX10 13 "ShadowBenchModel" "wide" "[I") (by decide +kernel)) rfl dX10_isFitting_127 ?_
                        refine lv_iload_n hx hb dX10_isFitting_130 rfl (lv_at hl 4 rfl) ?_
                        refine m_iald (w := (r 3)) hx hb hK hP 2 rfl (vp_in_iff.mpr ⟨by omega, by omega⟩) dX10_isFitting_131 ?_
                        refine lv_topi (fun v131 e131 => ?_)
                        have i131 : v131.toInt = ((r 3) j.toNatClampNeg).toInt := congrArg Int32.toInt e131
                        have w131 := mi_w hI (x := j) (by omega) (by omega) e131
                        refine lv_aload_n hx hb dX10_isFitting_132 rfl (lv_at hl 3 rfl) ?_
                        refine m_get (v := .ref (a 4)) hx hb hts hin hown hK hP 4 (by decide) rfl (hts (.fieldLink RX10 16 "ShadowBenchModel" "high" "[I") (by decide +kernel)) rfl dX10_isFitting_133 ?_
                        refine lv_iload_n hx hb dX10_isFitting_136 rfl (lv_at hl 4 rfl) ?_
                        refine m_iald (w := (r 4)) hx hb hK hP 3 rfl (vp_in_iff.mpr ⟨by omega, by omega⟩) dX10_isFitting_137 ?_
                        refine lv_topi (fun v137 e137 => ?_)
                        have i137 : v137.toInt = ((r 4) j.toNatClampNeg).toInt := congrArg Int32.toInt e137
                        have w137 := mi_h hI (x := j) (by omega) (by omega) e137
                        refine lv_lload_n hx hb dX10_isFitting_138 rfl (lv_at hl 5 rfl) ?_
                        refine lv_iload hx hb dX10_isFitting_139 (lv_at hl 1 rfl) ?_
                        refine lv_iload hx hb dX10_isFitting_141 (lv_at hl 0 rfl) ?_
                        refine m_pu (As := [.int v131, .int v137, .long p0, .int (nI wy), .int (nI l1)]) (rest := []) ⟨hx, hb, hml, hown, hts⟩ (c_X10_shadowOf l v131 v137 p0 (nI wy) (nI l1) w131 w137) (va_cwS 5 hts gX10_isFitting_X10_shadowOf rfl rfl rfl (by decide +kernel) ⟨Nat.le_of_ble_eq_true rfl, Nat.le_of_ble_eq_true rfl⟩) hP rfl hl.1 rfl (Nat.le_of_ble_eq_true rfl) dX10_isFitting_143 ⟨Nat.le_of_ble_eq_true rfl, Nat.le_of_ble_eq_true rfl⟩ hS (fun r143 H locs q143 hP hS => ?_)
                        refine lv_aload_n hx hb dX10_isFitting_146 rfl (lv_at hl 3 rfl) ?_
                        refine m_get (v := .ref (a 5)) hx hb hts hin hown hK hP 5 (by decide) rfl (hts (.fieldLink RX10 19 "ShadowBenchModel" "sums" "[I") (by decide +kernel)) rfl dX10_isFitting_147 ?_
                        refine lv_bipush (v := 44) hx hb dX10_isFitting_150 (by decide) ?_
                        refine lv_iload_n hx hb dX10_isFitting_152 rfl (lv_at hl 4 rfl) ?_
                        refine lv_imul hx hb dX10_isFitting_153 ?_
                        refine lv_topi (fun v153 e153 => ?_)
                        have i153 : v153.toInt = 44 * j.toInt := by rw [e153]; exact mulcL rfl (by omega) (by omega)
                        refine lv_bipush (v := 11) hx hb dX10_isFitting_154 (by decide) ?_
                        refine lv_iload hx hb dX10_isFitting_156 (lv_at hl 1 rfl) ?_
                        refine lv_imul hx hb dX10_isFitting_158 ?_
                        refine lv_topi (fun v158 e158 => ?_)
                        have i158 : v158.toInt = 11 * (nI wy).toInt := by rw [e158]; exact mulcL rfl (by omega) (by omega)
                        refine lv_iadd hx hb dX10_isFitting_159 ?_
                        refine lv_topi (fun v159 e159 => ?_)
                        have i159 : v159.toInt = v153.toInt + v158.toInt := by rw [e159]; exact fb_addI (by omega) (by omega)
                        refine lv_iload hx hb dX10_isFitting_160 (lv_at hl 0 rfl) ?_
                        refine lv_iadd hx hb dX10_isFitting_162 ?_
                        refine lv_topi (fun v162 e162 => ?_)
                        have i162 : v162.toInt = v159.toInt + (nI l1).toInt := by rw [e162]; exact fb_addI (by omega) (by omega)
                        refine m_iald (w := (r 5)) hx hb hK hP 4 rfl (vp_in_iff.mpr ⟨by omega, by omega⟩) dX10_isFitting_163 ?_
                        refine lv_topi (fun v163 e163 => ?_)
                        have i163 : v163.toInt = ((r 5) v162.toNatClampNeg).toInt := congrArg Int32.toInt e163
                        have cv7 := m_cl (x := v162) (by omega)
                        have f163 : v163 = r 5 (44 * j.toNatClampNeg + 11 * wy + l1) := by rw [e163, show v162.toNatClampNeg = 44 * j.toNatClampNeg + 11 * wy + l1 by omega]
                        subst e131
                        subst e137
                        have s143 := r_shS szw szh (show 0 ≤ (nI wy).toInt ∧ (nI wy).toInt ≤ 3 by omega) (by omega) q143
                        rw [nI_clamp (n := wy) (by omega), nI_clamp (n := l1) (by omega)] at s143
                        refine lv_icmp_ne (tgt := 171) hx hb dX10_isFitting_164 (by decide) (fun c164 => ?_) (fun c164 => ?_)
                        · skip
                          have d164 := c164
                          rw [fa_eq] at d164
                          refine lv_iconst (v := 0) hx hb dX10_isFitting_171 (by decide) ?_
                          refine lv_istore (lv' := [(4, .int (0 : Int32)), (6, .int (nI l1)), (5, .int (nI wy)), (0, .ref mo), (1, .int j), (2, .long p0)]) hx hb dX10_isFitting_172 hl (by decide) rfl (fun ls hl => ?_)
                          refine lv_iinc (v := (nI (l1 + 1))) (lv' := [(6, .int (nI (l1 + 1))), (4, .int (0 : Int32)), (5, .int (nI wy)), (0, .ref mo), (1, .int j), (2, .long p0)]) hx hb dX10_isFitting_174 hl (k := 1) rfl (nI_1 _) (by decide) rfl (fun ls hl => ?_)
                          refine lv_goto (tgt := 85) hx hb dX10_isFitting_177 (by decide) ?_
                          exact ih_85 (l1 + 1) (0 : Int32) (by omega) (by first | exact bo_y j85_1 c123 (fun z => ⟨z.1, z.2.1, all_s z.2.2 (fun _ => s143.symm.trans (c164.trans f163))⟩) | exact bo_n1 (fun z => c164 (s143.trans ((z.2.2 l1 (Nat.lt_succ_self _) (yt_ f117 c118)).trans f163.symm)))) (by omega) _ _ hP hS ls (lv_sub hl [0, 2, 1, 3, 4, 5] rfl)
                        · skip
                          have d164 := c164
                          rw [fa_eq] at d164
                          refine lv_iconst (v := 1) hx hb dX10_isFitting_167 (by decide) ?_
                          refine lv_goto (tgt := 172) hx hb dX10_isFitting_168 (by decide) ?_
                          refine lv_istore (lv' := [(4, .int (1 : Int32)), (6, .int (nI l1)), (5, .int (nI wy)), (0, .ref mo), (1, .int j), (2, .long p0)]) hx hb dX10_isFitting_172 hl (by decide) rfl (fun ls hl => ?_)
                          refine lv_iinc (v := (nI (l1 + 1))) (lv' := [(6, .int (nI (l1 + 1))), (4, .int (1 : Int32)), (5, .int (nI wy)), (0, .ref mo), (1, .int j), (2, .long p0)]) hx hb dX10_isFitting_174 hl (k := 1) rfl (nI_1 _) (by decide) rfl (fun ls hl => ?_)
                          refine lv_goto (tgt := 85) hx hb dX10_isFitting_177 (by decide) ?_
                          exact ih_85 (l1 + 1) (1 : Int32) (by omega) (by first | exact bo_y j85_1 c123 (fun z => ⟨z.1, z.2.1, all_s z.2.2 (fun _ => s143.symm.trans (c164.trans f163))⟩) | exact bo_n1 (fun z => c164 (s143.trans ((z.2.2 l1 (Nat.lt_succ_self _) (yt_ f117 c118)).trans f163.symm)))) (by omega) _ _ hP hS ls (lv_sub hl [0, 2, 1, 3, 4, 5] rfl)
              exact loop_85 (11 + 1) 0 y4 (by omega) (bo_iff j76_1 ⟨fun z => ⟨z.1, z.2, fun l h => absurd h (Nat.not_lt_zero _)⟩, fun z => ⟨z.1, z.2.1⟩⟩) (by omega) _ _ hP hS ls (lv_sub hl [0, 1, 2, 3, 4, 5] rfl)
        exact loop_76 (4 + 1) 0 x4 (by omega) (bo_iff j6_1 ⟨fun z => ⟨fun s hs => z s (by omega), fun y l h => absurd h (Nat.not_lt_zero _)⟩, fun z s hs => z.1 s (by omega)⟩) (by omega) _ _ hP hS ls (lv_sub hl [0, 1, 2, 3, 4] rfl)
      · skip
        have d21 := c21
        rw [fa_le] at d21
        refine lv_aload_n hx hb dX10_isFitting_24 rfl (lv_at hl 2 rfl) ?_
        refine m_get (v := .ref (a 7)) hx hb hts hin hown hK hP 7 (by decide) rfl (hts (.fieldLink RX10 26 "ShadowBenchModel" "held" "[I") (by decide +kernel)) rfl dX10_isFitting_25 ?_
        refine lv_bipush (v := 36) hx hb dX10_isFitting_28 (by decide) ?_
        refine lv_iload_n hx hb dX10_isFitting_30 rfl (lv_at hl 3 rfl) ?_
        refine lv_imul hx hb dX10_isFitting_31 ?_
        refine lv_topi (fun v31 e31 => ?_)
        have i31 : v31.toInt = 36 * j.toInt := by rw [e31]; exact mulcL rfl (by omega) (by omega)
        refine lv_iload hx hb dX10_isFitting_32 (lv_at hl 0 rfl) ?_
        refine lv_iadd hx hb dX10_isFitting_34 ?_
        refine lv_topi (fun v34 e34 => ?_)
        have i34 : v34.toInt = v31.toInt + (nI s1).toInt := by rw [e34]; exact fb_addI (by omega) (by omega)
        refine m_iald (w := (r 7)) hx hb hK hP 6 rfl (vp_in_iff.mpr ⟨by omega, by omega⟩) dX10_isFitting_35 ?_
        refine lv_topi (fun v35 e35 => ?_)
        have i35 : v35.toInt = ((r 7) v34.toNatClampNeg).toInt := congrArg Int32.toInt e35
        have cv9 := m_cl (x := v34) (by omega)
        have f35 : v35 = r 7 (36 * j.toNatClampNeg + s1) := by rw [e35, show v34.toNatClampNeg = 36 * j.toNatClampNeg + s1 by omega]
        refine lv_istore (lv' := [(6, .int v35), (5, .int (nI s1)), (4, .int x4), (0, .ref mo), (1, .int j), (2, .long p0)]) hx hb dX10_isFitting_36 hl (by decide) rfl (fun ls hl => ?_)
        refine lv_iload hx hb dX10_isFitting_38 (lv_at hl 2 rfl) ?_
        refine lv_if_eq (tgt := 64) hx hb dX10_isFitting_40 (by decide) (fun c40 => ?_) (fun c40 => ?_)
        · skip
          have d40 := c40
          rw [fa_eq] at d40
          refine lv_iconst (v := 0) hx hb dX10_isFitting_64 (by decide) ?_
          refine lv_istore (lv' := [(4, .int (0 : Int32)), (6, .int v35), (5, .int (nI s1)), (0, .ref mo), (1, .int j), (2, .long p0)]) hx hb dX10_isFitting_65 hl (by decide) rfl (fun ls hl => ?_)
          refine lv_iinc (v := (nI (s1 + 1))) (lv' := [(5, .int (nI (s1 + 1))), (4, .int (0 : Int32)), (6, .int v35), (0, .ref mo), (1, .int j), (2, .long p0)]) hx hb dX10_isFitting_67 hl (k := 2) rfl (nI_1 _) (by decide) rfl (fun ls hl => ?_)
          refine lv_goto (tgt := 6) hx hb dX10_isFitting_70 (by decide) ?_
          exact ih_6 (s1 + 1) (0 : Int32) (by omega) (by first | exact bo_n0 j6_1 c40 (fun z s hs => z s (Nat.lt_succ_of_lt hs)) | exact bo_y j6_1 c40 (fun z => all_s z (Or.inl (f35.symm.trans c46))) | exact bo_y j6_1 c40 (fun z => all_s z (Or.inr (f35.symm.trans (c57.trans f54)))) | exact bo_n1 (fun z => (z s1 (Nat.lt_succ_self _)).elim (fun y => c46 (f35.trans y)) (fun y => c57 (f35.trans (y.trans f54.symm))))) (by omega) _ _ hP hS ls (lv_sub hl [0, 1, 3, 4, 5] rfl)
        · skip
          have d40 := c40
          rw [fa_eq] at d40
          refine lv_iload hx hb dX10_isFitting_43 (lv_at hl 0 rfl) ?_
          refine lv_iconst (v := 2) hx hb dX10_isFitting_45 (by decide) ?_
          refine lv_icmp_eq (tgt := 60) hx hb dX10_isFitting_46 (by decide) (fun c46 => ?_) (fun c46 => ?_)
          · skip
            have d46 := c46
            rw [fa_eq] at d46
            refine lv_iconst (v := 1) hx hb dX10_isFitting_60 (by decide) ?_
            refine lv_goto (tgt := 65) hx hb dX10_isFitting_61 (by decide) ?_
            refine lv_istore (lv' := [(4, .int (1 : Int32)), (6, .int v35), (5, .int (nI s1)), (0, .ref mo), (1, .int j), (2, .long p0)]) hx hb dX10_isFitting_65 hl (by decide) rfl (fun ls hl => ?_)
            refine lv_iinc (v := (nI (s1 + 1))) (lv' := [(5, .int (nI (s1 + 1))), (4, .int (1 : Int32)), (6, .int v35), (0, .ref mo), (1, .int j), (2, .long p0)]) hx hb dX10_isFitting_67 hl (k := 2) rfl (nI_1 _) (by decide) rfl (fun ls hl => ?_)
            refine lv_goto (tgt := 6) hx hb dX10_isFitting_70 (by decide) ?_
            exact ih_6 (s1 + 1) (1 : Int32) (by omega) (by first | exact bo_n0 j6_1 c40 (fun z s hs => z s (Nat.lt_succ_of_lt hs)) | exact bo_y j6_1 c40 (fun z => all_s z (Or.inl (f35.symm.trans c46))) | exact bo_y j6_1 c40 (fun z => all_s z (Or.inr (f35.symm.trans (c57.trans f54)))) | exact bo_n1 (fun z => (z s1 (Nat.lt_succ_self _)).elim (fun y => c46 (f35.trans y)) (fun y => c57 (f35.trans (y.trans f54.symm))))) (by omega) _ _ hP hS ls (lv_sub hl [0, 1, 3, 4, 5] rfl)
          · skip
            have d46 := c46
            rw [fa_eq] at d46
            refine lv_iload hx hb dX10_isFitting_49 (lv_at hl 0 rfl) ?_
            refine lv_lload_n hx hb dX10_isFitting_51 rfl (lv_at hl 5 rfl) ?_
            refine lv_iload hx hb dX10_isFitting_52 (lv_at hl 1 rfl) ?_
            refine m_pu (As := [.long p0, .int (nI s1)]) (rest := [.int v35]) ⟨hx, hb, hml, hown, hts⟩ (c_X10_one l p0 (nI s1) ) (va_cwS 2 hts gX10_isFitting_X10_one rfl rfl rfl (by decide +kernel) ⟨Nat.le_of_ble_eq_true rfl, Nat.le_of_ble_eq_true rfl⟩) hP rfl hl.1 rfl (Nat.le_of_ble_eq_true rfl) dX10_isFitting_54 ⟨Nat.le_of_ble_eq_true rfl, Nat.le_of_ble_eq_true rfl⟩ hS (fun r54 H locs q54 hP hS => ?_)
            have i54 : r54.toInt = (r_one p0 (nI s1)).toInt := congrArg Int32.toInt q54
            have f54 : r54 = if lb p0 s1 then 1 else 0 := by rw [q54]; exact one_lb p0 (by omega)
            refine lv_icmp_ne (tgt := 64) hx hb dX10_isFitting_57 (by decide) (fun c57 => ?_) (fun c57 => ?_)
            · skip
              have d57 := c57
              rw [fa_eq] at d57
              refine lv_iconst (v := 0) hx hb dX10_isFitting_64 (by decide) ?_
              refine lv_istore (lv' := [(4, .int (0 : Int32)), (6, .int v35), (5, .int (nI s1)), (0, .ref mo), (1, .int j), (2, .long p0)]) hx hb dX10_isFitting_65 hl (by decide) rfl (fun ls hl => ?_)
              refine lv_iinc (v := (nI (s1 + 1))) (lv' := [(5, .int (nI (s1 + 1))), (4, .int (0 : Int32)), (6, .int v35), (0, .ref mo), (1, .int j), (2, .long p0)]) hx hb dX10_isFitting_67 hl (k := 2) rfl (nI_1 _) (by decide) rfl (fun ls hl => ?_)
              refine lv_goto (tgt := 6) hx hb dX10_isFitting_70 (by decide) ?_
              exact ih_6 (s1 + 1) (0 : Int32) (by omega) (by first | exact bo_n0 j6_1 c40 (fun z s hs => z s (Nat.lt_succ_of_lt hs)) | exact bo_y j6_1 c40 (fun z => all_s z (Or.inl (f35.symm.trans c46))) | exact bo_y j6_1 c40 (fun z => all_s z (Or.inr (f35.symm.trans (c57.trans f54)))) | exact bo_n1 (fun z => (z s1 (Nat.lt_succ_self _)).elim (fun y => c46 (f35.trans y)) (fun y => c57 (f35.trans (y.trans f54.symm))))) (by omega) _ _ hP hS ls (lv_sub hl [0, 1, 3, 4, 5] rfl)
            · skip
              have d57 := c57
              rw [fa_eq] at d57
              refine lv_iconst (v := 1) hx hb dX10_isFitting_60 (by decide) ?_
              refine lv_goto (tgt := 65) hx hb dX10_isFitting_61 (by decide) ?_
              refine lv_istore (lv' := [(4, .int (1 : Int32)), (6, .int v35), (5, .int (nI s1)), (0, .ref mo), (1, .int j), (2, .long p0)]) hx hb dX10_isFitting_65 hl (by decide) rfl (fun ls hl => ?_)
              refine lv_iinc (v := (nI (s1 + 1))) (lv' := [(5, .int (nI (s1 + 1))), (4, .int (1 : Int32)), (6, .int v35), (0, .ref mo), (1, .int j), (2, .long p0)]) hx hb dX10_isFitting_67 hl (k := 2) rfl (nI_1 _) (by decide) rfl (fun ls hl => ?_)
              refine lv_goto (tgt := 6) hx hb dX10_isFitting_70 (by decide) ?_
              exact ih_6 (s1 + 1) (1 : Int32) (by omega) (by first | exact bo_n0 j6_1 c40 (fun z s hs => z s (Nat.lt_succ_of_lt hs)) | exact bo_y j6_1 c40 (fun z => all_s z (Or.inl (f35.symm.trans c46))) | exact bo_y j6_1 c40 (fun z => all_s z (Or.inr (f35.symm.trans (c57.trans f54)))) | exact bo_n1 (fun z => (z s1 (Nat.lt_succ_self _)).elim (fun y => c46 (f35.trans y)) (fun y => c57 (f35.trans (y.trans f54.symm))))) (by omega) _ _ hP hS ls (lv_sub hl [0, 1, 3, 4, 5] rfl)
  exact loop_6 (36 + 1) 0 (1 : Int32) (by omega) (Or.inl ⟨rfl, fun s h => absurd h (Nat.not_lt_zero _)⟩) (by omega) _ _ hP hS ls (lv_sub hl [0, 1, 2, 3, 4] rfl)
set_option maxHeartbeats 4000000 in
set_option maxRecDepth 100000 in
theorem c_X10_fits_y (l : Launch) (D : va_G) (cy : Nat → ClassId) (mo : Nat) (a : Nat → Nat) (f : Nat → Int32) (g : Nat → Int64) (r : Nat → Nat → Int32) (q : Nat → Nat → Int64) (j : Int32) (p0 : Int64) (hD : DM cy mo a) (hI : MI f r) : Mi l D cy mo a yX10_fits wsX10_fits ({ frames := 4, cells := 0, slots := 0, locals := 105 }) f g r q [.int j, .long p0] (fun r0 u => ∃ (mt : Nat → Int32), u = ((upd f 0 (0 : Int32)), g, (va_up r 9 mt), q) ∧ (((okJob (f 1) j ∧ isPic ((r 3 j.toNatClampNeg).toNatClampNeg * (r 4 j.toNatClampNeg).toNatClampNeg) p0) ∧ Bo r0 (fitR j.toNatClampNeg r p0)) ∨ (¬ (okJob (f 1) j ∧ isPic ((r 3 j.toNatClampNeg).toNatClampNeg * (r 4 j.toNatClampNeg).toNatClampNeg) p0) ∧ r0 = -1))) := by
  refine Met.ofW (cc := cX10_fits) (maxL := 4) (ret := (some .int)) (by decide) rfl ?_
  intro p e s m args below meth c s₁ B hml hv
  obtain ⟨rfl, hP, hK⟩ := hv
  have hx := B.exec
  have hb := B.bytes
  have hr := B.returns
  have hts := atoms_spec (ws := wsX10_fits) B.pre
  have hin : ∀ w ∈ u_ws RX10 TX10 35, w ∈ wsX10_fits := by decide +kernel
  have hown : s.vm.findClass RX10 = some m.cls := findClass_of_methodNamed B.named
  have hlocks := B.notSynchronized
  have hS : va_S (AM mo a) s.heap s.heap [] := va_S.rf
  have hl := lv_entry ([.ref mo, .int j, .long p0]) (n := 4) (Nat.le_of_ble_eq_true rfl)
  rw [lg_entry_eq]
  generalize (lg_sl ([.ref mo, .int j, .long p0]) ++ List.replicate (4 - (lg_sl ([.ref mo, .int j, .long p0])).length) Slot.unset).toArray = ls at hl ⊢
  have hl : lv_has ls 4 [(0, .ref mo), (1, .int j), (2, .long p0)] := hl
  have k_m1 : (-1 : Int32).toInt = -1 := by decide
  have k_0 : (0 : Int32).toInt = 0 := by decide
  have k_1 : (1 : Int32).toInt = 1 := by decide
  have hI1 := hI.1
  refine lv_aload_n hx hb dX10_fits_0 rfl (lv_at hl 0 rfl) ?_
  refine lv_iconst (v := 0) hx hb dX10_fits_1 (by decide) ?_
  refine m_put (v := .int (0 : Int32)) (ty := .int) hx hb hts hin hown hK hP hD hS 0 (by decide) rfl (hts (.fieldLink RX10 79 "ShadowBenchModel" "thrown" "I") (by decide +kernel)) rfl (by decide +kernel) rfl rfl (upd f 0 (0 : Int32)) g rfl dX10_fits_2 (fun H locs hP hS => ?_)
  refine lv_aload_n hx hb dX10_fits_5 rfl (lv_at hl 0 rfl) ?_
  refine lv_iload_n hx hb dX10_fits_6 rfl (lv_at hl 1 rfl) ?_
  refine m_calli (As := [.int j]) (rest := []) ⟨hx, hb, hml, hown, hts⟩ (c_X10_isJob l D cy mo a (upd f 0 (0 : Int32)) g r q j hD) (cwV 1 hts gX10_fits_X10_isJob rfl rfl rfl (by decide +kernel) ⟨Nat.le_of_ble_eq_true rfl, Nat.le_of_ble_eq_true rfl⟩) hK hP rfl hl.1 rfl (Nat.le_of_ble_eq_true rfl) dX10_fits_7 ⟨Nat.le_of_ble_eq_true rfl, Nat.le_of_ble_eq_true rfl⟩ hS (fun r7 u H locs q7 hP hS => ?_)
  obtain ⟨rfl, q7⟩ := q7
  have hP : va_P D vwCl (WM cy mo a (upd f 0 (0 : Int32)) g r q) H := hP
  have q7 : Bo r7 (0 ≤ j.toInt ∧ j.toInt < ((f 1)).toInt) := q7
  refine lv_if_eq (tgt := 32) hx hb dX10_fits_10 (by decide) (fun c10 => ?_) (fun c10 => ?_)
  · skip
    have b10 := bo_f q7 c10
    refine lv_iconst (v := (-1)) hx hb dX10_fits_32 (by decide) ?_
    refine lv_goto (tgt := 50) hx hb dX10_fits_33 (by decide) ?_
    exact W.iret (v := ((-1) : Int32)) hx hb hr (fun t ht hW => ⟨⟨_, ((upd f 0 (0 : Int32)), g, (va_up r 9 (r 9)), q), rfl, ⟨(r 9), rfl, (Or.inr ⟨(fun z9 => by have z8 := z9.1; unfold okJob at z8; first | exact b10 z8 | (have szw := mi_w hI (x := j) z8.1 z8.2 rfl; have szh := mi_h hI (x := j) z8.1 z8.2 rfl; exact goodP_no b29 ⟨⟨szw, szh⟩, z9.2⟩)), rfl⟩)⟩, by unfold mB; rw [ht]; exact hP⟩, hS.F ht⟩) hS.2.2 dX10_fits_50
  · skip
    have b10 := bo_t q7 c10
    refine lv_aload_n hx hb dX10_fits_13 rfl (lv_at hl 0 rfl) ?_
    refine m_get (v := .ref (a 3)) hx hb hts hin hown hK hP 3 (by decide) rfl (hts (.fieldLink RX10 13 "ShadowBenchModel" "wide" "[I") (by decide +kernel)) rfl dX10_fits_14 ?_
    refine lv_iload_n hx hb dX10_fits_17 rfl (lv_at hl 1 rfl) ?_
    refine m_iald (w := (r 3)) hx hb hK hP 2 rfl (vp_in_iff.mpr ⟨by omega, by omega⟩) dX10_fits_18 ?_
    refine lv_topi (fun v18 e18 => ?_)
    have i18 : v18.toInt = ((r 3) j.toNatClampNeg).toInt := congrArg Int32.toInt e18
    have w18 := mi_w hI (x := j) (by omega) (by omega) e18
    refine lv_aload_n hx hb dX10_fits_19 rfl (lv_at hl 0 rfl) ?_
    refine m_get (v := .ref (a 4)) hx hb hts hin hown hK hP 4 (by decide) rfl (hts (.fieldLink RX10 16 "ShadowBenchModel" "high" "[I") (by decide +kernel)) rfl dX10_fits_20 ?_
    refine lv_iload_n hx hb dX10_fits_23 rfl (lv_at hl 1 rfl) ?_
    refine m_iald (w := (r 4)) hx hb hK hP 3 rfl (vp_in_iff.mpr ⟨by omega, by omega⟩) dX10_fits_24 ?_
    refine lv_topi (fun v24 e24 => ?_)
    have i24 : v24.toInt = ((r 4) j.toNatClampNeg).toInt := congrArg Int32.toInt e24
    have w24 := mi_h hI (x := j) (by omega) (by omega) e24
    refine lv_lload_n hx hb dX10_fits_25 rfl (lv_at hl 2 rfl) ?_
    refine m_pu (As := [.int v18, .int v24, .long p0]) (rest := []) ⟨hx, hb, hml, hown, hts⟩ (c_X10_isPicture l v18 v24 p0 ) (va_cwS 3 hts gX10_fits_X10_isPicture rfl rfl rfl (by decide +kernel) ⟨Nat.le_of_ble_eq_true rfl, Nat.le_of_ble_eq_true rfl⟩) hP rfl hl.1 rfl (Nat.le_of_ble_eq_true rfl) dX10_fits_26 ⟨Nat.le_of_ble_eq_true rfl, Nat.le_of_ble_eq_true rfl⟩ hS (fun r26 H locs q26 hP hS => ?_)
    subst e18
    subst e24
    refine lv_if_ne (tgt := 36) hx hb dX10_fits_29 (by decide) (fun c29 => ?_) (fun c29 => ?_)
    · skip
      have b29 := bo_t q26 c29
      refine lv_aload_n hx hb dX10_fits_36 rfl (lv_at hl 0 rfl) ?_
      refine lv_iload_n hx hb dX10_fits_37 rfl (lv_at hl 1 rfl) ?_
      refine lv_lload_n hx hb dX10_fits_38 rfl (lv_at hl 2 rfl) ?_
      refine m_calli (As := [.int j, .long p0]) (rest := []) ⟨hx, hb, hml, hown, hts⟩ (c_X10_isFitting_x l D cy mo a (upd f 0 (0 : Int32)) g r q j p0 hD hI (show 0 ≤ j.toInt ∧ j.toInt < ((f 1)).toInt by omega)) (cwV 2 hts gX10_fits_X10_isFitting rfl rfl rfl (by decide +kernel) ⟨Nat.le_of_ble_eq_true rfl, Nat.le_of_ble_eq_true rfl⟩) hK hP rfl hl.1 rfl (Nat.le_of_ble_eq_true rfl) dX10_fits_39 ⟨Nat.le_of_ble_eq_true rfl, Nat.le_of_ble_eq_true rfl⟩ hS (fun r39 u H locs q39 hP hS => ?_)
      obtain ⟨mt_39, rfl, q39⟩ := q39
      have hP : va_P D vwCl (WM cy mo a (upd f 0 (0 : Int32)) g (va_up r 9 mt_39) q) H := hP
      have q39 : Bo r39 (fitR j.toNatClampNeg r p0) := q39
      refine lv_if_eq (tgt := 49) hx hb dX10_fits_42 (by decide) (fun c42 => ?_) (fun c42 => ?_)
      · skip
        have b42 := bo_f q39 c42
        refine lv_iconst (v := 0) hx hb dX10_fits_49 (by decide) ?_
        exact W.iret (v := (0 : Int32)) hx hb hr (fun t ht hW => ⟨⟨_, ((upd f 0 (0 : Int32)), g, (va_up r 9 mt_39), q), rfl, ⟨mt_39, rfl, (Or.inl ⟨⟨b10, (goodP_of b29).2⟩, Or.inr ⟨rfl, b42⟩⟩)⟩, by unfold mB; rw [ht]; exact hP⟩, hS.F ht⟩) hS.2.2 dX10_fits_50
      · skip
        have b42 := bo_t q39 c42
        refine lv_iconst (v := 1) hx hb dX10_fits_45 (by decide) ?_
        refine lv_goto (tgt := 50) hx hb dX10_fits_46 (by decide) ?_
        exact W.iret (v := (1 : Int32)) hx hb hr (fun t ht hW => ⟨⟨_, ((upd f 0 (0 : Int32)), g, (va_up r 9 mt_39), q), rfl, ⟨mt_39, rfl, (Or.inl ⟨⟨b10, (goodP_of b29).2⟩, Or.inl ⟨rfl, b42⟩⟩)⟩, by unfold mB; rw [ht]; exact hP⟩, hS.F ht⟩) hS.2.2 dX10_fits_50
    · skip
      have b29 := bo_f q26 c29
      refine lv_iconst (v := (-1)) hx hb dX10_fits_32 (by decide) ?_
      refine lv_goto (tgt := 50) hx hb dX10_fits_33 (by decide) ?_
      exact W.iret (v := ((-1) : Int32)) hx hb hr (fun t ht hW => ⟨⟨_, ((upd f 0 (0 : Int32)), g, (va_up r 9 (r 9)), q), rfl, ⟨(r 9), rfl, (Or.inr ⟨(fun z9 => by have z8 := z9.1; unfold okJob at z8; first | exact b10 z8 | (have szw := mi_w hI (x := j) z8.1 z8.2 rfl; have szh := mi_h hI (x := j) z8.1 z8.2 rfl; exact goodP_no b29 ⟨⟨szw, szh⟩, z9.2⟩)), rfl⟩)⟩, by unfold mB; rw [ht]; exact hP⟩, hS.F ht⟩) hS.2.2 dX10_fits_50

theorem fi_eq {cy : Nat → ClassId} {G : cG} {W : va_W} {fa : Nat → Option Nat} {jc : Int32} {J : Nat → JT} {r : Nat → Nat → Int32} {f : Nat → Int32} (h : RJ cy G W fa jc J r) (hI : MI f r) (ej : jc = f 1) {j x y : Int32} {p0 : Int64} (hx : ((okJob jc j ∧ isPic (jW (J j.toNatClampNeg) * jH (J j.toNatClampNeg)) p0) ∧ Bo x (fitC (jK (J j.toNatClampNeg)) (jW (J j.toNatClampNeg)) (jH (J j.toNatClampNeg)) (jL (J j.toNatClampNeg)) (jO (J j.toNatClampNeg)) (jNn (J j.toNatClampNeg)) (jF (J j.toNatClampNeg)) p0)) ∨ (¬ (okJob jc j ∧ isPic (jW (J j.toNatClampNeg) * jH (J j.toNatClampNeg)) p0) ∧ x = -1)) (hy : ((okJob jc j ∧ isPic ((r 3 j.toNatClampNeg).toNatClampNeg * (r 4 j.toNatClampNeg).toNatClampNeg) p0) ∧ Bo y (fitR j.toNatClampNeg r p0)) ∨ (¬ (okJob jc j ∧ isPic ((r 3 j.toNatClampNeg).toNatClampNeg * (r 4 j.toNatClampNeg).toNatClampNeg) p0) ∧ y = -1)) : x = y := by
  rcases hx with ⟨a, b⟩ | ⟨a, b⟩ <;> rcases hy with ⟨c, d⟩ | ⟨c, d⟩
  · have T := h.at a.1
    have m36 := cb_mul T.1.2.2.1
    have hk := (hI.2.1 j a.1.1 (by rw [← ej]; exact a.1.2)).2.2
    have e := fit_eq T.2.2 m36.2 hk a.2
    rcases b with ⟨b1, b2⟩ | ⟨b1, b2⟩ <;> rcases d with ⟨d1, d2⟩ | ⟨d1, d2⟩
    · rw [b1, d1]
    · exact absurd (e.mp b2) d2
    · exact absurd (e.mpr d2) b2
    · rw [b1, d1]
  · have sz := h.sz a.1; rw [sz.1, sz.2] at a; exact absurd a c
  · have sz := h.sz c.1; rw [← sz.1, ← sz.2] at c; exact absurd c a
  · rw [b, d]


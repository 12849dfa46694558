
theorem cX.trF {ch : Nat → Bool} {G G1 : cG} {w w1 w2 : va_W} {P : Nat → Prop} (h : cX none ch G w G1 w1) (hP : ∀ b, P b → ∀ e, ¬ cIn w b e) (hF : cF P w1 w2) : cX none ch G w G1 w2 := ⟨h.1, fun a e hn hi => hF a e (fun z => hP a z e hi) (h.2.1 a e hn hi), h.2.2⟩
theorem w3sh0 {cy : Nat → ClassId} {A : Nat → Prop} {G : cG} {ws : va_W} {x k n b s : Nat} {t : Int32} {o y : Int64} {ms : List Value} (hD : va_D A ws) (hT : cT cy G ws) (hG : G x = some (3, k, n)) (hM : cIn ws x (.inr (k, .ref b :: .ref s :: .int t :: .long o :: .long y :: ms))) : ∃ w h, G b = some (2, w, h) ∧ G s = some (14, 44, 0) ∧ cJk G k n w h ms := by
  obtain ⟨_, hi, b', s', w', h', t', x', y', ms', rfl, h1, h2, h3⟩ := hT _ _ hG
  have z := cIn.eq hD hM hi
  simp only [Sum.inr.injEq, Prod.mk.injEq, List.cons.injEq, Value.int.injEq, Value.ref.injEq, Value.long.injEq, true_and] at z
  obtain ⟨e1, e2, -, -, -, e6⟩ := z
  rw [e1, e2, e6]
  exact ⟨w', h', h1, h2, h3⟩
section CAR38
variable {p : Program} {l : Launch} {e : Env} {R : Room} {s : State} {m : MethodId} {args : Array Value} {below : List Frame} {meth : Method} {c : Code} {H : Heap} {locs : List Loc} {cells slots : Nat} {Q : State → Prop}
variable {cc : ByteArray} {pc : Nat} {ls : Array Slot} {rest : List Value} {D : va_G} {cy : Nat → ClassId} {A : Nat → Prop} {ws : va_W} {G : cG} {H0 : Heap}
theorem t_newiK (hx : p.tables.exec = Jvm.exec) (hb : c.code = cc) (harr : (Cond.arrayClass .int).before args s = true) (hK : va_K D vwCl (cTy cy) s) (hP : va_P D vwCl ws H) (hD : va_D A ws) (hS : va_S A H0 H locs) (hA : ∀ q, H0.size ≤ q → A q) (hT : cT cy G ws) {kd9 : Nat} (hk9 : kd9 = 0 ∨ kd9 = 14 ∨ kd9 = 20 ∨ kd9 = 21 ∨ kd9 = 22 ∨ kd9 = 23) (B : Nat) {n : Int32} {N : Nat} (hn : ¬ n < 0) (hN : n.toNatClampNeg = N) (hB : N ≤ B) (hB2 : B ≤ 100000) (hcells : cells + 1 ≤ R.cells) (hslots : slots + B ≤ R.slots) (hdg : decode cc pc = .ok (.newarray .int, 2))
    (kk : ∀ (q : Nat) (H1 : Heap) (ws1 : va_W) (G1 : cG), G1 q = some (kd9, N, 0) → cIn ws1 q (.inl (cy 0, N, .inl (fun _ => 0))) → G q = none → (∀ e, ¬ cIn ws q e) → (∀ q0 ch, cX q0 ch G ws G1 ws1) → (∀ a e, cIn ws a e → cIn ws1 a e) → (∀ a, a ≠ q → G1 a = G a) → va_P D vwCl ws1 H1 → va_D A ws1 → cT cy G1 ws1 → va_S A H0 H1 locs → W p l e R s m args below meth c H1 locs (cells + 1) (slots + B) Q (F0 m (pc + 2) ls (.ref q :: rest))) : W p l e R s m args below meth c H locs cells slots Q (F0 m pc ls (.int n :: rest)) := by
  refine va_newa (atype := .int) (ty := .int) (a0 := (N, .inl (fun _ => 0))) hx hb harr rfl hK hP hD hS hA (fun cA => by rw [vp_cell_i] <;> rfl) hn hN (by have : componentBytes .int = 4 := rfl; rw [this]; omega) hcells (by omega) hdg (fun q cA H1 hK1 hP1 hD1 hS1 => ?_)
  have e1 : cA = cy 0 := cy_int (i := 0) (j := 6) hK hK1 rfl rfl (Or.inl rfl)
  subst e1
  have hg : G q = none := cG.none hT hD1
  have hni : ∀ e, ¬ cIn ws q e := c_fresh hD1
  refine W.widen (k := cells + 1) (n := slots + B) (Nat.le_refl _) (by omega) (kk q H1 _ (va_up G q (some (kd9, N, 0))) (by simp [va_up]) cIn.new hg hni (fun q0 ch => ⟨cE.add hg, fun a e _ hi => hi.add, fun a t ht => ?_⟩) (fun a e hi => hi.add) (fun a ha => by simp [va_up, ha]) hP1 hD1 (hT.add hg (cIo hk9)) hS1)
  by_cases ha : a = q
  · subst ha; exact Or.inr (Or.inr hni)
  · exact Or.inl (by simpa [va_up, ha] using ht)
end CAR38
set_option maxHeartbeats 4000000 in
set_option maxRecDepth 100000 in
theorem c_X3_init_w (l : Launch) (D : va_G) (cy : Nat → ClassId) (A : Nat → Prop) (G : cG) (ws : va_W) (o : Nat) (b : Nat) {kc : Nat} {ms : List Value} {w h : Nat} (hD : va_D A ws) (hT : cT cy G ws) (hO_o : G o = none) (hM_o : cIn ws o (.inr (kc, .null :: .null :: .int 0 :: .long 0 :: .long 0 :: ms))) (hG_b : G b = some (2, w, h)) (hKc_o : cKc kc) : Cv l D cy A yX3_init wsX3_init ({ frames := 2, cells := 1, slots := 44, locals := 40 }) 1 44 ws [.ref o, .ref b] (fun u => cX (some o) (chs []) G ws u.1 u.2 ∧ u.1 o = none ∧ ∃ a, u.1 a = some (14, 44, 0) ∧ (∀ e, ¬ cIn ws a e) ∧ cIn u.2 a (.inl (cy 0, 44, .inl (fun _ => 0))) ∧ cIn u.2 o (.inr (kc, .ref b :: .ref a :: .int 3 :: .long 0 :: .long 0 :: ms))) := by
  refine Met.ofW (cc := cX3_init) (maxL := 2) (ret := none) (by decide) rfl ?_
  intro p e s m args below meth c s₁ B hml hv
  obtain ⟨rfl, hP, hK, hA, hV⟩ := hv
  have hx := B.exec
  have hb := B.bytes
  have hr := B.returns
  have hts := atoms_spec (ws := wsX3_init) B.pre
  have hown : s.vm.findClass RX3 = some m.cls := findClass_of_methodNamed B.named
  have hlocks := B.notSynchronized
  have hS : va_S A s.heap s.heap [] := va_S.rf
  have hinJ : ∀ w ∈ wsX10 ++ wsX30 ++ wsX40 ++ wsX50, w ∈ wsX3_init := by decide +kernel
  have hin2 : meth.name = "<init>" := (name_of_methodNamed B.named B.method).1
  have hX : cX (some o) (chs []) G ws G ws := cX.rf
  have hM0_o := hM_o
  have hl := lv_entry ([.ref o, .ref b]) (n := 2) (Nat.le_of_ble_eq_true rfl)
  rw [lg_entry_eq]
  generalize (lg_sl ([.ref o, .ref b]) ++ List.replicate (2 - (lg_sl ([.ref o, .ref b])).length) Slot.unset).toArray = ls at hl ⊢
  have hl : lv_has ls 2 [(0, .ref o), (1, .ref b)] := hl
  have k_0 : (0 : Int32).toInt = 0 := by decide
  have k_3 : (3 : Int32).toInt = 3 := by decide
  have k_44 : (44 : Int32).toInt = 44 := by decide
  have k_0L : (0 : Int64).toInt = 0 := by decide
  refine lv_aload_n hx hb dX3_init_0 rfl (lv_at hl 0 rfl) ?_
  refine t_callv (va_runIN (g := F0 m 1 ls ([.ref o])) (As := []) (rest := []) (b := o) ⟨hx, hb, hml, hown, hts⟩ (c_X2_init l D cy A G ws o hD hT ) ⟨va_cnB 0 hts gX3_init_X2_init_n3 rfl rfl rfl hV.1.2.1 (hts (.initialized RX2) (by decide +kernel)) (by decide +kernel) ⟨Nat.le_of_ble_eq_true rfl, Nat.le_of_ble_eq_true rfl⟩, rfl, hts (.instanceMethod yX2_init) (by decide +kernel)⟩ (c_preS hP hK hA hS hV) rfl rfl hl.1 rfl (lv_room (Nat.le_of_ble_eq_true rfl)) dX3_init_1 ⟨Nat.le_of_ble_eq_true rfl, Nat.le_of_ble_eq_true rfl⟩) hS (fun u H locs q1 hP9 hD9 hT9 hS => ?_)
  obtain ⟨rfl, q1⟩ := q1
  have hP : va_P D vwCl ws H := hP9
  refine lv_aload_n hx hb dX3_init_4 rfl (lv_at hl 0 rfl) ?_
  refine lv_bipush (v := 44) hx hb dX3_init_5 (by decide) ?_
  refine t_newiK hx hb (hts (.arrayClass .int) (by decide +kernel)) hK hP hD hS hA hT (kd9 := 14) (Or.inr (Or.inl rfl)) 44 (N := 44) (by decide) rfl (by omega) (by decide) (Nat.le_of_ble_eq_true rfl) (Nat.le_of_ble_eq_true rfl) dX3_init_7 (fun q7 H w7 G7 hG_q7 hMn7 hz7 hF7 hX7 hk7 hg7 hP hD hT hS => ?_)
  have hN_q7 := hX.new1 hM_o hz7 hF7
  have hO_o := (hg7 o (fun z => hF7 _ (z ▸ hM_o))).trans hO_o
  have hM_o := hk7 _ _ hM_o
  have hG_b := (hX7 none (chs [])).1 _ _ hG_b
  have hX := hX.tr (hX7 _ _)
  have hM_q7 := hMn7
  refine t_putFJ (v := .ref q7) hx hb hts hinJ hown hK hP hD hS hKc_o hM_o 1 (by decide) (hts (.fieldLink RX3 11 "ShadowBench$Job" "sums" "[I") (by decide +kernel)) (fun _ h9 => h9) rfl hin2 rfl rfl rfl (Nat.le_of_ble_eq_true rfl) dX3_init_9 (fun H locs w9 hU9 hP hD hS => ?_)
  have hM_q7 := hU9.2 _ _ (Ne.symm (cne0 hO_o hG_q7)) hM_q7
  have hT := hT.up0 hU9 hO_o
  have hM_o : cIn w9 o (.inr (kc, .null :: .ref q7 :: .int 0 :: .long 0 :: .long 0 :: ms)) := hU9.1
  have hX := hX.tr (cX.up hU9 (Or.inl rfl))
  refine lv_aload_n hx hb dX3_init_12 rfl (lv_at hl 0 rfl) ?_
  refine lv_iconst (v := 3) hx hb dX3_init_13 (by decide) ?_
  refine t_putJ (v := .int (3 : Int32)) hx hb hts hinJ hown hK hP hD hS hKc_o hM_o 2 (by decide) (hts (.fieldLink RX3 17 "ShadowBench$Job" "toldWays" "I") (by decide +kernel)) (fun _ h9 => h9) rfl rfl rfl (Nat.le_of_ble_eq_true rfl) dX3_init_14 (fun H locs w14 hU14 hP hD hS => ?_)
  have hM_q7 := hU14.2 _ _ (Ne.symm (cne0 hO_o hG_q7)) hM_q7
  have hT := hT.up0 hU14 hO_o
  have hM_o : cIn w14 o (.inr (kc, .null :: .ref q7 :: .int (3 : Int32) :: .long 0 :: .long 0 :: ms)) := hU14.1
  have hX := hX.tr (cX.up hU14 (Or.inl rfl))
  refine lv_aload_n hx hb dX3_init_17 rfl (lv_at hl 0 rfl) ?_
  refine lv_lconst (v := 0) hx hb dX3_init_18 (by decide) ?_
  refine t_putJ (v := .long (0 : Int64)) hx hb hts hinJ hown hK hP hD hS hKc_o hM_o 3 (by decide) (hts (.fieldLink RX3 21 "ShadowBench$Job" "heldOnes" "J") (by decide +kernel)) (fun _ h9 => h9) rfl rfl rfl (Nat.le_of_ble_eq_true rfl) dX3_init_19 (fun H locs w19 hU19 hP hD hS => ?_)
  have hM_q7 := hU19.2 _ _ (Ne.symm (cne0 hO_o hG_q7)) hM_q7
  have hT := hT.up0 hU19 hO_o
  have hM_o : cIn w19 o (.inr (kc, .null :: .ref q7 :: .int (3 : Int32) :: .long (0 : Int64) :: .long 0 :: ms)) := hU19.1
  have hX := hX.tr (cX.up hU19 (Or.inl rfl))
  refine lv_aload_n hx hb dX3_init_22 rfl (lv_at hl 0 rfl) ?_
  refine lv_lconst (v := 0) hx hb dX3_init_23 (by decide) ?_
  refine t_putJ (v := .long (0 : Int64)) hx hb hts hinJ hown hK hP hD hS hKc_o hM_o 4 (by decide) (hts (.fieldLink RX3 25 "ShadowBench$Job" "heldNoughts" "J") (by decide +kernel)) (fun _ h9 => h9) rfl rfl rfl (Nat.le_of_ble_eq_true rfl) dX3_init_24 (fun H locs w24 hU24 hP hD hS => ?_)
  have hM_q7 := hU24.2 _ _ (Ne.symm (cne0 hO_o hG_q7)) hM_q7
  have hT := hT.up0 hU24 hO_o
  have hM_o : cIn w24 o (.inr (kc, .null :: .ref q7 :: .int (3 : Int32) :: .long (0 : Int64) :: .long (0 : Int64) :: ms)) := hU24.1
  have hX := hX.tr (cX.up hU24 (Or.inl rfl))
  refine lv_aload_n hx hb dX3_init_27 rfl (lv_at hl 0 rfl) ?_
  refine lv_aload_n hx hb dX3_init_28 rfl (lv_at hl 1 rfl) ?_
  refine t_putFJ (v := .ref b) hx hb hts hinJ hown hK hP hD hS hKc_o hM_o 0 (by decide) (hts (.fieldLink RX3 28 "ShadowBench$Job" "board" "LShadowBench$Board;") (by decide +kernel)) (fun _ h9 => h9) rfl hin2 rfl rfl rfl (Nat.le_of_ble_eq_true rfl) dX3_init_29 (fun H locs w29 hU29 hP hD hS => ?_)
  have hM_q7 := hU29.2 _ _ (Ne.symm (cne0 hO_o hG_q7)) hM_q7
  have hT := hT.up0 hU29 hO_o
  have hM_o : cIn w29 o (.inr (kc, .ref b :: .ref q7 :: .int (3 : Int32) :: .long (0 : Int64) :: .long (0 : Int64) :: ms)) := hU29.1
  have hX := hX.tr (cX.up hU29 (Or.inl rfl))
  refine W.widen (k := 1) (n := 44) (Nat.le_of_ble_eq_true rfl) (Nat.le_of_ble_eq_true rfl) ?_
  exact W.vret hx hb hr (fun t ht hW => ⟨⟨(G7, w29), rfl, ⟨hX, hO_o, _, hG_q7, hN_q7, hM_q7, hM_o⟩, by show va_P D vwCl w29 t.heap; rw [ht]; exact hP, hD, hT⟩, hS.F ht⟩) hS.2.2 dX3_init_32
set_option maxHeartbeats 4000000 in
set_option maxRecDepth 100000 in
theorem c_X4_init_w (l : Launch) (D : va_G) (cy : Nat → ClassId) (A : Nat → Prop) (G : cG) (ws : va_W) (o : Nat) (b : Nat) {kc : Nat} {ms : List Value} {w h : Nat} (hD : va_D A ws) (hT : cT cy G ws) (hO_o : G o = none) (hM_o : cIn ws o (.inr (kc, .null :: .null :: .int 0 :: .long 0 :: .long 0 :: ms))) (hG_b : G b = some (2, w, h)) (hKc_o : cKc kc) : Cv l D cy A yX4_init wsX4_init ({ frames := 3, cells := 1, slots := 44, locals := 61 }) 1 44 ws [.ref o, .ref b] (fun u => cX (some o) (chs []) G ws u.1 u.2 ∧ u.1 o = none ∧ ∃ a, u.1 a = some (14, 44, 0) ∧ (∀ e, ¬ cIn ws a e) ∧ cIn u.2 a (.inl (cy 0, 44, .inl (fun _ => 0))) ∧ cIn u.2 o (.inr (kc, .ref b :: .ref a :: .int 3 :: .long 0 :: .long 0 :: ms))) := by
  refine Met.ofW (cc := cX4_init) (maxL := 2) (ret := none) (by decide) rfl ?_
  intro p e s m args below meth c s₁ B hml hv
  obtain ⟨rfl, hP, hK, hA, hV⟩ := hv
  have hx := B.exec
  have hb := B.bytes
  have hr := B.returns
  have hts := atoms_spec (ws := wsX4_init) B.pre
  have hown : s.vm.findClass RX4 = some m.cls := findClass_of_methodNamed B.named
  have hlocks := B.notSynchronized
  have hS : va_S A s.heap s.heap [] := va_S.rf
  have hin2 : meth.name = "<init>" := (name_of_methodNamed B.named B.method).1
  have hX : cX (some o) (chs []) G ws G ws := cX.rf
  have hM0_o := hM_o
  have hl := lv_entry ([.ref o, .ref b]) (n := 2) (Nat.le_of_ble_eq_true rfl)
  rw [lg_entry_eq]
  generalize (lg_sl ([.ref o, .ref b]) ++ List.replicate (2 - (lg_sl ([.ref o, .ref b])).length) Slot.unset).toArray = ls at hl ⊢
  have hl : lv_has ls 2 [(0, .ref o), (1, .ref b)] := hl
  have k_0 : (0 : Int32).toInt = 0 := by decide
  refine lv_aload_n hx hb dX4_init_0 rfl (lv_at hl 0 rfl) ?_
  refine lv_aload_n hx hb dX4_init_1 rfl (lv_at hl 1 rfl) ?_
  refine t_callv (va_runI (g := F0 m 2 ls ([.ref b, .ref o])) (As := [.ref b]) (rest := []) (b := o) ⟨hx, hb, hml, hown, hts⟩ (c_X3_init_w l D cy A G ws o b hD hT hO_o hM_o hG_b hKc_o) (cwI 1 hts gX4_init_X3_init rfl rfl rfl (hts (.initialized RX3) (by decide +kernel)) (hts (.methodLink RX4 1 yX3_init) (by decide +kernel)) (hts (.instanceMethod yX3_init) (by decide +kernel)) rfl (by decide +kernel) ⟨Nat.le_of_ble_eq_true rfl, Nat.le_of_ble_eq_true rfl⟩) (c_preS hP hK hA hS hV) rfl rfl hl.1 rfl (lv_room (Nat.le_of_ble_eq_true rfl)) dX4_init_2 ⟨Nat.le_of_ble_eq_true rfl, Nat.le_of_ble_eq_true rfl⟩) hS (fun u H locs q2 hP9 hD9 hT9 hS => ?_)
  obtain ⟨G2, w2⟩ := u
  obtain ⟨hX9, q2⟩ := q2
  have hX9 : cX (some o) (chs []) G ws G2 w2 := hX9
  obtain ⟨hOx2, a2, hG_a2, hN9_a2, hMx_a2, hMx2⟩ := q2
  have hN_a2 := hN9_a2
  have hP : va_P D vwCl w2 H := hP9
  have hD : va_D A w2 := hD9
  have hT : cT cy G2 w2 := hT9
  have hG_b := hX9.1 _ _ hG_b
  have hO_o := hOx2
  have hM_a2 := hMx_a2
  have hM_o : cIn w2 o (.inr (kc, .ref b :: .ref a2 :: .int 3 :: .long 0 :: .long 0 :: ms)) := hMx2
  have hX := hX.tr hX9
  refine W.widen (k := 1) (n := 44) (Nat.le_of_ble_eq_true rfl) (Nat.le_of_ble_eq_true rfl) ?_
  exact W.vret hx hb hr (fun t ht hW => ⟨⟨(G2, w2), rfl, ⟨hX, hO_o, _, hG_a2, hN_a2, hM_a2, hM_o⟩, by show va_P D vwCl w2 t.heap; rw [ht]; exact hP, hD, hT⟩, hS.F ht⟩) hS.2.2 dX4_init_5
set_option maxHeartbeats 4000000 in
set_option maxRecDepth 100000 in
theorem c_X1_init_w (l : Launch) (D : va_G) (cy : Nat → ClassId) (A : Nat → Prop) (G : cG) (ws : va_W) (o : Nat) (b : Nat) {kc : Nat} {ms : List Value} {w h : Nat} (hD : va_D A ws) (hT : cT cy G ws) (hO_o : G o = none) (hM_o : cIn ws o (.inr (kc, .null :: .null :: .int 0 :: .long 0 :: .long 0 :: ms))) (hG_b : G b = some (2, w, h)) (hKc_o : cKc kc) : Cv l D cy A yX1_init wsX1_init ({ frames := 4, cells := 1, slots := 44, locals := 82 }) 1 44 ws [.ref o, .ref b] (fun u => cX (some o) (chs []) G ws u.1 u.2 ∧ u.1 o = none ∧ ∃ a, u.1 a = some (14, 44, 0) ∧ (∀ e, ¬ cIn ws a e) ∧ cIn u.2 a (.inl (cy 0, 44, .inl (fun _ => 0))) ∧ cIn u.2 o (.inr (kc, .ref b :: .ref a :: .int 3 :: .long 0 :: .long 0 :: ms))) := by
  refine Met.ofW (cc := cX1_init) (maxL := 2) (ret := none) (by decide) rfl ?_
  intro p e s m args below meth c s₁ B hml hv
  obtain ⟨rfl, hP, hK, hA, hV⟩ := hv
  have hx := B.exec
  have hb := B.bytes
  have hr := B.returns
  have hts := atoms_spec (ws := wsX1_init) B.pre
  have hown : s.vm.findClass RX1 = some m.cls := findClass_of_methodNamed B.named
  have hlocks := B.notSynchronized
  have hS : va_S A s.heap s.heap [] := va_S.rf
  have hin2 : meth.name = "<init>" := (name_of_methodNamed B.named B.method).1
  have hX : cX (some o) (chs []) G ws G ws := cX.rf
  have hM0_o := hM_o
  have hl := lv_entry ([.ref o, .ref b]) (n := 2) (Nat.le_of_ble_eq_true rfl)
  rw [lg_entry_eq]
  generalize (lg_sl ([.ref o, .ref b]) ++ List.replicate (2 - (lg_sl ([.ref o, .ref b])).length) Slot.unset).toArray = ls at hl ⊢
  have hl : lv_has ls 2 [(0, .ref o), (1, .ref b)] := hl
  have k_0 : (0 : Int32).toInt = 0 := by decide
  refine lv_aload_n hx hb dX1_init_0 rfl (lv_at hl 0 rfl) ?_
  refine lv_aload_n hx hb dX1_init_1 rfl (lv_at hl 1 rfl) ?_
  refine t_callv (va_runI (g := F0 m 2 ls ([.ref b, .ref o])) (As := [.ref b]) (rest := []) (b := o) ⟨hx, hb, hml, hown, hts⟩ (c_X4_init_w l D cy A G ws o b hD hT hO_o hM_o hG_b hKc_o) (cwI 1 hts gX1_init_X4_init rfl rfl rfl (hts (.initialized RX4) (by decide +kernel)) (hts (.methodLink RX1 1 yX4_init) (by decide +kernel)) (hts (.instanceMethod yX4_init) (by decide +kernel)) rfl (by decide +kernel) ⟨Nat.le_of_ble_eq_true rfl, Nat.le_of_ble_eq_true rfl⟩) (c_preS hP hK hA hS hV) rfl rfl hl.1 rfl (lv_room (Nat.le_of_ble_eq_true rfl)) dX1_init_2 ⟨Nat.le_of_ble_eq_true rfl, Nat.le_of_ble_eq_true rfl⟩) hS (fun u H locs q2 hP9 hD9 hT9 hS => ?_)
  obtain ⟨G2, w2⟩ := u
  obtain ⟨hX9, q2⟩ := q2
  have hX9 : cX (some o) (chs []) G ws G2 w2 := hX9
  obtain ⟨hOx2, a2, hG_a2, hN9_a2, hMx_a2, hMx2⟩ := q2
  have hN_a2 := hN9_a2
  have hP : va_P D vwCl w2 H := hP9
  have hD : va_D A w2 := hD9
  have hT : cT cy G2 w2 := hT9
  have hG_b := hX9.1 _ _ hG_b
  have hO_o := hOx2
  have hM_a2 := hMx_a2
  have hM_o : cIn w2 o (.inr (kc, .ref b :: .ref a2 :: .int 3 :: .long 0 :: .long 0 :: ms)) := hMx2
  have hX := hX.tr hX9
  refine W.widen (k := 1) (n := 44) (Nat.le_of_ble_eq_true rfl) (Nat.le_of_ble_eq_true rfl) ?_
  exact W.vret hx hb hr (fun t ht hW => ⟨⟨(G2, w2), rfl, ⟨hX, hO_o, _, hG_a2, hN_a2, hM_a2, hM_o⟩, by show va_P D vwCl w2 t.heap; rw [ht]; exact hP, hD, hT⟩, hS.F ht⟩) hS.2.2 dX1_init_5
set_option maxHeartbeats 4000000 in
set_option maxRecDepth 100000 in
theorem c_X5_init_w (l : Launch) (D : va_G) (cy : Nat → ClassId) (A : Nat → Prop) (G : cG) (ws : va_W) (o : Nat) (b : Nat) {w h : Nat} (hD : va_D A ws) (hT : cT cy G ws) (hO_o : G o = none) (hM_o : cIn ws o (.inr (4, [.null, .null, .int 0, .long 0, .long 0, .null]))) (hG_b : G b = some (2, w, h))  : Cv l D cy A yX5_init wsX5_init ({ frames := 3, cells := 2, slots := 80, locals := 61 }) 2 80 ws [.ref o, .ref b] (fun u => cX (some o) (chs []) G ws u.1 u.2 ∧ u.1 o = none ∧ ∃ a, u.1 a = some (14, 44, 0) ∧ (∀ e, ¬ cIn ws a e) ∧ cIn u.2 a (.inl (cy 0, 44, .inl (fun _ => 0))) ∧ ∃ c, u.1 c = some (14, w * h, 0) ∧ (∀ e, ¬ cIn ws c e) ∧ c ≠ a ∧ cIn u.2 c (.inl (cy 0, w * h, .inl (fun _ => 0))) ∧ cIn u.2 o (.inr (4, [.ref b, .ref a, .int 3, .long 0, .long 0, .ref c]))) := by
  refine Met.ofW (cc := cX5_init) (maxL := 2) (ret := none) (by decide) rfl ?_
  intro p e s m args below meth c s₁ B hml hv
  obtain ⟨rfl, hP, hK, hA, hV⟩ := hv
  have hx := B.exec
  have hb := B.bytes
  have hr := B.returns
  have hts := atoms_spec (ws := wsX5_init) B.pre
  have hown : s.vm.findClass RX5 = some m.cls := findClass_of_methodNamed B.named
  have hlocks := B.notSynchronized
  have hS : va_S A s.heap s.heap [] := va_S.rf
  have hin2 : meth.name = "<init>" := (name_of_methodNamed B.named B.method).1
  have hX : cX (some o) (chs []) G ws G ws := cX.rf
  have hM0_o := hM_o
  have hl := lv_entry ([.ref o, .ref b]) (n := 2) (Nat.le_of_ble_eq_true rfl)
  rw [lg_entry_eq]
  generalize (lg_sl ([.ref o, .ref b]) ++ List.replicate (2 - (lg_sl ([.ref o, .ref b])).length) Slot.unset).toArray = ls at hl ⊢
  have hl : lv_has ls 2 [(0, .ref o), (1, .ref b)] := hl
  have k_0 : (0 : Int32).toInt = 0 := by decide
  refine lv_aload_n hx hb dX5_init_0 rfl (lv_at hl 0 rfl) ?_
  refine lv_aload_n hx hb dX5_init_1 rfl (lv_at hl 1 rfl) ?_
  refine t_callv (va_runI (g := F0 m 2 ls ([.ref b, .ref o])) (As := [.ref b]) (rest := []) (b := o) ⟨hx, hb, hml, hown, hts⟩ (c_X3_init_w l D cy A G ws o b hD hT hO_o hM_o hG_b (by unfold cKc; omega)) (cwI 1 hts gX5_init_X3_init rfl rfl rfl (hts (.initialized RX3) (by decide +kernel)) (hts (.methodLink RX5 1 yX3_init) (by decide +kernel)) (hts (.instanceMethod yX3_init) (by decide +kernel)) rfl (by decide +kernel) ⟨Nat.le_of_ble_eq_true rfl, Nat.le_of_ble_eq_true rfl⟩) (c_preS hP hK hA hS hV) rfl rfl hl.1 rfl (lv_room (Nat.le_of_ble_eq_true rfl)) dX5_init_2 ⟨Nat.le_of_ble_eq_true rfl, Nat.le_of_ble_eq_true rfl⟩) hS (fun u H locs q2 hP9 hD9 hT9 hS => ?_)
  obtain ⟨G2, w2⟩ := u
  obtain ⟨hX9, q2⟩ := q2
  have hX9 : cX (some o) (chs []) G ws G2 w2 := hX9
  obtain ⟨hOx2, a2, hG_a2, hN9_a2, hMx_a2, hMx2⟩ := q2
  have hN_a2 := hN9_a2
  have hP : va_P D vwCl w2 H := hP9
  have hD : va_D A w2 := hD9
  have hT : cT cy G2 w2 := hT9
  have hG_b := hX9.1 _ _ hG_b
  have hO_o := hOx2
  have hM_a2 := hMx_a2
  have hM_o : cIn w2 o (.inr (4, [.ref b, .ref a2, .int 3, .long 0, .long 0, .null])) := hMx2
  have hX := hX.tr hX9
  refine lv_aload_n hx hb dX5_init_5 rfl (lv_at hl 0 rfl) ?_
  refine lv_aload_n hx hb dX5_init_6 rfl (lv_at hl 1 rfl) ?_
  obtain ⟨_, hM_b, hb_b, l_b, f_b, r_b, rfl, hG_l_b, hG_f_b, hG_r_b⟩ := hT _ _ hG_b
  refine t_get (v := .int (nI (w * h))) (C := RX0) (T := TX0) (N := 8) hx hb hts (by decide +kernel) hown hK hP hM_b rfl 2 (by decide) (hts (.fieldLink RX5 7 "ShadowBench$Board" "squares" "I") (by decide +kernel)) (fun _ h9 => h9) rfl dX5_init_7 ?_
  have m_wh_b := cb_mul hb_b
  have i_wh_b : (nI (w * h)).toInt = _ := nI_toInt (by omega)
  refine t_newiK hx hb (hts (.arrayClass .int) (by decide +kernel)) hK hP hD hS hA hT (kd9 := 14) (Or.inr (Or.inl rfl)) 36 (N := (w * h)) (by rw [fa_lt]; omega) (nI_clamp (by omega)) (by omega) (by decide) (Nat.le_of_ble_eq_true rfl) (Nat.le_of_ble_eq_true rfl) dX5_init_10 (fun q10 H w10 G10 hG_q10 hMn10 hz10 hF10 hX10 hk10 hg10 hP hD hT hS => ?_)
  have hN_q10 := hX.new1 hM_o hz10 hF10
  have hO_o := (hg10 o (fun z => hF10 _ (z ▸ hM_o))).trans hO_o
  have hM_a2 := hk10 _ _ hM_a2
  have hM_o := hk10 _ _ hM_o
  have hM_b := hk10 _ _ hM_b
  have hG_b := (hX10 none (chs [])).1 _ _ hG_b
  have hG_a2 := (hX10 none (chs [])).1 _ _ hG_a2
  have hG_l_b := (hX10 none (chs [])).1 _ _ hG_l_b
  have hG_f_b := (hX10 none (chs [])).1 _ _ hG_f_b
  have hG_r_b := (hX10 none (chs [])).1 _ _ hG_r_b
  have hX := hX.tr (hX10 _ _)
  have hM_q10 := hMn10
  have hM0_a := hMx_a2
  refine t_putF (v := .ref q10) (C := RX5) (T := TX5) (N := 6) (ty0 := tyX5) hx hb hts (by decide +kernel) tyX5_ok nmX5 hown hK hP hD hS hM_o rfl 5 (by decide) (hts (.fieldLink RX5 13 "ShadowBench$MarkedJob" "marks" "[I") (by decide +kernel)) (fun _ h9 => h9) rfl hin2 rfl rfl rfl (Nat.le_of_ble_eq_true rfl) dX5_init_12 (fun H locs w12 hU12 hP hD hS => ?_)
  have hM_a2 := hU12.2 _ _ (Ne.symm (cne0 hO_o hG_a2)) hM_a2
  have hM_b := hU12.2 _ _ (Ne.symm (cne0 hO_o hG_b)) hM_b
  have hM_q10 := hU12.2 _ _ (Ne.symm (cne0 hO_o hG_q10)) hM_q10
  have hT := hT.up0 hU12 hO_o
  have hM_o : cIn w12 o (.inr (4, [.ref b, .ref a2, .int 3, .long 0, .long 0, .ref q10])) := hU12.1
  have hX := hX.tr (cX.up hU12 (Or.inl rfl))
  refine W.widen (k := 2) (n := 80) (Nat.le_of_ble_eq_true rfl) (Nat.le_of_ble_eq_true rfl) ?_
  exact W.vret hx hb hr (fun t ht hW => ⟨⟨(G10, w12), rfl, ⟨hX, hO_o, _, hG_a2, hN_a2, hM_a2, _, hG_q10, hN_q10, (fun z9 => hF10 _ (by rw [z9]; exact hM0_a)), hM_q10, hM_o⟩, by show va_P D vwCl w12 t.heap; rw [ht]; exact hP, hD, hT⟩, hS.F ht⟩) hS.2.2 dX5_init_15
set_option maxHeartbeats 4000000 in
set_option maxRecDepth 100000 in
theorem c_X3_alike_w (l : Launch) (D : va_G) (cy : Nat → ClassId) (A : Nat → Prop) (G : cG) (ws : va_W) (o : Nat) (x1 : Nat) {kq nq k1 n1 b1 s1 : Nat} {t1 : Int32} {o1 y1 : Int64} {ms1 : List Value} (hD : va_D A ws) (hT : cT cy G ws) (hG_o : G o = some (3, kq, nq)) (hG_x1 : G x1 = some (3, k1, n1)) (hM_x1 : cIn ws x1 (.inr (k1, .ref b1 :: .ref s1 :: .int t1 :: .long o1 :: .long y1 :: ms1)))  : Ca l D cy A yX3_alike wsX3_alike ({ frames := 1, cells := 0, slots := 0, locals := 68 }) 0 0 ws [.ref o, .ref x1] (fun r0 u => ∃ w1, u = (G, w1) ∧ cF (fun b9 => b9 = x1 ∨ b9 = s1) ws w1 ∧ (r0 = some x1)) := by
  refine Met.ofW (cc := cX3_alike) (maxL := 2) (ret := (some (.object "ShadowBench$Job"))) (by decide) rfl ?_
  intro p e s m args below meth c s₁ B hml hv
  obtain ⟨rfl, hP, hK, hA, hV⟩ := hv
  have hx := B.exec
  have hb := B.bytes
  have hr := B.returns
  have hts := atoms_spec (ws := wsX3_alike) B.pre
  have hown : s.vm.findClass RX3 = some m.cls := findClass_of_methodNamed B.named
  have hlocks := B.notSynchronized
  have hS : va_S A s.heap s.heap [] := va_S.rf
  have hinJ : ∀ w ∈ wsX10 ++ wsX30 ++ wsX40 ++ wsX50, w ∈ wsX3_alike := by decide +kernel
  have hF : cF (fun b9 => b9 = x1 ∨ b9 = s1) ws ws := cF.rf
  have hl := lv_entry ([.ref o, .ref x1]) (n := 2) (Nat.le_of_ble_eq_true rfl)
  rw [lg_entry_eq]
  generalize (lg_sl ([.ref o, .ref x1]) ++ List.replicate (2 - (lg_sl ([.ref o, .ref x1])).length) Slot.unset).toArray = ls at hl ⊢
  have hl : lv_has ls 2 [(0, .ref o), (1, .ref x1)] := hl
  have k_0 : (0 : Int32).toInt = 0 := by decide
  obtain ⟨w1_, h1_, hG_b1, hG_s1, hJ_x1⟩ := w3sh0 hD hT hG_x1 hM_x1
  refine lv_aload_n hx hb dX3_alike_0 rfl (lv_at hl 0 rfl) ?_
  obtain ⟨_, hM_o, b_o, s_o, w_o, h_o, t_o, x_o, y_o, ms_o, rfl, hG_b_o, hG_s_o, hJ_o⟩ := hT _ _ hG_o
  refine t_getJ (v := .ref s_o) hx hb hts hinJ hown hK hP hJ_o.kc hM_o 1 (by decide) (hts (.fieldLink RX3 11 "ShadowBench$Job" "sums" "[I") (by decide +kernel)) (fun _ h9 => h9) rfl dX3_alike_1 ?_
  refine lv_iconst (v := 0) hx hb dX3_alike_4 (by decide) ?_
  refine lv_aload_n hx hb dX3_alike_5 rfl (lv_at hl 1 rfl) ?_
  refine t_getJ (v := .ref s1) hx hb hts hinJ hown hK hP hJ_x1.kc hM_x1 1 (by decide) (hts (.fieldLink RX3 11 "ShadowBench$Job" "sums" "[I") (by decide +kernel)) (fun _ h9 => h9) rfl dX3_alike_6 ?_
  refine lv_iconst (v := 0) hx hb dX3_alike_9 (by decide) ?_
  refine lv_aload_n hx hb dX3_alike_10 rfl (lv_at hl 0 rfl) ?_
  refine t_getJ (v := .ref s_o) hx hb hts hinJ hown hK hP hJ_o.kc hM_o 1 (by decide) (hts (.fieldLink RX3 11 "ShadowBench$Job" "sums" "[I") (by decide +kernel)) (fun _ h9 => h9) rfl dX3_alike_11 ?_
  refine t_alenI hx hb hK hP hT (Or.inr (Or.inl rfl)) hG_s_o dX3_alike_14 ?_
  have i14 : (nI 44).toInt = _ := nI_toInt (by omega)
  refine t_copyi hx hb (by rw [hml]; exact hl.1.symm) hown (hts (.methodLink RX3 90 arraycopyName) (by decide +kernel)) (hts (.native arraycopyName) (by decide +kernel)) (hts (.static arraycopyName) (by decide +kernel)) (hts (.initialized "java/lang/System") (by decide +kernel)) hK hP hD hS hT (Or.inr (Or.inl rfl)) (Or.inr (Or.inl rfl)) hG_s_o hG_s1 (by omega) (by omega) (by omega) (by omega) (by omega) (Nat.le_of_ble_eq_true rfl) (Nat.le_of_ble_eq_true rfl) dX3_alike_15 (fun H locs w15 hU15 hP hD hT hS => ?_)
  have hM_x1 := hU15 _ _ (cne hG_x1 hG_s1 (show (3 : Nat) ≠ 14 by decide)) hM_x1
  have hM_o := hU15 _ _ (cne hG_o hG_s1 (show (3 : Nat) ≠ 14 by decide)) hM_o
  have hF := hF.tr (hU15.wk (fun b9 z9 => (Or.inr (z9))))
  refine lv_aload_n hx hb dX3_alike_18 rfl (lv_at hl 1 rfl) ?_
  refine lv_aload_n hx hb dX3_alike_19 rfl (lv_at hl 0 rfl) ?_
  refine t_getJ (v := .int t_o) hx hb hts hinJ hown hK hP hJ_o.kc hM_o 2 (by decide) (hts (.fieldLink RX3 17 "ShadowBench$Job" "toldWays" "I") (by decide +kernel)) (fun _ h9 => h9) rfl dX3_alike_20 ?_
  refine t_putJ (v := .int t_o) hx hb hts hinJ hown hK hP hD hS hJ_x1.kc hM_x1 2 (by decide) (hts (.fieldLink RX3 17 "ShadowBench$Job" "toldWays" "I") (by decide +kernel)) (fun _ h9 => h9) rfl rfl rfl (Nat.le_of_ble_eq_true rfl) dX3_alike_23 (fun H locs w23 hU23 hP hD hS => ?_)
  have hT := hT.up hU23 hG_x1 ⟨_, _, _, _, _, _, _, _, rfl, hG_b1, hG_s1, hJ_x1⟩
  have hM_x1 : cIn w23 x1 (.inr (k1, .ref b1 :: .ref s1 :: .int t_o :: .long o1 :: .long y1 :: ms1)) := hU23.1
  have hF := hF.tr (cF.up hU23 (Or.inl rfl))
  refine lv_aload_n hx hb dX3_alike_26 rfl (lv_at hl 1 rfl) ?_
  refine lv_aload_n hx hb dX3_alike_27 rfl (lv_at hl 0 rfl) ?_
  obtain ⟨_, hM_o, bv1_o, sv1_o, wv1_o, hv1_o, tv1_o, xv1_o, yv1_o, msv1_o, rfl, hG_bv1_o, hG_sv1_o, hJ_o⟩ := hT _ _ hG_o
  refine t_getJ (v := .long xv1_o) hx hb hts hinJ hown hK hP hJ_o.kc hM_o 3 (by decide) (hts (.fieldLink RX3 21 "ShadowBench$Job" "heldOnes" "J") (by decide +kernel)) (fun _ h9 => h9) rfl dX3_alike_28 ?_
  refine t_putJ (v := .long xv1_o) hx hb hts hinJ hown hK hP hD hS hJ_x1.kc hM_x1 3 (by decide) (hts (.fieldLink RX3 21 "ShadowBench$Job" "heldOnes" "J") (by decide +kernel)) (fun _ h9 => h9) rfl rfl rfl (Nat.le_of_ble_eq_true rfl) dX3_alike_31 (fun H locs w31 hU31 hP hD hS => ?_)
  have hT := hT.up hU31 hG_x1 ⟨_, _, _, _, _, _, _, _, rfl, hG_b1, hG_s1, hJ_x1⟩
  have hM_x1 : cIn w31 x1 (.inr (k1, .ref b1 :: .ref s1 :: .int t_o :: .long xv1_o :: .long y1 :: ms1)) := hU31.1
  have hF := hF.tr (cF.up hU31 (Or.inl rfl))
  refine lv_aload_n hx hb dX3_alike_34 rfl (lv_at hl 1 rfl) ?_
  refine lv_aload_n hx hb dX3_alike_35 rfl (lv_at hl 0 rfl) ?_
  obtain ⟨_, hM_o, bv2_o, sv2_o, wv2_o, hv2_o, tv2_o, xv2_o, yv2_o, msv2_o, rfl, hG_bv2_o, hG_sv2_o, hJ_o⟩ := hT _ _ hG_o
  refine t_getJ (v := .long yv2_o) hx hb hts hinJ hown hK hP hJ_o.kc hM_o 4 (by decide) (hts (.fieldLink RX3 25 "ShadowBench$Job" "heldNoughts" "J") (by decide +kernel)) (fun _ h9 => h9) rfl dX3_alike_36 ?_
  refine t_putJ (v := .long yv2_o) hx hb hts hinJ hown hK hP hD hS hJ_x1.kc hM_x1 4 (by decide) (hts (.fieldLink RX3 25 "ShadowBench$Job" "heldNoughts" "J") (by decide +kernel)) (fun _ h9 => h9) rfl rfl rfl (Nat.le_of_ble_eq_true rfl) dX3_alike_39 (fun H locs w39 hU39 hP hD hS => ?_)
  have hT := hT.up hU39 hG_x1 ⟨_, _, _, _, _, _, _, _, rfl, hG_b1, hG_s1, hJ_x1⟩
  have hM_x1 : cIn w39 x1 (.inr (k1, .ref b1 :: .ref s1 :: .int t_o :: .long xv1_o :: .long yv2_o :: ms1)) := hU39.1
  have hF := hF.tr (cF.up hU39 (Or.inl rfl))
  refine lv_aload_n hx hb dX3_alike_42 rfl (lv_at hl 1 rfl) ?_
  exact W.aret (v := .ref x1) hx hb hr (Or.inl ⟨_, rfl⟩) (Or.inr ⟨_, rfl⟩) (fun t ht hW => ⟨⟨(some x1), (G, w39), rfl, ⟨w39, rfl, hF, rfl⟩, by show va_P D vwCl w39 t.heap; rw [ht]; exact hP, hD, hT⟩, hS.F ht⟩) hS.2.2 dX3_alike_43
set_option maxHeartbeats 4000000 in
set_option maxRecDepth 100000 in
theorem c_X3_asItIs_w (l : Launch) (D : va_G) (cy : Nat → ClassId) (A : Nat → Prop) (G : cG) (ws : va_W) (o : Nat) {nq : Nat} (hD : va_D A ws) (hT : cT cy G ws) (hG_o : G o = some (3, 2, nq))  : Ca l D cy A yX3_asItIs wsX3_asItIs ({ frames := 3, cells := 2, slots := 49, locals := 89 }) 2 49 ws [.ref o] (fun r0 u => cX none (chs []) G ws u.1 u.2 ∧ (∃ x k n, r0 = some x ∧ u.1 x = some (3, k, n))) := by
  refine Met.ofW (cc := cX3_asItIs) (maxL := 1) (ret := (some (.object "ShadowBench$Job"))) (by decide) rfl ?_
  intro p e s m args below meth c s₁ B hml hv
  obtain ⟨rfl, hP, hK, hA, hV⟩ := hv
  have hx := B.exec
  have hb := B.bytes
  have hr := B.returns
  have hts := atoms_spec (ws := wsX3_asItIs) B.pre
  have hown : s.vm.findClass RX3 = some m.cls := findClass_of_methodNamed B.named
  have hlocks := B.notSynchronized
  have hS : va_S A s.heap s.heap [] := va_S.rf
  have hX : cX none (chs []) G ws G ws := cX.rf
  have hl := lv_entry ([.ref o]) (n := 1) (Nat.le_of_ble_eq_true rfl)
  rw [lg_entry_eq]
  generalize (lg_sl ([.ref o]) ++ List.replicate (1 - (lg_sl ([.ref o])).length) Slot.unset).toArray = ls at hl ⊢
  have hl : lv_has ls 1 [(0, .ref o)] := hl
  have k_0 : (0 : Int32).toInt = 0 := by decide
  refine lv_aload_n hx hb dX3_asItIs_0 rfl (lv_at hl 0 rfl) ?_
  refine t_new (C := RX3) (T := TX3) (N := 5) (ci := 2) (ty0 := tyX3) (fs := [.null, .null, .int 0, .long 0, .long 0]) hx hb hts (by decide +kernel) tyX3_ok hown (hts (.classLink RX3 12 RX3) (by decide +kernel)) (hts (.instantiable RX3 5) (by decide +kernel)) (hts (.initialized RX3) (by decide +kernel)) hK hP hD hS hA hT rfl (by decide +kernel) (Nat.le_of_ble_eq_true rfl) (Nat.le_of_ble_eq_true rfl) dX3_asItIs_1 (fun q1 H w1 hM_q1 hO_q1 hF1 hX1 hk1 hP hD hT hS => ?_)
  have hN_q1 := hX.new0 hO_q1 hF1
  have hX := hX.tr (hX1 _ _)
  refine lv_dup hx hb dX3_asItIs_4 rfl ?_
  refine lv_aload_n hx hb dX3_asItIs_5 rfl (lv_at hl 0 rfl) ?_
  obtain ⟨_, hM_o, b_o, s_o, w_o, h_o, t_o, x_o, y_o, ms_o, rfl, hG_b_o, hG_s_o, hJ_o⟩ := hT _ _ hG_o
  refine t_get (v := .ref b_o) (C := RX3) (T := TX3) (N := 5) hx hb hts (by decide +kernel) hown hK hP hM_o rfl 0 (by decide) (hts (.fieldLink RX3 28 "ShadowBench$Job" "board" "LShadowBench$Board;") (by decide +kernel)) (fun _ h9 => h9) rfl dX3_asItIs_6 ?_
  refine t_callv (va_runI (g := F0 m 9 ls ([.ref b_o, .ref q1, .ref q1, .ref o])) (As := [.ref b_o]) (rest := [.ref q1, .ref o]) (b := q1) ⟨hx, hb, hml, hown, hts⟩ (c_X3_init_w l D cy A G w1 q1 b_o hD hT hO_q1 hM_q1 hG_b_o (by unfold cKc; omega)) (cwI 1 hts gX3_asItIs_X3_init rfl rfl rfl (hts (.initialized RX3) (by decide +kernel)) (hts (.methodLink RX3 83 yX3_init) (by decide +kernel)) (hts (.instanceMethod yX3_init) (by decide +kernel)) rfl (by decide +kernel) ⟨Nat.le_of_ble_eq_true rfl, Nat.le_of_ble_eq_true rfl⟩) (c_preS hP hK hA hS hV) rfl rfl hl.1 rfl (lv_room (Nat.le_of_ble_eq_true rfl)) dX3_asItIs_9 ⟨Nat.le_of_ble_eq_true rfl, Nat.le_of_ble_eq_true rfl⟩) hS (fun u H locs q9 hP9 hD9 hT9 hS => ?_)
  obtain ⟨G9, w9⟩ := u
  obtain ⟨hX9, q9⟩ := q9
  have hX9 : cX (some q1) (chs []) G w1 G9 w9 := hX9
  obtain ⟨hOx9, a9, hG_a9, hN9_a9, hMx_a9, hMx9⟩ := q9
  have hN_a9 := hX.new0 (hT.no hN9_a9) hN9_a9
  have hP : va_P D vwCl w9 H := hP9
  have hD : va_D A w9 := hD9
  have hT : cT cy G9 w9 := hT9
  have hM_o := hX9.2.1 _ _ (cP.no1 (Ne.symm (cne0 hO_q1 hG_o)) hG_o rfl) hM_o
  have hG_o := hX9.1 _ _ hG_o
  have hG_b_o := hX9.1 _ _ hG_b_o
  have hG_s_o := hX9.1 _ _ hG_s_o
  have hO_q1 := hOx9
  have hM_a9 := hMx_a9
  have hM_q1 : cIn w9 q1 (.inr (2, [.ref b_o, .ref a9, .int 3, .long 0, .long 0])) := hMx9
  have hX := hX.trN hN_q1 hX9
  obtain ⟨Gk9, hGk⟩ : ∃ z, z = va_up G9 q1 (some (3, 2, 8 * w_o + h_o)) := ⟨_, rfl⟩
  have hE9 : cE G9 Gk9 := by rw [hGk]; exact cE.add hO_q1
  have hG_q1 : Gk9 q1 = some (3, 2, 8 * w_o + h_o) := by rw [hGk]; simp [va_up]
  have hG_o := hE9 _ _ hG_o
  have hG_b_o := hE9 _ _ hG_b_o
  have hG_s_o := hE9 _ _ hG_s_o
  have hG_a9 := hE9 _ _ hG_a9
  have hT : cT cy Gk9 w9 := by rw [hGk]; exact hT.kind hO_q1 hM_q1 (by rw [← hGk]; exact ⟨_, _, _, _, _, _, _, _, rfl, hG_b_o, hG_a9, ⟨rfl, Or.inr (Or.inl ⟨rfl, rfl⟩)⟩⟩)
  have hX := hX.trN hN_q1 (show cX (some q1) (chs []) G9 w9 Gk9 w9 by rw [hGk]; exact cX.kind hO_q1)
  have hJ_q1 : cJk Gk9 2 (8 * w_o + h_o) w_o h_o [] := ⟨rfl, Or.inr (Or.inl ⟨rfl, rfl⟩)⟩
  refine t_calla (va_runV (g := F0 m 12 ls ([.ref q1, .ref o])) (As := [.ref q1]) (rest := []) ⟨hx, hb, hml, hown, hts⟩ (c_X3_alike_w l D cy A Gk9 w9 o q1 hD hT hG_o hG_q1 hM_q1 ) (cwV 1 hts gX3_asItIs_X3_alike rfl rfl rfl (by decide +kernel) ⟨Nat.le_of_ble_eq_true rfl, Nat.le_of_ble_eq_true rfl⟩) (c_preV hM_o rfl hP hK hA hS hV) rfl rfl hl.1 rfl (lv_room (Nat.le_of_ble_eq_true rfl)) dX3_asItIs_12 ⟨Nat.le_of_ble_eq_true rfl, Nat.le_of_ble_eq_true rfl⟩) hS (fun r12 u H locs q12 hP9 hD9 hT9 hS => ?_)
  obtain ⟨w12, rfl, hF12, q12⟩ := q12
  have hP : va_P D vwCl w12 H := hP9
  have hD : va_D A w12 := hD9
  have hT : cT cy Gk9 w12 := hT9
  have hX := hX.trF (fun b9 z9 => by rcases z9 with rfl | rfl; exact hN_q1; exact hN_a9) hF12
  subst q12
  refine W.widen (k := 2) (n := 49) (Nat.le_of_ble_eq_true rfl) (Nat.le_of_ble_eq_true rfl) ?_
  exact W.aret (v := .ref q1) hx hb hr (Or.inl ⟨_, rfl⟩) (Or.inr ⟨_, rfl⟩) (fun t ht hW => ⟨⟨(some q1), (Gk9, w12), rfl, ⟨hX, ⟨_, _, _, rfl, hG_q1⟩⟩, by show va_P D vwCl w12 t.heap; rw [ht]; exact hP, hD, hT⟩, hS.F ht⟩) hS.2.2 dX3_asItIs_15
set_option maxHeartbeats 4000000 in
set_option maxRecDepth 100000 in
theorem c_X4_asItIs_w (l : Launch) (D : va_G) (cy : Nat → ClassId) (A : Nat → Prop) (G : cG) (ws : va_W) (o : Nat) {nq : Nat} (hD : va_D A ws) (hT : cT cy G ws) (hG_o : G o = some (3, 3, nq))  : Ca l D cy A yX4_asItIs wsX4_asItIs ({ frames := 4, cells := 2, slots := 49, locals := 89 }) 2 49 ws [.ref o] (fun r0 u => cX none (chs []) G ws u.1 u.2 ∧ (∃ x k n, r0 = some x ∧ u.1 x = some (3, k, n))) := by
  refine Met.ofW (cc := cX4_asItIs) (maxL := 1) (ret := (some (.object "ShadowBench$Job"))) (by decide) rfl ?_
  intro p e s m args below meth c s₁ B hml hv
  obtain ⟨rfl, hP, hK, hA, hV⟩ := hv
  have hx := B.exec
  have hb := B.bytes
  have hr := B.returns
  have hts := atoms_spec (ws := wsX4_asItIs) B.pre
  have hown : s.vm.findClass RX4 = some m.cls := findClass_of_methodNamed B.named
  have hlocks := B.notSynchronized
  have hS : va_S A s.heap s.heap [] := va_S.rf
  have hX : cX none (chs []) G ws G ws := cX.rf
  have hl := lv_entry ([.ref o]) (n := 1) (Nat.le_of_ble_eq_true rfl)
  rw [lg_entry_eq]
  generalize (lg_sl ([.ref o]) ++ List.replicate (1 - (lg_sl ([.ref o])).length) Slot.unset).toArray = ls at hl ⊢
  have hl : lv_has ls 1 [(0, .ref o)] := hl
  have k_0 : (0 : Int32).toInt = 0 := by decide
  refine lv_aload_n hx hb dX4_asItIs_0 rfl (lv_at hl 0 rfl) ?_
  refine t_new (C := RX4) (T := TX4) (N := 5) (ci := 3) (ty0 := tyX4) (fs := [.null, .null, .int 0, .long 0, .long 0]) hx hb hts (by decide +kernel) tyX4_ok hown (hts (.classLink RX4 8 RX4) (by decide +kernel)) (hts (.instantiable RX4 5) (by decide +kernel)) (hts (.initialized RX4) (by decide +kernel)) hK hP hD hS hA hT rfl (by decide +kernel) (Nat.le_of_ble_eq_true rfl) (Nat.le_of_ble_eq_true rfl) dX4_asItIs_1 (fun q1 H w1 hM_q1 hO_q1 hF1 hX1 hk1 hP hD hT hS => ?_)
  have hN_q1 := hX.new0 hO_q1 hF1
  have hX := hX.tr (hX1 _ _)
  refine lv_dup hx hb dX4_asItIs_4 rfl ?_
  refine lv_aload_n hx hb dX4_asItIs_5 rfl (lv_at hl 0 rfl) ?_
  obtain ⟨_, hM_o, b_o, s_o, w_o, h_o, t_o, x_o, y_o, ms_o, rfl, hG_b_o, hG_s_o, hJ_o⟩ := hT _ _ hG_o
  refine t_get (v := .ref b_o) (C := RX4) (T := TX4) (N := 5) hx hb hts (by decide +kernel) hown hK hP hM_o rfl 0 (by decide) (hts (.fieldLink RX4 7 "ShadowBench$JoinedJob" "board" "LShadowBench$Board;") (by decide +kernel)) (fun _ h9 => u_same (hts (.sameField "ShadowBench$JoinedJob" "ShadowBench$Job" "board" "LShadowBench$Board;") (by decide +kernel)) _ h9) rfl dX4_asItIs_6 ?_
  refine t_callv (va_runI (g := F0 m 9 ls ([.ref b_o, .ref q1, .ref q1, .ref o])) (As := [.ref b_o]) (rest := [.ref q1, .ref o]) (b := q1) ⟨hx, hb, hml, hown, hts⟩ (c_X4_init_w l D cy A G w1 q1 b_o hD hT hO_q1 hM_q1 hG_b_o (by unfold cKc; omega)) (cwI 1 hts gX4_asItIs_X4_init rfl rfl rfl (hts (.initialized RX4) (by decide +kernel)) (hts (.methodLink RX4 30 yX4_init) (by decide +kernel)) (hts (.instanceMethod yX4_init) (by decide +kernel)) rfl (by decide +kernel) ⟨Nat.le_of_ble_eq_true rfl, Nat.le_of_ble_eq_true rfl⟩) (c_preS hP hK hA hS hV) rfl rfl hl.1 rfl (lv_room (Nat.le_of_ble_eq_true rfl)) dX4_asItIs_9 ⟨Nat.le_of_ble_eq_true rfl, Nat.le_of_ble_eq_true rfl⟩) hS (fun u H locs q9 hP9 hD9 hT9 hS => ?_)
  obtain ⟨G9, w9⟩ := u
  obtain ⟨hX9, q9⟩ := q9
  have hX9 : cX (some q1) (chs []) G w1 G9 w9 := hX9
  obtain ⟨hOx9, a9, hG_a9, hN9_a9, hMx_a9, hMx9⟩ := q9
  have hN_a9 := hX.new0 (hT.no hN9_a9) hN9_a9
  have hP : va_P D vwCl w9 H := hP9
  have hD : va_D A w9 := hD9
  have hT : cT cy G9 w9 := hT9
  have hM_o := hX9.2.1 _ _ (cP.no1 (Ne.symm (cne0 hO_q1 hG_o)) hG_o rfl) hM_o
  have hG_o := hX9.1 _ _ hG_o
  have hG_b_o := hX9.1 _ _ hG_b_o
  have hG_s_o := hX9.1 _ _ hG_s_o
  have hO_q1 := hOx9
  have hM_a9 := hMx_a9
  have hM_q1 : cIn w9 q1 (.inr (3, [.ref b_o, .ref a9, .int 3, .long 0, .long 0])) := hMx9
  have hX := hX.trN hN_q1 hX9
  obtain ⟨Gk9, hGk⟩ : ∃ z, z = va_up G9 q1 (some (3, 3, 8 * w_o + h_o)) := ⟨_, rfl⟩
  have hE9 : cE G9 Gk9 := by rw [hGk]; exact cE.add hO_q1
  have hG_q1 : Gk9 q1 = some (3, 3, 8 * w_o + h_o) := by rw [hGk]; simp [va_up]
  have hG_o := hE9 _ _ hG_o
  have hG_b_o := hE9 _ _ hG_b_o
  have hG_s_o := hE9 _ _ hG_s_o
  have hG_a9 := hE9 _ _ hG_a9
  have hT : cT cy Gk9 w9 := by rw [hGk]; exact hT.kind hO_q1 hM_q1 (by rw [← hGk]; exact ⟨_, _, _, _, _, _, _, _, rfl, hG_b_o, hG_a9, ⟨rfl, Or.inr (Or.inr (Or.inl ⟨rfl, rfl⟩))⟩⟩)
  have hX := hX.trN hN_q1 (show cX (some q1) (chs []) G9 w9 Gk9 w9 by rw [hGk]; exact cX.kind hO_q1)
  have hJ_q1 : cJk Gk9 3 (8 * w_o + h_o) w_o h_o [] := ⟨rfl, Or.inr (Or.inr (Or.inl ⟨rfl, rfl⟩))⟩
  refine t_calla (va_runU (g := F0 m 12 ls ([.ref q1, .ref o])) (As := [.ref q1]) (rest := []) ⟨hx, hb, hml, hown, hts⟩ (c_X3_alike_w l D cy A Gk9 w9 o q1 hD hT hG_o hG_q1 hM_q1 ) (va_cwU 1 hts gX4_asItIs_X3_alike_u31X4 rfl rfl rfl rfl (by decide +kernel) ⟨Nat.le_of_ble_eq_true rfl, Nat.le_of_ble_eq_true rfl⟩) (c_preV hM_o rfl hP hK hA hS hV) rfl rfl hl.1 rfl (lv_room (Nat.le_of_ble_eq_true rfl)) dX4_asItIs_12 ⟨Nat.le_of_ble_eq_true rfl, Nat.le_of_ble_eq_true rfl⟩) hS (fun r12 u H locs q12 hP9 hD9 hT9 hS => ?_)
  obtain ⟨w12, rfl, hF12, q12⟩ := q12
  have hP : va_P D vwCl w12 H := hP9
  have hD : va_D A w12 := hD9
  have hT : cT cy Gk9 w12 := hT9
  have hX := hX.trF (fun b9 z9 => by rcases z9 with rfl | rfl; exact hN_q1; exact hN_a9) hF12
  subst q12
  refine W.widen (k := 2) (n := 49) (Nat.le_of_ble_eq_true rfl) (Nat.le_of_ble_eq_true rfl) ?_
  exact W.aret (v := .ref q1) hx hb hr (Or.inl ⟨_, rfl⟩) (Or.inr ⟨_, rfl⟩) (fun t ht hW => ⟨⟨(some q1), (Gk9, w12), rfl, ⟨hX, ⟨_, _, _, rfl, hG_q1⟩⟩, by show va_P D vwCl w12 t.heap; rw [ht]; exact hP, hD, hT⟩, hS.F ht⟩) hS.2.2 dX4_asItIs_15
set_option maxHeartbeats 4000000 in
set_option maxRecDepth 100000 in
theorem c_X1_asItIs_w (l : Launch) (D : va_G) (cy : Nat → ClassId) (A : Nat → Prop) (G : cG) (ws : va_W) (o : Nat) {nq : Nat} (hD : va_D A ws) (hT : cT cy G ws) (hG_o : G o = some (3, 1, nq))  : Ca l D cy A yX1_asItIs wsX1_asItIs ({ frames := 5, cells := 2, slots := 49, locals := 103 }) 2 49 ws [.ref o] (fun r0 u => cX none (chs []) G ws u.1 u.2 ∧ (∃ x k n, r0 = some x ∧ u.1 x = some (3, k, n))) := by
  refine Met.ofW (cc := cX1_asItIs) (maxL := 1) (ret := (some (.object "ShadowBench$Job"))) (by decide) rfl ?_
  intro p e s m args below meth c s₁ B hml hv
  obtain ⟨rfl, hP, hK, hA, hV⟩ := hv
  have hx := B.exec
  have hb := B.bytes
  have hr := B.returns
  have hts := atoms_spec (ws := wsX1_asItIs) B.pre
  have hown : s.vm.findClass RX1 = some m.cls := findClass_of_methodNamed B.named
  have hlocks := B.notSynchronized
  have hS : va_S A s.heap s.heap [] := va_S.rf
  have hX : cX none (chs []) G ws G ws := cX.rf
  have hl := lv_entry ([.ref o]) (n := 1) (Nat.le_of_ble_eq_true rfl)
  rw [lg_entry_eq]
  generalize (lg_sl ([.ref o]) ++ List.replicate (1 - (lg_sl ([.ref o])).length) Slot.unset).toArray = ls at hl ⊢
  have hl : lv_has ls 1 [(0, .ref o)] := hl
  have k_0 : (0 : Int32).toInt = 0 := by decide
  refine lv_aload_n hx hb dX1_asItIs_0 rfl (lv_at hl 0 rfl) ?_
  refine t_new (C := RX1) (T := TX1) (N := 5) (ci := 1) (ty0 := tyX1) (fs := [.null, .null, .int 0, .long 0, .long 0]) hx hb hts (by decide +kernel) tyX1_ok hown (hts (.classLink RX1 12 RX1) (by decide +kernel)) (hts (.instantiable RX1 5) (by decide +kernel)) (hts (.initialized RX1) (by decide +kernel)) hK hP hD hS hA hT rfl (by decide +kernel) (Nat.le_of_ble_eq_true rfl) (Nat.le_of_ble_eq_true rfl) dX1_asItIs_1 (fun q1 H w1 hM_q1 hO_q1 hF1 hX1 hk1 hP hD hT hS => ?_)
  have hN_q1 := hX.new0 hO_q1 hF1
  have hX := hX.tr (hX1 _ _)
  refine lv_dup hx hb dX1_asItIs_4 rfl ?_
  refine lv_aload_n hx hb dX1_asItIs_5 rfl (lv_at hl 0 rfl) ?_
  obtain ⟨_, hM_o, b_o, s_o, w_o, h_o, t_o, x_o, y_o, ms_o, rfl, hG_b_o, hG_s_o, hJ_o⟩ := hT _ _ hG_o
  refine t_get (v := .ref b_o) (C := RX1) (T := TX1) (N := 5) hx hb hts (by decide +kernel) hown hK hP hM_o rfl 0 (by decide) (hts (.fieldLink RX1 11 "ShadowBench$EvenJob" "board" "LShadowBench$Board;") (by decide +kernel)) (fun _ h9 => u_same (hts (.sameField "ShadowBench$EvenJob" "ShadowBench$Job" "board" "LShadowBench$Board;") (by decide +kernel)) _ h9) rfl dX1_asItIs_6 ?_
  refine t_callv (va_runI (g := F0 m 9 ls ([.ref b_o, .ref q1, .ref q1, .ref o])) (As := [.ref b_o]) (rest := [.ref q1, .ref o]) (b := q1) ⟨hx, hb, hml, hown, hts⟩ (c_X1_init_w l D cy A G w1 q1 b_o hD hT hO_q1 hM_q1 hG_b_o (by unfold cKc; omega)) (cwI 1 hts gX1_asItIs_X1_init rfl rfl rfl (hts (.initialized RX1) (by decide +kernel)) (hts (.methodLink RX1 36 yX1_init) (by decide +kernel)) (hts (.instanceMethod yX1_init) (by decide +kernel)) rfl (by decide +kernel) ⟨Nat.le_of_ble_eq_true rfl, Nat.le_of_ble_eq_true rfl⟩) (c_preS hP hK hA hS hV) rfl rfl hl.1 rfl (lv_room (Nat.le_of_ble_eq_true rfl)) dX1_asItIs_9 ⟨Nat.le_of_ble_eq_true rfl, Nat.le_of_ble_eq_true rfl⟩) hS (fun u H locs q9 hP9 hD9 hT9 hS => ?_)
  obtain ⟨G9, w9⟩ := u
  obtain ⟨hX9, q9⟩ := q9
  have hX9 : cX (some q1) (chs []) G w1 G9 w9 := hX9
  obtain ⟨hOx9, a9, hG_a9, hN9_a9, hMx_a9, hMx9⟩ := q9
  have hN_a9 := hX.new0 (hT.no hN9_a9) hN9_a9
  have hP : va_P D vwCl w9 H := hP9
  have hD : va_D A w9 := hD9
  have hT : cT cy G9 w9 := hT9
  have hM_o := hX9.2.1 _ _ (cP.no1 (Ne.symm (cne0 hO_q1 hG_o)) hG_o rfl) hM_o
  have hG_o := hX9.1 _ _ hG_o
  have hG_b_o := hX9.1 _ _ hG_b_o
  have hG_s_o := hX9.1 _ _ hG_s_o
  have hO_q1 := hOx9
  have hM_a9 := hMx_a9
  have hM_q1 : cIn w9 q1 (.inr (1, [.ref b_o, .ref a9, .int 3, .long 0, .long 0])) := hMx9
  have hX := hX.trN hN_q1 hX9
  obtain ⟨Gk9, hGk⟩ : ∃ z, z = va_up G9 q1 (some (3, 1, 8 * w_o + h_o)) := ⟨_, rfl⟩
  have hE9 : cE G9 Gk9 := by rw [hGk]; exact cE.add hO_q1
  have hG_q1 : Gk9 q1 = some (3, 1, 8 * w_o + h_o) := by rw [hGk]; simp [va_up]
  have hG_o := hE9 _ _ hG_o
  have hG_b_o := hE9 _ _ hG_b_o
  have hG_s_o := hE9 _ _ hG_s_o
  have hG_a9 := hE9 _ _ hG_a9
  have hT : cT cy Gk9 w9 := by rw [hGk]; exact hT.kind hO_q1 hM_q1 (by rw [← hGk]; exact ⟨_, _, _, _, _, _, _, _, rfl, hG_b_o, hG_a9, ⟨rfl, Or.inl ⟨rfl, rfl⟩⟩⟩)
  have hX := hX.trN hN_q1 (show cX (some q1) (chs []) G9 w9 Gk9 w9 by rw [hGk]; exact cX.kind hO_q1)
  have hJ_q1 : cJk Gk9 1 (8 * w_o + h_o) w_o h_o [] := ⟨rfl, Or.inl ⟨rfl, rfl⟩⟩
  refine t_calla (va_runU (g := F0 m 12 ls ([.ref q1, .ref o])) (As := [.ref q1]) (rest := []) ⟨hx, hb, hml, hown, hts⟩ (c_X3_alike_w l D cy A Gk9 w9 o q1 hD hT hG_o hG_q1 hM_q1 ) (va_cwU 1 hts gX1_asItIs_X3_alike_u37X1 rfl rfl rfl rfl (by decide +kernel) ⟨Nat.le_of_ble_eq_true rfl, Nat.le_of_ble_eq_true rfl⟩) (c_preV hM_o rfl hP hK hA hS hV) rfl rfl hl.1 rfl (lv_room (Nat.le_of_ble_eq_true rfl)) dX1_asItIs_12 ⟨Nat.le_of_ble_eq_true rfl, Nat.le_of_ble_eq_true rfl⟩) hS (fun r12 u H locs q12 hP9 hD9 hT9 hS => ?_)
  obtain ⟨w12, rfl, hF12, q12⟩ := q12
  have hP : va_P D vwCl w12 H := hP9
  have hD : va_D A w12 := hD9
  have hT : cT cy Gk9 w12 := hT9
  have hX := hX.trF (fun b9 z9 => by rcases z9 with rfl | rfl; exact hN_q1; exact hN_a9) hF12
  subst q12
  refine W.widen (k := 2) (n := 49) (Nat.le_of_ble_eq_true rfl) (Nat.le_of_ble_eq_true rfl) ?_
  exact W.aret (v := .ref q1) hx hb hr (Or.inl ⟨_, rfl⟩) (Or.inr ⟨_, rfl⟩) (fun t ht hW => ⟨⟨(some q1), (Gk9, w12), rfl, ⟨hX, ⟨_, _, _, rfl, hG_q1⟩⟩, by show va_P D vwCl w12 t.heap; rw [ht]; exact hP, hD, hT⟩, hS.F ht⟩) hS.2.2 dX1_asItIs_15
set_option maxHeartbeats 4000000 in
set_option maxRecDepth 100000 in
theorem c_X5_asItIs_w (l : Launch) (D : va_G) (cy : Nat → ClassId) (A : Nat → Prop) (G : cG) (ws : va_W) (o : Nat) {nq : Nat} (hD : va_D A ws) (hT : cT cy G ws) (hG_o : G o = some (3, 4, nq))  : Ca l D cy A yX5_asItIs wsX5_asItIs ({ frames := 4, cells := 3, slots := 86, locals := 89 }) 3 86 ws [.ref o] (fun r0 u => cX none (chs []) G ws u.1 u.2 ∧ (∃ x k n, r0 = some x ∧ u.1 x = some (3, k, n))) := by
  refine Met.ofW (cc := cX5_asItIs) (maxL := 2) (ret := (some (.object "ShadowBench$Job"))) (by decide) rfl ?_
  intro p e s m args below meth c s₁ B hml hv
  obtain ⟨rfl, hP, hK, hA, hV⟩ := hv
  have hx := B.exec
  have hb := B.bytes
  have hr := B.returns
  have hts := atoms_spec (ws := wsX5_asItIs) B.pre
  have hown : s.vm.findClass RX5 = some m.cls := findClass_of_methodNamed B.named
  have hlocks := B.notSynchronized
  have hS : va_S A s.heap s.heap [] := va_S.rf
  have hX : cX none (chs []) G ws G ws := cX.rf
  have hl := lv_entry ([.ref o]) (n := 2) (Nat.le_of_ble_eq_true rfl)
  rw [lg_entry_eq]
  generalize (lg_sl ([.ref o]) ++ List.replicate (2 - (lg_sl ([.ref o])).length) Slot.unset).toArray = ls at hl ⊢
  have hl : lv_has ls 2 [(0, .ref o)] := hl
  have k_0 : (0 : Int32).toInt = 0 := by decide
  refine t_new (C := RX5) (T := TX5) (N := 6) (ci := 4) (ty0 := tyX5) (fs := [.null, .null, .int 0, .long 0, .long 0, .null]) hx hb hts (by decide +kernel) tyX5_ok hown (hts (.classLink RX5 14 RX5) (by decide +kernel)) (hts (.instantiable RX5 6) (by decide +kernel)) (hts (.initialized RX5) (by decide +kernel)) hK hP hD hS hA hT rfl (by decide +kernel) (Nat.le_of_ble_eq_true rfl) (Nat.le_of_ble_eq_true rfl) dX5_asItIs_0 (fun q0 H w0 hM_q0 hO_q0 hF0 hX0 hk0 hP hD hT hS => ?_)
  have hN_q0 := hX.new0 hO_q0 hF0
  have hX := hX.tr (hX0 _ _)
  refine lv_dup hx hb dX5_asItIs_3 rfl ?_
  refine lv_aload_n hx hb dX5_asItIs_4 rfl (lv_at hl 0 rfl) ?_
  obtain ⟨_, hM_o, b_o, s_o, w_o, h_o, t_o, x_o, y_o, ms_o, rfl, hG_b_o, hG_s_o, hJ_o⟩ := hT _ _ hG_o
  obtain ⟨hn_o, c_o, rfl, hG_c_o⟩ := cJ4 hJ_o
  have hn36_o := cb_mul (c_hb hT hG_b_o)
  refine t_get (v := .ref b_o) (C := RX5) (T := TX5) (N := 6) hx hb hts (by decide +kernel) hown hK hP hM_o rfl 0 (by decide) (hts (.fieldLink RX5 36 "ShadowBench$MarkedJob" "board" "LShadowBench$Board;") (by decide +kernel)) (fun _ h9 => u_same (hts (.sameField "ShadowBench$MarkedJob" "ShadowBench$Job" "board" "LShadowBench$Board;") (by decide +kernel)) _ h9) rfl dX5_asItIs_5 ?_
  refine t_callv (va_runI (g := F0 m 8 ls ([.ref b_o, .ref q0, .ref q0])) (As := [.ref b_o]) (rest := [.ref q0]) (b := q0) ⟨hx, hb, hml, hown, hts⟩ (c_X5_init_w l D cy A G w0 q0 b_o hD hT hO_q0 hM_q0 hG_b_o ) (cwI 1 hts gX5_asItIs_X5_init rfl rfl rfl (hts (.initialized RX5) (by decide +kernel)) (hts (.methodLink RX5 40 yX5_init) (by decide +kernel)) (hts (.instanceMethod yX5_init) (by decide +kernel)) rfl (by decide +kernel) ⟨Nat.le_of_ble_eq_true rfl, Nat.le_of_ble_eq_true rfl⟩) (c_preS hP hK hA hS hV) rfl rfl hl.1 rfl (lv_room (Nat.le_of_ble_eq_true rfl)) dX5_asItIs_8 ⟨Nat.le_of_ble_eq_true rfl, Nat.le_of_ble_eq_true rfl⟩) hS (fun u H locs q8 hP9 hD9 hT9 hS => ?_)
  obtain ⟨G8, w8⟩ := u
  obtain ⟨hX9, q8⟩ := q8
  have hX9 : cX (some q0) (chs []) G w0 G8 w8 := hX9
  obtain ⟨hOx8, a8, hG_a8, hN9_a8, hMx_a8, c8, hG_c8, hN9_c8, hne_c8, hMx_c8, hMx8⟩ := q8
  have hN_a8 := hX.new0 (hT.no hN9_a8) hN9_a8
  have hN_c8 := hX.new0 (hT.no hN9_c8) hN9_c8
  have hP : va_P D vwCl w8 H := hP9
  have hD : va_D A w8 := hD9
  have hT : cT cy G8 w8 := hT9
  have hM_o := hX9.2.1 _ _ (cP.no1 (Ne.symm (cne0 hO_q0 hG_o)) hG_o rfl) hM_o
  have hG_o := hX9.1 _ _ hG_o
  have hG_b_o := hX9.1 _ _ hG_b_o
  have hG_s_o := hX9.1 _ _ hG_s_o
  have hG_c_o := hX9.1 _ _ hG_c_o
  have hO_q0 := hOx8
  have hM_a8 := hMx_a8
  have hM_c8 := hMx_c8
  have hM_q0 : cIn w8 q0 (.inr (4, [.ref b_o, .ref a8, .int 3, .long 0, .long 0, .ref c8])) := hMx8
  have hX := hX.trN hN_q0 hX9
  have hb9 := cb_mul (c_hb hT hG_b_o)
  obtain ⟨Gk8, hGk⟩ : ∃ z, z = va_up G8 q0 (some (3, 4, 8 * w_o + h_o)) := ⟨_, rfl⟩
  have hE9 : cE G8 Gk8 := by rw [hGk]; exact cE.add hO_q0
  have hG_q0 : Gk8 q0 = some (3, 4, 8 * w_o + h_o) := by rw [hGk]; simp [va_up]
  have hG_o := hE9 _ _ hG_o
  have hG_b_o := hE9 _ _ hG_b_o
  have hG_s_o := hE9 _ _ hG_s_o
  have hG_c_o := hE9 _ _ hG_c_o
  have hG_a8 := hE9 _ _ hG_a8
  have hG_c8 := hE9 _ _ hG_c8
  have hT : cT cy Gk8 w8 := by rw [hGk]; exact hT.kind hO_q0 hM_q0 (by rw [← hGk]; exact ⟨_, _, _, _, _, _, _, _, rfl, hG_b_o, hG_a8, ⟨rfl, Or.inr (Or.inr (Or.inr ⟨rfl, _, rfl, hG_c8⟩))⟩⟩)
  have hX := hX.trN hN_q0 (show cX (some q0) (chs []) G8 w8 Gk8 w8 by rw [hGk]; exact cX.kind hO_q0)
  have hJ_q0 : cJk Gk8 4 (8 * w_o + h_o) w_o h_o [.ref c8] := ⟨rfl, Or.inr (Or.inr (Or.inr ⟨rfl, _, rfl, hG_c8⟩))⟩
  refine lv_astore_n (lv' := [(1, .ref q0), (0, .ref o)]) hx hb dX5_asItIs_11 rfl hl (by decide) rfl (fun ls hl => ?_)
  refine lv_aload_n hx hb dX5_asItIs_12 rfl (lv_at hl 1 rfl) ?_
  refine t_get (v := .ref c_o) (C := RX5) (T := TX5) (N := 6) hx hb hts (by decide +kernel) hown hK hP hM_o rfl 5 (by decide) (hts (.fieldLink RX5 13 "ShadowBench$MarkedJob" "marks" "[I") (by decide +kernel)) (fun _ h9 => h9) rfl dX5_asItIs_13 ?_
  refine lv_iconst (v := 0) hx hb dX5_asItIs_16 (by decide) ?_
  refine lv_aload_n hx hb dX5_asItIs_17 rfl (lv_at hl 0 rfl) ?_
  refine t_get (v := .ref c8) (C := RX5) (T := TX5) (N := 6) hx hb hts (by decide +kernel) hown hK hP hM_q0 rfl 5 (by decide) (hts (.fieldLink RX5 13 "ShadowBench$MarkedJob" "marks" "[I") (by decide +kernel)) (fun _ h9 => h9) rfl dX5_asItIs_18 ?_
  refine lv_iconst (v := 0) hx hb dX5_asItIs_21 (by decide) ?_
  refine lv_aload_n hx hb dX5_asItIs_22 rfl (lv_at hl 1 rfl) ?_
  refine t_get (v := .ref c_o) (C := RX5) (T := TX5) (N := 6) hx hb hts (by decide +kernel) hown hK hP hM_o rfl 5 (by decide) (hts (.fieldLink RX5 13 "ShadowBench$MarkedJob" "marks" "[I") (by decide +kernel)) (fun _ h9 => h9) rfl dX5_asItIs_23 ?_
  refine t_alenI hx hb hK hP hT (Or.inr (Or.inl rfl)) hG_c_o dX5_asItIs_26 ?_
  have i26 : (nI (w_o * h_o)).toInt = _ := nI_toInt (by omega)
  have ep8 : True := trivial
  refine t_copyi hx hb (by rw [hml]; exact hl.1.symm) hown (hts (.methodLink RX5 41 arraycopyName) (by decide +kernel)) (hts (.native arraycopyName) (by decide +kernel)) (hts (.static arraycopyName) (by decide +kernel)) (hts (.initialized "java/lang/System") (by decide +kernel)) hK hP hD hS hT (Or.inr (Or.inl rfl)) (Or.inr (Or.inl rfl)) hG_c_o hG_c8 (by omega) (by omega) (by omega) (by omega) (by omega) (Nat.le_of_ble_eq_true rfl) (Nat.le_of_ble_eq_true rfl) dX5_asItIs_27 (fun H locs w27 hU27 hP hD hT hS => ?_)
  have hM_o := hU27 _ _ (cne hG_o hG_c8 (show (3 : Nat) ≠ 14 by decide)) hM_o
  have hM_q0 := hU27 _ _ (cne hG_q0 hG_c8 (show (3 : Nat) ≠ 14 by decide)) hM_q0
  have hX := hX.trN hN_c8 (cX.uF hU27 (Or.inl rfl))
  refine lv_aload_n hx hb dX5_asItIs_30 rfl (lv_at hl 1 rfl) ?_
  refine lv_aload_n hx hb dX5_asItIs_31 rfl (lv_at hl 0 rfl) ?_
  refine t_calla (va_runU (g := F0 m 32 ls ([.ref q0, .ref o])) (As := [.ref q0]) (rest := []) ⟨hx, hb, hml, hown, hts⟩ (c_X3_alike_w l D cy A Gk8 w27 o q0 hD hT hG_o hG_q0 hM_q0 ) (va_cwU 1 hts gX5_asItIs_X3_alike_u47X5 rfl rfl rfl rfl (by decide +kernel) ⟨Nat.le_of_ble_eq_true rfl, Nat.le_of_ble_eq_true rfl⟩) (c_preV hM_o rfl hP hK hA hS hV) rfl rfl hl.1 rfl (lv_room (Nat.le_of_ble_eq_true rfl)) dX5_asItIs_32 ⟨Nat.le_of_ble_eq_true rfl, Nat.le_of_ble_eq_true rfl⟩) hS (fun r32 u H locs q32 hP9 hD9 hT9 hS => ?_)
  obtain ⟨w32, rfl, hF32, q32⟩ := q32
  have hP : va_P D vwCl w32 H := hP9
  have hD : va_D A w32 := hD9
  have hT : cT cy Gk8 w32 := hT9
  have hX := hX.trF (fun b9 z9 => by rcases z9 with rfl | rfl; exact hN_q0; exact hN_a8) hF32
  subst q32
  refine W.widen (k := 3) (n := 86) (Nat.le_of_ble_eq_true rfl) (Nat.le_of_ble_eq_true rfl) ?_
  exact W.aret (v := .ref q0) hx hb hr (Or.inl ⟨_, rfl⟩) (Or.inr ⟨_, rfl⟩) (fun t ht hW => ⟨⟨(some q0), (Gk8, w32), rfl, ⟨hX, ⟨_, _, _, rfl, hG_q0⟩⟩, by show va_P D vwCl w32 t.heap; rw [ht]; exact hP, hD, hT⟩, hS.F ht⟩) hS.2.2 dX5_asItIs_35
set_option maxHeartbeats 4000000 in
set_option maxRecDepth 100000 in
theorem c_X9_thingToKeep_wn (l : Launch) (D : va_G) (cy : Nat → ClassId) (A : Nat → Prop) (G : cG) (ws : va_W) (what : Int32) (p0 : Int64)  (hD : va_D A ws) (hT : cT cy G ws)   : Ca l D cy A yX9_thingToKeep wsX9_thingToKeep ({ frames := 0, cells := 0, slots := 0, locals := 0 }) 0 0 ws [.int what, .null, .long p0] (fun r0 u => cX none (chs [16]) G ws u.1 u.2 ∧ (r0 = none ∨ (∃ x k n, r0 = some x ∧ u.1 x = some (3, k, n)) ∨ ∃ x n, r0 = some x ∧ u.1 x = some (4, n, 0))) := by
  refine Met.ofW (cc := cX9_thingToKeep) (maxL := 4) (ret := (some (.object "ShadowBench$Held"))) (by decide) rfl ?_
  intro p e s m args below meth c s₁ B hml hv
  obtain ⟨rfl, hP, hK, hA, hV⟩ := hv
  have hx := B.exec
  have hb := B.bytes
  have hr := B.returns
  have hts := atoms_spec (ws := wsX9_thingToKeep) B.pre
  have hown : s.vm.findClass RX9 = some m.cls := findClass_of_methodNamed B.named
  have hlocks := B.notSynchronized
  have hS : va_S A s.heap s.heap [] := va_S.rf
  have hX : cX none (chs [16]) G ws G ws := cX.rf
  have hl := lv_entry ([.int what, .null, .long p0]) (n := 4) (Nat.le_of_ble_eq_true rfl)
  rw [lg_entry_eq]
  generalize (lg_sl ([.int what, .null, .long p0]) ++ List.replicate (4 - (lg_sl ([.int what, .null, .long p0])).length) Slot.unset).toArray = ls at hl ⊢
  have hl : lv_has ls 4 [(0, .int what), (1, .null), (2, .long p0)] := hl
  have k_0 : (0 : Int32).toInt = 0 := by decide
  refine lv_aload_nN hx hb dX9_thingToKeep_0 rfl (lv_at hl 1 rfl) ?_
  refine lv_ifnonnullN hx hb dX9_thingToKeep_1 ?_
  refine lv_null hx hb dX9_thingToKeep_4 ?_
  exact W.aret (v := .null) hx hb hr (Or.inl ⟨_, rfl⟩) (Or.inl rfl) (fun t ht hW => ⟨⟨none, (G, ws), rfl, ⟨hX, Or.inl rfl⟩, by show va_P D vwCl ws t.heap; rw [ht]; exact hP, hD, hT⟩, hS.F ht⟩) hS.2.2 dX9_thingToKeep_5
set_option maxHeartbeats 4000000 in
set_option maxRecDepth 100000 in
theorem c_X9_thingToKeep_w (l : Launch) (D : va_G) (cy : Nat → ClassId) (A : Nat → Prop) (G : cG) (ws : va_W) (what : Int32) (x1 : Nat) (p0 : Int64) {k1 n1 : Nat} (hD : va_D A ws) (hT : cT cy G ws) (hG_x1 : G x1 = some (3, k1, n1))  : Ca l D cy A yX9_thingToKeep wsX9_thingToKeep ({ frames := 6, cells := 3, slots := 86, locals := 123 }) 3 86 ws [.int what, .ref x1, .long p0] (fun r0 u => cX none (chs [16]) G ws u.1 u.2 ∧ (r0 = none ∨ (∃ x k n, r0 = some x ∧ u.1 x = some (3, k, n)) ∨ ∃ x n, r0 = some x ∧ u.1 x = some (4, n, 0))) := by
  refine Met.ofW (cc := cX9_thingToKeep) (maxL := 4) (ret := (some (.object "ShadowBench$Held"))) (by decide) rfl ?_
  intro p e s m args below meth c s₁ B hml hv
  obtain ⟨rfl, hP, hK, hA, hV⟩ := hv
  have hx := B.exec
  have hb := B.bytes
  have hr := B.returns
  have hts := atoms_spec (ws := wsX9_thingToKeep) B.pre
  have hown : s.vm.findClass RX9 = some m.cls := findClass_of_methodNamed B.named
  have hlocks := B.notSynchronized
  have hS : va_S A s.heap s.heap [] := va_S.rf
  have hinJ : ∀ w ∈ wsX10 ++ wsX30 ++ wsX40 ++ wsX50, w ∈ wsX9_thingToKeep := by decide +kernel
  have hX : cX none (chs [16]) G ws G ws := cX.rf
  have hl := lv_entry ([.int what, .ref x1, .long p0]) (n := 4) (Nat.le_of_ble_eq_true rfl)
  rw [lg_entry_eq]
  generalize (lg_sl ([.int what, .ref x1, .long p0]) ++ List.replicate (4 - (lg_sl ([.int what, .ref x1, .long p0])).length) Slot.unset).toArray = ls at hl ⊢
  have hl : lv_has ls 4 [(0, .int what), (1, .ref x1), (2, .long p0)] := hl
  have k_0 : (0 : Int32).toInt = 0 := by decide
  have k_1 : (1 : Int32).toInt = 1 := by decide
  have k_3 : (3 : Int32).toInt = 3 := by decide
  have k_4 : (4 : Int32).toInt = 4 := by decide
  refine lv_aload_n hx hb dX9_thingToKeep_0 rfl (lv_at hl 1 rfl) ?_
  refine lv_ifnonnull (tgt := 6) hx hb dX9_thingToKeep_1 (by decide) ?_
  refine lv_iload_n hx hb dX9_thingToKeep_6 rfl (lv_at hl 0 rfl) ?_
  refine lv_iconst (v := 1) hx hb dX9_thingToKeep_7 (by decide) ?_
  refine lv_icmp_ne (tgt := 16) hx hb dX9_thingToKeep_8 (by decide) (fun c8 => ?_) (fun c8 => ?_)
  · skip
    have d8 := c8
    rw [fa_eq] at d8
    refine lv_iload_n hx hb dX9_thingToKeep_16 rfl (lv_at hl 0 rfl) ?_
    refine lv_iconst (v := 3) hx hb dX9_thingToKeep_17 (by decide) ?_
    refine lv_icmp_ne (tgt := 41) hx hb dX9_thingToKeep_18 (by decide) (fun c18 => ?_) (fun c18 => ?_)
    · skip
      have d18 := c18
      rw [fa_eq] at d18
      refine lv_iload_n hx hb dX9_thingToKeep_41 rfl (lv_at hl 0 rfl) ?_
      refine lv_iconst (v := 4) hx hb dX9_thingToKeep_42 (by decide) ?_
      refine lv_icmp_ne (tgt := 53) hx hb dX9_thingToKeep_43 (by decide) (fun c43 => ?_) (fun c43 => ?_)
      · skip
        have d43 := c43
        rw [fa_eq] at d43
        refine lv_null hx hb dX9_thingToKeep_53 ?_
        refine W.widen (k := 3) (n := 86) (Nat.le_of_ble_eq_true rfl) (Nat.le_of_ble_eq_true rfl) ?_
        exact W.aret (v := .null) hx hb hr (Or.inl ⟨_, rfl⟩) (Or.inl rfl) (fun t ht hW => ⟨⟨none, (G, ws), rfl, ⟨hX, Or.inl rfl⟩, by show va_P D vwCl ws t.heap; rw [ht]; exact hP, hD, hT⟩, hS.F ht⟩) hS.2.2 dX9_thingToKeep_54
      · skip
        have d43 := c43
        rw [fa_eq] at d43
        refine lv_aload_n hx hb dX9_thingToKeep_46 rfl (lv_at hl 1 rfl) ?_
        refine t_calla (va_runS (g := F0 m 47 ls ([.ref x1])) (As := [.ref x1]) (rest := []) ⟨hx, hb, hml, hown, hts⟩ (c_X9_sumsOf l D cy A G ws x1 hD hT hG_x1 ) (va_cwS 1 hts gX9_thingToKeep_X9_sumsOf rfl rfl rfl (by decide +kernel) ⟨Nat.le_of_ble_eq_true rfl, Nat.le_of_ble_eq_true rfl⟩) (c_preS hP hK hA hS hV) rfl rfl hl.1 rfl (lv_room (Nat.le_of_ble_eq_true rfl)) dX9_thingToKeep_47 ⟨Nat.le_of_ble_eq_true rfl, Nat.le_of_ble_eq_true rfl⟩) hS (fun r47 u H locs q47 hP9 hD9 hT9 hS => ?_)
        obtain ⟨G47, w47⟩ := u
        obtain ⟨hX9, q47⟩ := q47
        have hX9 : cX none (chs [16]) G ws G47 w47 := hX9
        have hP : va_P D vwCl w47 H := hP9
        have hD : va_D A w47 := hD9
        have hT : cT cy G47 w47 := hT9
        have hG_x1 := hX9.1 _ _ hG_x1
        have hX := hX.tr hX9
        obtain ⟨x47, n47, rfl, hG_x47⟩ := q47
        refine lv_goto (tgt := 54) hx hb dX9_thingToKeep_50 (by decide) ?_
        refine W.widen (k := 3) (n := 86) (Nat.le_of_ble_eq_true rfl) (Nat.le_of_ble_eq_true rfl) ?_
        exact W.aret (v := .ref x47) hx hb hr (Or.inl ⟨_, rfl⟩) (Or.inr ⟨_, rfl⟩) (fun t ht hW => ⟨⟨(some x47), (G47, w47), rfl, ⟨hX, Or.inr (Or.inr ⟨_, _, rfl, hG_x47⟩)⟩, by show va_P D vwCl w47 t.heap; rw [ht]; exact hP, hD, hT⟩, hS.F ht⟩) hS.2.2 dX9_thingToKeep_54
    · skip
      have d18 := c18
      rw [fa_eq] at d18
      refine lv_aload_n hx hb dX9_thingToKeep_21 rfl (lv_at hl 1 rfl) ?_
      obtain ⟨_, hM_x1, b_x1, s_x1, w_x1, h_x1, t_x1, x_x1, y_x1, ms_x1, rfl, hG_b_x1, hG_s_x1, hJ_x1⟩ := hT _ _ hG_x1
      refine t_getJ (v := .ref b_x1) hx hb hts hinJ hown hK hP hJ_x1.kc hM_x1 0 (by decide) (hts (.fieldLink RX9 65 "ShadowBench$Job" "board" "LShadowBench$Board;") (by decide +kernel)) (fun _ h9 => h9) rfl dX9_thingToKeep_22 ?_
      refine lv_lload_n hx hb dX9_thingToKeep_25 rfl (lv_at hl 2 rfl) ?_
      obtain ⟨_, hM_b_x1, hb_b_x1, l_b_x1, f_b_x1, r_b_x1, rfl, hG_l_b_x1, hG_f_b_x1, hG_r_b_x1⟩ := hT _ _ hG_b_x1
      refine t_calli (va_runV (g := F0 m 26 ls ([.long p0, .ref b_x1])) (As := [.long p0]) (rest := []) ⟨hx, hb, hml, hown, hts⟩ (c_X0_isPicture l D cy A G ws b_x1 p0 hD hT hG_b_x1 ) (cwV 1 hts gX9_thingToKeep_X0_isPicture rfl rfl rfl (by decide +kernel) ⟨Nat.le_of_ble_eq_true rfl, Nat.le_of_ble_eq_true rfl⟩) (c_preV hM_b_x1 rfl hP hK hA hS hV) rfl rfl hl.1 rfl (lv_room (Nat.le_of_ble_eq_true rfl)) dX9_thingToKeep_26 ⟨Nat.le_of_ble_eq_true rfl, Nat.le_of_ble_eq_true rfl⟩) hS (fun r26 u H locs q26 hP9 hD9 hT9 hS => ?_)
      obtain ⟨rfl, q26⟩ := q26
      have hP : va_P D vwCl ws H := hP9
      refine lv_if_eq (tgt := 41) hx hb dX9_thingToKeep_29 (by decide) (fun c29 => ?_) (fun c29 => ?_)
      · skip
        have d29 := c29
        rw [fa_eq] at d29
        refine lv_iload_n hx hb dX9_thingToKeep_41 rfl (lv_at hl 0 rfl) ?_
        refine lv_iconst (v := 4) hx hb dX9_thingToKeep_42 (by decide) ?_
        refine lv_icmp_ne (tgt := 53) hx hb dX9_thingToKeep_43 (by decide) (fun c43 => ?_) (fun c43 => ?_)
        · skip
          have d43 := c43
          rw [fa_eq] at d43
          refine lv_null hx hb dX9_thingToKeep_53 ?_
          refine W.widen (k := 3) (n := 86) (Nat.le_of_ble_eq_true rfl) (Nat.le_of_ble_eq_true rfl) ?_
          exact W.aret (v := .null) hx hb hr (Or.inl ⟨_, rfl⟩) (Or.inl rfl) (fun t ht hW => ⟨⟨none, (G, ws), rfl, ⟨hX, Or.inl rfl⟩, by show va_P D vwCl ws t.heap; rw [ht]; exact hP, hD, hT⟩, hS.F ht⟩) hS.2.2 dX9_thingToKeep_54
        · skip
          have d43 := c43
          rw [fa_eq] at d43
          refine lv_aload_n hx hb dX9_thingToKeep_46 rfl (lv_at hl 1 rfl) ?_
          refine t_calla (va_runS (g := F0 m 47 ls ([.ref x1])) (As := [.ref x1]) (rest := []) ⟨hx, hb, hml, hown, hts⟩ (c_X9_sumsOf l D cy A G ws x1 hD hT hG_x1 ) (va_cwS 1 hts gX9_thingToKeep_X9_sumsOf rfl rfl rfl (by decide +kernel) ⟨Nat.le_of_ble_eq_true rfl, Nat.le_of_ble_eq_true rfl⟩) (c_preS hP hK hA hS hV) rfl rfl hl.1 rfl (lv_room (Nat.le_of_ble_eq_true rfl)) dX9_thingToKeep_47 ⟨Nat.le_of_ble_eq_true rfl, Nat.le_of_ble_eq_true rfl⟩) hS (fun r47 u H locs q47 hP9 hD9 hT9 hS => ?_)
          obtain ⟨G47, w47⟩ := u
          obtain ⟨hX9, q47⟩ := q47
          have hX9 : cX none (chs [16]) G ws G47 w47 := hX9
          have hP : va_P D vwCl w47 H := hP9
          have hD : va_D A w47 := hD9
          have hT : cT cy G47 w47 := hT9
          have hM_x1 := hX9.2.1 _ _ (cP.no hG_x1 rfl) hM_x1
          have hM_b_x1 := hX9.2.1 _ _ (cP.no hG_b_x1 rfl) hM_b_x1
          have hG_x1 := hX9.1 _ _ hG_x1
          have hG_b_x1 := hX9.1 _ _ hG_b_x1
          have hG_s_x1 := hX9.1 _ _ hG_s_x1
          have hG_l_b_x1 := hX9.1 _ _ hG_l_b_x1
          have hG_f_b_x1 := hX9.1 _ _ hG_f_b_x1
          have hG_r_b_x1 := hX9.1 _ _ hG_r_b_x1
          have hX := hX.tr hX9
          obtain ⟨x47, n47, rfl, hG_x47⟩ := q47
          refine lv_goto (tgt := 54) hx hb dX9_thingToKeep_50 (by decide) ?_
          refine W.widen (k := 3) (n := 86) (Nat.le_of_ble_eq_true rfl) (Nat.le_of_ble_eq_true rfl) ?_
          exact W.aret (v := .ref x47) hx hb hr (Or.inl ⟨_, rfl⟩) (Or.inr ⟨_, rfl⟩) (fun t ht hW => ⟨⟨(some x47), (G47, w47), rfl, ⟨hX, Or.inr (Or.inr ⟨_, _, rfl, hG_x47⟩)⟩, by show va_P D vwCl w47 t.heap; rw [ht]; exact hP, hD, hT⟩, hS.F ht⟩) hS.2.2 dX9_thingToKeep_54
      · skip
        have d29 := c29
        rw [fa_eq] at d29
        refine lv_aload_n hx hb dX9_thingToKeep_32 rfl (lv_at hl 1 rfl) ?_
        refine t_getJ (v := .ref b_x1) hx hb hts hinJ hown hK hP hJ_x1.kc hM_x1 0 (by decide) (hts (.fieldLink RX9 65 "ShadowBench$Job" "board" "LShadowBench$Board;") (by decide +kernel)) (fun _ h9 => h9) rfl dX9_thingToKeep_33 ?_
        refine lv_lload_n hx hb dX9_thingToKeep_36 rfl (lv_at hl 2 rfl) ?_
        refine t_calla (va_runS (g := F0 m 37 ls ([.long p0, .ref b_x1])) (As := [.ref b_x1, .long p0]) (rest := []) ⟨hx, hb, hml, hown, hts⟩ (c_X9_squaresOf l D cy A G ws b_x1 p0 hD hT hG_b_x1 ) (va_cwS 2 hts gX9_thingToKeep_X9_squaresOf rfl rfl rfl (by decide +kernel) ⟨Nat.le_of_ble_eq_true rfl, Nat.le_of_ble_eq_true rfl⟩) (c_preS hP hK hA hS hV) rfl rfl hl.1 rfl (lv_room (Nat.le_of_ble_eq_true rfl)) dX9_thingToKeep_37 ⟨Nat.le_of_ble_eq_true rfl, Nat.le_of_ble_eq_true rfl⟩) hS (fun r37 u H locs q37 hP9 hD9 hT9 hS => ?_)
        obtain ⟨G37, w37⟩ := u
        obtain ⟨hX9, q37⟩ := q37
        have hX9 : cX none (chs [16]) G ws G37 w37 := hX9
        have hP : va_P D vwCl w37 H := hP9
        have hD : va_D A w37 := hD9
        have hT : cT cy G37 w37 := hT9
        have hM_x1 := hX9.2.1 _ _ (cP.no hG_x1 rfl) hM_x1
        have hM_b_x1 := hX9.2.1 _ _ (cP.no hG_b_x1 rfl) hM_b_x1
        have hG_x1 := hX9.1 _ _ hG_x1
        have hG_b_x1 := hX9.1 _ _ hG_b_x1
        have hG_s_x1 := hX9.1 _ _ hG_s_x1
        have hG_l_b_x1 := hX9.1 _ _ hG_l_b_x1
        have hG_f_b_x1 := hX9.1 _ _ hG_f_b_x1
        have hG_r_b_x1 := hX9.1 _ _ hG_r_b_x1
        have hX := hX.tr hX9
        obtain ⟨x37, n37, rfl, hG_x37⟩ := q37
        refine W.widen (k := 3) (n := 86) (Nat.le_of_ble_eq_true rfl) (Nat.le_of_ble_eq_true rfl) ?_
        exact W.aret (v := .ref x37) hx hb hr (Or.inl ⟨_, rfl⟩) (Or.inr ⟨_, rfl⟩) (fun t ht hW => ⟨⟨(some x37), (G37, w37), rfl, ⟨hX, Or.inr (Or.inr ⟨_, _, rfl, hG_x37⟩)⟩, by show va_P D vwCl w37 t.heap; rw [ht]; exact hP, hD, hT⟩, hS.F ht⟩) hS.2.2 dX9_thingToKeep_40
  · skip
    have d8 := c8
    rw [fa_eq] at d8
    refine lv_aload_n hx hb dX9_thingToKeep_11 rfl (lv_at hl 1 rfl) ?_
    obtain ⟨_, hM_x1, b_x1, s_x1, w_x1, h_x1, t_x1, x_x1, y_x1, ms_x1, rfl, hG_b_x1, hG_s_x1, hJ_x1⟩ := hT _ _ hG_x1
    have hJ9 := hJ_x1
    obtain ⟨hn9, hJ9⟩ := hJ9
    rcases hJ9 with ⟨rfl, rfl⟩ | ⟨rfl, rfl⟩ | ⟨rfl, rfl⟩ | ⟨rfl, c9, rfl, hG_c9⟩
    · skip
      have hM_x1 : cIn ws x1 (.inr (1, [.ref b_x1, .ref s_x1, .int t_x1, .long x_x1, .long y_x1])) := hM_x1
      refine t_calla (va_runU (g := F0 m 12 ls ([.ref x1])) (As := []) (rest := []) ⟨hx, hb, hml, hown, hts⟩ (c_X1_asItIs_w l D cy A G ws x1 hD hT hG_x1 ) (va_cwO 0 hts gX9_thingToKeep_X1_asItIs_u321X1 rfl rfl rfl (b0 := cX3_asItIs) (m0 := 1) (r0 := (some (.object "ShadowBench$Job"))) (by decide +kernel) (by decide +kernel) ⟨Nat.le_of_ble_eq_true rfl, Nat.le_of_ble_eq_true rfl⟩) (c_preV hM_x1 rfl hP hK hA hS hV) rfl rfl hl.1 rfl (lv_room (Nat.le_of_ble_eq_true rfl)) dX9_thingToKeep_12 ⟨Nat.le_of_ble_eq_true rfl, Nat.le_of_ble_eq_true rfl⟩) hS (fun r12 u H locs q12 hP9 hD9 hT9 hS => ?_)
      obtain ⟨G12, w12⟩ := u
      obtain ⟨hX9, q12⟩ := q12
      have hX9 : cX none (chs []) G ws G12 w12 := hX9
      have hP : va_P D vwCl w12 H := hP9
      have hD : va_D A w12 := hD9
      have hT : cT cy G12 w12 := hT9
      have hM_x1 := hX9.2.1 _ _ (cP.no hG_x1 rfl) hM_x1
      have hG_x1 := hX9.1 _ _ hG_x1
      have hG_b_x1 := hX9.1 _ _ hG_b_x1
      have hG_s_x1 := hX9.1 _ _ hG_s_x1
      have hX := hX.tr (hX9.wk (chs_sub (by decide)))
      obtain ⟨x12, k12, n12, rfl, hG_x12⟩ := q12
      refine W.widen (k := 3) (n := 86) (Nat.le_of_ble_eq_true rfl) (Nat.le_of_ble_eq_true rfl) ?_
      exact W.aret (v := .ref x12) hx hb hr (Or.inl ⟨_, rfl⟩) (Or.inr ⟨_, rfl⟩) (fun t ht hW => ⟨⟨(some x12), (G12, w12), rfl, ⟨hX, Or.inr (Or.inl ⟨_, _, _, rfl, hG_x12⟩)⟩, by show va_P D vwCl w12 t.heap; rw [ht]; exact hP, hD, hT⟩, hS.F ht⟩) hS.2.2 dX9_thingToKeep_15
    · skip
      have hM_x1 : cIn ws x1 (.inr (2, [.ref b_x1, .ref s_x1, .int t_x1, .long x_x1, .long y_x1])) := hM_x1
      refine t_calla (va_runV (g := F0 m 12 ls ([.ref x1])) (As := []) (rest := []) ⟨hx, hb, hml, hown, hts⟩ (c_X3_asItIs_w l D cy A G ws x1 hD hT hG_x1 ) (cwV 0 hts gX9_thingToKeep_X3_asItIs rfl rfl rfl (by decide +kernel) ⟨Nat.le_of_ble_eq_true rfl, Nat.le_of_ble_eq_true rfl⟩) (c_preV hM_x1 rfl hP hK hA hS hV) rfl rfl hl.1 rfl (lv_room (Nat.le_of_ble_eq_true rfl)) dX9_thingToKeep_12 ⟨Nat.le_of_ble_eq_true rfl, Nat.le_of_ble_eq_true rfl⟩) hS (fun r12 u H locs q12 hP9 hD9 hT9 hS => ?_)
      obtain ⟨G12, w12⟩ := u
      obtain ⟨hX9, q12⟩ := q12
      have hX9 : cX none (chs []) G ws G12 w12 := hX9
      have hP : va_P D vwCl w12 H := hP9
      have hD : va_D A w12 := hD9
      have hT : cT cy G12 w12 := hT9
      have hM_x1 := hX9.2.1 _ _ (cP.no hG_x1 rfl) hM_x1
      have hG_x1 := hX9.1 _ _ hG_x1
      have hG_b_x1 := hX9.1 _ _ hG_b_x1
      have hG_s_x1 := hX9.1 _ _ hG_s_x1
      have hX := hX.tr (hX9.wk (chs_sub (by decide)))
      obtain ⟨x12, k12, n12, rfl, hG_x12⟩ := q12
      refine W.widen (k := 3) (n := 86) (Nat.le_of_ble_eq_true rfl) (Nat.le_of_ble_eq_true rfl) ?_
      exact W.aret (v := .ref x12) hx hb hr (Or.inl ⟨_, rfl⟩) (Or.inr ⟨_, rfl⟩) (fun t ht hW => ⟨⟨(some x12), (G12, w12), rfl, ⟨hX, Or.inr (Or.inl ⟨_, _, _, rfl, hG_x12⟩)⟩, by show va_P D vwCl w12 t.heap; rw [ht]; exact hP, hD, hT⟩, hS.F ht⟩) hS.2.2 dX9_thingToKeep_15
    · skip
      have hM_x1 : cIn ws x1 (.inr (3, [.ref b_x1, .ref s_x1, .int t_x1, .long x_x1, .long y_x1])) := hM_x1
      refine t_calla (va_runU (g := F0 m 12 ls ([.ref x1])) (As := []) (rest := []) ⟨hx, hb, hml, hown, hts⟩ (c_X4_asItIs_w l D cy A G ws x1 hD hT hG_x1 ) (va_cwO 0 hts gX9_thingToKeep_X4_asItIs_u321X4 rfl rfl rfl (b0 := cX3_asItIs) (m0 := 1) (r0 := (some (.object "ShadowBench$Job"))) (by decide +kernel) (by decide +kernel) ⟨Nat.le_of_ble_eq_true rfl, Nat.le_of_ble_eq_true rfl⟩) (c_preV hM_x1 rfl hP hK hA hS hV) rfl rfl hl.1 rfl (lv_room (Nat.le_of_ble_eq_true rfl)) dX9_thingToKeep_12 ⟨Nat.le_of_ble_eq_true rfl, Nat.le_of_ble_eq_true rfl⟩) hS (fun r12 u H locs q12 hP9 hD9 hT9 hS => ?_)
      obtain ⟨G12, w12⟩ := u
      obtain ⟨hX9, q12⟩ := q12
      have hX9 : cX none (chs []) G ws G12 w12 := hX9
      have hP : va_P D vwCl w12 H := hP9
      have hD : va_D A w12 := hD9
      have hT : cT cy G12 w12 := hT9
      have hM_x1 := hX9.2.1 _ _ (cP.no hG_x1 rfl) hM_x1
      have hG_x1 := hX9.1 _ _ hG_x1
      have hG_b_x1 := hX9.1 _ _ hG_b_x1
      have hG_s_x1 := hX9.1 _ _ hG_s_x1
      have hX := hX.tr (hX9.wk (chs_sub (by decide)))
      obtain ⟨x12, k12, n12, rfl, hG_x12⟩ := q12
      refine W.widen (k := 3) (n := 86) (Nat.le_of_ble_eq_true rfl) (Nat.le_of_ble_eq_true rfl) ?_
      exact W.aret (v := .ref x12) hx hb hr (Or.inl ⟨_, rfl⟩) (Or.inr ⟨_, rfl⟩) (fun t ht hW => ⟨⟨(some x12), (G12, w12), rfl, ⟨hX, Or.inr (Or.inl ⟨_, _, _, rfl, hG_x12⟩)⟩, by show va_P D vwCl w12 t.heap; rw [ht]; exact hP, hD, hT⟩, hS.F ht⟩) hS.2.2 dX9_thingToKeep_15
    · skip
      have hM_x1 : cIn ws x1 (.inr (4, [.ref b_x1, .ref s_x1, .int t_x1, .long x_x1, .long y_x1, .ref c9])) := hM_x1
      have hn36 := cb_mul (c_hb hT hG_b_x1)
      refine t_calla (va_runU (g := F0 m 12 ls ([.ref x1])) (As := []) (rest := []) ⟨hx, hb, hml, hown, hts⟩ (c_X5_asItIs_w l D cy A G ws x1 hD hT hG_x1 ) (va_cwO 0 hts gX9_thingToKeep_X5_asItIs_u321X5 rfl rfl rfl (b0 := cX3_asItIs) (m0 := 1) (r0 := (some (.object "ShadowBench$Job"))) (by decide +kernel) (by decide +kernel) ⟨Nat.le_of_ble_eq_true rfl, Nat.le_of_ble_eq_true rfl⟩) (c_preV hM_x1 rfl hP hK hA hS hV) rfl rfl hl.1 rfl (lv_room (Nat.le_of_ble_eq_true rfl)) dX9_thingToKeep_12 ⟨Nat.le_of_ble_eq_true rfl, Nat.le_of_ble_eq_true rfl⟩) hS (fun r12 u H locs q12 hP9 hD9 hT9 hS => ?_)
      obtain ⟨G12, w12⟩ := u
      obtain ⟨hX9, q12⟩ := q12
      have hX9 : cX none (chs []) G ws G12 w12 := hX9
      have hP : va_P D vwCl w12 H := hP9
      have hD : va_D A w12 := hD9
      have hT : cT cy G12 w12 := hT9
      have hM_x1 := hX9.2.1 _ _ (cP.no hG_x1 rfl) hM_x1
      have hG_x1 := hX9.1 _ _ hG_x1
      have hG_b_x1 := hX9.1 _ _ hG_b_x1
      have hG_s_x1 := hX9.1 _ _ hG_s_x1
      have hG_c9 := hX9.1 _ _ hG_c9
      have hX := hX.tr (hX9.wk (chs_sub (by decide)))
      obtain ⟨x12, k12, n12, rfl, hG_x12⟩ := q12
      refine W.widen (k := 3) (n := 86) (Nat.le_of_ble_eq_true rfl) (Nat.le_of_ble_eq_true rfl) ?_
      exact W.aret (v := .ref x12) hx hb hr (Or.inl ⟨_, rfl⟩) (Or.inr ⟨_, rfl⟩) (fun t ht hW => ⟨⟨(some x12), (G12, w12), rfl, ⟨hX, Or.inr (Or.inl ⟨_, _, _, rfl, hG_x12⟩)⟩, by show va_P D vwCl w12 t.heap; rw [ht]; exact hP, hD, hT⟩, hS.F ht⟩) hS.2.2 dX9_thingToKeep_15
set_option maxHeartbeats 4000000 in
set_option maxRecDepth 100000 in
theorem c_X9_keep_w (l : Launch) (D : va_G) (cy : Nat → ClassId) (A : Nat → Prop) (G : cG) (ws : va_W) (o : Nat) (d : Int32) (what : Int32) (k0 : Int32) (p0 : Int64)  (hD : va_D A ws) (hT : cT cy G ws) (hG_o : G o = some (7, 0, 0))  : Ci l D cy A yX9_keep wsX9_keep ({ frames := 7, cells := 3, slots := 86, locals := 146 }) 3 86 ws [.ref o, .int d, .int what, .int k0, .long p0] (fun r0 u => cX none (chs [10, 16]) G ws u.1 u.2 ∧ (True)) := by
  refine Met.ofW (cc := cX9_keep) (maxL := 7) (ret := (some .int)) (by decide) rfl ?_
  intro p e s m args below meth c s₁ B hml hv
  obtain ⟨rfl, hP, hK, hA, hV⟩ := hv
  have hx := B.exec
  have hb := B.bytes
  have hr := B.returns
  have hts := atoms_spec (ws := wsX9_keep) B.pre
  have hown : s.vm.findClass RX9 = some m.cls := findClass_of_methodNamed B.named
  have hlocks := B.notSynchronized
  have hS : va_S A s.heap s.heap [] := va_S.rf
  have hX : cX none (chs [10, 16]) G ws G ws := cX.rf
  have hl := lv_entry ([.ref o, .int d, .int what, .int k0, .long p0]) (n := 7) (Nat.le_of_ble_eq_true rfl)
  rw [lg_entry_eq]
  generalize (lg_sl ([.ref o, .int d, .int what, .int k0, .long p0]) ++ List.replicate (7 - (lg_sl ([.ref o, .int d, .int what, .int k0, .long p0])).length) Slot.unset).toArray = ls at hl ⊢
  have hl : lv_has ls 7 [(0, .ref o), (1, .int d), (2, .int what), (3, .int k0), (4, .long p0)] := hl
  have k_m1 : (-1 : Int32).toInt = -1 := by decide
  have k_0 : (0 : Int32).toInt = 0 := by decide
  refine lv_iload_n hx hb dX9_keep_0 rfl (lv_at hl 1 rfl) ?_
  refine t_pu (As := [.int d]) (rest := []) ⟨hx, hb, hml, hown, hts⟩ (c_X9_isShelf l d ) (va_cwS 1 hts gX9_keep_X9_isShelf rfl rfl rfl (by decide +kernel) ⟨Nat.le_of_ble_eq_true rfl, Nat.le_of_ble_eq_true rfl⟩) hP rfl hl.1 rfl (Nat.le_of_ble_eq_true rfl) dX9_keep_1 ⟨Nat.le_of_ble_eq_true rfl, Nat.le_of_ble_eq_true rfl⟩ hS (fun r1 H locs q1 hP hS => ?_)
  refine lv_if_ne (tgt := 9) hx hb dX9_keep_4 (by decide) (fun c4 => ?_) (fun c4 => ?_)
  · skip
    have b4 := bo_t q1 c4
    refine lv_iload_n hx hb dX9_keep_9 rfl (lv_at hl 2 rfl) ?_
    refine lv_if_ne (tgt := 22) hx hb dX9_keep_10 (by decide) (fun c10 => ?_) (fun c10 => ?_)
    · skip
      have d10 := c10
      rw [fa_eq] at d10
      refine lv_iload_n hx hb dX9_keep_22 rfl (lv_at hl 2 rfl) ?_
      refine lv_aload_n hx hb dX9_keep_23 rfl (lv_at hl 0 rfl) ?_
      refine lv_iload_n hx hb dX9_keep_24 rfl (lv_at hl 3 rfl) ?_
      obtain ⟨_, hM_o, bs_o, js_o, sh_o, wk_o, ll_o, jc_o, lc_o, mo_o, lb_o, rfl, hjc_o, hlc_o, hG_bs_o, hG_js_o, hG_sh_o, hG_wk_o, hmo_o, hG_ll_o, hlb_o⟩ := hT _ _ hG_o
      refine t_calla (va_runV (g := F0 m 25 ls ([.int k0, .ref o, .int what])) (As := [.int k0]) (rest := [.int what]) ⟨hx, hb, hml, hown, hts⟩ (c_X9_jobOf l D cy A G ws o k0 hD hT hG_o ) (cwV 1 hts gX9_keep_X9_jobOf rfl rfl rfl (by decide +kernel) ⟨Nat.le_of_ble_eq_true rfl, Nat.le_of_ble_eq_true rfl⟩) (c_preV hM_o rfl hP hK hA hS hV) rfl rfl hl.1 rfl (lv_room (Nat.le_of_ble_eq_true rfl)) dX9_keep_25 ⟨Nat.le_of_ble_eq_true rfl, Nat.le_of_ble_eq_true rfl⟩) hS (fun r25 u H locs q25 hP9 hD9 hT9 hS => ?_)
      obtain ⟨rfl, q25⟩ := q25
      have hP : va_P D vwCl ws H := hP9
      rcases r25 with _ | x25
      · skip
        refine lv_lload hx hb dX9_keep_28 (lv_at hl 4 rfl) ?_
        refine t_calla (va_runS (g := F0 m 30 ls ([.long p0, .null, .int what])) (As := [.int what, .null, .long p0]) (rest := []) ⟨hx, hb, hml, hown, hts⟩ (c_X9_thingToKeep_wn l D cy A G ws what p0 hD hT ) (va_cwS 3 hts gX9_keep_X9_thingToKeep rfl rfl rfl (by decide +kernel) ⟨Nat.le_of_ble_eq_true rfl, Nat.le_of_ble_eq_true rfl⟩) (c_preS hP hK hA hS hV) rfl rfl hl.1 rfl (lv_room (Nat.le_of_ble_eq_true rfl)) dX9_keep_30 ⟨Nat.le_of_ble_eq_true rfl, Nat.le_of_ble_eq_true rfl⟩) hS (fun r30 u H locs q30 hP9 hD9 hT9 hS => ?_)
        obtain ⟨G30, w30⟩ := u
        obtain ⟨hX9, q30⟩ := q30
        have hX9 : cX none (chs [16]) G ws G30 w30 := hX9
        have hP : va_P D vwCl w30 H := hP9
        have hD : va_D A w30 := hD9
        have hT : cT cy G30 w30 := hT9
        have hM_o := hX9.2.1 _ _ (cP.no hG_o rfl) hM_o
        have hG_o := hX9.1 _ _ hG_o
        have hG_bs_o := hX9.1 _ _ hG_bs_o
        have hG_js_o := hX9.1 _ _ hG_js_o
        have hG_sh_o := hX9.1 _ _ hG_sh_o
        have hG_wk_o := hX9.1 _ _ hG_wk_o
        have hG_ll_o := hX9.1 _ _ hG_ll_o
        have hX := hX.tr (hX9.wk (chs_sub (by decide)))
        rcases q30 with rfl | ⟨x30, k30, n30, rfl, hG_x30⟩ | ⟨x30, n30, rfl, hG_x30⟩
        · skip
          refine lv_astoreN (lv' := [(6, .null), (0, .ref o), (1, .int d), (2, .int what), (3, .int k0), (4, .long p0)]) hx hb dX9_keep_33 hl (by decide) rfl (fun ls hl => ?_)
          refine lv_aloadN hx hb dX9_keep_35 (lv_at hl 0 rfl) ?_
          refine lv_ifnonnullN hx hb dX9_keep_37 ?_
          refine lv_iconst (v := (-1)) hx hb dX9_keep_40 (by decide) ?_
          refine W.widen (k := 3) (n := 86) (Nat.le_of_ble_eq_true rfl) (Nat.le_of_ble_eq_true rfl) ?_
          exact W.iret (v := ((-1) : Int32)) hx hb hr (fun t ht hW => ⟨⟨_, (G30, w30), rfl, ⟨hX, trivial⟩, by show va_P D vwCl w30 t.heap; rw [ht]; exact hP, hD, hT⟩, hS.F ht⟩) hS.2.2 dX9_keep_41
        · skip
          refine lv_astore (lv' := [(6, .ref x30), (0, .ref o), (1, .int d), (2, .int what), (3, .int k0), (4, .long p0)]) hx hb dX9_keep_33 hl (by decide) rfl (fun ls hl => ?_)
          refine lv_aload hx hb dX9_keep_35 (lv_at hl 0 rfl) ?_
          refine lv_ifnonnull (tgt := 42) hx hb dX9_keep_37 (by decide) ?_
          refine lv_aload_n hx hb dX9_keep_42 rfl (lv_at hl 1 rfl) ?_
          refine t_get (v := .ref sh_o) (C := RX9) (T := TX9) (N := 9) hx hb hts (by decide +kernel) hown hK hP hM_o rfl 3 (by decide) (hts (.fieldLink RX9 27 "ShadowBench" "shelves" "[LShadowBench$Held;") (by decide +kernel)) (fun _ h9 => h9) rfl dX9_keep_43 ?_
          refine lv_iload_n hx hb dX9_keep_46 rfl (lv_at hl 2 rfl) ?_
          refine lv_aload hx hb dX9_keep_47 (lv_at hl 0 rfl) ?_
          refine t_aast10 hx hb hV hK hP hD hS hT hG_sh_o (Or.inl ⟨_, _, hG_x30⟩) (vp_in_iff.mpr ⟨by omega, by omega⟩) dX9_keep_49 (fun H locs w49 hU49 hP hD hT hS => ?_)
          have hM_o := hU49 _ _ (cne hG_o hG_sh_o (show (7 : Nat) ≠ 10 by decide)) hM_o
          have hX := hX.tr (cX.uF hU49 (Or.inr ⟨_, hG_sh_o, rfl⟩))
          refine lv_iconst (v := 0) hx hb dX9_keep_50 (by decide) ?_
          refine W.widen (k := 3) (n := 86) (Nat.le_of_ble_eq_true rfl) (Nat.le_of_ble_eq_true rfl) ?_
          exact W.iret (v := (0 : Int32)) hx hb hr (fun t ht hW => ⟨⟨_, (G30, w49), rfl, ⟨hX, trivial⟩, by show va_P D vwCl w49 t.heap; rw [ht]; exact hP, hD, hT⟩, hS.F ht⟩) hS.2.2 dX9_keep_51
        · skip
          refine lv_astore (lv' := [(6, .ref x30), (0, .ref o), (1, .int d), (2, .int what), (3, .int k0), (4, .long p0)]) hx hb dX9_keep_33 hl (by decide) rfl (fun ls hl => ?_)
          refine lv_aload hx hb dX9_keep_35 (lv_at hl 0 rfl) ?_
          refine lv_ifnonnull (tgt := 42) hx hb dX9_keep_37 (by decide) ?_
          refine lv_aload_n hx hb dX9_keep_42 rfl (lv_at hl 1 rfl) ?_
          refine t_get (v := .ref sh_o) (C := RX9) (T := TX9) (N := 9) hx hb hts (by decide +kernel) hown hK hP hM_o rfl 3 (by decide) (hts (.fieldLink RX9 27 "ShadowBench" "shelves" "[LShadowBench$Held;") (by decide +kernel)) (fun _ h9 => h9) rfl dX9_keep_43 ?_
          refine lv_iload_n hx hb dX9_keep_46 rfl (lv_at hl 2 rfl) ?_
          refine lv_aload hx hb dX9_keep_47 (lv_at hl 0 rfl) ?_
          refine t_aast10 hx hb hV hK hP hD hS hT hG_sh_o (Or.inr ⟨_, hG_x30⟩) (vp_in_iff.mpr ⟨by omega, by omega⟩) dX9_keep_49 (fun H locs w49 hU49 hP hD hT hS => ?_)
          have hM_o := hU49 _ _ (cne hG_o hG_sh_o (show (7 : Nat) ≠ 10 by decide)) hM_o
          have hX := hX.tr (cX.uF hU49 (Or.inr ⟨_, hG_sh_o, rfl⟩))
          refine lv_iconst (v := 0) hx hb dX9_keep_50 (by decide) ?_
          refine W.widen (k := 3) (n := 86) (Nat.le_of_ble_eq_true rfl) (Nat.le_of_ble_eq_true rfl) ?_
          exact W.iret (v := (0 : Int32)) hx hb hr (fun t ht hW => ⟨⟨_, (G30, w49), rfl, ⟨hX, trivial⟩, by show va_P D vwCl w49 t.heap; rw [ht]; exact hP, hD, hT⟩, hS.F ht⟩) hS.2.2 dX9_keep_51
      · skip
        obtain ⟨kx25, nx25, hG_x25⟩ := q25 x25 rfl
        refine lv_lload hx hb dX9_keep_28 (lv_at hl 4 rfl) ?_
        refine t_calla (va_runS (g := F0 m 30 ls ([.long p0, .ref x25, .int what])) (As := [.int what, .ref x25, .long p0]) (rest := []) ⟨hx, hb, hml, hown, hts⟩ (c_X9_thingToKeep_w l D cy A G ws what x25 p0 hD hT hG_x25 ) (va_cwS 3 hts gX9_keep_X9_thingToKeep rfl rfl rfl (by decide +kernel) ⟨Nat.le_of_ble_eq_true rfl, Nat.le_of_ble_eq_true rfl⟩) (c_preS hP hK hA hS hV) rfl rfl hl.1 rfl (lv_room (Nat.le_of_ble_eq_true rfl)) dX9_keep_30 ⟨Nat.le_of_ble_eq_true rfl, Nat.le_of_ble_eq_true rfl⟩) hS (fun r30 u H locs q30 hP9 hD9 hT9 hS => ?_)
        obtain ⟨G30, w30⟩ := u
        obtain ⟨hX9, q30⟩ := q30
        have hX9 : cX none (chs [16]) G ws G30 w30 := hX9
        have hP : va_P D vwCl w30 H := hP9
        have hD : va_D A w30 := hD9
        have hT : cT cy G30 w30 := hT9
        have hM_o := hX9.2.1 _ _ (cP.no hG_o rfl) hM_o
        have hG_o := hX9.1 _ _ hG_o
        have hG_bs_o := hX9.1 _ _ hG_bs_o
        have hG_js_o := hX9.1 _ _ hG_js_o
        have hG_sh_o := hX9.1 _ _ hG_sh_o
        have hG_wk_o := hX9.1 _ _ hG_wk_o
        have hG_ll_o := hX9.1 _ _ hG_ll_o
        have hG_x25 := hX9.1 _ _ hG_x25
        have hX := hX.tr (hX9.wk (chs_sub (by decide)))
        rcases q30 with rfl | ⟨x30, k30, n30, rfl, hG_x30⟩ | ⟨x30, n30, rfl, hG_x30⟩
        · skip
          refine lv_astoreN (lv' := [(6, .null), (0, .ref o), (1, .int d), (2, .int what), (3, .int k0), (4, .long p0)]) hx hb dX9_keep_33 hl (by decide) rfl (fun ls hl => ?_)
          refine lv_aloadN hx hb dX9_keep_35 (lv_at hl 0 rfl) ?_
          refine lv_ifnonnullN hx hb dX9_keep_37 ?_
          refine lv_iconst (v := (-1)) hx hb dX9_keep_40 (by decide) ?_
          refine W.widen (k := 3) (n := 86) (Nat.le_of_ble_eq_true rfl) (Nat.le_of_ble_eq_true rfl) ?_
          exact W.iret (v := ((-1) : Int32)) hx hb hr (fun t ht hW => ⟨⟨_, (G30, w30), rfl, ⟨hX, trivial⟩, by show va_P D vwCl w30 t.heap; rw [ht]; exact hP, hD, hT⟩, hS.F ht⟩) hS.2.2 dX9_keep_41
        · skip
          refine lv_astore (lv' := [(6, .ref x30), (0, .ref o), (1, .int d), (2, .int what), (3, .int k0), (4, .long p0)]) hx hb dX9_keep_33 hl (by decide) rfl (fun ls hl => ?_)
          refine lv_aload hx hb dX9_keep_35 (lv_at hl 0 rfl) ?_
          refine lv_ifnonnull (tgt := 42) hx hb dX9_keep_37 (by decide) ?_
          refine lv_aload_n hx hb dX9_keep_42 rfl (lv_at hl 1 rfl) ?_
          refine t_get (v := .ref sh_o) (C := RX9) (T := TX9) (N := 9) hx hb hts (by decide +kernel) hown hK hP hM_o rfl 3 (by decide) (hts (.fieldLink RX9 27 "ShadowBench" "shelves" "[LShadowBench$Held;") (by decide +kernel)) (fun _ h9 => h9) rfl dX9_keep_43 ?_
          refine lv_iload_n hx hb dX9_keep_46 rfl (lv_at hl 2 rfl) ?_
          refine lv_aload hx hb dX9_keep_47 (lv_at hl 0 rfl) ?_
          refine t_aast10 hx hb hV hK hP hD hS hT hG_sh_o (Or.inl ⟨_, _, hG_x30⟩) (vp_in_iff.mpr ⟨by omega, by omega⟩) dX9_keep_49 (fun H locs w49 hU49 hP hD hT hS => ?_)
          have hM_o := hU49 _ _ (cne hG_o hG_sh_o (show (7 : Nat) ≠ 10 by decide)) hM_o
          have hX := hX.tr (cX.uF hU49 (Or.inr ⟨_, hG_sh_o, rfl⟩))
          refine lv_iconst (v := 0) hx hb dX9_keep_50 (by decide) ?_
          refine W.widen (k := 3) (n := 86) (Nat.le_of_ble_eq_true rfl) (Nat.le_of_ble_eq_true rfl) ?_
          exact W.iret (v := (0 : Int32)) hx hb hr (fun t ht hW => ⟨⟨_, (G30, w49), rfl, ⟨hX, trivial⟩, by show va_P D vwCl w49 t.heap; rw [ht]; exact hP, hD, hT⟩, hS.F ht⟩) hS.2.2 dX9_keep_51
        · skip
          refine lv_astore (lv' := [(6, .ref x30), (0, .ref o), (1, .int d), (2, .int what), (3, .int k0), (4, .long p0)]) hx hb dX9_keep_33 hl (by decide) rfl (fun ls hl => ?_)
          refine lv_aload hx hb dX9_keep_35 (lv_at hl 0 rfl) ?_
          refine lv_ifnonnull (tgt := 42) hx hb dX9_keep_37 (by decide) ?_
          refine lv_aload_n hx hb dX9_keep_42 rfl (lv_at hl 1 rfl) ?_
          refine t_get (v := .ref sh_o) (C := RX9) (T := TX9) (N := 9) hx hb hts (by decide +kernel) hown hK hP hM_o rfl 3 (by decide) (hts (.fieldLink RX9 27 "ShadowBench" "shelves" "[LShadowBench$Held;") (by decide +kernel)) (fun _ h9 => h9) rfl dX9_keep_43 ?_
          refine lv_iload_n hx hb dX9_keep_46 rfl (lv_at hl 2 rfl) ?_
          refine lv_aload hx hb dX9_keep_47 (lv_at hl 0 rfl) ?_
          refine t_aast10 hx hb hV hK hP hD hS hT hG_sh_o (Or.inr ⟨_, hG_x30⟩) (vp_in_iff.mpr ⟨by omega, by omega⟩) dX9_keep_49 (fun H locs w49 hU49 hP hD hT hS => ?_)
          have hM_o := hU49 _ _ (cne hG_o hG_sh_o (show (7 : Nat) ≠ 10 by decide)) hM_o
          have hX := hX.tr (cX.uF hU49 (Or.inr ⟨_, hG_sh_o, rfl⟩))
          refine lv_iconst (v := 0) hx hb dX9_keep_50 (by decide) ?_
          refine W.widen (k := 3) (n := 86) (Nat.le_of_ble_eq_true rfl) (Nat.le_of_ble_eq_true rfl) ?_
          exact W.iret (v := (0 : Int32)) hx hb hr (fun t ht hW => ⟨⟨_, (G30, w49), rfl, ⟨hX, trivial⟩, by show va_P D vwCl w49 t.heap; rw [ht]; exact hP, hD, hT⟩, hS.F ht⟩) hS.2.2 dX9_keep_51
    · skip
      have d10 := c10
      rw [fa_eq] at d10
      refine lv_aload_n hx hb dX9_keep_13 rfl (lv_at hl 0 rfl) ?_
      obtain ⟨_, hM_o, bs_o, js_o, sh_o, wk_o, ll_o, jc_o, lc_o, mo_o, lb_o, rfl, hjc_o, hlc_o, hG_bs_o, hG_js_o, hG_sh_o, hG_wk_o, hmo_o, hG_ll_o, hlb_o⟩ := hT _ _ hG_o
      refine t_get (v := .ref sh_o) (C := RX9) (T := TX9) (N := 9) hx hb hts (by decide +kernel) hown hK hP hM_o rfl 3 (by decide) (hts (.fieldLink RX9 27 "ShadowBench" "shelves" "[LShadowBench$Held;") (by decide +kernel)) (fun _ h9 => h9) rfl dX9_keep_14 ?_
      refine lv_iload_n hx hb dX9_keep_17 rfl (lv_at hl 1 rfl) ?_
      refine lv_null hx hb dX9_keep_18 ?_
      refine t_aastN hx hb hK hP hD hS hT hG_sh_o (vp_in_iff.mpr ⟨by omega, by omega⟩) dX9_keep_19 (fun H locs w19 hU19 hP hD hT hS => ?_)
      have hM_o := hU19 _ _ (cne hG_o hG_sh_o (show (7 : Nat) ≠ 10 by decide)) hM_o
      have hX := hX.tr (cX.uF hU19 (Or.inr ⟨_, hG_sh_o, rfl⟩))
      refine lv_iconst (v := 0) hx hb dX9_keep_20 (by decide) ?_
      refine W.widen (k := 3) (n := 86) (Nat.le_of_ble_eq_true rfl) (Nat.le_of_ble_eq_true rfl) ?_
      exact W.iret (v := (0 : Int32)) hx hb hr (fun t ht hW => ⟨⟨_, (G, w19), rfl, ⟨hX, trivial⟩, by show va_P D vwCl w19 t.heap; rw [ht]; exact hP, hD, hT⟩, hS.F ht⟩) hS.2.2 dX9_keep_21
  · skip
    have b4 := bo_f q1 c4
    refine lv_iconst (v := (-1)) hx hb dX9_keep_7 (by decide) ?_
    refine W.widen (k := 3) (n := 86) (Nat.le_of_ble_eq_true rfl) (Nat.le_of_ble_eq_true rfl) ?_
    exact W.iret (v := ((-1) : Int32)) hx hb hr (fun t ht hW => ⟨⟨_, (G, ws), rfl, ⟨hX, trivial⟩, by show va_P D vwCl ws t.heap; rw [ht]; exact hP, hD, hT⟩, hS.F ht⟩) hS.2.2 dX9_keep_8
set_option maxHeartbeats 4000000 in
set_option maxRecDepth 100000 in
theorem c_X9_list_k (l : Launch) (D : va_G) (cy : Nat → ClassId) (A : Nat → Prop) (G : cG) (ws : va_W) (o : Nat) (wide : Int32) (high : Int32) (p0 : Int64) {bs_o js_o sh_o wk_o ll_o : Nat} {jc_o lc_o : Int32} {mo_o lb_o : Option Nat} (hD : va_D A ws) (hT : cT cy G ws) (hG_o : G o = some (7, 0, 0)) (hM_o : cIn ws o (.inr (8, [.ref bs_o, .ref js_o, .int jc_o, .ref sh_o, .ref wk_o, va_rf mo_o, .ref ll_o, .int lc_o, va_rf lb_o])))  : Ci l D cy A yX9_list wsX9_list ({ frames := 5, cells := 4, slots := 502, locals := 116 }) 4 502 ws [.ref o, .int wide, .int high, .long p0] (fun r0 u => cX none (chs [1, 7, 8, 17]) G ws u.1 u.2 ∧ (∃ lc lb, cIn u.2 o (.inr (8, [.ref bs_o, .ref js_o, .int jc_o, .ref sh_o, .ref wk_o, va_rf mo_o, .ref ll_o, .int lc, va_rf lb])))) := by
  refine Met.ofW (cc := cX9_list) (maxL := 6) (ret := (some .int)) (by decide) rfl ?_
  intro p e s m args below meth c s₁ B hml hv
  obtain ⟨rfl, hP, hK, hA, hV⟩ := hv
  have hx := B.exec
  have hb := B.bytes
  have hr := B.returns
  have hts := atoms_spec (ws := wsX9_list) B.pre
  have hown : s.vm.findClass RX9 = some m.cls := findClass_of_methodNamed B.named
  have hlocks := B.notSynchronized
  have hS : va_S A s.heap s.heap [] := va_S.rf
  have hX : cX none (chs [1, 7, 8, 17]) G ws G ws := cX.rf
  have hl := lv_entry ([.ref o, .int wide, .int high, .long p0]) (n := 6) (Nat.le_of_ble_eq_true rfl)
  rw [lg_entry_eq]
  generalize (lg_sl ([.ref o, .int wide, .int high, .long p0]) ++ List.replicate (6 - (lg_sl ([.ref o, .int wide, .int high, .long p0])).length) Slot.unset).toArray = ls at hl ⊢
  have hl : lv_has ls 6 [(0, .ref o), (1, .int wide), (2, .int high), (3, .long p0)] := hl
  have k_m3 : (-3 : Int32).toInt = -3 := by decide
  have k_m2 : (-2 : Int32).toInt = -2 := by decide
  have k_m1 : (-1 : Int32).toInt = -1 := by decide
  have k_0 : (0 : Int32).toInt = 0 := by decide
  have k_1 : (1 : Int32).toInt = 1 := by decide
  have k_12 : (12 : Int32).toInt = 12 := by decide
  obtain ⟨hjc_o, hlc_o, hG_bs_o, hG_js_o, hG_sh_o, hG_wk_o, hmo_o, hG_ll_o, hlb_o⟩ := w7sh hD hT hG_o hM_o
  refine lv_aload_n hx hb dX9_list_0 rfl (lv_at hl 0 rfl) ?_
  refine lv_iload_n hx hb dX9_list_1 rfl (lv_at hl 1 rfl) ?_
  refine lv_iload_n hx hb dX9_list_2 rfl (lv_at hl 2 rfl) ?_
  refine t_calla (va_runV (g := F0 m 3 ls ([.int high, .int wide, .ref o])) (As := [.int wide, .int high]) (rest := []) ⟨hx, hb, hml, hown, hts⟩ (c_X9_boardOf l D cy A G ws o wide high hD hT hG_o ) (cwV 2 hts gX9_list_X9_boardOf rfl rfl rfl (by decide +kernel) ⟨Nat.le_of_ble_eq_true rfl, Nat.le_of_ble_eq_true rfl⟩) (c_preV hM_o rfl hP hK hA hS hV) rfl rfl hl.1 rfl (lv_room (Nat.le_of_ble_eq_true rfl)) dX9_list_3 ⟨Nat.le_of_ble_eq_true rfl, Nat.le_of_ble_eq_true rfl⟩) hS (fun r3 u H locs q3 hP9 hD9 hT9 hS => ?_)
  obtain ⟨G3, w3⟩ := u
  obtain ⟨hX9, q3⟩ := q3
  have hX9 : cX none (chs [1, 8]) G ws G3 w3 := hX9
  have hP : va_P D vwCl w3 H := hP9
  have hD : va_D A w3 := hD9
  have hT : cT cy G3 w3 := hT9
  have hM_o := hX9.2.1 _ _ (cP.no hG_o rfl) hM_o
  have hG_o := hX9.1 _ _ hG_o
  have hG_bs_o := hX9.1 _ _ hG_bs_o
  have hG_js_o := hX9.1 _ _ hG_js_o
  have hG_sh_o := hX9.1 _ _ hG_sh_o
  have hG_wk_o := hX9.1 _ _ hG_wk_o
  have hG_ll_o := hX9.1 _ _ hG_ll_o
  have hmo_o := fun x9 z9 => hX9.1 _ _ (hmo_o x9 z9)
  have hlb_o : ∀ x9, lb_o = some x9 → ∃ w9 h9, _ = some (2, w9, h9) := fun x9 z9 => (hlb_o x9 z9).elim fun w9 z9 => z9.elim fun h9 z9 => ⟨w9, h9, hX9.1 _ _ z9⟩
  have hX := hX.tr (hX9.wk (chs_sub (by decide)))
  rcases r3 with _ | x3
  · skip
    refine lv_astoreN (lv' := [(5, .null), (0, .ref o), (1, .int wide), (2, .int high), (3, .long p0)]) hx hb dX9_list_6 hl (by decide) rfl (fun ls hl => ?_)
    refine lv_aloadN hx hb dX9_list_8 (lv_at hl 0 rfl) ?_
    refine lv_ifnullN (tgt := 22) hx hb dX9_list_10 (by decide) ?_
    refine lv_iconst (v := (-1)) hx hb dX9_list_22 (by decide) ?_
    refine W.widen (k := 4) (n := 502) (Nat.le_of_ble_eq_true rfl) (Nat.le_of_ble_eq_true rfl) ?_
    exact W.iret (v := ((-1) : Int32)) hx hb hr (fun t ht hW => ⟨⟨_, (G3, w3), rfl, ⟨hX, ⟨_, lb_o, hM_o⟩⟩, by show va_P D vwCl w3 t.heap; rw [ht]; exact hP, hD, hT⟩, hS.F ht⟩) hS.2.2 dX9_list_23
  · skip
    have hG_x3 := q3 x3 rfl
    refine lv_astore (lv' := [(5, .ref x3), (0, .ref o), (1, .int wide), (2, .int high), (3, .long p0)]) hx hb dX9_list_6 hl (by decide) rfl (fun ls hl => ?_)
    refine lv_aload hx hb dX9_list_8 (lv_at hl 0 rfl) ?_
    refine lv_ifnull hx hb dX9_list_10 ?_
    refine lv_aload hx hb dX9_list_13 (lv_at hl 0 rfl) ?_
    refine lv_lload_n hx hb dX9_list_15 rfl (lv_at hl 4 rfl) ?_
    obtain ⟨_, hM_x3, hb_x3, l_x3, f_x3, r_x3, rfl, hG_l_x3, hG_f_x3, hG_r_x3⟩ := hT _ _ hG_x3
    refine t_calli (va_runV (g := F0 m 16 ls ([.long p0, .ref x3])) (As := [.long p0]) (rest := []) ⟨hx, hb, hml, hown, hts⟩ (c_X0_isPicture l D cy A G3 w3 x3 p0 hD hT hG_x3 ) (cwV 1 hts gX9_list_X0_isPicture rfl rfl rfl (by decide +kernel) ⟨Nat.le_of_ble_eq_true rfl, Nat.le_of_ble_eq_true rfl⟩) (c_preV hM_x3 rfl hP hK hA hS hV) rfl rfl hl.1 rfl (lv_room (Nat.le_of_ble_eq_true rfl)) dX9_list_16 ⟨Nat.le_of_ble_eq_true rfl, Nat.le_of_ble_eq_true rfl⟩) hS (fun r16 u H locs q16 hP9 hD9 hT9 hS => ?_)
    obtain ⟨rfl, q16⟩ := q16
    have hP : va_P D vwCl w3 H := hP9
    refine lv_if_ne (tgt := 24) hx hb dX9_list_19 (by decide) (fun c19 => ?_) (fun c19 => ?_)
    · skip
      have d19 := c19
      rw [fa_eq] at d19
      refine lv_aload_n hx hb dX9_list_24 rfl (lv_at hl 1 rfl) ?_
      refine t_get (v := .int lc_o) (C := RX9) (T := TX9) (N := 9) hx hb hts (by decide +kernel) hown hK hP hM_o rfl 7 (by decide) (hts (.fieldLink RX9 46 "ShadowBench" "listCount" "I") (by decide +kernel)) (fun _ h9 => h9) rfl dX9_list_25 ?_
      refine lv_bipush (v := 12) hx hb dX9_list_28 (by decide) ?_
      refine lv_icmp_lt (tgt := 36) hx hb dX9_list_30 (by decide) (fun c30 => ?_) (fun c30 => ?_)
      · skip
        have d30 := c30
        rw [fa_lt] at d30
        refine lv_aload_n hx hb dX9_list_36 rfl (lv_at hl 1 rfl) ?_
        refine lv_iload_n hx hb dX9_list_37 rfl (lv_at hl 2 rfl) ?_
        refine lv_iload_n hx hb dX9_list_38 rfl (lv_at hl 3 rfl) ?_
        refine t_calli (va_runV (g := F0 m 39 ls ([.int high, .int wide, .ref o])) (As := [.int wide, .int high]) (rest := []) ⟨hx, hb, hml, hown, hts⟩ (c_X9_isOtherThanListed l D cy A G3 w3 o wide high hD hT hG_o ) (cwV 2 hts gX9_list_X9_isOtherThanListed rfl rfl rfl (by decide +kernel) ⟨Nat.le_of_ble_eq_true rfl, Nat.le_of_ble_eq_true rfl⟩) (c_preV hM_o rfl hP hK hA hS hV) rfl rfl hl.1 rfl (lv_room (Nat.le_of_ble_eq_true rfl)) dX9_list_39 ⟨Nat.le_of_ble_eq_true rfl, Nat.le_of_ble_eq_true rfl⟩) hS (fun r39 u H locs q39 hP9 hD9 hT9 hS => ?_)
        obtain ⟨rfl, q39⟩ := q39
        have hP : va_P D vwCl w3 H := hP9
        refine lv_if_ne (tgt := 53) hx hb dX9_list_42 (by decide) (fun c42 => ?_) (fun c42 => ?_)
        · skip
          have d42 := c42
          rw [fa_eq] at d42
          refine lv_bipush (v := (-3)) hx hb dX9_list_53 (by decide) ?_
          refine W.widen (k := 4) (n := 502) (Nat.le_of_ble_eq_true rfl) (Nat.le_of_ble_eq_true rfl) ?_
          exact W.iret (v := ((-3) : Int32)) hx hb hr (fun t ht hW => ⟨⟨_, (G3, w3), rfl, ⟨hX, ⟨_, lb_o, hM_o⟩⟩, by show va_P D vwCl w3 t.heap; rw [ht]; exact hP, hD, hT⟩, hS.F ht⟩) hS.2.2 dX9_list_55
        · skip
          have d42 := c42
          rw [fa_eq] at d42
          refine lv_aload_n hx hb dX9_list_45 rfl (lv_at hl 1 rfl) ?_
          refine lv_lload_n hx hb dX9_list_46 rfl (lv_at hl 4 rfl) ?_
          refine t_calli (va_runV (g := F0 m 47 ls ([.long p0, .ref o])) (As := [.long p0]) (rest := []) ⟨hx, hb, hml, hown, hts⟩ (c_X9_isListed l D cy A G3 w3 o p0 hD hT hG_o ) (cwV 1 hts gX9_list_X9_isListed rfl rfl rfl (by decide +kernel) ⟨Nat.le_of_ble_eq_true rfl, Nat.le_of_ble_eq_true rfl⟩) (c_preV hM_o rfl hP hK hA hS hV) rfl rfl hl.1 rfl (lv_room (Nat.le_of_ble_eq_true rfl)) dX9_list_47 ⟨Nat.le_of_ble_eq_true rfl, Nat.le_of_ble_eq_true rfl⟩) hS (fun r47 u H locs q47 hP9 hD9 hT9 hS => ?_)
          obtain ⟨rfl, q47⟩ := q47
          have hP : va_P D vwCl w3 H := hP9
          refine lv_if_eq (tgt := 56) hx hb dX9_list_50 (by decide) (fun c50 => ?_) (fun c50 => ?_)
          · skip
            have d50 := c50
            rw [fa_eq] at d50
            refine lv_aload_n hx hb dX9_list_56 rfl (lv_at hl 1 rfl) ?_
            refine lv_aload hx hb dX9_list_57 (lv_at hl 0 rfl) ?_
            refine t_put (v := .ref x3) (C := RX9) (T := TX9) (N := 9) (ty0 := tyX9) hx hb hts (by decide +kernel) tyX9_ok nmX9 hown hK hP hD hS hM_o rfl 8 (by decide) (hts (.fieldLink RX9 49 "ShadowBench" "listBoard" "LShadowBench$Board;") (by decide +kernel)) (fun _ h9 => h9) rfl rfl rfl (Nat.le_of_ble_eq_true rfl) dX9_list_59 (fun H locs w59 hU59 hP hD hS => ?_)
            have hM_x3 := hU59.2 _ _ (cne hG_x3 hG_o (show (2 : Nat) ≠ 7 by decide)) hM_x3
            have hT := hT.up hU59 hG_o ⟨_, _, _, _, _, _, _, mo_o, (some x3), rfl, ⟨by omega, by omega⟩, ⟨by omega, by omega⟩, hG_bs_o, hG_js_o, hG_sh_o, hG_wk_o, hmo_o, hG_ll_o, (fun _ z => Option.some.inj z ▸ ⟨_, _, hG_x3⟩)⟩
            have hM_o : cIn w59 o (.inr (8, [.ref bs_o, .ref js_o, .int jc_o, .ref sh_o, .ref wk_o, va_rf mo_o, .ref ll_o, .int lc_o, .ref x3])) := hU59.1
            have hX := hX.tr (cX.up hU59 (Or.inr ⟨_, hG_o, rfl⟩))
            refine lv_aload_n hx hb dX9_list_62 rfl (lv_at hl 1 rfl) ?_
            refine t_get (v := .ref ll_o) (C := RX9) (T := TX9) (N := 9) hx hb hts (by decide +kernel) hown hK hP hM_o rfl 6 (by decide) (hts (.fieldLink RX9 42 "ShadowBench" "listed" "[J") (by decide +kernel)) (fun _ h9 => h9) rfl dX9_list_63 ?_
            refine lv_aload_n hx hb dX9_list_66 rfl (lv_at hl 1 rfl) ?_
            refine t_get (v := .int lc_o) (C := RX9) (T := TX9) (N := 9) hx hb hts (by decide +kernel) hown hK hP hM_o rfl 7 (by decide) (hts (.fieldLink RX9 46 "ShadowBench" "listCount" "I") (by decide +kernel)) (fun _ h9 => h9) rfl dX9_list_67 ?_
            refine lv_lload_n hx hb dX9_list_70 rfl (lv_at hl 4 rfl) ?_
            refine t_last hx hb hK hP hD hS hT (Or.inr (Or.inr rfl)) hG_ll_o (vp_in_iff.mpr ⟨by omega, by omega⟩) dX9_list_71 (fun H locs w71 hU71 hP hD hT hS => ?_)
            have hM_o := hU71 _ _ (cne hG_o hG_ll_o (show (7 : Nat) ≠ 17 by decide)) hM_o
            have hM_x3 := hU71 _ _ (cne hG_x3 hG_ll_o (show (2 : Nat) ≠ 17 by decide)) hM_x3
            have hX := hX.tr (cX.uF hU71 (Or.inr ⟨_, hG_ll_o, rfl⟩))
            refine lv_aload_n hx hb dX9_list_72 rfl (lv_at hl 1 rfl) ?_
            refine lv_dup hx hb dX9_list_73 rfl ?_
            refine t_get (v := .int lc_o) (C := RX9) (T := TX9) (N := 9) hx hb hts (by decide +kernel) hown hK hP hM_o rfl 7 (by decide) (hts (.fieldLink RX9 46 "ShadowBench" "listCount" "I") (by decide +kernel)) (fun _ h9 => h9) rfl dX9_list_74 ?_
            refine lv_iconst (v := 1) hx hb dX9_list_77 (by decide) ?_
            refine lv_iadd hx hb dX9_list_78 ?_
            refine lv_topi (fun v78 e78 => ?_)
            have i78 : v78.toInt = lc_o.toInt + (1 : Int32).toInt := by rw [e78]; exact fb_addI (by omega) (by omega)
            refine t_put (v := .int v78) (C := RX9) (T := TX9) (N := 9) (ty0 := tyX9) hx hb hts (by decide +kernel) tyX9_ok nmX9 hown hK hP hD hS hM_o rfl 7 (by decide) (hts (.fieldLink RX9 46 "ShadowBench" "listCount" "I") (by decide +kernel)) (fun _ h9 => h9) rfl rfl rfl (Nat.le_of_ble_eq_true rfl) dX9_list_79 (fun H locs w79 hU79 hP hD hS => ?_)
            have hM_x3 := hU79.2 _ _ (cne hG_x3 hG_o (show (2 : Nat) ≠ 7 by decide)) hM_x3
            have hT := hT.up hU79 hG_o ⟨_, _, _, _, _, _, _, mo_o, (some x3), rfl, ⟨by omega, by omega⟩, ⟨by omega, by omega⟩, hG_bs_o, hG_js_o, hG_sh_o, hG_wk_o, hmo_o, hG_ll_o, (fun _ z => Option.some.inj z ▸ ⟨_, _, hG_x3⟩)⟩
            have hM_o : cIn w79 o (.inr (8, [.ref bs_o, .ref js_o, .int jc_o, .ref sh_o, .ref wk_o, va_rf mo_o, .ref ll_o, .int v78, .ref x3])) := hU79.1
            have hX := hX.tr (cX.up hU79 (Or.inr ⟨_, hG_o, rfl⟩))
            refine lv_aload_n hx hb dX9_list_82 rfl (lv_at hl 1 rfl) ?_
            refine t_get (v := .int v78) (C := RX9) (T := TX9) (N := 9) hx hb hts (by decide +kernel) hown hK hP hM_o rfl 7 (by decide) (hts (.fieldLink RX9 46 "ShadowBench" "listCount" "I") (by decide +kernel)) (fun _ h9 => h9) rfl dX9_list_83 ?_
            refine W.widen (k := 4) (n := 502) (Nat.le_of_ble_eq_true rfl) (Nat.le_of_ble_eq_true rfl) ?_
            exact W.iret (v := v78) hx hb hr (fun t ht hW => ⟨⟨_, (G3, w79), rfl, ⟨hX, ⟨_, (some x3), hM_o⟩⟩, by show va_P D vwCl w79 t.heap; rw [ht]; exact hP, hD, hT⟩, hS.F ht⟩) hS.2.2 dX9_list_86
          · skip
            have d50 := c50
            rw [fa_eq] at d50
            refine lv_bipush (v := (-3)) hx hb dX9_list_53 (by decide) ?_
            refine W.widen (k := 4) (n := 502) (Nat.le_of_ble_eq_true rfl) (Nat.le_of_ble_eq_true rfl) ?_
            exact W.iret (v := ((-3) : Int32)) hx hb hr (fun t ht hW => ⟨⟨_, (G3, w3), rfl, ⟨hX, ⟨_, lb_o, hM_o⟩⟩, by show va_P D vwCl w3 t.heap; rw [ht]; exact hP, hD, hT⟩, hS.F ht⟩) hS.2.2 dX9_list_55
      · skip
        have d30 := c30
        rw [fa_lt] at d30
        refine lv_bipush (v := (-2)) hx hb dX9_list_33 (by decide) ?_
        refine W.widen (k := 4) (n := 502) (Nat.le_of_ble_eq_true rfl) (Nat.le_of_ble_eq_true rfl) ?_
        exact W.iret (v := ((-2) : Int32)) hx hb hr (fun t ht hW => ⟨⟨_, (G3, w3), rfl, ⟨hX, ⟨_, lb_o, hM_o⟩⟩, by show va_P D vwCl w3 t.heap; rw [ht]; exact hP, hD, hT⟩, hS.F ht⟩) hS.2.2 dX9_list_35
    · skip
      have d19 := c19
      rw [fa_eq] at d19
      refine lv_iconst (v := (-1)) hx hb dX9_list_22 (by decide) ?_
      refine W.widen (k := 4) (n := 502) (Nat.le_of_ble_eq_true rfl) (Nat.le_of_ble_eq_true rfl) ?_
      exact W.iret (v := ((-1) : Int32)) hx hb hr (fun t ht hW => ⟨⟨_, (G3, w3), rfl, ⟨hX, ⟨_, lb_o, hM_o⟩⟩, by show va_P D vwCl w3 t.heap; rw [ht]; exact hP, hD, hT⟩, hS.F ht⟩) hS.2.2 dX9_list_23
set_option maxHeartbeats 4000000 in
set_option maxRecDepth 100000 in
theorem c_X9_clear_k (l : Launch) (D : va_G) (cy : Nat → ClassId) (A : Nat → Prop) (G : cG) (ws : va_W) (o : Nat) {bs_o js_o sh_o wk_o ll_o : Nat} {jc_o lc_o : Int32} {mo_o lb_o : Option Nat} (hD : va_D A ws) (hT : cT cy G ws) (hG_o : G o = some (7, 0, 0)) (hM_o : cIn ws o (.inr (8, [.ref bs_o, .ref js_o, .int jc_o, .ref sh_o, .ref wk_o, va_rf mo_o, .ref ll_o, .int lc_o, va_rf lb_o])))  : Ci l D cy A yX9_clear wsX9_clear ({ frames := 0, cells := 0, slots := 0, locals := 0 }) 0 0 ws [.ref o] (fun r0 u => cX none (chs [7]) G ws u.1 u.2 ∧ (∃ lc lb, cIn u.2 o (.inr (8, [.ref bs_o, .ref js_o, .int jc_o, .ref sh_o, .ref wk_o, va_rf mo_o, .ref ll_o, .int lc, va_rf lb])))) := by
  refine Met.ofW (cc := cX9_clear) (maxL := 2) (ret := (some .int)) (by decide) rfl ?_
  intro p e s m args below meth c s₁ B hml hv
  obtain ⟨rfl, hP, hK, hA, hV⟩ := hv
  have hx := B.exec
  have hb := B.bytes
  have hr := B.returns
  have hts := atoms_spec (ws := wsX9_clear) B.pre
  have hown : s.vm.findClass RX9 = some m.cls := findClass_of_methodNamed B.named
  have hlocks := B.notSynchronized
  have hS : va_S A s.heap s.heap [] := va_S.rf
  have hX : cX none (chs [7]) G ws G ws := cX.rf
  have hl := lv_entry ([.ref o]) (n := 2) (Nat.le_of_ble_eq_true rfl)
  rw [lg_entry_eq]
  generalize (lg_sl ([.ref o]) ++ List.replicate (2 - (lg_sl ([.ref o])).length) Slot.unset).toArray = ls at hl ⊢
  have hl : lv_has ls 2 [(0, .ref o)] := hl
  have k_0 : (0 : Int32).toInt = 0 := by decide
  obtain ⟨hjc_o, hlc_o, hG_bs_o, hG_js_o, hG_sh_o, hG_wk_o, hmo_o, hG_ll_o, hlb_o⟩ := w7sh hD hT hG_o hM_o
  refine lv_aload_n hx hb dX9_clear_0 rfl (lv_at hl 0 rfl) ?_
  refine t_get (v := .int lc_o) (C := RX9) (T := TX9) (N := 9) hx hb hts (by decide +kernel) hown hK hP hM_o rfl 7 (by decide) (hts (.fieldLink RX9 46 "ShadowBench" "listCount" "I") (by decide +kernel)) (fun _ h9 => h9) rfl dX9_clear_1 ?_
  refine lv_istore_n (lv' := [(1, .int lc_o), (0, .ref o)]) hx hb dX9_clear_4 rfl hl (by decide) rfl (fun ls hl => ?_)
  refine lv_aload_n hx hb dX9_clear_5 rfl (lv_at hl 1 rfl) ?_
  refine lv_iconst (v := 0) hx hb dX9_clear_6 (by decide) ?_
  refine t_put (v := .int (0 : Int32)) (C := RX9) (T := TX9) (N := 9) (ty0 := tyX9) hx hb hts (by decide +kernel) tyX9_ok nmX9 hown hK hP hD hS hM_o rfl 7 (by decide) (hts (.fieldLink RX9 46 "ShadowBench" "listCount" "I") (by decide +kernel)) (fun _ h9 => h9) rfl rfl rfl (Nat.le_of_ble_eq_true rfl) dX9_clear_7 (fun H locs w7 hU7 hP hD hS => ?_)
  have hT := hT.up hU7 hG_o ⟨_, _, _, _, _, _, _, mo_o, lb_o, rfl, ⟨by omega, by omega⟩, ⟨by omega, by omega⟩, hG_bs_o, hG_js_o, hG_sh_o, hG_wk_o, hmo_o, hG_ll_o, hlb_o⟩
  have hM_o : cIn w7 o (.inr (8, [.ref bs_o, .ref js_o, .int jc_o, .ref sh_o, .ref wk_o, va_rf mo_o, .ref ll_o, .int (0 : Int32), va_rf lb_o])) := hU7.1
  have hX := hX.tr (cX.up hU7 (Or.inr ⟨_, hG_o, rfl⟩))
  refine lv_aload_n hx hb dX9_clear_10 rfl (lv_at hl 1 rfl) ?_
  refine lv_null hx hb dX9_clear_11 ?_
  refine t_put (v := .null) (C := RX9) (T := TX9) (N := 9) (ty0 := tyX9) hx hb hts (by decide +kernel) tyX9_ok nmX9 hown hK hP hD hS hM_o rfl 8 (by decide) (hts (.fieldLink RX9 49 "ShadowBench" "listBoard" "LShadowBench$Board;") (by decide +kernel)) (fun _ h9 => h9) rfl rfl rfl (Nat.le_of_ble_eq_true rfl) dX9_clear_12 (fun H locs w12 hU12 hP hD hS => ?_)
  have hT := hT.up hU12 hG_o ⟨_, _, _, _, _, _, _, mo_o, none, rfl, ⟨by omega, by omega⟩, ⟨by omega, by omega⟩, hG_bs_o, hG_js_o, hG_sh_o, hG_wk_o, hmo_o, hG_ll_o, (fun _ z => nomatch z)⟩
  have hM_o : cIn w12 o (.inr (8, [.ref bs_o, .ref js_o, .int jc_o, .ref sh_o, .ref wk_o, va_rf mo_o, .ref ll_o, .int (0 : Int32), .null])) := hU12.1
  have hX := hX.tr (cX.up hU12 (Or.inr ⟨_, hG_o, rfl⟩))
  refine lv_iload_n hx hb dX9_clear_15 rfl (lv_at hl 0 rfl) ?_
  exact W.iret (v := lc_o) hx hb hr (fun t ht hW => ⟨⟨_, (G, w12), rfl, ⟨hX, ⟨_, none, hM_o⟩⟩, by show va_P D vwCl w12 t.heap; rw [ht]; exact hP, hD, hT⟩, hS.F ht⟩) hS.2.2 dX9_clear_16
set_option maxHeartbeats 4000000 in
set_option maxRecDepth 100000 in
theorem c_X9_newJob_z (l : Launch) (D : va_G) (cy : Nat → ClassId) (A : Nat → Prop) (G : cG) (ws : va_W) (kind : Int32) (b : Nat) {w h : Nat} (hD : va_D A ws) (hT : cT cy G ws) (hG_b : G b = some (2, w, h))  : Ca l D cy A yX9_newJob wsX9_newJob ({ frames := 5, cells := 3, slots := 86, locals := 103 }) 3 86 ws [.int kind, .ref b] (fun r0 u => cX none (chs []) G ws u.1 u.2 ∧ (∃ x, r0 = some x ∧ u.1 x = some (3, kcl kind, 8 * w + h) ∧ (∀ e, ¬ cIn ws x e) ∧ ∃ a ms, u.1 a = some (14, 44, 0) ∧ (∀ e, ¬ cIn ws a e) ∧ cIn u.2 x (.inr (kcl kind, .ref b :: .ref a :: .int (nI 3) :: .long 0 :: .long 0 :: ms)) ∧ cIn u.2 a (.inl (cy 0, 44, .inl (fun _ => 0))) ∧ (kcl kind = 4 → ∃ c, ms = [.ref c] ∧ u.1 c = some (14, w * h, 0) ∧ (∀ e, ¬ cIn ws c e) ∧ c ≠ a ∧ cIn u.2 c (.inl (cy 0, w * h, .inl (fun _ => 0)))))) := by
  refine Met.ofW (cc := cX9_newJob) (maxL := 2) (ret := (some (.object "ShadowBench$Job"))) (by decide) rfl ?_
  intro p e s m args below meth c s₁ B hml hv
  obtain ⟨rfl, hP, hK, hA, hV⟩ := hv
  have hx := B.exec
  have hb := B.bytes
  have hr := B.returns
  have hts := atoms_spec (ws := wsX9_newJob) B.pre
  have hown : s.vm.findClass RX9 = some m.cls := findClass_of_methodNamed B.named
  have hlocks := B.notSynchronized
  have hS : va_S A s.heap s.heap [] := va_S.rf
  have hX : cX none (chs []) G ws G ws := cX.rf
  have hl := lv_entry ([.int kind, .ref b]) (n := 2) (Nat.le_of_ble_eq_true rfl)
  rw [lg_entry_eq]
  generalize (lg_sl ([.int kind, .ref b]) ++ List.replicate (2 - (lg_sl ([.int kind, .ref b])).length) Slot.unset).toArray = ls at hl ⊢
  have hl : lv_has ls 2 [(0, .int kind), (1, .ref b)] := hl
  have k_0 : (0 : Int32).toInt = 0 := by decide
  refine lv_iload_n hx hb dX9_newJob_0 rfl (lv_at hl 0 rfl) ?_
  by_cases s1_0 : kind.toInt = 1
  · skip
    refine lv_tableIn (off := 27) (tgt := 28) hx hb dX9_newJob_1 (by omega) (by omega) (by rw [s1_0]; rfl) (by decide) ?_
    refine t_new (C := RX4) (T := TX4) (N := 5) (ci := 3) (ty0 := tyX4) (fs := [.null, .null, .int 0, .long 0, .long 0]) hx hb hts (by decide +kernel) tyX4_ok hown (hts (.classLink RX9 292 RX4) (by decide +kernel)) (hts (.instantiable RX4 5) (by decide +kernel)) (hts (.initialized RX4) (by decide +kernel)) hK hP hD hS hA hT rfl (by decide +kernel) (Nat.le_of_ble_eq_true rfl) (Nat.le_of_ble_eq_true rfl) dX9_newJob_28 (fun q28 H w28 hM_q28 hO_q28 hF28 hX28 hk28 hP hD hT hS => ?_)
    have hN_q28 := hX.new0 hO_q28 hF28
    have hX := hX.tr (hX28 _ _)
    refine lv_dup hx hb dX9_newJob_31 rfl ?_
    refine lv_aload_n hx hb dX9_newJob_32 rfl (lv_at hl 1 rfl) ?_
    refine t_callv (va_runI (g := F0 m 33 ls ([.ref b, .ref q28, .ref q28])) (As := [.ref b]) (rest := [.ref q28]) (b := q28) ⟨hx, hb, hml, hown, hts⟩ (c_X4_init_w l D cy A G w28 q28 b hD hT hO_q28 hM_q28 hG_b (by unfold cKc; omega)) (cwI 1 hts gX9_newJob_X4_init rfl rfl rfl (hts (.initialized RX4) (by decide +kernel)) (hts (.methodLink RX9 294 yX4_init) (by decide +kernel)) (hts (.instanceMethod yX4_init) (by decide +kernel)) rfl (by decide +kernel) ⟨Nat.le_of_ble_eq_true rfl, Nat.le_of_ble_eq_true rfl⟩) (c_preS hP hK hA hS hV) rfl rfl hl.1 rfl (lv_room (Nat.le_of_ble_eq_true rfl)) dX9_newJob_33 ⟨Nat.le_of_ble_eq_true rfl, Nat.le_of_ble_eq_true rfl⟩) hS (fun u H locs q33 hP9 hD9 hT9 hS => ?_)
    obtain ⟨G33, w33⟩ := u
    obtain ⟨hX9, q33⟩ := q33
    have hX9 : cX (some q28) (chs []) G w28 G33 w33 := hX9
    obtain ⟨hOx33, a33, hG_a33, hN9_a33, hMx_a33, hMx33⟩ := q33
    have hN_a33 := hX.new0 (hT.no hN9_a33) hN9_a33
    have hP : va_P D vwCl w33 H := hP9
    have hD : va_D A w33 := hD9
    have hT : cT cy G33 w33 := hT9
    have hG_b := hX9.1 _ _ hG_b
    have hO_q28 := hOx33
    have hM_a33 := hMx_a33
    have hM_q28 : cIn w33 q28 (.inr (3, [.ref b, .ref a33, .int 3, .long 0, .long 0])) := hMx33
    have hX := hX.trN hN_q28 hX9
    obtain ⟨Gk33, hGk⟩ : ∃ z, z = va_up G33 q28 (some (3, 3, 8 * w + h)) := ⟨_, rfl⟩
    have hE9 : cE G33 Gk33 := by rw [hGk]; exact cE.add hO_q28
    have hG_q28 : Gk33 q28 = some (3, 3, 8 * w + h) := by rw [hGk]; simp [va_up]
    have hG_b := hE9 _ _ hG_b
    have hG_a33 := hE9 _ _ hG_a33
    have hT : cT cy Gk33 w33 := by rw [hGk]; exact hT.kind hO_q28 hM_q28 (by rw [← hGk]; exact ⟨_, _, _, _, _, _, _, _, rfl, hG_b, hG_a33, ⟨rfl, Or.inr (Or.inr (Or.inl ⟨rfl, rfl⟩))⟩⟩)
    have hX := hX.trN hN_q28 (show cX (some q28) (chs []) G33 w33 Gk33 w33 by rw [hGk]; exact cX.kind hO_q28)
    have hJ_q28 : cJk Gk33 3 (8 * w + h) w h [] := ⟨rfl, Or.inr (Or.inr (Or.inl ⟨rfl, rfl⟩))⟩
    refine W.widen (k := 3) (n := 86) (Nat.le_of_ble_eq_true rfl) (Nat.le_of_ble_eq_true rfl) ?_
    exact W.aret (v := .ref q28) hx hb hr (Or.inl ⟨_, rfl⟩) (Or.inr ⟨_, rfl⟩) (fun t ht hW => ⟨⟨(some q28), (Gk33, w33), rfl, ⟨hX, (by have ek9 : kcl kind = 3 := (by unfold kcl; rw [if_pos s1_0]); rw [ek9]; exact ⟨_, rfl, hG_q28, hN_q28, _, _, hG_a33, hN_a33, hM_q28, hM_a33, (fun z9 => absurd z9 (by decide))⟩)⟩, by show va_P D vwCl w33 t.heap; rw [ht]; exact hP, hD, hT⟩, hS.F ht⟩) hS.2.2 dX9_newJob_36
  by_cases s1_1 : kind.toInt = 2
  · skip
    refine lv_tableIn (off := 36) (tgt := 37) hx hb dX9_newJob_1 (by omega) (by omega) (by rw [s1_1]; rfl) (by decide) ?_
    refine t_new (C := RX1) (T := TX1) (N := 5) (ci := 1) (ty0 := tyX1) (fs := [.null, .null, .int 0, .long 0, .long 0]) hx hb hts (by decide +kernel) tyX1_ok hown (hts (.classLink RX9 297 RX1) (by decide +kernel)) (hts (.instantiable RX1 5) (by decide +kernel)) (hts (.initialized RX1) (by decide +kernel)) hK hP hD hS hA hT rfl (by decide +kernel) (Nat.le_of_ble_eq_true rfl) (Nat.le_of_ble_eq_true rfl) dX9_newJob_37 (fun q37 H w37 hM_q37 hO_q37 hF37 hX37 hk37 hP hD hT hS => ?_)
    have hN_q37 := hX.new0 hO_q37 hF37
    have hX := hX.tr (hX37 _ _)
    refine lv_dup hx hb dX9_newJob_40 rfl ?_
    refine lv_aload_n hx hb dX9_newJob_41 rfl (lv_at hl 1 rfl) ?_
    refine t_callv (va_runI (g := F0 m 42 ls ([.ref b, .ref q37, .ref q37])) (As := [.ref b]) (rest := [.ref q37]) (b := q37) ⟨hx, hb, hml, hown, hts⟩ (c_X1_init_w l D cy A G w37 q37 b hD hT hO_q37 hM_q37 hG_b (by unfold cKc; omega)) (cwI 1 hts gX9_newJob_X1_init rfl rfl rfl (hts (.initialized RX1) (by decide +kernel)) (hts (.methodLink RX9 299 yX1_init) (by decide +kernel)) (hts (.instanceMethod yX1_init) (by decide +kernel)) rfl (by decide +kernel) ⟨Nat.le_of_ble_eq_true rfl, Nat.le_of_ble_eq_true rfl⟩) (c_preS hP hK hA hS hV) rfl rfl hl.1 rfl (lv_room (Nat.le_of_ble_eq_true rfl)) dX9_newJob_42 ⟨Nat.le_of_ble_eq_true rfl, Nat.le_of_ble_eq_true rfl⟩) hS (fun u H locs q42 hP9 hD9 hT9 hS => ?_)
    obtain ⟨G42, w42⟩ := u
    obtain ⟨hX9, q42⟩ := q42
    have hX9 : cX (some q37) (chs []) G w37 G42 w42 := hX9
    obtain ⟨hOx42, a42, hG_a42, hN9_a42, hMx_a42, hMx42⟩ := q42
    have hN_a42 := hX.new0 (hT.no hN9_a42) hN9_a42
    have hP : va_P D vwCl w42 H := hP9
    have hD : va_D A w42 := hD9
    have hT : cT cy G42 w42 := hT9
    have hG_b := hX9.1 _ _ hG_b
    have hO_q37 := hOx42
    have hM_a42 := hMx_a42
    have hM_q37 : cIn w42 q37 (.inr (1, [.ref b, .ref a42, .int 3, .long 0, .long 0])) := hMx42
    have hX := hX.trN hN_q37 hX9
    obtain ⟨Gk42, hGk⟩ : ∃ z, z = va_up G42 q37 (some (3, 1, 8 * w + h)) := ⟨_, rfl⟩
    have hE9 : cE G42 Gk42 := by rw [hGk]; exact cE.add hO_q37
    have hG_q37 : Gk42 q37 = some (3, 1, 8 * w + h) := by rw [hGk]; simp [va_up]
    have hG_b := hE9 _ _ hG_b
    have hG_a42 := hE9 _ _ hG_a42
    have hT : cT cy Gk42 w42 := by rw [hGk]; exact hT.kind hO_q37 hM_q37 (by rw [← hGk]; exact ⟨_, _, _, _, _, _, _, _, rfl, hG_b, hG_a42, ⟨rfl, Or.inl ⟨rfl, rfl⟩⟩⟩)
    have hX := hX.trN hN_q37 (show cX (some q37) (chs []) G42 w42 Gk42 w42 by rw [hGk]; exact cX.kind hO_q37)
    have hJ_q37 : cJk Gk42 1 (8 * w + h) w h [] := ⟨rfl, Or.inl ⟨rfl, rfl⟩⟩
    refine W.widen (k := 3) (n := 86) (Nat.le_of_ble_eq_true rfl) (Nat.le_of_ble_eq_true rfl) ?_
    exact W.aret (v := .ref q37) hx hb hr (Or.inl ⟨_, rfl⟩) (Or.inr ⟨_, rfl⟩) (fun t ht hW => ⟨⟨(some q37), (Gk42, w42), rfl, ⟨hX, (by have ek9 : kcl kind = 1 := (by unfold kcl; rw [if_neg s1_0, if_pos s1_1]); rw [ek9]; exact ⟨_, rfl, hG_q37, hN_q37, _, _, hG_a42, hN_a42, hM_q37, hM_a42, (fun z9 => absurd z9 (by decide))⟩)⟩, by show va_P D vwCl w42 t.heap; rw [ht]; exact hP, hD, hT⟩, hS.F ht⟩) hS.2.2 dX9_newJob_45
  by_cases s1_2 : kind.toInt = 3
  · skip
    refine lv_tableIn (off := 45) (tgt := 46) hx hb dX9_newJob_1 (by omega) (by omega) (by rw [s1_2]; rfl) (by decide) ?_
    refine t_new (C := RX5) (T := TX5) (N := 6) (ci := 4) (ty0 := tyX5) (fs := [.null, .null, .int 0, .long 0, .long 0, .null]) hx hb hts (by decide +kernel) tyX5_ok hown (hts (.classLink RX9 112 RX5) (by decide +kernel)) (hts (.instantiable RX5 6) (by decide +kernel)) (hts (.initialized RX5) (by decide +kernel)) hK hP hD hS hA hT rfl (by decide +kernel) (Nat.le_of_ble_eq_true rfl) (Nat.le_of_ble_eq_true rfl) dX9_newJob_46 (fun q46 H w46 hM_q46 hO_q46 hF46 hX46 hk46 hP hD hT hS => ?_)
    have hN_q46 := hX.new0 hO_q46 hF46
    have hX := hX.tr (hX46 _ _)
    refine lv_dup hx hb dX9_newJob_49 rfl ?_
    refine lv_aload_n hx hb dX9_newJob_50 rfl (lv_at hl 1 rfl) ?_
    refine t_callv (va_runI (g := F0 m 51 ls ([.ref b, .ref q46, .ref q46])) (As := [.ref b]) (rest := [.ref q46]) (b := q46) ⟨hx, hb, hml, hown, hts⟩ (c_X5_init_w l D cy A G w46 q46 b hD hT hO_q46 hM_q46 hG_b ) (cwI 1 hts gX9_newJob_X5_init rfl rfl rfl (hts (.initialized RX5) (by decide +kernel)) (hts (.methodLink RX9 300 yX5_init) (by decide +kernel)) (hts (.instanceMethod yX5_init) (by decide +kernel)) rfl (by decide +kernel) ⟨Nat.le_of_ble_eq_true rfl, Nat.le_of_ble_eq_true rfl⟩) (c_preS hP hK hA hS hV) rfl rfl hl.1 rfl (lv_room (Nat.le_of_ble_eq_true rfl)) dX9_newJob_51 ⟨Nat.le_of_ble_eq_true rfl, Nat.le_of_ble_eq_true rfl⟩) hS (fun u H locs q51 hP9 hD9 hT9 hS => ?_)
    obtain ⟨G51, w51⟩ := u
    obtain ⟨hX9, q51⟩ := q51
    have hX9 : cX (some q46) (chs []) G w46 G51 w51 := hX9
    obtain ⟨hOx51, a51, hG_a51, hN9_a51, hMx_a51, c51, hG_c51, hN9_c51, hne_c51, hMx_c51, hMx51⟩ := q51
    have hN_a51 := hX.new0 (hT.no hN9_a51) hN9_a51
    have hN_c51 := hX.new0 (hT.no hN9_c51) hN9_c51
    have hP : va_P D vwCl w51 H := hP9
    have hD : va_D A w51 := hD9
    have hT : cT cy G51 w51 := hT9
    have hG_b := hX9.1 _ _ hG_b
    have hO_q46 := hOx51
    have hM_a51 := hMx_a51
    have hM_c51 := hMx_c51
    have hM_q46 : cIn w51 q46 (.inr (4, [.ref b, .ref a51, .int 3, .long 0, .long 0, .ref c51])) := hMx51
    have hX := hX.trN hN_q46 hX9
    have hb9 := cb_mul (c_hb hT hG_b)
    obtain ⟨Gk51, hGk⟩ : ∃ z, z = va_up G51 q46 (some (3, 4, 8 * w + h)) := ⟨_, rfl⟩
    have hE9 : cE G51 Gk51 := by rw [hGk]; exact cE.add hO_q46
    have hG_q46 : Gk51 q46 = some (3, 4, 8 * w + h) := by rw [hGk]; simp [va_up]
    have hG_b := hE9 _ _ hG_b
    have hG_a51 := hE9 _ _ hG_a51
    have hG_c51 := hE9 _ _ hG_c51
    have hT : cT cy Gk51 w51 := by rw [hGk]; exact hT.kind hO_q46 hM_q46 (by rw [← hGk]; exact ⟨_, _, _, _, _, _, _, _, rfl, hG_b, hG_a51, ⟨rfl, Or.inr (Or.inr (Or.inr ⟨rfl, _, rfl, hG_c51⟩))⟩⟩)
    have hX := hX.trN hN_q46 (show cX (some q46) (chs []) G51 w51 Gk51 w51 by rw [hGk]; exact cX.kind hO_q46)
    have hJ_q46 : cJk Gk51 4 (8 * w + h) w h [.ref c51] := ⟨rfl, Or.inr (Or.inr (Or.inr ⟨rfl, _, rfl, hG_c51⟩))⟩
    refine W.widen (k := 3) (n := 86) (Nat.le_of_ble_eq_true rfl) (Nat.le_of_ble_eq_true rfl) ?_
    exact W.aret (v := .ref q46) hx hb hr (Or.inl ⟨_, rfl⟩) (Or.inr ⟨_, rfl⟩) (fun t ht hW => ⟨⟨(some q46), (Gk51, w51), rfl, ⟨hX, (by have ek9 : kcl kind = 4 := (by unfold kcl; rw [if_neg s1_0, if_neg s1_1, if_pos s1_2]); rw [ek9]; exact ⟨_, rfl, hG_q46, hN_q46, _, _, hG_a51, hN_a51, hM_q46, hM_a51, (fun _ => ⟨_, rfl, hG_c51, hN_c51, hne_c51, hM_c51⟩)⟩)⟩, by show va_P D vwCl w51 t.heap; rw [ht]; exact hP, hD, hT⟩, hS.F ht⟩) hS.2.2 dX9_newJob_54
  refine lv_tableOut (tgt := 55) hx hb dX9_newJob_1 (by omega) (by decide) ?_
  refine t_new (C := RX3) (T := TX3) (N := 5) (ci := 2) (ty0 := tyX3) (fs := [.null, .null, .int 0, .long 0, .long 0]) hx hb hts (by decide +kernel) tyX3_ok hown (hts (.classLink RX9 15 RX3) (by decide +kernel)) (hts (.instantiable RX3 5) (by decide +kernel)) (hts (.initialized RX3) (by decide +kernel)) hK hP hD hS hA hT rfl (by decide +kernel) (Nat.le_of_ble_eq_true rfl) (Nat.le_of_ble_eq_true rfl) dX9_newJob_55 (fun q55 H w55 hM_q55 hO_q55 hF55 hX55 hk55 hP hD hT hS => ?_)
  have hN_q55 := hX.new0 hO_q55 hF55
  have hX := hX.tr (hX55 _ _)
  refine lv_dup hx hb dX9_newJob_58 rfl ?_
  refine lv_aload_n hx hb dX9_newJob_59 rfl (lv_at hl 1 rfl) ?_
  refine t_callv (va_runI (g := F0 m 60 ls ([.ref b, .ref q55, .ref q55])) (As := [.ref b]) (rest := [.ref q55]) (b := q55) ⟨hx, hb, hml, hown, hts⟩ (c_X3_init_w l D cy A G w55 q55 b hD hT hO_q55 hM_q55 hG_b (by unfold cKc; omega)) (cwI 1 hts gX9_newJob_X3_init rfl rfl rfl (hts (.initialized RX3) (by decide +kernel)) (hts (.methodLink RX9 301 yX3_init) (by decide +kernel)) (hts (.instanceMethod yX3_init) (by decide +kernel)) rfl (by decide +kernel) ⟨Nat.le_of_ble_eq_true rfl, Nat.le_of_ble_eq_true rfl⟩) (c_preS hP hK hA hS hV) rfl rfl hl.1 rfl (lv_room (Nat.le_of_ble_eq_true rfl)) dX9_newJob_60 ⟨Nat.le_of_ble_eq_true rfl, Nat.le_of_ble_eq_true rfl⟩) hS (fun u H locs q60 hP9 hD9 hT9 hS => ?_)
  obtain ⟨G60, w60⟩ := u
  obtain ⟨hX9, q60⟩ := q60
  have hX9 : cX (some q55) (chs []) G w55 G60 w60 := hX9
  obtain ⟨hOx60, a60, hG_a60, hN9_a60, hMx_a60, hMx60⟩ := q60
  have hN_a60 := hX.new0 (hT.no hN9_a60) hN9_a60
  have hP : va_P D vwCl w60 H := hP9
  have hD : va_D A w60 := hD9
  have hT : cT cy G60 w60 := hT9
  have hG_b := hX9.1 _ _ hG_b
  have hO_q55 := hOx60
  have hM_a60 := hMx_a60
  have hM_q55 : cIn w60 q55 (.inr (2, [.ref b, .ref a60, .int 3, .long 0, .long 0])) := hMx60
  have hX := hX.trN hN_q55 hX9
  obtain ⟨Gk60, hGk⟩ : ∃ z, z = va_up G60 q55 (some (3, 2, 8 * w + h)) := ⟨_, rfl⟩
  have hE9 : cE G60 Gk60 := by rw [hGk]; exact cE.add hO_q55
  have hG_q55 : Gk60 q55 = some (3, 2, 8 * w + h) := by rw [hGk]; simp [va_up]
  have hG_b := hE9 _ _ hG_b
  have hG_a60 := hE9 _ _ hG_a60
  have hT : cT cy Gk60 w60 := by rw [hGk]; exact hT.kind hO_q55 hM_q55 (by rw [← hGk]; exact ⟨_, _, _, _, _, _, _, _, rfl, hG_b, hG_a60, ⟨rfl, Or.inr (Or.inl ⟨rfl, rfl⟩)⟩⟩)
  have hX := hX.trN hN_q55 (show cX (some q55) (chs []) G60 w60 Gk60 w60 by rw [hGk]; exact cX.kind hO_q55)
  have hJ_q55 : cJk Gk60 2 (8 * w + h) w h [] := ⟨rfl, Or.inr (Or.inl ⟨rfl, rfl⟩)⟩
  refine W.widen (k := 3) (n := 86) (Nat.le_of_ble_eq_true rfl) (Nat.le_of_ble_eq_true rfl) ?_
  exact W.aret (v := .ref q55) hx hb hr (Or.inl ⟨_, rfl⟩) (Or.inr ⟨_, rfl⟩) (fun t ht hW => ⟨⟨(some q55), (Gk60, w60), rfl, ⟨hX, (by have ek9 : kcl kind = 2 := (by unfold kcl; rw [if_neg s1_0, if_neg s1_1, if_neg s1_2]); rw [ek9]; exact ⟨_, rfl, hG_q55, hN_q55, _, _, hG_a60, hN_a60, hM_q55, hM_a60, (fun z9 => absurd z9 (by decide))⟩)⟩, by show va_P D vwCl w60 t.heap; rw [ht]; exact hP, hD, hT⟩, hS.F ht⟩) hS.2.2 dX9_newJob_63
set_option maxHeartbeats 4000000 in
set_option maxRecDepth 100000 in
theorem c_X9_job_z (l : Launch) (D : va_G) (cy : Nat → ClassId) (A : Nat → Prop) (G : cG) (ws : va_W) (o : Nat) (kind : Int32) (wide : Int32) (high : Int32) {bs_o js_o sh_o wk_o ll_o : Nat} {jc_o lc_o : Int32} {mo_o lb_o : Option Nat} {fa : Nat → Option Nat} {Wd Ht : Nat → Nat} (hD : va_D A ws) (hT : cT cy G ws) (hG_o : G o = some (7, 0, 0)) (hM_o : cIn ws o (.inr (8, [.ref bs_o, .ref js_o, .int jc_o, .ref sh_o, .ref wk_o, va_rf mo_o, .ref ll_o, .int lc_o, va_rf lb_o]))) (hM_js_o : cIn ws js_o (.inl (cy 4, cqa 8 fa)))  : Ci l D cy A yX9_job wsX9_job ({ frames := 6, cells := 7, slots := 588, locals := 124 }) 7 588 ws [.ref o, .int kind, .int wide, .int high] (fun r0 u => cX none (chs [1, 7, 8, 9]) G ws u.1 u.2 ∧ (r0.toInt = jA kind wide high jc_o ∧ ∃ jc fb, cIn u.2 o (.inr (8, [.ref bs_o, .ref js_o, .int jc, .ref sh_o, .ref wk_o, va_rf mo_o, .ref ll_o, .int lc_o, va_rf lb_o])) ∧ cIn u.2 js_o (.inl (cy 4, cqa 8 fb)) ∧ ((okJ kind wide high jc_o ∧ jc.toInt = jc_o.toInt + 1 ∧ ∃ x b a ms, fb = va_up fa jc_o.toNatClampNeg (some x) ∧ u.1 x = some (3, kcl kind, 8 * wide.toNatClampNeg + high.toNatClampNeg) ∧ (∀ e, ¬ cIn ws x e) ∧ (∀ e, ¬ cIn ws a e) ∧ cIn u.2 x (.inr (kcl kind, .ref b :: .ref a :: .int (nI 3) :: .long 0 :: .long 0 :: ms)) ∧ cIn u.2 a (.inl (cy 0, 44, .inl (fun _ => 0))) ∧ (kcl kind = 4 → ∃ c, ms = [.ref c] ∧ (∀ e, ¬ cIn ws c e) ∧ c ≠ a ∧ cIn u.2 c (.inl (cy 0, wide.toNatClampNeg * high.toNatClampNeg, .inl (fun _ => 0))))) ∨ (¬ okJ kind wide high jc_o ∧ jc = jc_o ∧ fb = fa)))) := by
  refine Met.ofW (cc := cX9_job) (maxL := 5) (ret := (some .int)) (by decide) rfl ?_
  intro p e s m args below meth c s₁ B hml hv
  obtain ⟨rfl, hP, hK, hA, hV⟩ := hv
  have hx := B.exec
  have hb := B.bytes
  have hr := B.returns
  have hts := atoms_spec (ws := wsX9_job) B.pre
  have hown : s.vm.findClass RX9 = some m.cls := findClass_of_methodNamed B.named
  have hlocks := B.notSynchronized
  have hS : va_S A s.heap s.heap [] := va_S.rf
  have hX : cX none (chs [1, 7, 8, 9]) G ws G ws := cX.rf
  have hl := lv_entry ([.ref o, .int kind, .int wide, .int high]) (n := 5) (Nat.le_of_ble_eq_true rfl)
  rw [lg_entry_eq]
  generalize (lg_sl ([.ref o, .int kind, .int wide, .int high]) ++ List.replicate (5 - (lg_sl ([.ref o, .int kind, .int wide, .int high])).length) Slot.unset).toArray = ls at hl ⊢
  have hl : lv_has ls 5 [(0, .ref o), (1, .int kind), (2, .int wide), (3, .int high)] := hl
  have k_m2 : (-2 : Int32).toInt = -2 := by decide
  have k_m1 : (-1 : Int32).toInt = -1 := by decide
  have k_0 : (0 : Int32).toInt = 0 := by decide
  have k_1 : (1 : Int32).toInt = 1 := by decide
  have k_3 : (3 : Int32).toInt = 3 := by decide
  have k_8 : (8 : Int32).toInt = 8 := by decide
  obtain ⟨hjc_o, hlc_o, hG_bs_o, hG_js_o, hG_sh_o, hG_wk_o, hmo_o, hG_ll_o, hlb_o⟩ := w7sh hD hT hG_o hM_o
  have hf_js_o := w9sh hD hT hG_js_o hM_js_o
  refine lv_aload_n hx hb dX9_job_0 rfl (lv_at hl 0 rfl) ?_
  refine lv_iload_n hx hb dX9_job_1 rfl (lv_at hl 2 rfl) ?_
  refine lv_iload_n hx hb dX9_job_2 rfl (lv_at hl 3 rfl) ?_
  refine t_calla (va_runV (g := F0 m 3 ls ([.int high, .int wide, .ref o])) (As := [.int wide, .int high]) (rest := []) ⟨hx, hb, hml, hown, hts⟩ (c_X9_boardOf_x l D cy A G ws o wide high hD hT hG_o ) (cwV 2 hts gX9_job_X9_boardOf rfl rfl rfl (by decide +kernel) ⟨Nat.le_of_ble_eq_true rfl, Nat.le_of_ble_eq_true rfl⟩) (c_preV hM_o rfl hP hK hA hS hV) rfl rfl hl.1 rfl (lv_room (Nat.le_of_ble_eq_true rfl)) dX9_job_3 ⟨Nat.le_of_ble_eq_true rfl, Nat.le_of_ble_eq_true rfl⟩) hS (fun r3 u H locs q3 hP9 hD9 hT9 hS => ?_)
  obtain ⟨G3, w3⟩ := u
  obtain ⟨hX9, q3⟩ := q3
  have hX9 : cX none (chs [1, 8]) G ws G3 w3 := hX9
  have hP : va_P D vwCl w3 H := hP9
  have hD : va_D A w3 := hD9
  have hT : cT cy G3 w3 := hT9
  have hM_o := hX9.2.1 _ _ (cP.no hG_o rfl) hM_o
  have hM_js_o := hX9.2.1 _ _ (cP.no hG_js_o rfl) hM_js_o
  have hG_o := hX9.1 _ _ hG_o
  have hG_bs_o := hX9.1 _ _ hG_bs_o
  have hG_js_o := hX9.1 _ _ hG_js_o
  have hG_sh_o := hX9.1 _ _ hG_sh_o
  have hG_wk_o := hX9.1 _ _ hG_wk_o
  have hG_ll_o := hX9.1 _ _ hG_ll_o
  have hf_js_o := fun i9 x9 (h9 : i9 < 8) z9 => (hf_js_o i9 x9 h9 z9).elim fun k9 z8 => z8.elim fun n9 z7 => (⟨k9, n9, hX9.1 _ _ z7⟩ : ∃ k n, G3 x9 = some (3, k, n))
  have hmo_o := fun x9 z9 => hX9.1 _ _ (hmo_o x9 z9)
  have hlb_o : ∀ x9, lb_o = some x9 → ∃ w9 h9, _ = some (2, w9, h9) := fun x9 z9 => (hlb_o x9 z9).elim fun w9 z9 => z9.elim fun h9 z9 => ⟨w9, h9, hX9.1 _ _ z9⟩
  have hX := hX.tr (hX9.wk (chs_sub (by decide)))
  rcases r3 with _ | x3
  · skip
    have vn3 := q3.2.1 rfl
    refine lv_astoreN (lv' := [(4, .null), (0, .ref o), (1, .int kind), (2, .int wide), (3, .int high)]) hx hb dX9_job_6 hl (by decide) rfl (fun ls hl => ?_)
    refine lv_aloadN hx hb dX9_job_8 (lv_at hl 0 rfl) ?_
    refine lv_ifnullN (tgt := 22) hx hb dX9_job_10 (by decide) ?_
    refine lv_iconst (v := (-1)) hx hb dX9_job_22 (by decide) ?_
    refine W.widen (k := 7) (n := 588) (Nat.le_of_ble_eq_true rfl) (Nat.le_of_ble_eq_true rfl) ?_
    exact W.iret (v := ((-1) : Int32)) hx hb hr (fun t ht hW => ⟨⟨_, (G3, w3), rfl, ⟨hX, ⟨(by unfold jA; rw [if_neg (by omega)]; rfl), _, _, hM_o, hM_js_o, Or.inr ⟨(by unfold okJ; omega), rfl, rfl⟩⟩⟩, by show va_P D vwCl w3 t.heap; rw [ht]; exact hP, hD, hT⟩, hS.F ht⟩) hS.2.2 dX9_job_23
  · skip
    have hG_x3 := q3.1 x3 rfl
    have vb3 := q3.2.2 x3 rfl
    refine lv_astore (lv' := [(4, .ref x3), (0, .ref o), (1, .int kind), (2, .int wide), (3, .int high)]) hx hb dX9_job_6 hl (by decide) rfl (fun ls hl => ?_)
    refine lv_aload hx hb dX9_job_8 (lv_at hl 0 rfl) ?_
    refine lv_ifnull hx hb dX9_job_10 ?_
    refine lv_iload_n hx hb dX9_job_13 rfl (lv_at hl 2 rfl) ?_
    refine lv_if_lt (tgt := 22) hx hb dX9_job_14 (by decide) (fun c14 => ?_) (fun c14 => ?_)
    · skip
      have d14 := c14
      rw [fa_lt] at d14
      refine lv_iconst (v := (-1)) hx hb dX9_job_22 (by decide) ?_
      refine W.widen (k := 7) (n := 588) (Nat.le_of_ble_eq_true rfl) (Nat.le_of_ble_eq_true rfl) ?_
      exact W.iret (v := ((-1) : Int32)) hx hb hr (fun t ht hW => ⟨⟨_, (G3, w3), rfl, ⟨hX, ⟨(by unfold jA; rw [if_neg (by omega)]; rfl), _, _, hM_o, hM_js_o, Or.inr ⟨(by unfold okJ; omega), rfl, rfl⟩⟩⟩, by show va_P D vwCl w3 t.heap; rw [ht]; exact hP, hD, hT⟩, hS.F ht⟩) hS.2.2 dX9_job_23
    · skip
      have d14 := c14
      rw [fa_lt] at d14
      refine lv_iload_n hx hb dX9_job_17 rfl (lv_at hl 2 rfl) ?_
      refine lv_iconst (v := 3) hx hb dX9_job_18 (by decide) ?_
      refine lv_icmp_le (tgt := 24) hx hb dX9_job_19 (by decide) (fun c19 => ?_) (fun c19 => ?_)
      · skip
        have d19 := c19
        rw [fa_le] at d19
        refine lv_aload_n hx hb dX9_job_24 rfl (lv_at hl 1 rfl) ?_
        refine t_get (v := .int jc_o) (C := RX9) (T := TX9) (N := 9) hx hb hts (by decide +kernel) hown hK hP hM_o rfl 2 (by decide) (hts (.fieldLink RX9 21 "ShadowBench" "jobCount" "I") (by decide +kernel)) (fun _ h9 => h9) rfl dX9_job_25 ?_
        refine lv_bipush (v := 8) hx hb dX9_job_28 (by decide) ?_
        refine lv_icmp_lt (tgt := 36) hx hb dX9_job_30 (by decide) (fun c30 => ?_) (fun c30 => ?_)
        · skip
          have d30 := c30
          rw [fa_lt] at d30
          refine lv_aload_n hx hb dX9_job_36 rfl (lv_at hl 1 rfl) ?_
          refine t_get (v := .ref js_o) (C := RX9) (T := TX9) (N := 9) hx hb hts (by decide +kernel) hown hK hP hM_o rfl 1 (by decide) (hts (.fieldLink RX9 17 "ShadowBench" "jobs" "[LShadowBench$Job;") (by decide +kernel)) (fun _ h9 => h9) rfl dX9_job_37 ?_
          refine lv_aload_n hx hb dX9_job_40 rfl (lv_at hl 1 rfl) ?_
          refine t_get (v := .int jc_o) (C := RX9) (T := TX9) (N := 9) hx hb hts (by decide +kernel) hown hK hP hM_o rfl 2 (by decide) (hts (.fieldLink RX9 21 "ShadowBench" "jobCount" "I") (by decide +kernel)) (fun _ h9 => h9) rfl dX9_job_41 ?_
          refine lv_iload_n hx hb dX9_job_44 rfl (lv_at hl 2 rfl) ?_
          refine lv_aload hx hb dX9_job_45 (lv_at hl 0 rfl) ?_
          have hT47 := hT
          have hX47 := hX
          refine t_calla (va_runS (g := F0 m 47 ls ([.ref x3, .int kind, .int jc_o, .ref js_o])) (As := [.int kind, .ref x3]) (rest := [.int jc_o, .ref js_o]) ⟨hx, hb, hml, hown, hts⟩ (c_X9_newJob_z l D cy A G3 w3 kind x3 hD hT hG_x3 ) (va_cwS 2 hts gX9_job_X9_newJob rfl rfl rfl (by decide +kernel) ⟨Nat.le_of_ble_eq_true rfl, Nat.le_of_ble_eq_true rfl⟩) (c_preS hP hK hA hS hV) rfl rfl hl.1 rfl (lv_room (Nat.le_of_ble_eq_true rfl)) dX9_job_47 ⟨Nat.le_of_ble_eq_true rfl, Nat.le_of_ble_eq_true rfl⟩) hS (fun r47 u H locs q47 hP9 hD9 hT9 hS => ?_)
          obtain ⟨G47, w47⟩ := u
          obtain ⟨hX9, q47⟩ := q47
          have hX9 : cX none (chs []) G3 w3 G47 w47 := hX9
          have hP : va_P D vwCl w47 H := hP9
          have hD : va_D A w47 := hD9
          have hT : cT cy G47 w47 := hT9
          have hM_o := hX9.2.1 _ _ (cP.no hG_o rfl) hM_o
          have hM_js_o := hX9.2.1 _ _ (cP.no hG_js_o rfl) hM_js_o
          have hG_o := hX9.1 _ _ hG_o
          have hG_bs_o := hX9.1 _ _ hG_bs_o
          have hG_js_o := hX9.1 _ _ hG_js_o
          have hG_sh_o := hX9.1 _ _ hG_sh_o
          have hG_wk_o := hX9.1 _ _ hG_wk_o
          have hG_ll_o := hX9.1 _ _ hG_ll_o
          have hG_x3 := hX9.1 _ _ hG_x3
          have hf_js_o := fun i9 x9 (h9 : i9 < 8) z9 => (hf_js_o i9 x9 h9 z9).elim fun k9 z8 => z8.elim fun n9 z7 => (⟨k9, n9, hX9.1 _ _ z7⟩ : ∃ k n, G47 x9 = some (3, k, n))
          have hmo_o := fun x9 z9 => hX9.1 _ _ (hmo_o x9 z9)
          have hlb_o : ∀ x9, lb_o = some x9 → ∃ w9 h9, _ = some (2, w9, h9) := fun x9 z9 => (hlb_o x9 z9).elim fun w9 z9 => z9.elim fun h9 z9 => ⟨w9, h9, hX9.1 _ _ z9⟩
          have hX := hX.tr (hX9.wk (chs_sub (by decide)))
          obtain ⟨x47, rfl, hG_x47, hNx47, an47, mn47, hG_an47, hNa47, hMx47, hMa47, hmk47⟩ := q47
          have hM_x47 : cIn w47 x47 (.inr (kcl kind, .ref x3 :: .ref an47 :: .int (nI 3) :: .long 0 :: .long 0 :: mn47)) := hMx47
          have hM_an47 := hMa47
          refine t_aast9f hx hb hV hK hP hD hS hT hG_js_o hM_js_o hf_js_o hG_x47 (vp_in_iff.mpr ⟨by omega, by omega⟩) dX9_job_50 (fun H locs w50 hU50 hM9_js_o hf9_js_o hP hD hT hS => ?_)
          have hM_o := hU50 _ _ (cne hG_o hG_js_o (show (7 : Nat) ≠ 9 by decide)) hM_o
          have hM_x47 := hU50 _ _ (cne hG_x47 hG_js_o (show (3 : Nat) ≠ 9 by decide)) hM_x47
          have hM_an47 := hU50 _ _ (cne hG_an47 hG_js_o (show (14 : Nat) ≠ 9 by decide)) hM_an47
          have hM_js_o := hM9_js_o
          have hf_js_o := hf9_js_o
          have hX := hX.tr (cX.uF hU50 (Or.inr ⟨_, hG_js_o, rfl⟩))
          refine lv_aload_n hx hb dX9_job_51 rfl (lv_at hl 1 rfl) ?_
          refine lv_dup hx hb dX9_job_52 rfl ?_
          refine t_get (v := .int jc_o) (C := RX9) (T := TX9) (N := 9) hx hb hts (by decide +kernel) hown hK hP hM_o rfl 2 (by decide) (hts (.fieldLink RX9 21 "ShadowBench" "jobCount" "I") (by decide +kernel)) (fun _ h9 => h9) rfl dX9_job_53 ?_
          refine lv_iconst (v := 1) hx hb dX9_job_56 (by decide) ?_
          refine lv_iadd hx hb dX9_job_57 ?_
          refine lv_topi (fun v57 e57 => ?_)
          have i57 : v57.toInt = jc_o.toInt + (1 : Int32).toInt := by rw [e57]; exact fb_addI (by omega) (by omega)
          refine t_put (v := .int v57) (C := RX9) (T := TX9) (N := 9) (ty0 := tyX9) hx hb hts (by decide +kernel) tyX9_ok nmX9 hown hK hP hD hS hM_o rfl 2 (by decide) (hts (.fieldLink RX9 21 "ShadowBench" "jobCount" "I") (by decide +kernel)) (fun _ h9 => h9) rfl rfl rfl (Nat.le_of_ble_eq_true rfl) dX9_job_58 (fun H locs w58 hU58 hP hD hS => ?_)
          have hM_js_o := hU58.2 _ _ (cne hG_js_o hG_o (show (9 : Nat) ≠ 7 by decide)) hM_js_o
          have hM_x47 := hU58.2 _ _ (cne hG_x47 hG_o (show (3 : Nat) ≠ 7 by decide)) hM_x47
          have hM_an47 := hU58.2 _ _ (cne hG_an47 hG_o (show (14 : Nat) ≠ 7 by decide)) hM_an47
          have hT := hT.up hU58 hG_o ⟨_, _, _, _, _, _, _, mo_o, lb_o, rfl, ⟨by omega, by omega⟩, ⟨by omega, by omega⟩, hG_bs_o, hG_js_o, hG_sh_o, hG_wk_o, hmo_o, hG_ll_o, hlb_o⟩
          have hM_o : cIn w58 o (.inr (8, [.ref bs_o, .ref js_o, .int v57, .ref sh_o, .ref wk_o, va_rf mo_o, .ref ll_o, .int lc_o, va_rf lb_o])) := hU58.1
          have hX := hX.tr (cX.up hU58 (Or.inr ⟨_, hG_o, rfl⟩))
          refine lv_aload_n hx hb dX9_job_61 rfl (lv_at hl 1 rfl) ?_
          refine t_get (v := .int v57) (C := RX9) (T := TX9) (N := 9) hx hb hts (by decide +kernel) hown hK hP hM_o rfl 2 (by decide) (hts (.fieldLink RX9 21 "ShadowBench" "jobCount" "I") (by decide +kernel)) (fun _ h9 => h9) rfl dX9_job_62 ?_
          refine lv_iconst (v := 1) hx hb dX9_job_65 (by decide) ?_
          refine lv_isub hx hb dX9_job_66 ?_
          refine lv_topi (fun v66 e66 => ?_)
          have i66 : v66.toInt = v57.toInt - (1 : Int32).toInt := by rw [e66]; exact fb_subI (by omega) (by omega)
          refine W.widen (k := 7) (n := 588) (Nat.le_of_ble_eq_true rfl) (Nat.le_of_ble_eq_true rfl) ?_
          exact W.iret (v := v66) hx hb hr (fun t ht hW => ⟨⟨_, (G47, w58), rfl, ⟨hX, ⟨(by unfold jA; rw [if_pos (by omega), if_pos (by omega)]; omega), _, _, hM_o, hM_js_o, Or.inl ⟨(by unfold okJ; omega), (by omega), _, _, _, _, rfl, hG_x47, (hX47.new0 (hT47.no hNx47) hNx47), (hX47.new0 (hT47.no hNa47) hNa47), hM_x47, hM_an47, (fun z9 => by obtain ⟨c9, e9, g9, n9, ne9, m9⟩ := hmk47 z9; refine ⟨c9, e9, (hX47.new0 (hT47.no n9) n9), ne9, ?_⟩; exact hU58.2 _ _ (cne g9 hG_o (show (14 : Nat) ≠ 7 by decide)) (hU50 _ _ (cne g9 hG_js_o (show (14 : Nat) ≠ 9 by decide)) m9))⟩⟩⟩, by show va_P D vwCl w58 t.heap; rw [ht]; exact hP, hD, hT⟩, hS.F ht⟩) hS.2.2 dX9_job_67
        · skip
          have d30 := c30
          rw [fa_lt] at d30
          refine lv_bipush (v := (-2)) hx hb dX9_job_33 (by decide) ?_
          refine W.widen (k := 7) (n := 588) (Nat.le_of_ble_eq_true rfl) (Nat.le_of_ble_eq_true rfl) ?_
          exact W.iret (v := ((-2) : Int32)) hx hb hr (fun t ht hW => ⟨⟨_, (G3, w3), rfl, ⟨hX, ⟨(by unfold jA; rw [if_pos (by omega), if_neg (by omega)]; rfl), _, _, hM_o, hM_js_o, Or.inr ⟨(by unfold okJ; omega), rfl, rfl⟩⟩⟩, by show va_P D vwCl w3 t.heap; rw [ht]; exact hP, hD, hT⟩, hS.F ht⟩) hS.2.2 dX9_job_35
      · skip
        have d19 := c19
        rw [fa_le] at d19
        refine lv_iconst (v := (-1)) hx hb dX9_job_22 (by decide) ?_
        refine W.widen (k := 7) (n := 588) (Nat.le_of_ble_eq_true rfl) (Nat.le_of_ble_eq_true rfl) ?_
        exact W.iret (v := ((-1) : Int32)) hx hb hr (fun t ht hW => ⟨⟨_, (G3, w3), rfl, ⟨hX, ⟨(by unfold jA; rw [if_neg (by omega)]; rfl), _, _, hM_o, hM_js_o, Or.inr ⟨(by unfold okJ; omega), rfl, rfl⟩⟩⟩, by show va_P D vwCl w3 t.heap; rw [ht]; exact hP, hD, hT⟩, hS.F ht⟩) hS.2.2 dX9_job_23

theorem cJ4c {G : cG} {n w h c : Nat} (h0 : cJk G 4 n w h [.ref c]) : G c = some (14, w * h, 0) := by
  obtain ⟨-, c', e1, e2⟩ := cJ4 h0
  simp only [List.cons.injEq, Value.ref.injEq, and_true] at e1
  rw [e1]
  exact e2
set_option maxHeartbeats 4000000 in
set_option maxRecDepth 100000 in
theorem c_X5_setMark_x (l : Launch) (D : va_G) (cy : Nat → ClassId) (A : Nat → Prop) (G : cG) (ws : va_W) (o : Nat) (s0 : Int32) (v : Int32) {w h b_o s_o c_o : Nat} {t_o : Int32} {x_o y_o : Int64} {fm : Nat → Int32} (hD : va_D A ws) (hT : cT cy G ws) (hG_o : G o = some (3, 4, 8 * w + h)) (hM_o : cIn ws o (.inr (4, [.ref b_o, .ref s_o, .int t_o, .long x_o, .long y_o, .ref c_o]))) (hM_c_o : cIn ws c_o (.inl (cy 0, (w * h), .inl fm))) (hb9 : 1 ≤ w ∧ w ≤ 6 ∧ 1 ≤ h ∧ h ≤ 6) (hs1 : 0 ≤ s0.toInt ∧ s0.toInt < ((w * h : Nat) : Int)) : Ci l D cy A yX5_setMark wsX5_setMark ({ frames := 0, cells := 0, slots := 0, locals := 0 }) 0 0 ws [.ref o, .int s0, .int v] (fun r0 u => ∃ w1, u = (G, w1) ∧ cF (fun b9 => b9 = c_o) ws w1 ∧ (Bo r0 (¬ fm s0.toNatClampNeg = v) ∧ cIn w1 c_o (.inl (cy 0, w * h, .inl (upd fm s0.toNatClampNeg v))))) := by
  refine Met.ofW (cc := cX5_setMark) (maxL := 3) (ret := (some .boolean)) (by decide) rfl ?_
  intro p e s m args below meth c s₁ B hml hv
  obtain ⟨rfl, hP, hK, hA, hV⟩ := hv
  have hx := B.exec
  have hb := B.bytes
  have hr := B.returns
  have hts := atoms_spec (ws := wsX5_setMark) B.pre
  have hown : s.vm.findClass RX5 = some m.cls := findClass_of_methodNamed B.named
  have hlocks := B.notSynchronized
  have hS : va_S A s.heap s.heap [] := va_S.rf
  have hF : cF (fun b9 => b9 = c_o) ws ws := cF.rf
  have hl := lv_entry ([.ref o, .int s0, .int v]) (n := 3) (Nat.le_of_ble_eq_true rfl)
  rw [lg_entry_eq]
  generalize (lg_sl ([.ref o, .int s0, .int v]) ++ List.replicate (3 - (lg_sl ([.ref o, .int s0, .int v])).length) Slot.unset).toArray = ls at hl ⊢
  have hl : lv_has ls 3 [(0, .ref o), (1, .int s0), (2, .int v)] := hl
  have k_0 : (0 : Int32).toInt = 0 := by decide
  have k_1 : (1 : Int32).toInt = 1 := by decide
  obtain ⟨hG_b_o, hG_s_o, hJ_o⟩ := w3sh hD hT hG_o hb9 hM_o
  have hG_c_o := cJ4c hJ_o
  have m36 := cb_mul hb9
  refine lv_iload_n hx hb dX5_setMark_0 rfl (lv_at hl 1 rfl) ?_
  refine lv_if_lt (tgt := 23) hx hb dX5_setMark_1 (by decide) (fun c1 => ?_) (fun c1 => ?_)
  · skip
    have d1 := c1
    rw [fa_lt] at d1
    refine lv_iconst (v := 0) hx hb dX5_setMark_23 (by decide) ?_
    exact W.zret (v := (0 : Int32)) hx hb hr (by decide) (fun t ht hW => ⟨⟨_, (G, ws), rfl, ⟨ws, rfl, hF, (by first | (exfalso; omega) | exact ⟨Or.inr ⟨rfl, fun z9 => z9 (e18.symm.trans c20)⟩, (by rw [upd_same (e18.symm.trans c20)]; exact hM_c_o)⟩)⟩, by show va_P D vwCl ws t.heap; rw [ht]; exact hP, hD, hT⟩, hS.F ht⟩) hS.2.2 dX5_setMark_24
  · skip
    have d1 := c1
    rw [fa_lt] at d1
    refine lv_iload_n hx hb dX5_setMark_4 rfl (lv_at hl 1 rfl) ?_
    refine lv_aload_n hx hb dX5_setMark_5 rfl (lv_at hl 0 rfl) ?_
    refine t_get (v := .ref c_o) (C := RX5) (T := TX5) (N := 6) hx hb hts (by decide +kernel) hown hK hP hM_o rfl 5 (by decide) (hts (.fieldLink RX5 13 "ShadowBench$MarkedJob" "marks" "[I") (by decide +kernel)) (fun _ h9 => h9) rfl dX5_setMark_6 ?_
    refine t_alenI hx hb hK hP hT (Or.inr (Or.inl rfl)) hG_c_o dX5_setMark_9 ?_
    have i9 : (nI (w * h)).toInt = _ := nI_toInt (by omega)
    refine lv_icmp_ge (tgt := 23) hx hb dX5_setMark_10 (by decide) (fun c10 => ?_) (fun c10 => ?_)
    · skip
      have d10 := c10
      rw [fa_le] at d10
      refine lv_iconst (v := 0) hx hb dX5_setMark_23 (by decide) ?_
      exact W.zret (v := (0 : Int32)) hx hb hr (by decide) (fun t ht hW => ⟨⟨_, (G, ws), rfl, ⟨ws, rfl, hF, (by first | (exfalso; omega) | exact ⟨Or.inr ⟨rfl, fun z9 => z9 (e18.symm.trans c20)⟩, (by rw [upd_same (e18.symm.trans c20)]; exact hM_c_o)⟩)⟩, by show va_P D vwCl ws t.heap; rw [ht]; exact hP, hD, hT⟩, hS.F ht⟩) hS.2.2 dX5_setMark_24
    · skip
      have d10 := c10
      rw [fa_le] at d10
      refine lv_aload_n hx hb dX5_setMark_13 rfl (lv_at hl 0 rfl) ?_
      refine t_get (v := .ref c_o) (C := RX5) (T := TX5) (N := 6) hx hb hts (by decide +kernel) hown hK hP hM_o rfl 5 (by decide) (hts (.fieldLink RX5 13 "ShadowBench$MarkedJob" "marks" "[I") (by decide +kernel)) (fun _ h9 => h9) rfl dX5_setMark_14 ?_
      refine lv_iload_n hx hb dX5_setMark_17 rfl (lv_at hl 1 rfl) ?_
      refine t_ialdM hx hb hK hP hM_c_o (vp_in_iff.mpr ⟨by omega, by omega⟩) dX5_setMark_18 ?_
      refine lv_topi (fun v18 e18 => ?_)
      refine lv_iload_n hx hb dX5_setMark_19 rfl (lv_at hl 2 rfl) ?_
      refine lv_icmp_ne (tgt := 25) hx hb dX5_setMark_20 (by decide) (fun c20 => ?_) (fun c20 => ?_)
      · skip
        have d20 := c20
        rw [fa_eq] at d20
        refine lv_aload_n hx hb dX5_setMark_25 rfl (lv_at hl 0 rfl) ?_
        refine t_get (v := .ref c_o) (C := RX5) (T := TX5) (N := 6) hx hb hts (by decide +kernel) hown hK hP hM_o rfl 5 (by decide) (hts (.fieldLink RX5 13 "ShadowBench$MarkedJob" "marks" "[I") (by decide +kernel)) (fun _ h9 => h9) rfl dX5_setMark_26 ?_
        refine lv_iload_n hx hb dX5_setMark_29 rfl (lv_at hl 1 rfl) ?_
        refine lv_iload_n hx hb dX5_setMark_30 rfl (lv_at hl 2 rfl) ?_
        refine t_iastK hx hb hK hP hD hS hT (Or.inr (Or.inl rfl)) hG_c_o hM_c_o (vp_in_iff.mpr ⟨by omega, by omega⟩) dX5_setMark_31 (fun H locs w31 hU31 hP hD hT hS => ?_)
        have hM_o := hU31.2 _ _ (cne hG_o hG_c_o (show (3 : Nat) ≠ 14 by decide)) hM_o
        have hM_c_o := hU31.1
        have hF := hF.tr (cF.up hU31 rfl)
        refine lv_iconst (v := 1) hx hb dX5_setMark_32 (by decide) ?_
        exact W.zret (v := (1 : Int32)) hx hb hr (by decide) (fun t ht hW => ⟨⟨_, (G, w31), rfl, ⟨w31, rfl, hF, ⟨Or.inl ⟨rfl, fun z9 => c20 (e18.trans z9)⟩, hM_c_o⟩⟩, by show va_P D vwCl w31 t.heap; rw [ht]; exact hP, hD, hT⟩, hS.F ht⟩) hS.2.2 dX5_setMark_33
      · skip
        have d20 := c20
        rw [fa_eq] at d20
        refine lv_iconst (v := 0) hx hb dX5_setMark_23 (by decide) ?_
        exact W.zret (v := (0 : Int32)) hx hb hr (by decide) (fun t ht hW => ⟨⟨_, (G, ws), rfl, ⟨ws, rfl, hF, (by first | (exfalso; omega) | exact ⟨Or.inr ⟨rfl, fun z9 => z9 (e18.symm.trans c20)⟩, (by rw [upd_same (e18.symm.trans c20)]; exact hM_c_o)⟩)⟩, by show va_P D vwCl ws t.heap; rw [ht]; exact hP, hD, hT⟩, hS.F ht⟩) hS.2.2 dX5_setMark_24
set_option maxHeartbeats 4000000 in
set_option maxRecDepth 100000 in
theorem c_X9_mark_j (l : Launch) (D : va_G) (cy : Nat → ClassId) (A : Nat → Prop) (G : cG) (ws : va_W) (o : Nat) (j : Int32) (s0 : Int32) (v : Int32) {bs_o js_o sh_o wk_o ll_o : Nat} {jc_o lc_o : Int32} {mo_o lb_o : Option Nat} {fa : Nat → Option Nat} {xj kj bj sj tj wj hj : Nat} {oj nj : Int64} {msj : List Value} {fsj : Nat → Int32} {cj : Nat} {fmj : Nat → Int32} (hD : va_D A ws) (hT : cT cy G ws) (hG_o : G o = some (7, 0, 0)) (hM_o : cIn ws o (.inr (8, [.ref bs_o, .ref js_o, .int jc_o, .ref sh_o, .ref wk_o, va_rf mo_o, .ref ll_o, .int lc_o, va_rf lb_o]))) (hM_js_o : cIn ws js_o (.inl (cy 4, cqa 8 fa))) (hJ1 : ∀ i : Nat, (i : Int) < jc_o.toInt → ∃ x, fa i = some x) (hJ : okJob jc_o j → jobS cy G ws fa j.toNatClampNeg xj kj bj sj tj wj hj oj nj msj fsj) (hJ4 : okJob jc_o j → kj = 4 → msj = [.ref cj] ∧ cIn ws cj (.inl (cy 0, wj * hj, .inl fmj))) : Ci l D cy A yX9_mark wsX9_mark ({ frames := 1, cells := 0, slots := 0, locals := 22 }) 0 0 ws [.ref o, .int j, .int s0, .int v] (fun r0 u => ∃ w1, u = (G, w1) ∧ cF (fun b9 => b9 = cj) ws w1 ∧ ((okMark9 jc_o wj hj j s0 v ∧ ((kj = 4 ∧ Bo r0 (¬ fmj s0.toNatClampNeg = v) ∧ cIn w1 cj (.inl (cy 0, wj * hj, .inl (upd fmj s0.toNatClampNeg v)))) ∨ (¬ kj = 4 ∧ r0 = -4 ∧ w1 = ws))) ∨ (¬ okMark9 jc_o wj hj j s0 v ∧ r0 = -1 ∧ w1 = ws))) := by
  refine Met.ofW (cc := cX9_mark) (maxL := 6) (ret := (some .int)) (by decide) rfl ?_
  intro p e s m args below meth c s₁ B hml hv
  obtain ⟨rfl, hP, hK, hA, hV⟩ := hv
  have hx := B.exec
  have hb := B.bytes
  have hr := B.returns
  have hts := atoms_spec (ws := wsX9_mark) B.pre
  have hown : s.vm.findClass RX9 = some m.cls := findClass_of_methodNamed B.named
  have hlocks := B.notSynchronized
  have hS : va_S A s.heap s.heap [] := va_S.rf
  have hinJ : ∀ w ∈ wsX10 ++ wsX30 ++ wsX40 ++ wsX50, w ∈ wsX9_mark := by decide +kernel
  have hF : cF (fun b9 => b9 = cj) ws ws := cF.rf
  have hl := lv_entry ([.ref o, .int j, .int s0, .int v]) (n := 6) (Nat.le_of_ble_eq_true rfl)
  rw [lg_entry_eq]
  generalize (lg_sl ([.ref o, .int j, .int s0, .int v]) ++ List.replicate (6 - (lg_sl ([.ref o, .int j, .int s0, .int v])).length) Slot.unset).toArray = ls at hl ⊢
  have hl : lv_has ls 6 [(0, .ref o), (1, .int j), (2, .int s0), (3, .int v)] := hl
  have k_m99 : (-99 : Int32).toInt = -99 := by decide
  have k_m4 : (-4 : Int32).toInt = -4 := by decide
  have k_m1 : (-1 : Int32).toInt = -1 := by decide
  have k_0 : (0 : Int32).toInt = 0 := by decide
  have k_1 : (1 : Int32).toInt = 1 := by decide
  have k_99 : (99 : Int32).toInt = 99 := by decide
  obtain ⟨hjc_o, hlc_o, hG_bs_o, hG_js_o, hG_sh_o, hG_wk_o, hmo_o, hG_ll_o, hlb_o⟩ := w7sh hD hT hG_o hM_o
  have hf_js_o := w9sh hD hT hG_js_o hM_js_o
  refine lv_aload_n hx hb dX9_mark_0 rfl (lv_at hl 0 rfl) ?_
  refine lv_iload_n hx hb dX9_mark_1 rfl (lv_at hl 1 rfl) ?_
  refine t_calla (va_runV (g := F0 m 2 ls ([.int j, .ref o])) (As := [.int j]) (rest := []) ⟨hx, hb, hml, hown, hts⟩ (c_X9_jobOf_j l D cy A G ws o j hD hT hG_o hM_o hM_js_o hJ1) (cwV 1 hts gX9_mark_X9_jobOf rfl rfl rfl (by decide +kernel) ⟨Nat.le_of_ble_eq_true rfl, Nat.le_of_ble_eq_true rfl⟩) (c_preV hM_o rfl hP hK hA hS hV) rfl rfl hl.1 rfl (lv_room (Nat.le_of_ble_eq_true rfl)) dX9_mark_2 ⟨Nat.le_of_ble_eq_true rfl, Nat.le_of_ble_eq_true rfl⟩) hS (fun r2 u H locs q2 hP9 hD9 hT9 hS => ?_)
  obtain ⟨rfl, q2⟩ := q2
  have hP : va_P D vwCl ws H := hP9
  rcases r2 with _ | x2
  · skip
    have vn2 := q2.2 rfl
    refine lv_astoreN (lv' := [(4, .null), (0, .ref o), (1, .int j), (2, .int s0), (3, .int v)]) hx hb dX9_mark_5 hl (by decide) rfl (fun ls hl => ?_)
    refine lv_aloadN hx hb dX9_mark_7 (lv_at hl 0 rfl) ?_
    refine lv_ifnullN (tgt := 36) hx hb dX9_mark_9 (by decide) ?_
    refine lv_iconst (v := (-1)) hx hb dX9_mark_36 (by decide) ?_
    exact W.iret (v := ((-1) : Int32)) hx hb hr (fun t ht hW => ⟨⟨_, (G, ws), rfl, ⟨ws, rfl, hF, (Or.inr ⟨(fun z9 => by first | exact vn2 z9.1 | (have z7 := z9.2; omega)), rfl, rfl⟩)⟩, by show va_P D vwCl ws t.heap; rw [ht]; exact hP, hD, hT⟩, hS.F ht⟩) hS.2.2 dX9_mark_37
  · skip
    obtain ⟨vj2, fj2⟩ := q2.1 x2 rfl
    obtain ⟨hfa9, hG_xj, hb9, ht9, hM_xj, hM_sj⟩ := hJ vj2
    obtain rfl : xj = x2 := Option.some.inj (hfa9.symm.trans fj2)
    obtain ⟨hG_bj, hG_sj, hJ_xj⟩ := w3sh hD hT hG_xj hb9 hM_xj
    refine lv_astore (lv' := [(4, .ref xj), (0, .ref o), (1, .int j), (2, .int s0), (3, .int v)]) hx hb dX9_mark_5 hl (by decide) rfl (fun ls hl => ?_)
    refine lv_aload hx hb dX9_mark_7 (lv_at hl 0 rfl) ?_
    refine lv_ifnull hx hb dX9_mark_9 ?_
    refine lv_aload hx hb dX9_mark_12 (lv_at hl 0 rfl) ?_
    refine t_getJ (v := .ref bj) hx hb hts hinJ hown hK hP hJ_xj.kc hM_xj 0 (by decide) (hts (.fieldLink RX9 65 "ShadowBench$Job" "board" "LShadowBench$Board;") (by decide +kernel)) (fun _ h9 => h9) rfl dX9_mark_14 ?_
    refine lv_iload_n hx hb dX9_mark_17 rfl (lv_at hl 3 rfl) ?_
    obtain ⟨_, hM_bj, hb_bj, l_bj, f_bj, r_bj, rfl, hG_l_bj, hG_f_bj, hG_r_bj⟩ := hT _ _ hG_bj
    refine t_calli (va_runV (g := F0 m 18 ls ([.int s0, .ref bj])) (As := [.int s0]) (rest := []) ⟨hx, hb, hml, hown, hts⟩ (c_X0_isSquare l D cy A G ws bj s0 hD hT hG_bj ) (cwV 1 hts gX9_mark_X0_isSquare rfl rfl rfl (by decide +kernel) ⟨Nat.le_of_ble_eq_true rfl, Nat.le_of_ble_eq_true rfl⟩) (c_preV hM_bj rfl hP hK hA hS hV) rfl rfl hl.1 rfl (lv_room (Nat.le_of_ble_eq_true rfl)) dX9_mark_18 ⟨Nat.le_of_ble_eq_true rfl, Nat.le_of_ble_eq_true rfl⟩) hS (fun r18 u H locs q18 hP9 hD9 hT9 hS => ?_)
    obtain ⟨rfl, q18⟩ := q18
    have hP : va_P D vwCl ws H := hP9
    refine lv_if_eq (tgt := 36) hx hb dX9_mark_21 (by decide) (fun c21 => ?_) (fun c21 => ?_)
    · skip
      have b21 := bo_f q18 c21
      refine lv_iconst (v := (-1)) hx hb dX9_mark_36 (by decide) ?_
      exact W.iret (v := ((-1) : Int32)) hx hb hr (fun t ht hW => ⟨⟨_, (G, ws), rfl, ⟨ws, rfl, hF, (Or.inr ⟨(fun z9 => by first | exact vn2 z9.1 | (have z7 := z9.2; omega)), rfl, rfl⟩)⟩, by show va_P D vwCl ws t.heap; rw [ht]; exact hP, hD, hT⟩, hS.F ht⟩) hS.2.2 dX9_mark_37
    · skip
      have b21 := bo_t q18 c21
      refine lv_iload_n hx hb dX9_mark_24 rfl (lv_at hl 4 rfl) ?_
      refine lv_bipush (v := (-99)) hx hb dX9_mark_25 (by decide) ?_
      refine lv_icmp_lt (tgt := 36) hx hb dX9_mark_27 (by decide) (fun c27 => ?_) (fun c27 => ?_)
      · skip
        have d27 := c27
        rw [fa_lt] at d27
        refine lv_iconst (v := (-1)) hx hb dX9_mark_36 (by decide) ?_
        exact W.iret (v := ((-1) : Int32)) hx hb hr (fun t ht hW => ⟨⟨_, (G, ws), rfl, ⟨ws, rfl, hF, (Or.inr ⟨(fun z9 => by first | exact vn2 z9.1 | (have z7 := z9.2; omega)), rfl, rfl⟩)⟩, by show va_P D vwCl ws t.heap; rw [ht]; exact hP, hD, hT⟩, hS.F ht⟩) hS.2.2 dX9_mark_37
      · skip
        have d27 := c27
        rw [fa_lt] at d27
        refine lv_iload_n hx hb dX9_mark_30 rfl (lv_at hl 4 rfl) ?_
        refine lv_bipush (v := 99) hx hb dX9_mark_31 (by decide) ?_
        refine lv_icmp_le (tgt := 38) hx hb dX9_mark_33 (by decide) (fun c33 => ?_) (fun c33 => ?_)
        · skip
          have d33 := c33
          rw [fa_le] at d33
          refine lv_aload hx hb dX9_mark_38 (lv_at hl 0 rfl) ?_
          have hJ9 := hJ_xj
          obtain ⟨hn9, hJ9⟩ := hJ9
          rcases hJ9 with ⟨rfl, rfl⟩ | ⟨rfl, rfl⟩ | ⟨rfl, rfl⟩ | ⟨rfl, c9, rfl, hG_c9⟩
          · skip
            have hM_xj : cIn ws xj (.inr (1, [.ref bj, .ref sj, .int (nI tj), .long oj, .long nj])) := hM_xj
            refine va_instNo hx hb hown (hts (.classLink RX9 112 RX5) (by decide +kernel)) hV.2.2.2.1.1 (t_recJ hK hP hM_xj rfl) dX9_mark_40 ?_
            refine lv_if_eq (tgt := 69) hx hb dX9_mark_43 (by decide) (fun c43 => ?_) (fun c43 => ?_)
            · skip
              have d43 := c43
              rw [fa_eq] at d43
              refine lv_bipush (v := (-4)) hx hb dX9_mark_69 (by decide) ?_
              exact W.iret (v := ((-4) : Int32)) hx hb hr (fun t ht hW => ⟨⟨_, (G, ws), rfl, ⟨ws, rfl, hF, (Or.inl ⟨⟨vj2, (by omega), (by omega)⟩, Or.inr ⟨(by decide), rfl, rfl⟩⟩)⟩, by show va_P D vwCl ws t.heap; rw [ht]; exact hP, hD, hT⟩, hS.F ht⟩) hS.2.2 dX9_mark_71
            · first | exact absurd c43 (by decide) | exact absurd (by decide) c43
          · skip
            have hM_xj : cIn ws xj (.inr (2, [.ref bj, .ref sj, .int (nI tj), .long oj, .long nj])) := hM_xj
            refine va_instNo hx hb hown (hts (.classLink RX9 112 RX5) (by decide +kernel)) hV.2.2.2.1.2.1 (t_recJ hK hP hM_xj rfl) dX9_mark_40 ?_
            refine lv_if_eq (tgt := 69) hx hb dX9_mark_43 (by decide) (fun c43 => ?_) (fun c43 => ?_)
            · skip
              have d43 := c43
              rw [fa_eq] at d43
              refine lv_bipush (v := (-4)) hx hb dX9_mark_69 (by decide) ?_
              exact W.iret (v := ((-4) : Int32)) hx hb hr (fun t ht hW => ⟨⟨_, (G, ws), rfl, ⟨ws, rfl, hF, (Or.inl ⟨⟨vj2, (by omega), (by omega)⟩, Or.inr ⟨(by decide), rfl, rfl⟩⟩)⟩, by show va_P D vwCl ws t.heap; rw [ht]; exact hP, hD, hT⟩, hS.F ht⟩) hS.2.2 dX9_mark_71
            · first | exact absurd c43 (by decide) | exact absurd (by decide) c43
          · skip
            have hM_xj : cIn ws xj (.inr (3, [.ref bj, .ref sj, .int (nI tj), .long oj, .long nj])) := hM_xj
            refine va_instNo hx hb hown (hts (.classLink RX9 112 RX5) (by decide +kernel)) hV.2.2.2.1.2.2 (t_recJ hK hP hM_xj rfl) dX9_mark_40 ?_
            refine lv_if_eq (tgt := 69) hx hb dX9_mark_43 (by decide) (fun c43 => ?_) (fun c43 => ?_)
            · skip
              have d43 := c43
              rw [fa_eq] at d43
              refine lv_bipush (v := (-4)) hx hb dX9_mark_69 (by decide) ?_
              exact W.iret (v := ((-4) : Int32)) hx hb hr (fun t ht hW => ⟨⟨_, (G, ws), rfl, ⟨ws, rfl, hF, (Or.inl ⟨⟨vj2, (by omega), (by omega)⟩, Or.inr ⟨(by decide), rfl, rfl⟩⟩)⟩, by show va_P D vwCl ws t.heap; rw [ht]; exact hP, hD, hT⟩, hS.F ht⟩) hS.2.2 dX9_mark_71
            · first | exact absurd c43 (by decide) | exact absurd (by decide) c43
          · skip
            have hM_xj : cIn ws xj (.inr (4, [.ref bj, .ref sj, .int (nI tj), .long oj, .long nj, .ref c9])) := hM_xj
            have hn36 := cb_mul (c_hb hT hG_bj)
            obtain ⟨e49, hM_cj⟩ := hJ4 vj2 rfl
            simp only [List.cons.injEq, Value.ref.injEq, and_true] at e49
            obtain rfl : cj = c9 := e49.symm
            have hG_cj := hG_c9
            have hM_xj : cIn ws xj (.inr (4, [.ref bj, .ref sj, .int (nI tj), .long oj, .long nj, .ref cj])) := hM_xj
            refine va_instS hx hb hown (hts (.classLink RX9 112 RX5) (by decide +kernel)) (hK.1 4 _ rfl).2 (t_recJ hK hP hM_xj rfl) dX9_mark_40 ?_
            refine lv_if_eq (tgt := 69) hx hb dX9_mark_43 (by decide) (fun c43 => ?_) (fun c43 => ?_)
            · first | exact absurd c43 (by decide) | exact absurd (by decide) c43
            · skip
              have d43 := c43
              rw [fa_eq] at d43
              refine lv_aload hx hb dX9_mark_46 (lv_at hl 0 rfl) ?_
              refine va_castS hx hb hown (hts (.classLink RX9 112 RX5) (by decide +kernel)) (hK.1 4 _ rfl).2 (t_recJ hK hP hM_xj rfl) dX9_mark_48 ?_
              refine lv_astore (lv' := [(5, .ref xj), (4, .ref xj), (0, .ref o), (1, .int j), (2, .int s0), (3, .int v)]) hx hb dX9_mark_51 hl (by decide) rfl (fun ls hl => ?_)
              refine lv_aload hx hb dX9_mark_53 (lv_at hl 0 rfl) ?_
              refine lv_iload_n hx hb dX9_mark_55 rfl (lv_at hl 4 rfl) ?_
              refine lv_iload_n hx hb dX9_mark_56 rfl (lv_at hl 5 rfl) ?_
              refine t_calli (va_runV (g := F0 m 57 ls ([.int v, .int s0, .ref xj])) (As := [.int s0, .int v]) (rest := []) ⟨hx, hb, hml, hown, hts⟩ (c_X5_setMark_x l D cy A G ws xj s0 v hD hT hG_xj hM_xj hM_cj hb9 (by omega)) (cwV 2 hts gX9_mark_X5_setMark rfl rfl rfl (by decide +kernel) ⟨Nat.le_of_ble_eq_true rfl, Nat.le_of_ble_eq_true rfl⟩) (c_preV hM_xj rfl hP hK hA hS hV) rfl rfl hl.1 rfl (lv_room (Nat.le_of_ble_eq_true rfl)) dX9_mark_57 ⟨Nat.le_of_ble_eq_true rfl, Nat.le_of_ble_eq_true rfl⟩) hS (fun r57 u H locs q57 hP9 hD9 hT9 hS => ?_)
              obtain ⟨w57, rfl, hF57, q57⟩ := q57
              have hP : va_P D vwCl w57 H := hP9
              have hD : va_D A w57 := hD9
              have hT : cT cy G w57 := hT9
              have hM_o := hF57 _ _ (cne hG_o hG_cj (show (7 : Nat) ≠ 14 by decide)) hM_o
              have hM_js_o := hF57 _ _ (cne hG_js_o hG_cj (show (9 : Nat) ≠ 14 by decide)) hM_js_o
              have hM_xj := hF57 _ _ (cne hG_xj hG_cj (show (3 : Nat) ≠ 14 by decide)) hM_xj
              have hM_bj := hF57 _ _ (cne hG_bj hG_cj (show (2 : Nat) ≠ 14 by decide)) hM_bj
              have hF := hF.tr hF57
              have hM_cj : cIn w57 cj (.inl (cy 0, (wj * hj), .inl (upd fmj s0.toNatClampNeg v))) := q57.2
              refine lv_if_eq (tgt := 67) hx hb dX9_mark_60 (by decide) (fun c60 => ?_) (fun c60 => ?_)
              · skip
                have d60 := c60
                rw [fa_eq] at d60
                refine lv_iconst (v := 0) hx hb dX9_mark_67 (by decide) ?_
                exact W.iret (v := (0 : Int32)) hx hb hr (fun t ht hW => ⟨⟨_, (G, w57), rfl, ⟨w57, rfl, hF, (Or.inl ⟨⟨vj2, (by omega), (by omega)⟩, Or.inl ⟨rfl, (by rcases q57.1 with ⟨z9, z8⟩ | ⟨z9, z8⟩; (first | exact Or.inl ⟨rfl, z8⟩ | exact absurd (z9.symm.trans c60) (by decide)); (first | exact Or.inr ⟨rfl, z8⟩ | exact absurd z9 c60)), hM_cj⟩⟩)⟩, by show va_P D vwCl w57 t.heap; rw [ht]; exact hP, hD, hT⟩, hS.F ht⟩) hS.2.2 dX9_mark_68
              · skip
                have d60 := c60
                rw [fa_eq] at d60
                refine lv_iconst (v := 1) hx hb dX9_mark_63 (by decide) ?_
                refine lv_goto (tgt := 68) hx hb dX9_mark_64 (by decide) ?_
                exact W.iret (v := (1 : Int32)) hx hb hr (fun t ht hW => ⟨⟨_, (G, w57), rfl, ⟨w57, rfl, hF, (Or.inl ⟨⟨vj2, (by omega), (by omega)⟩, Or.inl ⟨rfl, (by rcases q57.1 with ⟨z9, z8⟩ | ⟨z9, z8⟩; (first | exact Or.inl ⟨rfl, z8⟩ | exact absurd (z9.symm.trans c60) (by decide)); (first | exact Or.inr ⟨rfl, z8⟩ | exact absurd z9 c60)), hM_cj⟩⟩)⟩, by show va_P D vwCl w57 t.heap; rw [ht]; exact hP, hD, hT⟩, hS.F ht⟩) hS.2.2 dX9_mark_68
        · skip
          have d33 := c33
          rw [fa_le] at d33
          refine lv_iconst (v := (-1)) hx hb dX9_mark_36 (by decide) ?_
          exact W.iret (v := ((-1) : Int32)) hx hb hr (fun t ht hW => ⟨⟨_, (G, ws), rfl, ⟨ws, rfl, hF, (Or.inr ⟨(fun z9 => by first | exact vn2 z9.1 | (have z7 := z9.2; omega)), rfl, rfl⟩)⟩, by show va_P D vwCl ws t.heap; rw [ht]; exact hP, hD, hT⟩, hS.F ht⟩) hS.2.2 dX9_mark_37

set_option maxHeartbeats 4000000 in
set_option maxRecDepth 100000 in
theorem c_X10_mark_y (l : Launch) (D : va_G) (cy : Nat → ClassId) (mo : Nat) (a : Nat → Nat) (f : Nat → Int32) (g : Nat → Int64) (r : Nat → Nat → Int32) (q : Nat → Nat → Int64) (j : Int32) (s0 : Int32) (v0 : Int32) (hD : DM cy mo a) (hI : MI f r) : Mi l D cy mo a yX10_mark wsX10_mark ({ frames := 2, cells := 0, slots := 0, locals := 43 }) f g r q [.int j, .int s0, .int v0] (fun r0 u => ∃ (wt : Nat → Int32), u = ((upd f 0 (0 : Int32)), g, (va_up r 8 wt), q) ∧ ((okMark9 (f 1) (r 3 j.toNatClampNeg).toNatClampNeg (r 4 j.toNatClampNeg).toNatClampNeg j s0 v0 ∧ ((r 2 j.toNatClampNeg = 3 ∧ r0 = (if r 8 (36 * j.toNatClampNeg + s0.toNatClampNeg) = v0 then 0 else 1) ∧ wt = upd (r 8) (36 * j.toNatClampNeg + s0.toNatClampNeg) v0) ∨ (¬ r 2 j.toNatClampNeg = 3 ∧ r0 = -4 ∧ wt = r 8))) ∨ (¬ okMark9 (f 1) (r 3 j.toNatClampNeg).toNatClampNeg (r 4 j.toNatClampNeg).toNatClampNeg j s0 v0 ∧ r0 = -1 ∧ wt = r 8))) := by
  refine Met.ofW (cc := cX10_mark) (maxL := 5) (ret := (some .int)) (by decide) rfl ?_
  intro p e s m args below meth c s₁ B hml hv
  obtain ⟨rfl, hP, hK⟩ := hv
  have hx := B.exec
  have hb := B.bytes
  have hr := B.returns
  have hts := atoms_spec (ws := wsX10_mark) B.pre
  have hin : ∀ w ∈ u_ws RX10 TX10 35, w ∈ wsX10_mark := by decide +kernel
  have hown : s.vm.findClass RX10 = some m.cls := findClass_of_methodNamed B.named
  have hlocks := B.notSynchronized
  have hS : va_S (AM mo a) s.heap s.heap [] := va_S.rf
  have hl := lv_entry ([.ref mo, .int j, .int s0, .int v0]) (n := 5) (Nat.le_of_ble_eq_true rfl)
  rw [lg_entry_eq]
  generalize (lg_sl ([.ref mo, .int j, .int s0, .int v0]) ++ List.replicate (5 - (lg_sl ([.ref mo, .int j, .int s0, .int v0])).length) Slot.unset).toArray = ls at hl ⊢
  have hl : lv_has ls 5 [(0, .ref mo), (1, .int j), (2, .int s0), (3, .int v0)] := hl
  have k_m4 : (-4 : Int32).toInt = -4 := by decide
  have k_m1 : (-1 : Int32).toInt = -1 := by decide
  have k_0 : (0 : Int32).toInt = 0 := by decide
  have k_1 : (1 : Int32).toInt = 1 := by decide
  have k_3 : (3 : Int32).toInt = 3 := by decide
  have k_36 : (36 : Int32).toInt = 36 := by decide
  have k_m99L : (-99 : Int64).toInt = -99 := by decide
  have k_99L : (99 : Int64).toInt = 99 := by decide
  have hI1 := hI.1
  refine lv_aload_n hx hb dX10_mark_0 rfl (lv_at hl 0 rfl) ?_
  refine lv_iconst (v := 0) hx hb dX10_mark_1 (by decide) ?_
  refine m_put (v := .int (0 : Int32)) (ty := .int) hx hb hts hin hown hK hP hD hS 0 (by decide) rfl (hts (.fieldLink RX10 79 "ShadowBenchModel" "thrown" "I") (by decide +kernel)) rfl (by decide +kernel) rfl rfl (upd f 0 (0 : Int32)) g rfl dX10_mark_2 (fun H locs hP hS => ?_)
  refine lv_aload_n hx hb dX10_mark_5 rfl (lv_at hl 0 rfl) ?_
  refine lv_iload_n hx hb dX10_mark_6 rfl (lv_at hl 1 rfl) ?_
  refine lv_iload_n hx hb dX10_mark_7 rfl (lv_at hl 2 rfl) ?_
  refine m_calli (As := [.int j, .int s0]) (rest := []) ⟨hx, hb, hml, hown, hts⟩ (c_X10_isSquare l D cy mo a (upd f 0 (0 : Int32)) g r q j s0 hD hI) (cwV 2 hts gX10_mark_X10_isSquare rfl rfl rfl (by decide +kernel) ⟨Nat.le_of_ble_eq_true rfl, Nat.le_of_ble_eq_true rfl⟩) hK hP rfl hl.1 rfl (Nat.le_of_ble_eq_true rfl) dX10_mark_8 ⟨Nat.le_of_ble_eq_true rfl, Nat.le_of_ble_eq_true rfl⟩ hS (fun r8 u H locs q8 hP hS => ?_)
  obtain ⟨rfl, q8⟩ := q8
  have hP : va_P D vwCl (WM cy mo a (upd f 0 (0 : Int32)) g r q) H := hP
  have q8 : Bo r8 ((0 ≤ j.toInt ∧ j.toInt < ((f 1)).toInt) ∧ 0 ≤ s0.toInt ∧ s0.toInt < ((r 3) j.toNatClampNeg).toInt * ((r 4) j.toNatClampNeg).toInt) := q8
  refine lv_if_eq (tgt := 28) hx hb dX10_mark_11 (by decide) (fun c11 => ?_) (fun c11 => ?_)
  · skip
    have b11 := bo_f q8 c11
    refine lv_iconst (v := (-1)) hx hb dX10_mark_28 (by decide) ?_
    exact W.iret (v := ((-1) : Int32)) hx hb hr (fun t ht hW => ⟨⟨_, ((upd f 0 (0 : Int32)), g, (va_up r 8 (r 8)), q), rfl, ⟨(r 8), rfl, (Or.inr ⟨(fun z9 => by have z8 := z9.1; unfold okJob at z8; have z7 := z9.2.1; have z6 := z9.2.2; rw [sq_eq hI z8.1 z8.2] at z7; first | exact b11 ⟨z8, z7⟩ | exact b25 z6 | omega | (have y25 := b25; simp only [k64, show (-99 : Int64).toInt = -99 from rfl, show (99 : Int64).toInt = 99 from rfl] at y25; omega)), rfl, rfl⟩)⟩, by unfold mB; rw [ht]; exact hP⟩, hS.F ht⟩) hS.2.2 dX10_mark_29
  · skip
    have b11 := bo_t q8 c11
    refine lv_iload_n hx hb dX10_mark_14 rfl (lv_at hl 3 rfl) ?_
    refine lv_i2l (v := v0.toInt64) hx hb dX10_mark_15 rfl ?_
    refine lv_ldc2 hx hb hown (hts (.constantLong RX10 139 (-99)) (by decide +kernel)) dX10_mark_16 ?_
    refine lv_ldc2 hx hb hown (hts (.constantLong RX10 141 (99)) (by decide +kernel)) dX10_mark_19 ?_
    refine m_pu (As := [.long (v0.toInt64), .long (-99 : Int64), .long (99 : Int64)]) (rest := []) ⟨hx, hb, hml, hown, hts⟩ (c_X10_isIn l v0.toInt64 (-99 : Int64) (99 : Int64) ) (va_cwS 3 hts gX10_mark_X10_isIn rfl rfl rfl (by decide +kernel) ⟨Nat.le_of_ble_eq_true rfl, Nat.le_of_ble_eq_true rfl⟩) hP rfl hl.1 rfl (Nat.le_of_ble_eq_true rfl) dX10_mark_22 ⟨Nat.le_of_ble_eq_true rfl, Nat.le_of_ble_eq_true rfl⟩ hS (fun r22 H locs q22 hP hS => ?_)
    have q22 := q22
    simp only [k64, show (0 : Int64).toInt = 0 from rfl, show (1 : Int64).toInt = 1 from rfl, show (2 : Int64).toInt = 2 from rfl, show (3 : Int64).toInt = 3 from rfl, show (6 : Int64).toInt = 6 from rfl] at q22
    refine lv_if_ne (tgt := 30) hx hb dX10_mark_25 (by decide) (fun c25 => ?_) (fun c25 => ?_)
    · skip
      have b25 := bo_t q22 c25
      have hsb := mul66 (mi_w hI (x := j) (by omega) (by omega) rfl) (mi_h hI (x := j) (by omega) (by omega) rfl)
      have y25 := b25
      try simp only [k64, show (-99 : Int64).toInt = -99 from rfl, show (99 : Int64).toInt = 99 from rfl] at y25
      refine lv_aload_n hx hb dX10_mark_30 rfl (lv_at hl 0 rfl) ?_
      refine m_get (v := .ref (a 2)) hx hb hts hin hown hK hP 2 (by decide) rfl (hts (.fieldLink RX10 7 "ShadowBenchModel" "kind" "[I") (by decide +kernel)) rfl dX10_mark_31 ?_
      refine lv_iload_n hx hb dX10_mark_34 rfl (lv_at hl 1 rfl) ?_
      refine m_iald (w := (r 2)) hx hb hK hP 1 rfl (vp_in_iff.mpr ⟨by omega, by omega⟩) dX10_mark_35 ?_
      refine lv_topi (fun v35 e35 => ?_)
      have i35 : v35.toInt = ((r 2) j.toNatClampNeg).toInt := congrArg Int32.toInt e35
      refine lv_iconst (v := 3) hx hb dX10_mark_36 (by decide) ?_
      refine lv_icmp_eq (tgt := 43) hx hb dX10_mark_37 (by decide) (fun c37 => ?_) (fun c37 => ?_)
      · skip
        have d37 := c37
        rw [fa_eq] at d37
        refine lv_aload_n hx hb dX10_mark_43 rfl (lv_at hl 0 rfl) ?_
        refine m_get (v := .ref (a 8)) hx hb hts hin hown hK hP 8 (by decide) rfl (hts (.fieldLink RX10 29 "ShadowBenchModel" "weight" "[I") (by decide +kernel)) rfl dX10_mark_44 ?_
        refine lv_bipush (v := 36) hx hb dX10_mark_47 (by decide) ?_
        refine lv_iload_n hx hb dX10_mark_49 rfl (lv_at hl 1 rfl) ?_
        refine lv_imul hx hb dX10_mark_50 ?_
        refine lv_topi (fun v50 e50 => ?_)
        have i50 : v50.toInt = 36 * j.toInt := by rw [e50]; exact mulcL rfl (by omega) (by omega)
        refine lv_iload_n hx hb dX10_mark_51 rfl (lv_at hl 2 rfl) ?_
        refine lv_iadd hx hb dX10_mark_52 ?_
        refine lv_topi (fun v52 e52 => ?_)
        have i52 : v52.toInt = v50.toInt + s0.toInt := by rw [e52]; exact fb_addI (by omega) (by omega)
        refine m_iald (w := (r 8)) hx hb hK hP 7 rfl (vp_in_iff.mpr ⟨by omega, by omega⟩) dX10_mark_53 ?_
        refine lv_topi (fun v53 e53 => ?_)
        have i53 : v53.toInt = ((r 8) v52.toNatClampNeg).toInt := congrArg Int32.toInt e53
        have cj9 := m_cl (x := j) (by omega)
        have cs9 := m_cl (x := s0) (by omega)
        have cv9 := m_cl (x := v52) (by omega)
        have f52 : v52.toNatClampNeg = (36 * j.toNatClampNeg + s0.toNatClampNeg) := by omega
        refine lv_iload_n hx hb dX10_mark_54 rfl (lv_at hl 3 rfl) ?_
        refine lv_icmp_eq (tgt := 62) hx hb dX10_mark_55 (by decide) (fun c55 => ?_) (fun c55 => ?_)
        · skip
          have d55 := c55
          rw [fa_eq] at d55
          refine lv_iconst (v := 0) hx hb dX10_mark_62 (by decide) ?_
          refine lv_istore (lv' := [(4, .int (0 : Int32)), (0, .ref mo), (1, .int j), (2, .int s0), (3, .int v0)]) hx hb dX10_mark_63 hl (by decide) rfl (fun ls hl => ?_)
          refine lv_aload_n hx hb dX10_mark_65 rfl (lv_at hl 1 rfl) ?_
          refine m_get (v := .ref (a 8)) hx hb hts hin hown hK hP 8 (by decide) rfl (hts (.fieldLink RX10 29 "ShadowBenchModel" "weight" "[I") (by decide +kernel)) rfl dX10_mark_66 ?_
          refine lv_bipush (v := 36) hx hb dX10_mark_69 (by decide) ?_
          refine lv_iload_n hx hb dX10_mark_71 rfl (lv_at hl 2 rfl) ?_
          refine lv_imul hx hb dX10_mark_72 ?_
          refine lv_topi (fun v72 e72 => ?_)
          have i72 : v72.toInt = 36 * j.toInt := by rw [e72]; exact mulcL rfl (by omega) (by omega)
          refine lv_iload_n hx hb dX10_mark_73 rfl (lv_at hl 3 rfl) ?_
          refine lv_iadd hx hb dX10_mark_74 ?_
          refine lv_topi (fun v74 e74 => ?_)
          have i74 : v74.toInt = v72.toInt + s0.toInt := by rw [e74]; exact fb_addI (by omega) (by omega)
          refine lv_iload_n hx hb dX10_mark_75 rfl (lv_at hl 4 rfl) ?_
          have cv8 := m_cl (x := v74) (by omega)
          have f74 : v74.toNatClampNeg = (36 * j.toNatClampNeg + s0.toNatClampNeg) := by omega
          refine m_iast (w := (r 8)) hx hb hK hP hD hS 7 rfl (vp_in_iff.mpr ⟨by omega, by omega⟩) (va_up r 8 ((upd (r 8) v74.toNatClampNeg v0))) rfl dX10_mark_76 (fun H locs hP hS => ?_)
          refine lv_iload hx hb dX10_mark_77 (lv_at hl 0 rfl) ?_
          refine lv_if_eq (tgt := 86) hx hb dX10_mark_79 (by decide) (fun c79 => ?_) (fun c79 => ?_)
          · skip
            have d79 := c79
            rw [fa_eq] at d79
            refine lv_iconst (v := 0) hx hb dX10_mark_86 (by decide) ?_
            exact W.iret (v := (0 : Int32)) hx hb hr (fun t ht hW => ⟨⟨_, ((upd f 0 (0 : Int32)), g, (va_up r 8 (((upd (r 8) v74.toNatClampNeg v0)))), q), rfl, ⟨((upd (r 8) v74.toNatClampNeg v0)), rfl, (Or.inl ⟨⟨b11.1, (by rw [sq_eq hI b11.1.1 b11.1.2]; exact b11.2), (by omega)⟩, Or.inl ⟨(e35.symm.trans c37), (by rw [← f52, ← e53]; first | (rw [if_pos c55]; done) | (rw [if_neg c55]; done)), (by rw [f74])⟩⟩)⟩, by unfold mB; rw [ht]; exact hP⟩, hS.F ht⟩) hS.2.2 dX10_mark_87
          · first | exact absurd c79 (by decide) | exact absurd (by decide) c79
        · skip
          have d55 := c55
          rw [fa_eq] at d55
          refine lv_iconst (v := 1) hx hb dX10_mark_58 (by decide) ?_
          refine lv_goto (tgt := 63) hx hb dX10_mark_59 (by decide) ?_
          refine lv_istore (lv' := [(4, .int (1 : Int32)), (0, .ref mo), (1, .int j), (2, .int s0), (3, .int v0)]) hx hb dX10_mark_63 hl (by decide) rfl (fun ls hl => ?_)
          refine lv_aload_n hx hb dX10_mark_65 rfl (lv_at hl 1 rfl) ?_
          refine m_get (v := .ref (a 8)) hx hb hts hin hown hK hP 8 (by decide) rfl (hts (.fieldLink RX10 29 "ShadowBenchModel" "weight" "[I") (by decide +kernel)) rfl dX10_mark_66 ?_
          refine lv_bipush (v := 36) hx hb dX10_mark_69 (by decide) ?_
          refine lv_iload_n hx hb dX10_mark_71 rfl (lv_at hl 2 rfl) ?_
          refine lv_imul hx hb dX10_mark_72 ?_
          refine lv_topi (fun v72 e72 => ?_)
          have i72 : v72.toInt = 36 * j.toInt := by rw [e72]; exact mulcL rfl (by omega) (by omega)
          refine lv_iload_n hx hb dX10_mark_73 rfl (lv_at hl 3 rfl) ?_
          refine lv_iadd hx hb dX10_mark_74 ?_
          refine lv_topi (fun v74 e74 => ?_)
          have i74 : v74.toInt = v72.toInt + s0.toInt := by rw [e74]; exact fb_addI (by omega) (by omega)
          refine lv_iload_n hx hb dX10_mark_75 rfl (lv_at hl 4 rfl) ?_
          have cv8 := m_cl (x := v74) (by omega)
          have f74 : v74.toNatClampNeg = (36 * j.toNatClampNeg + s0.toNatClampNeg) := by omega
          refine m_iast (w := (r 8)) hx hb hK hP hD hS 7 rfl (vp_in_iff.mpr ⟨by omega, by omega⟩) (va_up r 8 ((upd (r 8) v74.toNatClampNeg v0))) rfl dX10_mark_76 (fun H locs hP hS => ?_)
          refine lv_iload hx hb dX10_mark_77 (lv_at hl 0 rfl) ?_
          refine lv_if_eq (tgt := 86) hx hb dX10_mark_79 (by decide) (fun c79 => ?_) (fun c79 => ?_)
          · first | exact absurd c79 (by decide) | exact absurd (by decide) c79
          · skip
            have d79 := c79
            rw [fa_eq] at d79
            refine lv_iconst (v := 1) hx hb dX10_mark_82 (by decide) ?_
            refine lv_goto (tgt := 87) hx hb dX10_mark_83 (by decide) ?_
            exact W.iret (v := (1 : Int32)) hx hb hr (fun t ht hW => ⟨⟨_, ((upd f 0 (0 : Int32)), g, (va_up r 8 (((upd (r 8) v74.toNatClampNeg v0)))), q), rfl, ⟨((upd (r 8) v74.toNatClampNeg v0)), rfl, (Or.inl ⟨⟨b11.1, (by rw [sq_eq hI b11.1.1 b11.1.2]; exact b11.2), (by omega)⟩, Or.inl ⟨(e35.symm.trans c37), (by rw [← f52, ← e53]; first | (rw [if_pos c55]; done) | (rw [if_neg c55]; done)), (by rw [f74])⟩⟩)⟩, by unfold mB; rw [ht]; exact hP⟩, hS.F ht⟩) hS.2.2 dX10_mark_87
      · skip
        have d37 := c37
        rw [fa_eq] at d37
        refine lv_bipush (v := (-4)) hx hb dX10_mark_40 (by decide) ?_
        exact W.iret (v := ((-4) : Int32)) hx hb hr (fun t ht hW => ⟨⟨_, ((upd f 0 (0 : Int32)), g, (va_up r 8 (r 8)), q), rfl, ⟨(r 8), rfl, (Or.inl ⟨⟨b11.1, (by rw [sq_eq hI b11.1.1 b11.1.2]; exact b11.2), (by omega)⟩, Or.inr ⟨(fun z9 => c37 (e35.trans z9)), rfl, rfl⟩⟩)⟩, by unfold mB; rw [ht]; exact hP⟩, hS.F ht⟩) hS.2.2 dX10_mark_42
    · skip
      have b25 := bo_f q22 c25
      refine lv_iconst (v := (-1)) hx hb dX10_mark_28 (by decide) ?_
      exact W.iret (v := ((-1) : Int32)) hx hb hr (fun t ht hW => ⟨⟨_, ((upd f 0 (0 : Int32)), g, (va_up r 8 (r 8)), q), rfl, ⟨(r 8), rfl, (Or.inr ⟨(fun z9 => by have z8 := z9.1; unfold okJob at z8; have z7 := z9.2.1; have z6 := z9.2.2; rw [sq_eq hI z8.1 z8.2] at z7; first | exact b11 ⟨z8, z7⟩ | exact b25 z6 | omega | (have y25 := b25; simp only [k64, show (-99 : Int64).toInt = -99 from rfl, show (99 : Int64).toInt = 99 from rfl] at y25; omega)), rfl, rfl⟩)⟩, by unfold mB; rw [ht]; exact hP⟩, hS.F ht⟩) hS.2.2 dX10_mark_29
set_option maxHeartbeats 4000000 in
set_option maxRecDepth 100000 in
theorem c_X10_job_z (l : Launch) (D : va_G) (cy : Nat → ClassId) (mo : Nat) (a : Nat → Nat) (f : Nat → Int32) (g : Nat → Int64) (r : Nat → Nat → Int32) (q : Nat → Nat → Int64) (k0 : Int32) (w : Int32) (h : Int32) (hD : DM cy mo a) (hI : MI f r) : Mi l D cy mo a yX10_job wsX10_job ({ frames := 2, cells := 0, slots := 0, locals := 46 }) f g r q [.int k0, .int w, .int h] (fun r0 u => ∃ (kd : Nat → Int32), ∃ (wd : Nat → Int32), ∃ (hg : Nat → Int32), ∃ (tl : Nat → Int32), ∃ (hd : Nat → Int32), ∃ (jb : Int32), u = ((upd (upd f 0 (0 : Int32)) 1 jb), g, (va_up (va_up (va_up (va_up (va_up r 2 kd) 3 wd) 4 hg) 6 tl) 7 hd), q) ∧ (r0.toInt = jA k0 w h (f 1) ∧ ((okJ k0 w h (f 1) ∧ jb.toInt = (f 1).toInt + 1 ∧ wd = upd (r 3) (f 1).toNatClampNeg w ∧ hg = upd (r 4) (f 1).toNatClampNeg h ∧ kd = upd (r 2) (f 1).toNatClampNeg k0 ∧ tl = upd (upd (r 6) (4 * (f 1).toNatClampNeg) 1) (4 * (f 1).toNatClampNeg + 1) 1 ∧ hd = setB (r 7) (36 * (f 1).toNatClampNeg) (fun _ => 2) 36) ∨ (¬ okJ k0 w h (f 1) ∧ jb = f 1 ∧ wd = r 3 ∧ hg = r 4 ∧ kd = r 2 ∧ tl = r 6 ∧ hd = r 7)) ∧ MI (upd (upd f 0 (0 : Int32)) 1 jb) (va_up (va_up (va_up (va_up (va_up r 2 kd) 3 wd) 4 hg) 6 tl) 7 hd))) := by
  refine Met.ofW (cc := cX10_job) (maxL := 5) (ret := (some .int)) (by decide) rfl ?_
  intro p e s m args below meth c s₁ B hml hv
  obtain ⟨rfl, hP, hK⟩ := hv
  have hx := B.exec
  have hb := B.bytes
  have hr := B.returns
  have hts := atoms_spec (ws := wsX10_job) B.pre
  have hin : ∀ w ∈ u_ws RX10 TX10 35, w ∈ wsX10_job := by decide +kernel
  have hown : s.vm.findClass RX10 = some m.cls := findClass_of_methodNamed B.named
  have hlocks := B.notSynchronized
  have hS : va_S (AM mo a) s.heap s.heap [] := va_S.rf
  have hl := lv_entry ([.ref mo, .int k0, .int w, .int h]) (n := 5) (Nat.le_of_ble_eq_true rfl)
  rw [lg_entry_eq]
  generalize (lg_sl ([.ref mo, .int k0, .int w, .int h]) ++ List.replicate (5 - (lg_sl ([.ref mo, .int k0, .int w, .int h])).length) Slot.unset).toArray = ls at hl ⊢
  have hl : lv_has ls 5 [(0, .ref mo), (1, .int k0), (2, .int w), (3, .int h)] := hl
  have k_m2 : (-2 : Int32).toInt = -2 := by decide
  have k_m1 : (-1 : Int32).toInt = -1 := by decide
  have k_0 : (0 : Int32).toInt = 0 := by decide
  have k_1 : (1 : Int32).toInt = 1 := by decide
  have k_2 : (2 : Int32).toInt = 2 := by decide
  have k_4 : (4 : Int32).toInt = 4 := by decide
  have k_8 : (8 : Int32).toInt = 8 := by decide
  have k_36 : (36 : Int32).toInt = 36 := by decide
  have k_0L : (0 : Int64).toInt = 0 := by decide
  have k_3L : (3 : Int64).toInt = 3 := by decide
  have hI1 := hI.1
  refine lv_aload_n hx hb dX10_job_0 rfl (lv_at hl 0 rfl) ?_
  refine lv_iconst (v := 0) hx hb dX10_job_1 (by decide) ?_
  refine m_put (v := .int (0 : Int32)) (ty := .int) hx hb hts hin hown hK hP hD hS 0 (by decide) rfl (hts (.fieldLink RX10 79 "ShadowBenchModel" "thrown" "I") (by decide +kernel)) rfl (by decide +kernel) rfl rfl (upd f 0 (0 : Int32)) g rfl dX10_job_2 (fun H locs hP hS => ?_)
  refine lv_iload_n hx hb dX10_job_5 rfl (lv_at hl 1 rfl) ?_
  refine lv_i2l (v := k0.toInt64) hx hb dX10_job_6 rfl ?_
  refine lv_lconst (v := 0) hx hb dX10_job_7 (by decide) ?_
  refine lv_ldc2 hx hb hown (hts (.constantLong RX10 116 (3)) (by decide +kernel)) dX10_job_8 ?_
  refine m_pu (As := [.long (k0.toInt64), .long (0 : Int64), .long (3 : Int64)]) (rest := []) ⟨hx, hb, hml, hown, hts⟩ (c_X10_isIn l k0.toInt64 (0 : Int64) (3 : Int64) ) (va_cwS 3 hts gX10_job_X10_isIn rfl rfl rfl (by decide +kernel) ⟨Nat.le_of_ble_eq_true rfl, Nat.le_of_ble_eq_true rfl⟩) hP rfl hl.1 rfl (Nat.le_of_ble_eq_true rfl) dX10_job_11 ⟨Nat.le_of_ble_eq_true rfl, Nat.le_of_ble_eq_true rfl⟩ hS (fun r11 H locs q11 hP hS => ?_)
  have q11 := q11
  simp only [k64, show (0 : Int64).toInt = 0 from rfl, show (1 : Int64).toInt = 1 from rfl, show (2 : Int64).toInt = 2 from rfl, show (3 : Int64).toInt = 3 from rfl, show (6 : Int64).toInt = 6 from rfl] at q11
  refine lv_if_eq (tgt := 25) hx hb dX10_job_14 (by decide) (fun c14 => ?_) (fun c14 => ?_)
  · skip
    have b14 := bo_f q11 c14
    refine lv_iconst (v := (-1)) hx hb dX10_job_25 (by decide) ?_
    have hP := wm_eq (ec_f_0__0_1 f (0 : Int32)) rfl (ec_r___2_3_4_6_7 r ) rfl hP
    exact W.iret (v := ((-1) : Int32)) hx hb hr (fun t ht hW => ⟨⟨_, ((upd (upd f 0 (0 : Int32)) 1 (f 1)), g, (va_up (va_up (va_up (va_up (va_up r 2 (r 2)) 3 (r 3)) 4 (r 4)) 6 (r 6)) 7 (r 7)), q), rfl, ⟨(r 2), (r 3), (r 4), (r 6), (r 7), (f 1), rfl, ⟨(by unfold jA; rw [if_neg (by omega)]; rfl), (Or.inr ⟨(by unfold okJ; omega), rfl, rfl, rfl, rfl, rfl, rfl⟩), (by first | exact hI | exact mi_job hI (k := k0) (w := w) (hh := h) (jb := (f 1)) (by omega) (by omega) (by omega) (by omega) (by omega) rfl rfl rfl rfl rfl rfl rfl rfl)⟩⟩, by unfold mB; rw [ht]; exact hP⟩, hS.F ht⟩) hS.2.2 dX10_job_26
  · skip
    have b14 := bo_t q11 c14
    refine lv_iload_n hx hb dX10_job_17 rfl (lv_at hl 2 rfl) ?_
    refine lv_iload_n hx hb dX10_job_18 rfl (lv_at hl 3 rfl) ?_
    refine m_pu (As := [.int w, .int h]) (rest := []) ⟨hx, hb, hml, hown, hts⟩ (c_X10_isBoard l w h ) (va_cwS 2 hts gX10_job_X10_isBoard rfl rfl rfl (by decide +kernel) ⟨Nat.le_of_ble_eq_true rfl, Nat.le_of_ble_eq_true rfl⟩) hP rfl hl.1 rfl (Nat.le_of_ble_eq_true rfl) dX10_job_19 ⟨Nat.le_of_ble_eq_true rfl, Nat.le_of_ble_eq_true rfl⟩ hS (fun r19 H locs q19 hP hS => ?_)
    refine lv_if_ne (tgt := 27) hx hb dX10_job_22 (by decide) (fun c22 => ?_) (fun c22 => ?_)
    · skip
      have b22 := bo_t q19 c22
      refine lv_aload_n hx hb dX10_job_27 rfl (lv_at hl 0 rfl) ?_
      refine m_get (v := .int (f 1)) hx hb hts hin hown hK hP 1 (by decide) rfl (hts (.fieldLink RX10 93 "ShadowBenchModel" "jobs" "I") (by decide +kernel)) rfl dX10_job_28 ?_
      refine lv_bipush (v := 8) hx hb dX10_job_31 (by decide) ?_
      refine lv_icmp_ne (tgt := 39) hx hb dX10_job_33 (by decide) (fun c33 => ?_) (fun c33 => ?_)
      · skip
        have d33 := c33
        rw [fa_eq] at d33
        refine lv_aload_n hx hb dX10_job_39 rfl (lv_at hl 0 rfl) ?_
        refine m_get (v := .ref (a 2)) hx hb hts hin hown hK hP 2 (by decide) rfl (hts (.fieldLink RX10 7 "ShadowBenchModel" "kind" "[I") (by decide +kernel)) rfl dX10_job_40 ?_
        refine lv_aload_n hx hb dX10_job_43 rfl (lv_at hl 0 rfl) ?_
        refine m_get (v := .int (f 1)) hx hb hts hin hown hK hP 1 (by decide) rfl (hts (.fieldLink RX10 93 "ShadowBenchModel" "jobs" "I") (by decide +kernel)) rfl dX10_job_44 ?_
        refine lv_iload_n hx hb dX10_job_47 rfl (lv_at hl 1 rfl) ?_
        refine m_iast (w := (r 2)) hx hb hK hP hD hS 1 rfl (vp_in_iff.mpr ⟨by omega, by omega⟩) (va_up r 2 (upd (r 2) (f 1).toNatClampNeg k0)) (ms_2 cy mo a _ _ _ _ _) dX10_job_48 (fun H locs hP hS => ?_)
        refine lv_aload_n hx hb dX10_job_49 rfl (lv_at hl 0 rfl) ?_
        refine m_get (v := .ref (a 3)) hx hb hts hin hown hK hP 3 (by decide) rfl (hts (.fieldLink RX10 13 "ShadowBenchModel" "wide" "[I") (by decide +kernel)) rfl dX10_job_50 ?_
        refine lv_aload_n hx hb dX10_job_53 rfl (lv_at hl 0 rfl) ?_
        refine m_get (v := .int (f 1)) hx hb hts hin hown hK hP 1 (by decide) rfl (hts (.fieldLink RX10 93 "ShadowBenchModel" "jobs" "I") (by decide +kernel)) rfl dX10_job_54 ?_
        refine lv_iload_n hx hb dX10_job_57 rfl (lv_at hl 2 rfl) ?_
        refine m_iast (w := (r 3)) hx hb hK hP hD hS 2 rfl (vp_in_iff.mpr ⟨by omega, by omega⟩) (va_up (va_up r 2 ((upd (r 2) (f 1).toNatClampNeg k0))) 3 (upd (r 3) (f 1).toNatClampNeg w)) (ms_3 cy mo a _ _ _ _ _) dX10_job_58 (fun H locs hP hS => ?_)
        refine lv_aload_n hx hb dX10_job_59 rfl (lv_at hl 0 rfl) ?_
        refine m_get (v := .ref (a 4)) hx hb hts hin hown hK hP 4 (by decide) rfl (hts (.fieldLink RX10 16 "ShadowBenchModel" "high" "[I") (by decide +kernel)) rfl dX10_job_60 ?_
        refine lv_aload_n hx hb dX10_job_63 rfl (lv_at hl 0 rfl) ?_
        refine m_get (v := .int (f 1)) hx hb hts hin hown hK hP 1 (by decide) rfl (hts (.fieldLink RX10 93 "ShadowBenchModel" "jobs" "I") (by decide +kernel)) rfl dX10_job_64 ?_
        refine lv_iload_n hx hb dX10_job_67 rfl (lv_at hl 3 rfl) ?_
        refine m_iast (w := (r 4)) hx hb hK hP hD hS 3 rfl (vp_in_iff.mpr ⟨by omega, by omega⟩) (va_up (va_up (va_up r 2 ((upd (r 2) (f 1).toNatClampNeg k0))) 3 ((upd (r 3) (f 1).toNatClampNeg w))) 4 (upd (r 4) (f 1).toNatClampNeg h)) (ms_4 cy mo a _ _ _ _ _) dX10_job_68 (fun H locs hP hS => ?_)
        refine lv_aload_n hx hb dX10_job_69 rfl (lv_at hl 0 rfl) ?_
        refine m_get (v := .ref (a 6)) hx hb hts hin hown hK hP 6 (by decide) rfl (hts (.fieldLink RX10 22 "ShadowBenchModel" "isTold" "[Z") (by decide +kernel)) rfl dX10_job_70 ?_
        refine lv_iconst (v := 4) hx hb dX10_job_73 (by decide) ?_
        refine lv_aload_n hx hb dX10_job_74 rfl (lv_at hl 0 rfl) ?_
        refine m_get (v := .int (f 1)) hx hb hts hin hown hK hP 1 (by decide) rfl (hts (.fieldLink RX10 93 "ShadowBenchModel" "jobs" "I") (by decide +kernel)) rfl dX10_job_75 ?_
        refine lv_imul hx hb dX10_job_78 ?_
        refine lv_topi (fun v78 e78 => ?_)
        have i78 : v78.toInt = 4 * (f 1).toInt := by rw [e78]; exact mulcL rfl (by omega) (by omega)
        have cf9 := m_cl (x := f 1) (by omega)
        have cv9 := m_cl (x := v78) (by omega)
        have f78 : v78.toNatClampNeg = 4 * (f 1).toNatClampNeg := by omega
        refine lv_iconst (v := 1) hx hb dX10_job_79 (by decide) ?_
        refine m_zast (w := (r 6)) hx hb hK hP hD hS 5 rfl (vp_in_iff.mpr ⟨by omega, by omega⟩) (va_up (va_up (va_up (va_up r 2 ((upd (r 2) (f 1).toNatClampNeg k0))) 3 ((upd (r 3) (f 1).toNatClampNeg w))) 4 ((upd (r 4) (f 1).toNatClampNeg h))) 6 (upd (r 6) v78.toNatClampNeg ((1 : Int32) &&& 1))) (ms_6 cy mo a _ _ _ _ _) dX10_job_80 (fun H locs hP hS => ?_)
        refine lv_aload_n hx hb dX10_job_81 rfl (lv_at hl 0 rfl) ?_
        refine m_get (v := .ref (a 6)) hx hb hts hin hown hK hP 6 (by decide) rfl (hts (.fieldLink RX10 22 "ShadowBenchModel" "isTold" "[Z") (by decide +kernel)) rfl dX10_job_82 ?_
        refine lv_iconst (v := 4) hx hb dX10_job_85 (by decide) ?_
        refine lv_aload_n hx hb dX10_job_86 rfl (lv_at hl 0 rfl) ?_
        refine m_get (v := .int (f 1)) hx hb hts hin hown hK hP 1 (by decide) rfl (hts (.fieldLink RX10 93 "ShadowBenchModel" "jobs" "I") (by decide +kernel)) rfl dX10_job_87 ?_
        refine lv_imul hx hb dX10_job_90 ?_
        refine lv_topi (fun v90 e90 => ?_)
        have i90 : v90.toInt = 4 * (f 1).toInt := by rw [e90]; exact mulcL rfl (by omega) (by omega)
        refine lv_iconst (v := 1) hx hb dX10_job_91 (by decide) ?_
        refine lv_iadd hx hb dX10_job_92 ?_
        refine lv_topi (fun v92 e92 => ?_)
        have i92 : v92.toInt = v90.toInt + (1 : Int32).toInt := by rw [e92]; exact fb_addI (by omega) (by omega)
        have cv8 := m_cl (x := v92) (by omega)
        have f92 : v92.toNatClampNeg = 4 * (f 1).toNatClampNeg + 1 := by omega
        refine lv_iconst (v := 1) hx hb dX10_job_93 (by decide) ?_
        refine m_zast (w := ((upd (r 6) v78.toNatClampNeg ((1 : Int32) &&& 1)))) hx hb hK hP hD hS 5 rfl (vp_in_iff.mpr ⟨by omega, by omega⟩) (va_up (va_up (va_up (va_up (va_up r 2 ((upd (r 2) (f 1).toNatClampNeg k0))) 3 ((upd (r 3) (f 1).toNatClampNeg w))) 4 ((upd (r 4) (f 1).toNatClampNeg h))) 6 ((upd (r 6) v78.toNatClampNeg ((1 : Int32) &&& 1)))) 6 (upd ((upd (r 6) v78.toNatClampNeg ((1 : Int32) &&& 1))) v92.toNatClampNeg ((1 : Int32) &&& 1))) (ms_6 cy mo a _ _ _ _ _) dX10_job_94 (fun H locs hP hS => ?_)
        have hP := wm_eq rfl rfl (es_r_2_3_4_6__6 r ((upd (r 2) (f 1).toNatClampNeg k0)) ((upd (r 3) (f 1).toNatClampNeg w)) ((upd (r 4) (f 1).toNatClampNeg h)) ((upd (r 6) v78.toNatClampNeg ((1 : Int32) &&& 1))) (upd ((upd (r 6) v78.toNatClampNeg ((1 : Int32) &&& 1))) v92.toNatClampNeg ((1 : Int32) &&& 1))) rfl hP
        refine lv_bipush (v := 36) hx hb dX10_job_95 (by decide) ?_
        refine lv_aload_n hx hb dX10_job_97 rfl (lv_at hl 0 rfl) ?_
        refine m_get (v := .int (f 1)) hx hb hts hin hown hK hP 1 (by decide) rfl (hts (.fieldLink RX10 93 "ShadowBenchModel" "jobs" "I") (by decide +kernel)) rfl dX10_job_98 ?_
        refine lv_imul hx hb dX10_job_101 ?_
        refine lv_topi (fun v101 e101 => ?_)
        have i101 : v101.toInt = 36 * (f 1).toInt := by rw [e101]; exact mulcL rfl (by omega) (by omega)
        refine lv_istore (lv' := [(4, .int v101), (0, .ref mo), (1, .int k0), (2, .int w), (3, .int h)]) hx hb dX10_job_102 hl (by decide) rfl (fun ls hl => ?_)
        have loop_104 : ∀ (n : Nat) (x4 : Int32) (hd : Nat → Int32), (36 * (f 1).toInt ≤ x4.toInt ∧ x4.toInt ≤ 36 * (f 1).toInt + 36) → (hd = setB (r 7) (36 * (f 1).toNatClampNeg) (fun _ => 2) (x4.toNatClampNeg - 36 * (f 1).toNatClampNeg)) → (36 * (f 1).toInt + 36 - x4.toInt).toNat < n → ∀ (H : Heap) (locs : List Loc), va_P D vwCl (WM cy mo a (upd f 0 (0 : Int32)) g (va_up (va_up (va_up (va_up (va_up r 2 ((upd (r 2) (f 1).toNatClampNeg k0))) 3 ((upd (r 3) (f 1).toNatClampNeg w))) 4 ((upd (r 4) (f 1).toNatClampNeg h))) 6 ((upd ((upd (r 6) v78.toNatClampNeg ((1 : Int32) &&& 1))) v92.toNatClampNeg ((1 : Int32) &&& 1)))) 7 hd) q) H → va_S (AM mo a) s.heap H locs → ∀ (ls : Array Slot), lv_has ls 5 [(4, .int x4), (0, .ref mo), (1, .int k0), (2, .int w), (3, .int h)] → W p l e (headSpec wsX10_job ({ frames := 2, cells := 0, slots := 0, locals := 46 })).room s m #[Value.ref mo, Value.int k0, Value.int w, Value.int h] below meth c H locs 0 0 (MQ below (va_Qi (fun r0 u => ∃ (kd : Nat → Int32), ∃ (wd : Nat → Int32), ∃ (hg : Nat → Int32), ∃ (tl : Nat → Int32), ∃ (hd : Nat → Int32), ∃ (jb : Int32), u = ((upd (upd f 0 (0 : Int32)) 1 jb), g, (va_up (va_up (va_up (va_up (va_up r 2 kd) 3 wd) 4 hg) 6 tl) 7 hd), q) ∧ (r0.toInt = jA k0 w h (f 1) ∧ ((okJ k0 w h (f 1) ∧ jb.toInt = (f 1).toInt + 1 ∧ wd = upd (r 3) (f 1).toNatClampNeg w ∧ hg = upd (r 4) (f 1).toNatClampNeg h ∧ kd = upd (r 2) (f 1).toNatClampNeg k0 ∧ tl = upd (upd (r 6) (4 * (f 1).toNatClampNeg) 1) (4 * (f 1).toNatClampNeg + 1) 1 ∧ hd = setB (r 7) (36 * (f 1).toNatClampNeg) (fun _ => 2) 36) ∨ (¬ okJ k0 w h (f 1) ∧ jb = f 1 ∧ wd = r 3 ∧ hg = r 4 ∧ kd = r 2 ∧ tl = r 6 ∧ hd = r 7)) ∧ MI (upd (upd f 0 (0 : Int32)) 1 jb) (va_up (va_up (va_up (va_up (va_up r 2 kd) 3 wd) 4 hg) 6 tl) 7 hd))) (mB D cy mo a) (AM mo a)) #[Value.ref mo, Value.int k0, Value.int w, Value.int h] s 0 0 (AM mo a)) (F0 m 104 ls []) := by
          intro n
          induction n with
          | zero => intro x4 hd j104_0 j104_1 hn; exact absurd hn (Nat.not_lt_zero _)
          | succ n ih_104 =>
            intro x4 hd j104_0 j104_1 hn_104 H locs hP hS ls hl
            have cx4 := m_cl (x := x4) (by omega)
            have cv7 := m_cl (x := v101) (by omega)
            refine lv_iload hx hb dX10_job_104 (lv_at hl 0 rfl) ?_
            refine lv_bipush (v := 36) hx hb dX10_job_106 (by decide) ?_
            refine lv_aload_n hx hb dX10_job_108 rfl (lv_at hl 1 rfl) ?_
            refine m_get (v := .int (f 1)) hx hb hts hin hown hK hP 1 (by decide) rfl (hts (.fieldLink RX10 93 "ShadowBenchModel" "jobs" "I") (by decide +kernel)) rfl dX10_job_109 ?_
            refine lv_imul hx hb dX10_job_112 ?_
            refine lv_topi (fun v112 e112 => ?_)
            have i112 : v112.toInt = 36 * (f 1).toInt := by rw [e112]; exact mulcL rfl (by omega) (by omega)
            refine lv_bipush (v := 36) hx hb dX10_job_113 (by decide) ?_
            refine lv_iadd hx hb dX10_job_115 ?_
            refine lv_topi (fun v115 e115 => ?_)
            have i115 : v115.toInt = v112.toInt + (36 : Int32).toInt := by rw [e115]; exact fb_addI (by omega) (by omega)
            refine lv_icmp_ge (tgt := 133) hx hb dX10_job_116 (by decide) (fun c116 => ?_) (fun c116 => ?_)
            · skip
              have d116 := c116
              rw [fa_le] at d116
              refine lv_aload_n hx hb dX10_job_133 rfl (lv_at hl 1 rfl) ?_
              refine lv_dup hx hb dX10_job_134 rfl ?_
              refine m_get (v := .int (f 1)) hx hb hts hin hown hK hP 1 (by decide) rfl (hts (.fieldLink RX10 93 "ShadowBenchModel" "jobs" "I") (by decide +kernel)) rfl dX10_job_135 ?_
              refine lv_iconst (v := 1) hx hb dX10_job_138 (by decide) ?_
              refine lv_iadd hx hb dX10_job_139 ?_
              refine lv_topi (fun v139 e139 => ?_)
              have i139 : v139.toInt = (f 1).toInt + (1 : Int32).toInt := by rw [e139]; exact fb_addI (by omega) (by omega)
              refine m_put (v := .int v139) (ty := .int) hx hb hts hin hown hK hP hD hS 1 (by decide) rfl (hts (.fieldLink RX10 93 "ShadowBenchModel" "jobs" "I") (by decide +kernel)) rfl (by decide +kernel) rfl rfl (upd (upd f 0 (0 : Int32)) 1 v139) g rfl dX10_job_140 (fun H locs hP hS => ?_)
              refine lv_aload_n hx hb dX10_job_143 rfl (lv_at hl 1 rfl) ?_
              refine m_get (v := .int v139) hx hb hts hin hown hK hP 1 (by decide) rfl (hts (.fieldLink RX10 93 "ShadowBenchModel" "jobs" "I") (by decide +kernel)) rfl dX10_job_144 ?_
              refine lv_iconst (v := 1) hx hb dX10_job_147 (by decide) ?_
              refine lv_isub hx hb dX10_job_148 ?_
              refine lv_topi (fun v148 e148 => ?_)
              have i148 : v148.toInt = v139.toInt - (1 : Int32).toInt := by rw [e148]; exact fb_subI (by omega) (by omega)
              have hP := wm_eq rfl rfl (ec_r_2_3_4_6_7__2_3_4_6_7 r ((upd (r 2) (f 1).toNatClampNeg k0)) ((upd (r 3) (f 1).toNatClampNeg w)) ((upd (r 4) (f 1).toNatClampNeg h)) ((upd ((upd (r 6) v78.toNatClampNeg ((1 : Int32) &&& 1))) v92.toNatClampNeg ((1 : Int32) &&& 1))) hd) rfl hP
              exact W.iret (v := v148) hx hb hr (fun t ht hW => ⟨⟨_, ((upd (upd f 0 (0 : Int32)) 1 v139), g, (va_up (va_up (va_up (va_up (va_up r 2 (((upd (r 2) (f 1).toNatClampNeg k0)))) 3 (((upd (r 3) (f 1).toNatClampNeg w)))) 4 (((upd (r 4) (f 1).toNatClampNeg h)))) 6 (((upd ((upd (r 6) v78.toNatClampNeg ((1 : Int32) &&& 1))) v92.toNatClampNeg ((1 : Int32) &&& 1))))) 7 hd), q), rfl, ⟨((upd (r 2) (f 1).toNatClampNeg k0)), ((upd (r 3) (f 1).toNatClampNeg w)), ((upd (r 4) (f 1).toNatClampNeg h)), ((upd ((upd (r 6) v78.toNatClampNeg ((1 : Int32) &&& 1))) v92.toNatClampNeg ((1 : Int32) &&& 1))), hd, v139, rfl, ⟨(by unfold jA; rw [if_pos (by omega), if_pos (by omega)]; omega), (Or.inl ⟨(by unfold okJ; omega), (by omega), rfl, rfl, rfl, (by rw [f78, f92]; rfl), (by rw [j104_1, show x4.toNatClampNeg - 36 * (f 1).toNatClampNeg = 36 by omega])⟩), (by first | exact hI | exact mi_job hI (k := k0) (w := w) (hh := h) (jb := v139) (by omega) (by omega) (by omega) (by omega) (by omega) rfl rfl rfl rfl rfl rfl rfl rfl)⟩⟩, by unfold mB; rw [ht]; exact hP⟩, hS.F ht⟩) hS.2.2 dX10_job_149
            · skip
              have d116 := c116
              rw [fa_le] at d116
              refine lv_aload_n hx hb dX10_job_119 rfl (lv_at hl 1 rfl) ?_
              refine m_get (v := .ref (a 7)) hx hb hts hin hown hK hP 7 (by decide) rfl (hts (.fieldLink RX10 26 "ShadowBenchModel" "held" "[I") (by decide +kernel)) rfl dX10_job_120 ?_
              refine lv_iload hx hb dX10_job_123 (lv_at hl 0 rfl) ?_
              refine lv_iconst (v := 2) hx hb dX10_job_125 (by decide) ?_
              refine m_iast (w := hd) hx hb hK hP hD hS 6 rfl (vp_in_iff.mpr ⟨by omega, by omega⟩) (va_up (va_up (va_up (va_up (va_up (va_up r 2 ((upd (r 2) (f 1).toNatClampNeg k0))) 3 ((upd (r 3) (f 1).toNatClampNeg w))) 4 ((upd (r 4) (f 1).toNatClampNeg h))) 6 ((upd ((upd (r 6) v78.toNatClampNeg ((1 : Int32) &&& 1))) v92.toNatClampNeg ((1 : Int32) &&& 1)))) 7 hd) 7 (upd hd x4.toNatClampNeg (2 : Int32))) (ms_7 cy mo a _ _ _ _ _) dX10_job_126 (fun H locs hP hS => ?_)
              have hP := wm_eq rfl rfl (es_r_2_3_4_6_7__7 r ((upd (r 2) (f 1).toNatClampNeg k0)) ((upd (r 3) (f 1).toNatClampNeg w)) ((upd (r 4) (f 1).toNatClampNeg h)) ((upd ((upd (r 6) v78.toNatClampNeg ((1 : Int32) &&& 1))) v92.toNatClampNeg ((1 : Int32) &&& 1))) hd (upd hd x4.toNatClampNeg (2 : Int32))) rfl hP
              obtain ⟨v127, e127⟩ : ∃ y : Int32, y = x4 + 1 := ⟨_, rfl⟩
              have i127 : v127.toInt = x4.toInt + 1 := by rw [e127]; exact fb_addI (by omega) (by omega)
              refine lv_iinc (v := v127) (lv' := [(4, .int v127), (0, .ref mo), (1, .int k0), (2, .int w), (3, .int h)]) hx hb dX10_job_127 hl (k := 0) rfl (by rw [e127]; rfl) (by decide) rfl (fun ls hl => ?_)
              refine lv_goto (tgt := 104) hx hb dX10_job_130 (by decide) ?_
              have hP := wm_eq rfl rfl (ec_r_2_3_4_6_7__2_3_4_6_7 r ((upd (r 2) (f 1).toNatClampNeg k0)) ((upd (r 3) (f 1).toNatClampNeg w)) ((upd (r 4) (f 1).toNatClampNeg h)) ((upd ((upd (r 6) v78.toNatClampNeg ((1 : Int32) &&& 1))) v92.toNatClampNeg ((1 : Int32) &&& 1))) ((upd hd x4.toNatClampNeg (2 : Int32)))) rfl hP
              exact ih_104 v127 (((upd hd x4.toNatClampNeg (2 : Int32)))) (by omega) (by rw [j104_1, show v127.toNatClampNeg - 36 * (f 1).toNatClampNeg = (x4.toNatClampNeg - 36 * (f 1).toNatClampNeg) + 1 by have := m_cl (x := v127) (by omega); omega, ← setB_s, show 36 * (f 1).toNatClampNeg + (x4.toNatClampNeg - 36 * (f 1).toNatClampNeg) = x4.toNatClampNeg by omega]) (by omega) _ _ hP hS ls (lv_sub hl [0, 1, 2, 3, 4] rfl)
        have hP := wm_eq rfl rfl (ec_r_2_3_4_6__2_3_4_6_7 r ((upd (r 2) (f 1).toNatClampNeg k0)) ((upd (r 3) (f 1).toNatClampNeg w)) ((upd (r 4) (f 1).toNatClampNeg h)) ((upd ((upd (r 6) v78.toNatClampNeg ((1 : Int32) &&& 1))) v92.toNatClampNeg ((1 : Int32) &&& 1)))) rfl hP
        exact loop_104 (36 + 1) v101 (r 7) (by omega) (by rw [show v101.toNatClampNeg - 36 * (f 1).toNatClampNeg = 0 by have := m_cl (x := v101) (by omega); omega, setB_0]) (by omega) _ _ hP hS ls (lv_sub hl [0, 1, 2, 3, 4] rfl)
      · skip
        have d33 := c33
        rw [fa_eq] at d33
        refine lv_bipush (v := (-2)) hx hb dX10_job_36 (by decide) ?_
        have hP := wm_eq (ec_f_0__0_1 f (0 : Int32)) rfl (ec_r___2_3_4_6_7 r ) rfl hP
        exact W.iret (v := ((-2) : Int32)) hx hb hr (fun t ht hW => ⟨⟨_, ((upd (upd f 0 (0 : Int32)) 1 (f 1)), g, (va_up (va_up (va_up (va_up (va_up r 2 (r 2)) 3 (r 3)) 4 (r 4)) 6 (r 6)) 7 (r 7)), q), rfl, ⟨(r 2), (r 3), (r 4), (r 6), (r 7), (f 1), rfl, ⟨(by unfold jA; rw [if_pos (by omega), if_neg (by omega)]; rfl), (Or.inr ⟨(by unfold okJ; omega), rfl, rfl, rfl, rfl, rfl, rfl⟩), (by first | exact hI | exact mi_job hI (k := k0) (w := w) (hh := h) (jb := (f 1)) (by omega) (by omega) (by omega) (by omega) (by omega) rfl rfl rfl rfl rfl rfl rfl rfl)⟩⟩, by unfold mB; rw [ht]; exact hP⟩, hS.F ht⟩) hS.2.2 dX10_job_38
    · skip
      have b22 := bo_f q19 c22
      refine lv_iconst (v := (-1)) hx hb dX10_job_25 (by decide) ?_
      have hP := wm_eq (ec_f_0__0_1 f (0 : Int32)) rfl (ec_r___2_3_4_6_7 r ) rfl hP
      exact W.iret (v := ((-1) : Int32)) hx hb hr (fun t ht hW => ⟨⟨_, ((upd (upd f 0 (0 : Int32)) 1 (f 1)), g, (va_up (va_up (va_up (va_up (va_up r 2 (r 2)) 3 (r 3)) 4 (r 4)) 6 (r 6)) 7 (r 7)), q), rfl, ⟨(r 2), (r 3), (r 4), (r 6), (r 7), (f 1), rfl, ⟨(by unfold jA; rw [if_neg (by omega)]; rfl), (Or.inr ⟨(by unfold okJ; omega), rfl, rfl, rfl, rfl, rfl, rfl⟩), (by first | exact hI | exact mi_job hI (k := k0) (w := w) (hh := h) (jb := (f 1)) (by omega) (by omega) (by omega) (by omega) (by omega) rfl rfl rfl rfl rfl rfl rfl rfl)⟩⟩, by unfold mB; rw [ht]; exact hP⟩, hS.F ht⟩) hS.2.2 dX10_job_26

/-- what is told of a job in the class: its cells and numbers -/
abbrev JT : Type := (Nat × Nat × Nat × Nat × Nat × Nat × Nat × Nat) × (Int64 × Int64) × List Value × (Nat → Int32) × (Nat → Int32)
abbrev jX (T : JT) : Nat := T.1.1
abbrev jK (T : JT) : Nat := T.1.2.1
abbrev jB (T : JT) : Nat := T.1.2.2.1
abbrev jS (T : JT) : Nat := T.1.2.2.2.1
abbrev jL (T : JT) : Nat := T.1.2.2.2.2.1
abbrev jW (T : JT) : Nat := T.1.2.2.2.2.2.1
abbrev jH (T : JT) : Nat := T.1.2.2.2.2.2.2.1
abbrev jC (T : JT) : Nat := T.1.2.2.2.2.2.2.2
abbrev jO (T : JT) : Int64 := T.2.1.1
abbrev jNn (T : JT) : Int64 := T.2.1.2
abbrev jM (T : JT) : List Value := T.2.2.1
abbrev jF (T : JT) : Nat → Int32 := T.2.2.2.1
abbrev jG (T : JT) : Nat → Int32 := T.2.2.2.2
/-- a job's numbers are the reference's -/
def jP (j : Nat) (T : JT) (r : Nat → Nat → Int32) : Prop :=
  jK T = kcl (r 2 j) ∧ jW T = (r 3 j).toNatClampNeg ∧ jH T = (r 4 j).toNatClampNeg ∧
  (∀ y, y < 4 → (r 6 (4 * j + y) = 0 ↔ tB (jL T) y = false)) ∧
  (∀ y l, y < 4 → l < lnC (jW T) (jH T) y → jF T (y * 11 + l) = if tB (jL T) y then r 5 (44 * j + 11 * y + l) else 0) ∧
  (∀ s, s < jW T * jH T → r 7 (36 * j + s) = hH (jO T) (jNn T) s ∧ ¬ (lb (jO T) s = true ∧ lb (jNn T) s = true)) ∧ (∀ s, jW T * jH T ≤ s → lb (jO T) s = false) ∧
  (jK T = 4 → ∀ s, s < jW T * jH T → jG T s = r 8 (36 * j + s)) ∧ (∀ s, jW T * jH T ≤ s → s < 36 → r 8 (36 * j + s) = 0) ∧
  (tB (jL T) 0 = true ∧ tB (jL T) 1 = true) ∧ (∀ y l, y < 4 → l < lnC (jW T) (jH T) y → 0 ≤ (jF T (y * 11 + l)).toInt ∧ (jF T (y * 11 + l)).toInt ≤ 6)
def jobT (cy : Nat → ClassId) (G : cG) (W : va_W) (fa : Nat → Option Nat) (j : Nat) (T : JT) (r : Nat → Nat → Int32) : Prop :=
  jobS cy G W fa j (jX T) (jK T) (jB T) (jS T) (jL T) (jW T) (jH T) (jO T) (jNn T) (jM T) (jF T) ∧ (jK T = 4 → jM T = [.ref (jC T)] ∧ cIn W (jC T) (.inl (cy 0, jW T * jH T, .inl (jG T)))) ∧ jP j T r
def jDif (S T : JT) : Prop := jX S ≠ jX T ∧ jS S ≠ jS T ∧ (jK S = 4 → jC S ≠ jS T) ∧ (jK T = 4 → jC T ≠ jS S) ∧ (jK S = 4 → jK T = 4 → jC S ≠ jC T)
def jZ (j : Nat) (r : Nat → Nat → Int32) : Prop := (∀ e, e < 44 → r 5 (44 * j + e) = 0) ∧ (∀ y, y < 4 → r 6 (4 * j + y) = 0) ∧ (∀ s, s < 36 → r 8 (36 * j + s) = 0)
def RJ (cy : Nat → ClassId) (G : cG) (W : va_W) (fa : Nat → Option Nat) (jc : Int32) (J : Nat → JT) (r : Nat → Nat → Int32) : Prop :=
  (∀ j : Nat, (j : Int) < jc.toInt → jobT cy G W fa j (J j) r) ∧ (∀ i j : Nat, (i : Int) < jc.toInt → (j : Int) < jc.toInt → i ≠ j → jDif (J i) (J j)) ∧ (∀ i : Nat, (i : Int) < jc.toInt → jK (J i) = 4 → jC (J i) ≠ jS (J i)) ∧ (∀ j : Nat, jc.toInt ≤ (j : Int) → j < 8 → jZ j r)
theorem bs_mono {f g : Nat → Bool} {n : Nat} (h : ∀ i, i < n → f i = true → g i = true) : bs f n ≤ bs g n := by
  induction n with
  | zero => exact Nat.le_refl _
  | succ n ih =>
    have h1 := ih (fun i hi => h i (by omega))
    have h2 := h n (by omega)
    simp only [bs]
    cases hf : f n
    · simp only [Bool.toNat_false]; omega
    · rw [h2 hf]; simp only [Bool.toNat_true]; omega
theorem ln_6 : ∀ w, w < 7 → ∀ h, h < 7 → ∀ way, way < 4 → ∀ line, line < 11 → bs (fun s => decide (lnT h way (s % w) (s / w) = line)) (w * h) ≤ 6 := by decide +kernel
theorem shN_6 {w h : Nat} (hb : 1 ≤ w ∧ w ≤ 6 ∧ 1 ≤ h ∧ h ≤ 6) {p : Int64} {way line : Nat} (hy : way < 4) (hl : line < 11) : shN w h p way line ≤ 6 := by
  have a := ln_6 w (by omega) h (by omega) way hy line hl
  have b : shN w h p way line ≤ bs (fun s => decide (lnT h way (s % w) (s / w) = line)) (w * h) := by
    unfold shN
    exact bs_mono (fun i _ hi => (Bool.and_eq_true_iff.mp hi).1)
  omega
theorem shN_I {w h : Nat} (hb : 1 ≤ w ∧ w ≤ 6 ∧ 1 ≤ h ∧ h ≤ 6) {p : Int64} {way line : Nat} (hy : way < 4) (hl : line < 11) : 0 ≤ (nI (shN w h p way line)).toInt ∧ (nI (shN w h p way line)).toInt ≤ 6 := by
  have a := shN_6 hb (p := p) hy hl
  rw [nI_toInt (by omega)]
  omega
section RJS
variable {cy : Nat → ClassId} {A : Nat → Prop} {G G1 : cG} {W W1 : va_W} {fa : Nat → Option Nat} {jc : Int32} {J : Nat → JT} {r r1 : Nat → Nat → Int32}
/-- the cells of a job and their kinds -/
theorem jobT.kinds (hD : va_D A W) (hT : cT cy G W) {j : Nat} {T : JT} (h : jobT cy G W fa j T r) : G (jX T) = some (3, jK T, 8 * jW T + jH T) ∧ G (jS T) = some (14, 44, 0) ∧ (jK T = 4 → G (jC T) = some (14, jW T * jH T, 0)) := by
  obtain ⟨⟨-, hx, hb, -, hm, -⟩, h2, -⟩ := h
  obtain ⟨-, hs, hj⟩ := w3sh hD hT hx hb hm
  refine ⟨hx, hs, fun z => ?_⟩
  rw [z] at hj
  obtain ⟨-, c, e1, e2⟩ := cJ4 hj
  have e3 := (h2 z).1
  rw [e3] at e1
  simp only [List.cons.injEq, Value.ref.injEq, and_true] at e1
  rw [e1]
  exact e2
/-- a job stays where its cells stay -/
theorem jobT.stay {j : Nat} {T : JT} (h : jobT cy G W fa j T r) (hE : cE G G1) (hx : ∀ e, cIn W (jX T) e → cIn W1 (jX T) e) (hs : ∀ e, cIn W (jS T) e → cIn W1 (jS T) e) (hc : jK T = 4 → ∀ e, cIn W (jC T) e → cIn W1 (jC T) e) (hp : jP j T r1) : jobT cy G1 W1 fa j T r1 := by
  obtain ⟨⟨h1, h2, h3, h4, h5, h6⟩, h7, -⟩ := h
  exact ⟨⟨h1, hE _ _ h2, h3, h4, hx _ h5, hs _ h6⟩, fun z => ⟨(h7 z).1, hc z _ (h7 z).2⟩, hp⟩
theorem jP.same {j : Nat} {T : JT} (h : jP j T r) (e2 : r1 2 = r 2) (e3 : r1 3 = r 3) (e4 : r1 4 = r 4) (e5 : r1 5 = r 5) (e6 : r1 6 = r 6) (e7 : r1 7 = r 7) (e8 : r1 8 = r 8) : jP j T r1 := by
  unfold jP
  rw [e2, e3, e4, e5, e6, e7, e8]
  exact h
theorem jZ.same {j : Nat} (h : jZ j r) (e5 : r1 5 = r 5) (e6 : r1 6 = r 6) (e8 : r1 8 = r 8) : jZ j r1 := by
  unfold jZ
  rw [e5, e6, e8]
  exact h
/-- nothing of the jobs changes -/
theorem RJ.keep (h : RJ cy G W fa jc J r) (hD : va_D A W) (hT : cT cy G W) {ch : List Nat} (hX : cX none (chs ch) G W G1 W1) (h3 : chs ch 3 = false) (h14 : chs ch 14 = false) (e2 : r1 2 = r 2) (e3 : r1 3 = r 3) (e4 : r1 4 = r 4) (e5 : r1 5 = r 5) (e6 : r1 6 = r 6) (e7 : r1 7 = r 7) (e8 : r1 8 = r 8) : RJ cy G1 W1 fa jc J r1 := by
  obtain ⟨a, b, c, d⟩ := h
  refine ⟨fun j hj => ?_, b, c, fun j h1 h2 => (d j h1 h2).same e5 e6 e8⟩
  obtain ⟨k1, k2, k3⟩ := (a j hj).kinds hD hT
  exact (a j hj).stay hX.1 (fun e hi => hX.2.1 _ _ (cP.no k1 h3) hi) (fun e hi => hX.2.1 _ _ (cP.no k2 h14) hi) (fun z e hi => hX.2.1 _ _ (cP.no (k3 z) h14) hi) ((a j hj).2.2.same e2 e3 e4 e5 e6 e7 e8)
/-- one job changes, at its own cells -/
theorem RJ.up (h : RJ cy G W fa jc J r) (hD : va_D A W) (hT : cT cy G W) {i : Nat} (hi : (i : Int) < jc.toInt) {P : Nat → Prop} (hP : ∀ z, P z → z = jX (J i) ∨ z = jS (J i) ∨ (jK (J i) = 4 ∧ z = jC (J i))) (hF : cF P W W1) {T : JT} (eX : jX T = jX (J i)) (eS : jS T = jS (J i)) (eC : jC T = jC (J i)) (eK : jK T = jK (J i)) (hTi : jobT cy G W1 fa i T r1)
    (hr : ∀ j : Nat, j ≠ i → j < 8 → (∀ S : JT, (1 ≤ jW S ∧ jW S ≤ 6 ∧ 1 ≤ jH S ∧ jH S ≤ 6) → jP j S r → jP j S r1) ∧ (jZ j r → jZ j r1)) (h8 : jc.toInt ≤ 8) : RJ cy G W1 fa jc (va_up J i T) r1 := by
  obtain ⟨a, b, c, d⟩ := h
  obtain ⟨i1, i2, i3⟩ := (a i hi).kinds hD hT
  refine ⟨fun j hj => ?_, fun j k hj hk hn => ?_, fun j hj => ?_, fun j h1 h2 => (hr j (by omega) h2).2 (d j h1 h2)⟩
  · by_cases z : j = i
    · subst z
      simp only [va_up, if_true]
      exact hTi
    · simp only [va_up, z, if_false]
      obtain ⟨k1, k2, k3⟩ := (a j hj).kinds hD hT
      obtain ⟨d1, d2, d3, d4, d5⟩ := b j i hj hi z
      refine (a j hj).stay cE.rf (fun e he => hF _ _ (fun y => ?_) he) (fun e he => hF _ _ (fun y => ?_) he) (fun y4 e he => hF _ _ (fun y => ?_) he) ((hr j z (by omega)).1 _ (a j hj).1.2.2.1 (a j hj).2.2)
      · rcases hP _ y with y | y | ⟨y4, y⟩
        · exact d1 y
        · exact cne k1 i2 (show (3 : Nat) ≠ 14 by decide) y
        · exact cne k1 (i3 y4) (show (3 : Nat) ≠ 14 by decide) y
      · rcases hP _ y with y | y | ⟨y4, y⟩
        · exact cne k2 i1 (show (14 : Nat) ≠ 3 by decide) y
        · exact d2 y
        · exact d4 y4 y.symm
      · rcases hP _ y with y | y | ⟨z4, y⟩
        · exact cne (k3 y4) i1 (show (14 : Nat) ≠ 3 by decide) y
        · exact d3 y4 y
        · exact d5 y4 z4 y
  · have key : ∀ j : Nat, jX (va_up J i T j) = jX (J j) ∧ jS (va_up J i T j) = jS (J j) ∧ jC (va_up J i T j) = jC (J j) ∧ jK (va_up J i T j) = jK (J j) := fun j => by
      by_cases z : j = i
      · subst z; simp only [va_up, if_true]; exact ⟨eX, eS, eC, eK⟩
      · simp only [va_up, z, if_false]; exact ⟨trivial, trivial, trivial, trivial⟩
    unfold jDif
    rw [(key j).1, (key j).2.1, (key j).2.2.1, (key j).2.2.2, (key k).1, (key k).2.1, (key k).2.2.1, (key k).2.2.2]
    exact b j k hj hk hn
  · by_cases z : j = i
    · subst z; simp only [va_up, if_true]; rw [eK, eC, eS]; exact c j hj
    · simp only [va_up, z, if_false]; exact c j hj
/-- other jobs' numbers are seen at their own places alone -/
theorem jP.other {j : Nat} {T : JT} (hb : 1 ≤ jW T ∧ jW T ≤ 6 ∧ 1 ≤ jH T ∧ jH T ≤ 6) (h : jP j T r) (e2 : r1 2 = r 2) (e3 : r1 3 = r 3) (e4 : r1 4 = r 4) (e5 : ∀ e, e < 44 → r1 5 (44 * j + e) = r 5 (44 * j + e)) (e6 : ∀ y, y < 4 → r1 6 (4 * j + y) = r 6 (4 * j + y)) (e7 : ∀ s, s < 36 → r1 7 (36 * j + s) = r 7 (36 * j + s)) (e8 : ∀ s, s < 36 → r1 8 (36 * j + s) = r 8 (36 * j + s)) : jP j T r1 := by
  obtain ⟨a1, a2, a3, a4, a5, a6, a7, a8, a9, aA⟩ := h
  have m36 := cb_mul hb
  refine ⟨by rw [e2]; exact a1, by rw [e3]; exact a2, by rw [e4]; exact a3, fun y hy => by rw [e6 y hy]; exact a4 y hy, fun y l hy hl => ?_, fun s hs => by rw [e7 s (by omega)]; exact a6 s hs, a7, fun z s hs => by rw [e8 s (by omega)]; exact a8 z s hs, fun s h1 h2 => by rw [e8 s h2]; exact a9 s h1 h2, aA⟩
  have lc := lnC_b hb y
  rw [show 44 * j + 11 * y + l = 44 * j + (11 * y + l) by omega, e5 (11 * y + l) (by omega), ← show 44 * j + 11 * y + l = 44 * j + (11 * y + l) by omega]
  exact a5 y l hy hl
theorem jZ.other {j : Nat} (h : jZ j r) (e5 : ∀ e, e < 44 → r1 5 (44 * j + e) = r 5 (44 * j + e)) (e6 : ∀ y, y < 4 → r1 6 (4 * j + y) = r 6 (4 * j + y)) (e8 : ∀ s, s < 36 → r1 8 (36 * j + s) = r 8 (36 * j + s)) : jZ j r1 :=
  ⟨fun e he => by rw [e5 e he]; exact h.1 e he, fun y hy => by rw [e6 y hy]; exact h.2.1 y hy, fun s hs => by rw [e8 s hs]; exact h.2.2 s hs⟩
/-- the same cells, other numbers -/
def jtSet (T : JT) (t : Nat) (fs : Nat → Int32) : JT := ((jX T, jK T, jB T, jS T, t, jW T, jH T, jC T), T.2.1, jM T, fs, jG T)
def jtHold (T : JT) (o n : Int64) : JT := (T.1, (o, n), T.2.2)
def jtMark (T : JT) (fm : Nat → Int32) : JT := (T.1, T.2.1, jM T, jF T, fm)
theorem jP_tell {j y0 : Nat} {T : JT} {g fs1 : Nat → Int32} (h : jP j T r) (ht : jL T < 16) (hy0 : y0 < 4) (hf : ∀ y l, y < 4 → l < lnC (jW T) (jH T) y → fs1 (y * 11 + l) = if y = y0 then g l else jF T (y * 11 + l)) (hg : ∀ l, l < lnC (jW T) (jH T) y0 → 0 ≤ (g l).toInt ∧ (g l).toInt ≤ 6) (e2 : r1 2 = r 2) (e3 : r1 3 = r 3) (e4 : r1 4 = r 4) (e7 : r1 7 = r 7) (e8 : r1 8 = r 8) (e6 : ∀ y, y < 4 → r1 6 (4 * j + y) = if y = y0 then 1 else r 6 (4 * j + y)) (e5 : ∀ y l, y < 4 → l < lnC (jW T) (jH T) y → r1 5 (44 * j + 11 * y + l) = if y = y0 then g l else r 5 (44 * j + 11 * y + l)) : jP j (jtSet T (tU (jL T) y0) fs1) r1 := by
  obtain ⟨a1, a2, a3, a4, a5, a6, a7, a8, a9, ⟨aA, aB⟩, aC⟩ := h
  refine ⟨by rw [e2]; exact a1, by rw [e3]; exact a2, by rw [e4]; exact a3, fun y hy => ?_, fun y l hy hl => ?_, by rw [e7]; exact a6, a7, by rw [e8]; exact a8, by rw [e8]; exact a9, ⟨(by show tB (tU (jL T) y0) 0 = true; rw [(tB_1 _ ht y0 hy0 0 (by omega)).1, aA, Bool.or_true]), (by show tB (tU (jL T) y0) 1 = true; rw [(tB_1 _ ht y0 hy0 1 (by omega)).1, aB, Bool.or_true])⟩, fun y l hy hl => (by
    show 0 ≤ (fs1 (y * 11 + l)).toInt ∧ (fs1 (y * 11 + l)).toInt ≤ 6
    have hl' : l < lnC (jW T) (jH T) y := hl
    rw [hf y l hy hl']
    by_cases z : y = y0
    · rw [if_pos z]; rw [z] at hl'; exact hg l hl'
    · rw [if_neg z]; exact aC y l hy hl')⟩
  · show _ ↔ tB (tU (jL T) y0) y = false
    rw [e6 y hy, (tB_1 _ ht y0 hy0 y hy).1]
    by_cases z : y = y0
    · rw [if_pos z, decide_eq_true z, Bool.true_or]; exact ⟨fun c => absurd c (by decide), fun c => by cases c⟩
    · rw [if_neg z, decide_eq_false z, Bool.false_or]; exact a4 y hy
  · show fs1 (y * 11 + l) = if tB (tU (jL T) y0) y then _ else _
    have hl' : l < lnC (jW T) (jH T) y := hl
    rw [hf y l hy hl', e5 y l hy hl', (tB_1 _ ht y0 hy0 y hy).1]
    by_cases z : y = y0
    · rw [if_pos z, if_pos z, decide_eq_true z, Bool.true_or, if_pos rfl]
    · rw [if_neg z, if_neg z, decide_eq_false z, Bool.false_or]; exact a5 y l hy hl'
theorem jP_untell {j y0 : Nat} {T : JT} {fs1 : Nat → Int32} (h : jP j T r) (ht : jL T < 16) (hy0 : y0 < 4) (hy2 : 2 ≤ y0) (hf : ∀ y l, y < 4 → l < lnC (jW T) (jH T) y → fs1 (y * 11 + l) = if y = y0 then 0 else jF T (y * 11 + l)) (e2 : r1 2 = r 2) (e3 : r1 3 = r 3) (e4 : r1 4 = r 4) (e5 : r1 5 = r 5) (e7 : r1 7 = r 7) (e8 : r1 8 = r 8) (e6 : ∀ y, y < 4 → r1 6 (4 * j + y) = if y = y0 then 0 else r 6 (4 * j + y)) : jP j (jtSet T (tD (jL T) y0) fs1) r1 := by
  obtain ⟨a1, a2, a3, a4, a5, a6, a7, a8, a9, ⟨aA, aB⟩, aC⟩ := h
  refine ⟨by rw [e2]; exact a1, by rw [e3]; exact a2, by rw [e4]; exact a3, fun y hy => ?_, fun y l hy hl => ?_, by rw [e7]; exact a6, a7, by rw [e8]; exact a8, by rw [e8]; exact a9, ⟨(by show tB (tD (jL T) y0) 0 = true; rw [(tB_1 _ ht y0 hy0 0 (by omega)).2, aA, decide_eq_false (by omega)]; rfl), (by show tB (tD (jL T) y0) 1 = true; rw [(tB_1 _ ht y0 hy0 1 (by omega)).2, aB, decide_eq_false (by omega)]; rfl)⟩, fun y l hy hl => (by
    show 0 ≤ (fs1 (y * 11 + l)).toInt ∧ (fs1 (y * 11 + l)).toInt ≤ 6
    have hl' : l < lnC (jW T) (jH T) y := hl
    rw [hf y l hy hl']
    by_cases z : y = y0
    · rw [if_pos z]; decide
    · rw [if_neg z]; exact aC y l hy hl')⟩
  · show _ ↔ tB (tD (jL T) y0) y = false
    rw [e6 y hy, (tB_1 _ ht y0 hy0 y hy).2]
    by_cases z : y = y0
    · rw [if_pos z, decide_eq_true z, Bool.not_true, Bool.false_and]; exact ⟨fun _ => rfl, fun _ => rfl⟩
    · rw [if_neg z, decide_eq_false z, Bool.not_false, Bool.true_and]; exact a4 y hy
  · show fs1 (y * 11 + l) = if tB (tD (jL T) y0) y then _ else _
    have hl' : l < lnC (jW T) (jH T) y := hl
    rw [hf y l hy hl', e5, (tB_1 _ ht y0 hy0 y hy).2]
    by_cases z : y = y0
    · rw [if_pos z, decide_eq_true z, Bool.not_true, Bool.false_and]; rfl
    · rw [if_neg z, decide_eq_false z, Bool.not_false, Bool.true_and]; exact a5 y l hy hl'
theorem jP_hold {j s0 : Nat} {T : JT} {x1 y1 : Int64} {how : Int32} (h : jP j T r) (h36 : jW T * jH T ≤ 36) (hs : s0 < jW T * jH T) (hw : 0 ≤ how.toInt ∧ how.toInt ≤ 2) (hx : hO (jO T) s0 (decide (how.toInt = 1)) x1) (hy : hO (jNn T) s0 (decide (how.toInt = 0)) y1) (e2 : r1 2 = r 2) (e3 : r1 3 = r 3) (e4 : r1 4 = r 4) (e5 : r1 5 = r 5) (e6 : r1 6 = r 6) (e8 : r1 8 = r 8) (e7 : r1 7 = upd (r 7) (36 * j + s0) how) : jP j (jtHold T x1 y1) r1 := by
  obtain ⟨a1, a2, a3, a4, a5, a6, a7, a8, a9, aA⟩ := h
  refine ⟨by rw [e2]; exact a1, by rw [e3]; exact a2, by rw [e4]; exact a3, by rw [e6]; exact a4, by rw [e5]; exact a5, fun s h1 => ?_, fun s h1 => ?_, by rw [e8]; exact a8, by rw [e8]; exact a9, aA⟩
  · have h1' : s < jW T * jH T := h1
    show r1 7 (36 * j + s) = hH x1 y1 s ∧ ¬ (lb x1 s = true ∧ lb y1 s = true)
    have ex := hx s (by omega)
    have ey := hy s (by omega)
    rw [e7]
    unfold hH upd
    rw [ex, ey]
    by_cases z : s = s0
    · rw [if_pos z, if_pos z, if_pos (by omega)]
      have c : how.toInt = 0 ∨ how.toInt = 1 ∨ how.toInt = 2 := by omega
      rcases c with c | c | c
      · have e : how = 0 := Int32.toInt_inj.mp (by rw [c]; rfl)
        rw [e]; decide
      · have e : how = 1 := Int32.toInt_inj.mp (by rw [c]; rfl)
        rw [e]; decide
      · have e : how = 2 := Int32.toInt_inj.mp (by rw [c]; rfl)
        rw [e]; decide
    · rw [if_neg z, if_neg z, if_neg (by omega)]
      exact a6 s h1'
  · have h1' : jW T * jH T ≤ s := h1
    show lb x1 s = false
    by_cases z : s < 64
    · rw [hx s z, if_neg (by omega)]; exact a7 s h1'
    · exact lb_big (by omega)
theorem jP_mark {j s0 : Nat} {T : JT} {v : Int32} (h : jP j T r) (h36 : jW T * jH T ≤ 36) (hs : s0 < jW T * jH T) (e2 : r1 2 = r 2) (e3 : r1 3 = r 3) (e4 : r1 4 = r 4) (e5 : r1 5 = r 5) (e6 : r1 6 = r 6) (e7 : r1 7 = r 7) (e8 : r1 8 = upd (r 8) (36 * j + s0) v) : jP j (jtMark T (upd (jG T) s0 v)) r1 := by
  obtain ⟨a1, a2, a3, a4, a5, a6, a7, a8, a9, aA⟩ := h
  refine ⟨by rw [e2]; exact a1, by rw [e3]; exact a2, by rw [e4]; exact a3, by rw [e6]; exact a4, by rw [e5]; exact a5, by rw [e7]; exact a6, a7, fun z s h1 => ?_, fun s h1 h2 => ?_, aA⟩
  · show upd (jG T) s0 v s = r1 8 (36 * j + s)
    rw [e8]
    unfold upd
    by_cases y : s = s0
    · rw [if_pos y, if_pos (by omega)]
    · rw [if_neg y, if_neg (by omega)]; exact a8 z s h1
  · have h1' : jW T * jH T ≤ s := h1
    rw [e8]
    unfold upd
    rw [if_neg (by omega)]
    exact a9 s h1' h2
/-- rows of the class: what setL, upd show at a line -/
theorem setL_at {fs g : Nat → Int32} {y0 n y l : Nat} (hn : n ≤ 11) (hl : l < 11) (hn0 : y = y0 → l < n) : setL fs y0 g n (y * 11 + l) = if y = y0 then g l else fs (y * 11 + l) := by
  unfold setL
  by_cases z : y = y0
  · have := hn0 z
    rw [if_pos z, if_pos (by subst z; omega), z, Nat.add_sub_cancel_left]
  · rw [if_neg z, if_neg (by omega)]
theorem setB_at {fs g : Nat → Int32} {j y0 n y l : Nat} (hn : n ≤ 11) (hl : l < 11) (hn0 : y = y0 → l < n) : setB fs (44 * j + 11 * y0) g n (44 * j + 11 * y + l) = if y = y0 then g l else fs (44 * j + 11 * y + l) := by
  unfold setB
  by_cases z : y = y0
  · have := hn0 z
    rw [if_pos z, if_pos (by subst z; omega), z, Nat.add_sub_cancel_left]
  · rw [if_neg z, if_neg (by omega)]
/-- the reference's row behind tell -/
theorem tell_at {j y0 y l : Nat} {T : JT} (h : jP j T r) (hy0 : y0 < 4) (hl : l < 11) (hl2 : y = y0 → l < lnC (jW T) (jH T) y0) : (if r 6 (4 * j + y0) = 0 then zL (r 5) (44 * j + 11 * y0) 11 else r 5) (44 * j + 11 * y + l) = if y = y0 then (jF T (y0 * 11 + l)) else r 5 (44 * j + 11 * y + l) := by
  by_cases z : y = y0
  · rw [if_pos z, z, h.2.2.2.2.1 y0 l hy0 (hl2 z)]
    by_cases c : r 6 (4 * j + y0) = 0
    · rw [if_pos c, (h.2.2.2.1 y0 hy0).mp c]
      unfold zL
      rw [if_pos (by omega)]; rfl
    · have c2 : tB (jL T) y0 = true := by cases hb : tB (jL T) y0; exact absurd ((h.2.2.2.1 y0 hy0).mpr hb) c; rfl
      rw [if_neg c, c2]; rfl
  · rw [if_neg z]
    by_cases c : r 6 (4 * j + y0) = 0
    · rw [if_pos c]; unfold zL; rw [if_neg (by omega)]
    · rw [if_neg c]
/-- a valid job's own tuple -/
theorem RJ.at (h : RJ cy G W fa jc J r) {j : Int32} (hj : okJob jc j) : jobT cy G W fa j.toNatClampNeg (J j.toNatClampNeg) r := h.1 _ (by have := m_cl (x := j) hj.1; have := hj.2; omega)
theorem RJ.js (h : RJ cy G W fa jc J r) {j : Int32} : okJob jc j → jobS cy G W fa j.toNatClampNeg (jX (J j.toNatClampNeg)) (jK (J j.toNatClampNeg)) (jB (J j.toNatClampNeg)) (jS (J j.toNatClampNeg)) (jL (J j.toNatClampNeg)) (jW (J j.toNatClampNeg)) (jH (J j.toNatClampNeg)) (jO (J j.toNatClampNeg)) (jNn (J j.toNatClampNeg)) (jM (J j.toNatClampNeg)) (jF (J j.toNatClampNeg)) := fun hj => (h.at hj).1
theorem RJ.sm (h : RJ cy G W fa jc J r) : ∀ i : Nat, (i : Int) < jc.toInt → ∃ x, fa i = some x := fun i hi => ⟨_, (h.1 i hi).1.1⟩
theorem RJ.sz (h : RJ cy G W fa jc J r) {j : Int32} (hj : okJob jc j) : jW (J j.toNatClampNeg) = (r 3 j.toNatClampNeg).toNatClampNeg ∧ jH (J j.toNatClampNeg) = (r 4 j.toNatClampNeg).toNatClampNeg := ⟨(h.at hj).2.2.2.1, (h.at hj).2.2.2.2.1⟩
/-- other places of the rows -/
theorem ne_44 {i j e e' : Nat} (h : j ≠ i) (he : e < 44) (he' : e' < 44) : 44 * j + e ≠ 44 * i + e' := by omega
theorem ne_36 {i j e e' : Nat} (h : j ≠ i) (he : e < 36) (he' : e' < 36) : 36 * j + e ≠ 36 * i + e' := by omega
theorem ne_4 {i j e e' : Nat} (h : j ≠ i) (he : e < 4) (he' : e' < 4) : 4 * j + e ≠ 4 * i + e' := by omega
theorem oth_sm {f6 f5 : Nat → Int32} {n y0 i e x : Nat} (hi : i ≠ n) (he : e < 44) (hy : y0 < 4) : (if f6 x = 0 then zL f5 (44 * n + 11 * y0) 11 else f5) (44 * i + e) = f5 (44 * i + e) := by
  by_cases c : f6 x = 0
  · rw [if_pos c]; unfold zL; rw [if_neg (by omega)]
  · rw [if_neg c]
theorem oth_u {f : Nat → Int32} {a b : Nat} {v : Int32} (h : a ≠ b) : upd f b v a = f a := by unfold upd; rw [if_neg h]
theorem oth_B {f g : Nat → Int32} {n y0 i e m : Nat} (hi : i ≠ n) (he : e < 44) (hy : y0 < 4) (hm : m ≤ 11) : setB f (44 * n + 11 * y0) g m (44 * i + e) = f (44 * i + e) := by
  unfold setB
  rw [if_neg (by omega)]
theorem RJ.sum (h : RJ cy G W fa jc J r) (hD : va_D A W) (hT : cT cy G W) (h8 : jc.toInt ≤ 8) {j way line v : Int32} (hF : cF (fun b => b = jX (J j.toNatClampNeg) ∨ b = jS (J j.toNatClampNeg)) W W1)
    (hc : (okSum9 jc (jW (J j.toNatClampNeg)) (jH (J j.toNatClampNeg)) j way line v ∧ cIn W1 (jX (J j.toNatClampNeg)) (.inr (jK (J j.toNatClampNeg), .ref (jB (J j.toNatClampNeg)) :: .ref (jS (J j.toNatClampNeg)) :: .int (nI (tU (jL (J j.toNatClampNeg)) way.toNatClampNeg)) :: .long (jO (J j.toNatClampNeg)) :: .long (jNn (J j.toNatClampNeg)) :: jM (J j.toNatClampNeg))) ∧ cIn W1 (jS (J j.toNatClampNeg)) (.inl (cy 0, 44, .inl (upd (jF (J j.toNatClampNeg)) (way.toNatClampNeg * 11 + line.toNatClampNeg) v)))) ∨ (¬ okSum9 jc (jW (J j.toNatClampNeg)) (jH (J j.toNatClampNeg)) j way line v ∧ W1 = W))
    (hr : (okSum9 jc (r 3 j.toNatClampNeg).toNatClampNeg (r 4 j.toNatClampNeg).toNatClampNeg j way line v ∧ r1 6 = upd (r 6) (4 * j.toNatClampNeg + way.toNatClampNeg) 1 ∧ r1 5 = upd (if r 6 (4 * j.toNatClampNeg + way.toNatClampNeg) = 0 then zL (r 5) (44 * j.toNatClampNeg + 11 * way.toNatClampNeg) 11 else r 5) (44 * j.toNatClampNeg + 11 * way.toNatClampNeg + line.toNatClampNeg) v) ∨ (¬ okSum9 jc (r 3 j.toNatClampNeg).toNatClampNeg (r 4 j.toNatClampNeg).toNatClampNeg j way line v ∧ r1 6 = r 6 ∧ r1 5 = r 5))
    (e2 : r1 2 = r 2) (e3 : r1 3 = r 3) (e4 : r1 4 = r 4) (e7 : r1 7 = r 7) (e8 : r1 8 = r 8) : ∃ J', RJ cy G W1 fa jc J' r1 := by
  rcases hc with ⟨ok, c1, c2⟩ | ⟨no, c1⟩
  · have hj := ok.1
    have sz := h.sz hj
    rcases hr with ⟨-, r6, r5⟩ | ⟨no2, -⟩
    · obtain ⟨⟨f1, f2, f3, f4, f5, f6⟩, f7, f8⟩ := h.at hj
      have cj := m_cl (x := j) hj.1
      have hj2 := hj.2
      obtain ⟨⟨ow1, ow2⟩, ol1, ol2⟩ := ok.2.1
      have cw := m_cl (x := way) ow1
      have cl := m_cl (x := line) ol1
      have lc := lnC_b f3 way.toNatClampNeg
      generalize hn : j.toNatClampNeg = n at *
      generalize hy : way.toNatClampNeg = y0 at *
      generalize hl : line.toNatClampNeg = l0 at *
      refine ⟨va_up J n (jtSet (J n) (tU (jL (J n)) y0) (upd (jF (J n)) (y0 * 11 + l0) v)), h.up hD hT (i := n) (by omega) (fun z hz => hz.imp id Or.inl) hF rfl rfl rfl rfl ?_ (fun i hi hi8 => ⟨fun S hS hP => hP.other hS e2 e3 e4 (fun e he => ?_) (fun y hy => ?_) (fun s hs => by rw [e7]) (fun s hs => by rw [e8]), fun hz => hz.other (fun e he => ?_) (fun y hy => ?_) (fun s hs => by rw [e8])⟩) h8⟩
      · have lt := tU_0 _ f4 y0 (by omega)
        refine ⟨⟨f1, f2, f3, lt.2.1, c1, c2⟩, fun z => ⟨(f7 z).1, hF _ _ (fun y => ?_) (f7 z).2⟩, jP_tell (g := fun l => if l = l0 then v else jF (J n) (y0 * 11 + l)) f8 f4 (by omega) (fun y l hy hl => ?_) (fun l hl => ?_) e2 e3 e4 e7 e8 (fun y hy => ?_) (fun y l hy hl => ?_)⟩
        · obtain ⟨k1, -, k3⟩ := (h.1 n (by omega)).kinds hD hT
          rcases y with y | y
          · exact cne (k3 z) k1 (show (14 : Nat) ≠ 3 by decide) y
          · exact h.2.2.1 n (by omega) z y
        · have := lnC_b f3 y
          unfold upd
          by_cases z : y = y0
          · subst z
            rw [if_pos rfl]
            by_cases z2 : l = l0
            · rw [if_pos (by omega), if_pos z2]
            · rw [if_neg (by omega), if_neg z2]
          · rw [if_neg z, if_neg (by omega)]
        · show 0 ≤ (if l = l0 then v else jF (J n) (y0 * 11 + l)).toInt ∧ (if l = l0 then v else jF (J n) (y0 * 11 + l)).toInt ≤ 6
          by_cases z : l = l0
          · rw [if_pos z]; exact ok.2.2
          · rw [if_neg z]; exact f8.2.2.2.2.2.2.2.2.2.2 y0 l (by omega) hl
        · rw [r6]
          unfold upd
          by_cases z : y = y0
          · rw [if_pos z, if_pos (by omega)]
          · rw [if_neg z, if_neg (by omega)]
        · have := lnC_b f3 y
          rw [r5]
          have ta := tell_at (y := y) (l := l) f8 (show y0 < 4 by omega) (by omega) (fun z => by rw [← z]; exact hl)
          show upd _ _ _ _ = _
          simp only [upd]
          by_cases z : y = y0
          · subst z
            rw [if_pos rfl]
            by_cases z2 : l = l0
            · rw [if_pos (by omega), if_pos z2]
            · rw [if_neg (by omega), if_neg z2, ta, if_pos rfl]
          · rw [if_neg z, if_neg (by omega), ta, if_neg z]
      · rw [r5, oth_u (by omega)]; exact oth_sm hi he (by omega)
      · rw [r6, oth_u (by omega)]
      · rw [r5, oth_u (by omega)]; exact oth_sm hi he (by omega)
      · rw [r6, oth_u (by omega)]
    · exact absurd ⟨hj, by rw [← sz.1, ← sz.2]; exact ok.2.1, ok.2.2⟩ no2
  · subst c1
    rcases hr with ⟨ok, -⟩ | ⟨-, r6, r5⟩
    · have sz := h.sz ok.1
      exact absurd ⟨ok.1, by rw [sz.1, sz.2]; exact ok.2.1, ok.2.2⟩ no
    · exact ⟨J, h.keep hD hT (ch := []) cX.rf rfl rfl e2 e3 e4 r5 r6 e7 e8⟩
theorem RJ.cast (h : RJ cy G W fa jc J r) (hD : va_D A W) (hT : cT cy G W) (h8 : jc.toInt ≤ 8) {j way : Int32} {p0 : Int64} (hF : cF (fun b => b = jX (J j.toNatClampNeg) ∨ b = jS (J j.toNatClampNeg)) W W1)
    (hc : (okCast9 jc (jW (J j.toNatClampNeg)) (jH (J j.toNatClampNeg)) j way p0 ∧ cIn W1 (jX (J j.toNatClampNeg)) (.inr (jK (J j.toNatClampNeg), .ref (jB (J j.toNatClampNeg)) :: .ref (jS (J j.toNatClampNeg)) :: .int (nI (tU (jL (J j.toNatClampNeg)) way.toNatClampNeg)) :: .long (jO (J j.toNatClampNeg)) :: .long (jNn (J j.toNatClampNeg)) :: jM (J j.toNatClampNeg))) ∧ cIn W1 (jS (J j.toNatClampNeg)) (.inl (cy 0, 44, .inl (setL (jF (J j.toNatClampNeg)) way.toNatClampNeg (fun l => nI (shN (jW (J j.toNatClampNeg)) (jH (J j.toNatClampNeg)) p0 way.toNatClampNeg l)) (lnC (jW (J j.toNatClampNeg)) (jH (J j.toNatClampNeg)) way.toNatClampNeg))))) ∨ (¬ okCast9 jc (jW (J j.toNatClampNeg)) (jH (J j.toNatClampNeg)) j way p0 ∧ W1 = W))
    (hr : (okCast9 jc (r 3 j.toNatClampNeg).toNatClampNeg (r 4 j.toNatClampNeg).toNatClampNeg j way p0 ∧ r1 6 = upd (r 6) (4 * j.toNatClampNeg + way.toNatClampNeg) 1 ∧ r1 5 = setB (if r 6 (4 * j.toNatClampNeg + way.toNatClampNeg) = 0 then zL (r 5) (44 * j.toNatClampNeg + 11 * way.toNatClampNeg) 11 else r 5) (44 * j.toNatClampNeg + 11 * way.toNatClampNeg) (fun l => nI (shN (r 3 j.toNatClampNeg).toNatClampNeg (r 4 j.toNatClampNeg).toNatClampNeg p0 way.toNatClampNeg l)) (lnC (r 3 j.toNatClampNeg).toNatClampNeg (r 4 j.toNatClampNeg).toNatClampNeg way.toNatClampNeg)) ∨ (¬ okCast9 jc (r 3 j.toNatClampNeg).toNatClampNeg (r 4 j.toNatClampNeg).toNatClampNeg j way p0 ∧ r1 6 = r 6 ∧ r1 5 = r 5))
    (e2 : r1 2 = r 2) (e3 : r1 3 = r 3) (e4 : r1 4 = r 4) (e7 : r1 7 = r 7) (e8 : r1 8 = r 8) : ∃ J', RJ cy G W1 fa jc J' r1 := by
  rcases hc with ⟨ok, c1, c2⟩ | ⟨no, c1⟩
  · have hj := ok.1
    have sz := h.sz hj
    rcases hr with ⟨-, r6, r5⟩ | ⟨no2, -⟩
    · obtain ⟨⟨f1, f2, f3, f4, f5, f6⟩, f7, f8⟩ := h.at hj
      have cj := m_cl (x := j) hj.1
      have hj2 := hj.2
      obtain ⟨ow1, ow2⟩ := ok.2.1
      have cw := m_cl (x := way) ow1
      have lc := lnC_b f3 way.toNatClampNeg
      rw [← sz.1, ← sz.2] at r5
      generalize hn : j.toNatClampNeg = n at *
      generalize hy : way.toNatClampNeg = y0 at *
      refine ⟨va_up J n (jtSet (J n) (tU (jL (J n)) y0) (setL (jF (J n)) y0 (fun l => nI (shN (jW (J n)) (jH (J n)) p0 y0 l)) (lnC (jW (J n)) (jH (J n)) y0))), h.up hD hT (i := n) (by omega) (fun z hz => hz.imp id Or.inl) hF rfl rfl rfl rfl ⟨⟨f1, f2, f3, (tU_0 _ f4 y0 (by omega)).2.1, c1, c2⟩, fun z => ⟨(f7 z).1, hF _ _ (fun y => ?_) (f7 z).2⟩, jP_tell (g := fun l => nI (shN (jW (J n)) (jH (J n)) p0 y0 l)) f8 f4 (by omega) (fun y l hy hl => ?_) (fun l hl => shN_I f3 (by omega) (by omega)) e2 e3 e4 e7 e8 (fun y hy => ?_) (fun y l hy hl => ?_)⟩ (fun i hi hi8 => ⟨fun S hS hP => hP.other hS e2 e3 e4 (fun e he => ?_) (fun y hy => ?_) (fun s hs => by rw [e7]) (fun s hs => by rw [e8]), fun hz => hz.other (fun e he => ?_) (fun y hy => ?_) (fun s hs => by rw [e8])⟩) h8⟩
      · obtain ⟨k1, -, k3⟩ := (h.1 n (by omega)).kinds hD hT
        rcases y with y | y
        · exact cne (k3 z) k1 (show (14 : Nat) ≠ 3 by decide) y
        · exact h.2.2.1 n (by omega) z y
      · have := lnC_b f3 y
        exact setL_at (y := y) (l := l) lc (show l < 11 by omega) (fun z => by rw [← z]; exact hl)
      · rw [r6]
        unfold upd
        by_cases z : y = y0
        · rw [if_pos z, if_pos (by omega)]
        · rw [if_neg z, if_neg (by omega)]
      · have := lnC_b f3 y
        rw [r5, setB_at lc (by omega) (fun z => by rw [← z]; exact hl)]
        by_cases z : y = y0
        · rw [if_pos z, if_pos z]
        · rw [if_neg z, if_neg z, tell_at (y := y) (l := l) f8 (show y0 < 4 by omega) (by omega) (fun z2 => absurd z2 z), if_neg z]
      · rw [r5, oth_B hi he (by omega) lc]; exact oth_sm hi he (by omega)
      · rw [r6, oth_u (by omega)]
      · rw [r5, oth_B hi he (by omega) lc]; exact oth_sm hi he (by omega)
      · rw [r6, oth_u (by omega)]
    · exact absurd ⟨hj, ok.2.1, by rw [← sz.1, ← sz.2]; exact ok.2.2⟩ no2
  · subst c1
    rcases hr with ⟨ok, -⟩ | ⟨-, r6, r5⟩
    · have sz := h.sz ok.1
      exact absurd ⟨ok.1, ok.2.1, by rw [sz.1, sz.2]; exact ok.2.2⟩ no
    · exact ⟨J, h.keep hD hT (ch := []) cX.rf rfl rfl e2 e3 e4 r5 r6 e7 e8⟩
theorem RJ.untell (h : RJ cy G W fa jc J r) (hD : va_D A W) (hT : cT cy G W) (h8 : jc.toInt ≤ 8) {j way : Int32} (hF : cF (fun b => b = jX (J j.toNatClampNeg) ∨ b = jS (J j.toNatClampNeg)) W W1)
    (hc : (okUn9 jc j way ∧ cIn W1 (jX (J j.toNatClampNeg)) (.inr (jK (J j.toNatClampNeg), .ref (jB (J j.toNatClampNeg)) :: .ref (jS (J j.toNatClampNeg)) :: .int (nI (tD (jL (J j.toNatClampNeg)) way.toNatClampNeg)) :: .long (jO (J j.toNatClampNeg)) :: .long (jNn (J j.toNatClampNeg)) :: jM (J j.toNatClampNeg))) ∧ cIn W1 (jS (J j.toNatClampNeg)) (.inl (cy 0, 44, .inl (setL (jF (J j.toNatClampNeg)) way.toNatClampNeg (fun _ => 0) (lnC (jW (J j.toNatClampNeg)) (jH (J j.toNatClampNeg)) way.toNatClampNeg))))) ∨ (¬ okUn9 jc j way ∧ W1 = W))
    (hr : (okUn9 jc j way ∧ r1 6 = upd (r 6) (4 * j.toNatClampNeg + way.toNatClampNeg) 0) ∨ (¬ okUn9 jc j way ∧ r1 6 = r 6))
    (e2 : r1 2 = r 2) (e3 : r1 3 = r 3) (e4 : r1 4 = r 4) (e5 : r1 5 = r 5) (e7 : r1 7 = r 7) (e8 : r1 8 = r 8) : ∃ J', RJ cy G W1 fa jc J' r1 := by
  rcases hc with ⟨ok, c1, c2⟩ | ⟨no, c1⟩
  · have hj := ok.1
    rcases hr with ⟨-, r6⟩ | ⟨no2, -⟩
    · obtain ⟨⟨f1, f2, f3, f4, f5, f6⟩, f7, f8⟩ := h.at hj
      have cj := m_cl (x := j) hj.1
      have hj2 := hj.2
      obtain ⟨ow1, ow2⟩ := ok.2
      have cw := m_cl (x := way) (by omega)
      have lc := lnC_b f3 way.toNatClampNeg
      generalize hn : j.toNatClampNeg = n at *
      generalize hy : way.toNatClampNeg = y0 at *
      refine ⟨va_up J n (jtSet (J n) (tD (jL (J n)) y0) (setL (jF (J n)) y0 (fun _ => 0) (lnC (jW (J n)) (jH (J n)) y0))), h.up hD hT (i := n) (by omega) (fun z hz => hz.imp id Or.inl) hF rfl rfl rfl rfl ⟨⟨f1, f2, f3, (tU_0 _ f4 y0 (by omega)).2.2.1, c1, c2⟩, fun z => ⟨(f7 z).1, hF _ _ (fun y => ?_) (f7 z).2⟩, jP_untell f8 f4 (by omega) (by omega) (fun y l hy hl => ?_) e2 e3 e4 e5 e7 e8 (fun y hy => ?_)⟩ (fun i hi hi8 => ⟨fun S hS hP => hP.other hS e2 e3 e4 (fun e he => by rw [e5]) (fun y hy => ?_) (fun s hs => by rw [e7]) (fun s hs => by rw [e8]), fun hz => hz.other (fun e he => by rw [e5]) (fun y hy => ?_) (fun s hs => by rw [e8])⟩) h8⟩
      · obtain ⟨k1, -, k3⟩ := (h.1 n (by omega)).kinds hD hT
        rcases y with y | y
        · exact cne (k3 z) k1 (show (14 : Nat) ≠ 3 by decide) y
        · exact h.2.2.1 n (by omega) z y
      · have := lnC_b f3 y
        exact setL_at (y := y) (l := l) lc (show l < 11 by omega) (fun z => by rw [← z]; exact hl)
      · rw [r6]
        unfold upd
        by_cases z : y = y0
        · rw [if_pos z, if_pos (by omega)]
        · rw [if_neg z, if_neg (by omega)]
      · rw [r6, oth_u (by omega)]
      · rw [r6, oth_u (by omega)]
    · exact absurd ok no2
  · subst c1
    rcases hr with ⟨ok, -⟩ | ⟨-, r6⟩
    · exact absurd ok no
    · exact ⟨J, h.keep hD hT (ch := []) cX.rf rfl rfl e2 e3 e4 e5 r6 e7 e8⟩
theorem RJ.hold (h : RJ cy G W fa jc J r) (hD : va_D A W) (hT : cT cy G W) (h8 : jc.toInt ≤ 8) {j s0 how : Int32} (hF : cF (fun b => b = jX (J j.toNatClampNeg)) W W1)
    (hc : (okHold9 jc (jW (J j.toNatClampNeg)) (jH (J j.toNatClampNeg)) j s0 how ∧ ∃ x1 y1, cIn W1 (jX (J j.toNatClampNeg)) (.inr (jK (J j.toNatClampNeg), .ref (jB (J j.toNatClampNeg)) :: .ref (jS (J j.toNatClampNeg)) :: .int (nI (jL (J j.toNatClampNeg))) :: .long x1 :: .long y1 :: jM (J j.toNatClampNeg))) ∧ hO (jO (J j.toNatClampNeg)) s0.toNatClampNeg (decide (how.toInt = 1)) x1 ∧ hO (jNn (J j.toNatClampNeg)) s0.toNatClampNeg (decide (how.toInt = 0)) y1) ∨ (¬ okHold9 jc (jW (J j.toNatClampNeg)) (jH (J j.toNatClampNeg)) j s0 how ∧ W1 = W))
    (hr : (okHold9 jc (r 3 j.toNatClampNeg).toNatClampNeg (r 4 j.toNatClampNeg).toNatClampNeg j s0 how ∧ r1 7 = upd (r 7) (36 * j.toNatClampNeg + s0.toNatClampNeg) how) ∨ (¬ okHold9 jc (r 3 j.toNatClampNeg).toNatClampNeg (r 4 j.toNatClampNeg).toNatClampNeg j s0 how ∧ r1 7 = r 7))
    (e2 : r1 2 = r 2) (e3 : r1 3 = r 3) (e4 : r1 4 = r 4) (e5 : r1 5 = r 5) (e6 : r1 6 = r 6) (e8 : r1 8 = r 8) : ∃ J', RJ cy G W1 fa jc J' r1 := by
  rcases hc with ⟨ok, x1, y1, c1, c2, c3⟩ | ⟨no, c1⟩
  · have hj := ok.1
    have sz := h.sz hj
    rcases hr with ⟨-, r7⟩ | ⟨no2, -⟩
    · obtain ⟨⟨f1, f2, f3, f4, f5, f6⟩, f7, f8⟩ := h.at hj
      have cj := m_cl (x := j) hj.1
      have hj2 := hj.2
      obtain ⟨⟨os1, os2⟩, oh⟩ := ok.2
      have cs := m_cl (x := s0) os1
      have m36 := cb_mul f3
      generalize hn : j.toNatClampNeg = n at *
      generalize hy : s0.toNatClampNeg = q0 at *
      refine ⟨va_up J n (jtHold (J n) x1 y1), h.up hD hT (i := n) (by omega) (fun z hz => Or.inl hz) hF rfl rfl rfl rfl ⟨⟨f1, f2, f3, f4, c1, hF _ _ (fun y => ?_) f6⟩, fun z => ⟨(f7 z).1, hF _ _ (fun y => ?_) (f7 z).2⟩, jP_hold f8 m36.2 (by omega) oh c2 c3 e2 e3 e4 e5 e6 e8 r7⟩ (fun i hi hi8 => ⟨fun S hS hP => hP.other hS e2 e3 e4 (fun e he => by rw [e5]) (fun y hy => by rw [e6]) (fun s hs => ?_) (fun s hs => by rw [e8]), fun hz => hz.other (fun e he => by rw [e5]) (fun y hy => by rw [e6]) (fun s hs => by rw [e8])⟩) h8⟩
      · obtain ⟨k1, k2, -⟩ := (h.1 n (by omega)).kinds hD hT
        exact cne k2 k1 (show (14 : Nat) ≠ 3 by decide) y
      · obtain ⟨k1, -, k3⟩ := (h.1 n (by omega)).kinds hD hT
        exact cne (k3 z) k1 (show (14 : Nat) ≠ 3 by decide) y
      · rw [r7, oth_u (by omega)]
    · exact absurd ⟨hj, by rw [← sz.1, ← sz.2]; exact ok.2.1, ok.2.2⟩ no2
  · subst c1
    rcases hr with ⟨ok, -⟩ | ⟨-, r7⟩
    · have sz := h.sz ok.1
      exact absurd ⟨ok.1, by rw [sz.1, sz.2]; exact ok.2.1, ok.2.2⟩ no
    · exact ⟨J, h.keep hD hT (ch := []) cX.rf rfl rfl e2 e3 e4 e5 e6 r7 e8⟩
theorem kcl_4 {k : Int32} : kcl k = 4 ↔ k = 3 := by
  unfold kcl
  constructor
  · intro h
    by_cases a : k.toInt = 1
    · rw [if_pos a] at h; cases h
    · rw [if_neg a] at h
      by_cases b : k.toInt = 2
      · rw [if_pos b] at h; cases h
      · rw [if_neg b] at h
        by_cases c : k.toInt = 3
        · exact Int32.toInt_inj.mp (by rw [c]; rfl)
        · rw [if_neg c] at h; cases h
  · intro h; subst h; rfl
theorem RJ.mark (h : RJ cy G W fa jc J r) (hD : va_D A W) (hT : cT cy G W) (h8 : jc.toInt ≤ 8) {j s0 v : Int32} (hF : cF (fun b => b = jC (J j.toNatClampNeg)) W W1)
    (hc : (okMark9 jc (jW (J j.toNatClampNeg)) (jH (J j.toNatClampNeg)) j s0 v ∧ ((jK (J j.toNatClampNeg) = 4 ∧ cIn W1 (jC (J j.toNatClampNeg)) (.inl (cy 0, jW (J j.toNatClampNeg) * jH (J j.toNatClampNeg), .inl (upd (jG (J j.toNatClampNeg)) s0.toNatClampNeg v)))) ∨ (¬ jK (J j.toNatClampNeg) = 4 ∧ W1 = W))) ∨ (¬ okMark9 jc (jW (J j.toNatClampNeg)) (jH (J j.toNatClampNeg)) j s0 v ∧ W1 = W))
    (hr : (okMark9 jc (r 3 j.toNatClampNeg).toNatClampNeg (r 4 j.toNatClampNeg).toNatClampNeg j s0 v ∧ ((r 2 j.toNatClampNeg = 3 ∧ r1 8 = upd (r 8) (36 * j.toNatClampNeg + s0.toNatClampNeg) v) ∨ (¬ r 2 j.toNatClampNeg = 3 ∧ r1 8 = r 8))) ∨ (¬ okMark9 jc (r 3 j.toNatClampNeg).toNatClampNeg (r 4 j.toNatClampNeg).toNatClampNeg j s0 v ∧ r1 8 = r 8))
    (e2 : r1 2 = r 2) (e3 : r1 3 = r 3) (e4 : r1 4 = r 4) (e5 : r1 5 = r 5) (e6 : r1 6 = r 6) (e7 : r1 7 = r 7) : ∃ J', RJ cy G W1 fa jc J' r1 := by
  have keep : W1 = W → r1 8 = r 8 → ∃ J', RJ cy G W1 fa jc J' r1 := fun c e8 => by
    subst c
    exact ⟨J, h.keep hD hT (ch := []) cX.rf rfl rfl e2 e3 e4 e5 e6 e7 e8⟩
  rcases hc with ⟨ok, hc⟩ | ⟨no, c1⟩
  · have hj := ok.1
    have sz := h.sz hj
    have kk := (h.at hj).2.2.1
    rcases hr with ⟨-, hr⟩ | ⟨no2, -⟩
    · rcases hc with ⟨k4, c1⟩ | ⟨k4, c1⟩
      · rcases hr with ⟨-, r8⟩ | ⟨r3, -⟩
        · obtain ⟨⟨f1, f2, f3, f4, f5, f6⟩, f7, f8⟩ := h.at hj
          have cj := m_cl (x := j) hj.1
          have hj2 := hj.2
          obtain ⟨⟨os1, os2⟩, -⟩ := ok.2
          have cs := m_cl (x := s0) os1
          have m36 := cb_mul f3
          generalize hn : j.toNatClampNeg = n at *
          generalize hy : s0.toNatClampNeg = q0 at *
          obtain ⟨k1, k2, k3⟩ := (h.1 n (by omega)).kinds hD hT
          refine ⟨va_up J n (jtMark (J n) (upd (jG (J n)) q0 v)), h.up hD hT (i := n) (by omega) (fun z hz => Or.inr (Or.inr ⟨k4, hz⟩)) hF rfl rfl rfl rfl ⟨⟨f1, f2, f3, f4, hF _ _ (cne k1 (k3 k4) (show (3 : Nat) ≠ 14 by decide)) f5, hF _ _ (fun y => h.2.2.1 n (by omega) k4 y.symm) f6⟩, fun z => ⟨(f7 z).1, c1⟩, jP_mark f8 m36.2 (by omega) e2 e3 e4 e5 e6 e7 r8⟩ (fun i hi hi8 => ⟨fun S hS hP => hP.other hS e2 e3 e4 (fun e he => by rw [e5]) (fun y hy => by rw [e6]) (fun s hs => by rw [e7]) (fun s hs => by rw [r8, oth_u (by omega)]), fun hz => hz.other (fun e he => by rw [e5]) (fun y hy => by rw [e6]) (fun s hs => by rw [r8, oth_u (by omega)])⟩) h8⟩
        · exact absurd (kcl_4.mp (kk.symm.trans k4)) r3
      · rcases hr with ⟨r3, -⟩ | ⟨-, r8⟩
        · exact absurd (kk.trans (kcl_4.mpr r3)) k4
        · exact keep c1 r8
    · exact absurd ⟨hj, by rw [← sz.1, ← sz.2]; exact ok.2.1, ok.2.2⟩ no2
  · rcases hr with ⟨ok, -⟩ | ⟨-, r8⟩
    · have sz := h.sz ok.1
      exact absurd ⟨ok.1, by rw [sz.1, sz.2]; exact ok.2.1, ok.2.2⟩ no
    · exact keep c1 r8
/-- a job more -/
theorem RJ.add (h : RJ cy G W fa jc J r) (hD : va_D A W) (hT : cT cy G W) {kind wide high jc1 : Int32} (h0 : 0 ≤ jc.toInt) (ok : okJ kind wide high jc) (e1 : jc1.toInt = jc.toInt + 1) {ch : List Nat} (hX : cX none (chs ch) G W G1 W1) (h3 : chs ch 3 = false) (h14 : chs ch 14 = false) {x b a : Nat} {ms : List Value} (hx : G1 x = some (3, kcl kind, 8 * wide.toNatClampNeg + high.toNatClampNeg)) (nx : ∀ e, ¬ cIn W x e) (na : ∀ e, ¬ cIn W a e) (mx : cIn W1 x (.inr (kcl kind, .ref b :: .ref a :: .int (nI 3) :: .long 0 :: .long 0 :: ms))) (ma : cIn W1 a (.inl (cy 0, 44, .inl (fun _ => 0)))) (mk : kcl kind = 4 → ∃ c, ms = [.ref c] ∧ (∀ e, ¬ cIn W c e) ∧ c ≠ a ∧ cIn W1 c (.inl (cy 0, wide.toNatClampNeg * high.toNatClampNeg, .inl (fun _ => 0))))
    (e2 : r1 2 = upd (r 2) jc.toNatClampNeg kind) (e3 : r1 3 = upd (r 3) jc.toNatClampNeg wide) (e4 : r1 4 = upd (r 4) jc.toNatClampNeg high) (e5 : r1 5 = r 5) (e6 : r1 6 = upd (upd (r 6) (4 * jc.toNatClampNeg) 1) (4 * jc.toNatClampNeg + 1) 1) (e7 : r1 7 = setB (r 7) (36 * jc.toNatClampNeg) (fun _ => 2) 36) (e8 : r1 8 = r 8) : ∃ J', RJ cy G1 W1 (va_up fa jc.toNatClampNeg (some x)) jc1 J' r1 := by
  obtain ⟨⟨⟨ok1, ok1'⟩, ⟨ok2, ok2'⟩, ok3, ok3'⟩, ok4⟩ := ok
  have cj := m_cl (x := jc) h0
  have cw := m_cl (x := wide) (by omega)
  have chh := m_cl (x := high) (by omega)
  obtain ⟨a1, a2, a3, a4⟩ := h
  obtain ⟨c, hc⟩ : ∃ c, kcl kind = 4 → ms = [.ref c] ∧ (∀ e, ¬ cIn W c e) ∧ c ≠ a ∧ cIn W1 c (.inl (cy 0, wide.toNatClampNeg * high.toNatClampNeg, .inl (fun _ => 0))) := by
    by_cases z : kcl kind = 4
    · obtain ⟨c, hc⟩ := mk z; exact ⟨c, fun _ => hc⟩
    · exact ⟨0, fun y => absurd y z⟩
  generalize hn : jc.toNatClampNeg = n at *
  have hnew : ∀ {i : Nat}, (i : Int) < jc.toInt → jDif (J i) ((x, kcl kind, b, a, 3, wide.toNatClampNeg, high.toNatClampNeg, c), (0, 0), ms, (fun _ => 0), (fun _ => 0)) := fun {i} hi => by
    obtain ⟨⟨-, -, -, -, i5, i6⟩, i7, -⟩ := a1 i hi
    refine ⟨fun z => ?_, fun z => ?_, fun k z => ?_, fun k z => ?_, fun k k2 z => ?_⟩
    · have z' : jX (J i) = x := z
      rw [z'] at i5
      exact nx _ i5
    · have z' : jS (J i) = a := z
      rw [z'] at i6
      exact na _ i6
    · have z' : jC (J i) = a := z
      have i8 := (i7 k).2
      rw [z'] at i8
      exact na _ i8
    · have z' : c = jS (J i) := z
      rw [← z'] at i6
      exact (hc k).2.1 _ i6
    · have z' : jC (J i) = c := z
      have i8 := (i7 k).2
      rw [z'] at i8
      exact (hc k2).2.1 _ i8
  have hsym : ∀ {S T : JT}, jDif S T → jDif T S := fun {S T} d => ⟨fun z => d.1 z.symm, fun z => d.2.1 z.symm, d.2.2.2.1, d.2.2.1, fun k1 k2 z => d.2.2.2.2 k2 k1 z.symm⟩
  refine ⟨va_up J n ((x, kcl kind, b, a, 3, wide.toNatClampNeg, high.toNatClampNeg, c), (0, 0), ms, (fun _ => 0), (fun _ => 0)), fun j hj => ?_, fun i j hi hj hij => ?_, fun i hi => ?_, fun j h1 h2 => ?_⟩
  · by_cases z : j = n
    · subst z
      simp only [va_up, if_true]
      obtain ⟨z5, z6, z8⟩ := a4 j (by omega) (by omega)
      refine ⟨⟨by simp only [va_up, if_true], hx, by show 1 ≤ wide.toNatClampNeg ∧ wide.toNatClampNeg ≤ 6 ∧ 1 ≤ high.toNatClampNeg ∧ high.toNatClampNeg ≤ 6; omega, by show (3 : Nat) < 16; omega, mx, ma⟩, fun k => ⟨(hc k).1, (hc k).2.2.2⟩, ?_⟩
      refine ⟨by rw [e2]; simp only [upd, if_true], by rw [e3]; simp only [upd, if_true], by rw [e4]; simp only [upd, if_true], fun y hy => ?_, fun y l hy hl => ?_, fun s hs => ?_, fun s hs => lb_0 s, fun k s hs => ?_, fun s h1 h2 => ?_, ⟨(by show tB 3 0 = true; decide), (by show tB 3 1 = true; decide)⟩, fun y l hy hl => (by show 0 ≤ (0 : Int32).toInt ∧ (0 : Int32).toInt ≤ 6; decide)⟩
      · rw [e6]
        show _ ↔ tB 3 y = false
        have c4 : y = 0 ∨ y = 1 ∨ y = 2 ∨ y = 3 := by omega
        simp only [upd]
        rcases c4 with rfl | rfl | rfl | rfl
        · rw [if_neg (by omega), if_pos (by omega)]; decide
        · rw [if_pos (by omega)]; decide
        · rw [if_neg (by omega), if_neg (by omega), z6 2 (by omega)]; decide
        · rw [if_neg (by omega), if_neg (by omega), z6 3 (by omega)]; decide
      · have lc := lnC_b (w := wide.toNatClampNeg) (h := high.toNatClampNeg) (by omega) y
        have hl' : l < lnC wide.toNatClampNeg high.toNatClampNeg y := hl
        rw [e5, show 44 * j + 11 * y + l = 44 * j + (11 * y + l) by omega, z5 (11 * y + l) (by omega)]
        show (0 : Int32) = _
        split <;> rfl
      · have m36 := cb_mul (w := wide.toNatClampNeg) (h := high.toNatClampNeg) (by omega)
        have hs' : s < wide.toNatClampNeg * high.toNatClampNeg := hs
        rw [e7]
        refine ⟨?_, fun y => by have := y.1; rw [show lb (0 : Int64) s = false from lb_0 s] at this; cases this⟩
        unfold setB
        rw [if_pos (by omega)]
        show (2 : Int32) = hH 0 0 s
        unfold hH
        rw [lb_0]; rfl
      · have m36 := cb_mul (w := wide.toNatClampNeg) (h := high.toNatClampNeg) (by omega)
        have hs' : s < wide.toNatClampNeg * high.toNatClampNeg := hs
        rw [e8, z8 s (by omega)]
      · rw [e8, z8 s h2]
    · simp only [va_up, z, if_false]
      have hj' : (j : Int) < jc.toInt := by omega
      obtain ⟨k1, k2, k3⟩ := (a1 j hj').kinds hD hT
      have st := (a1 j hj').stay (r1 := r1) hX.1 (fun e hi => hX.2.1 _ _ (cP.no k1 h3) hi) (fun e hi => hX.2.1 _ _ (cP.no k2 h14) hi) (fun z e hi => hX.2.1 _ _ (cP.no (k3 z) h14) hi) (by
        obtain ⟨p1, p2, p3, p4, p5, p6, p7, p8, p9, pA⟩ := (a1 j hj').2.2
        have m36 := cb_mul (a1 j hj').1.2.2.1
        refine ⟨by rw [e2, oth_u z]; exact p1, by rw [e3, oth_u z]; exact p2, by rw [e4, oth_u z]; exact p3, fun y hy => by rw [e6, oth_u (by omega), oth_u (by omega)]; exact p4 y hy, by rw [e5]; exact p5, fun s hs => ?_, p7, by rw [e8]; exact p8, by rw [e8]; exact p9, pA⟩
        rw [e7]
        refine ⟨?_, (p6 s hs).2⟩
        unfold setB
        rw [if_neg (by omega)]
        exact (p6 s hs).1)
      obtain ⟨⟨q1, q2⟩, q3⟩ := st
      exact ⟨⟨by simp only [va_up, z, if_false]; exact q1, q2⟩, q3⟩
  · by_cases z : i = n
    · by_cases y : j = n
      · exact absurd (z.trans y.symm) hij
      · subst z
        simp only [va_up, y, if_false, if_true]
        exact hsym (hnew (by omega))
    · by_cases y : j = n
      · subst y
        simp only [va_up, z, if_false, if_true]
        exact hnew (by omega)
      · simp only [va_up, y, z, if_false]
        exact a2 i j (by omega) (by omega) hij
  · by_cases z : i = n
    · subst z
      simp only [va_up, if_true]
      exact fun k => (hc k).2.2.1
    · simp only [va_up, z, if_false]
      exact a3 i (by omega)
  · obtain ⟨z5, z6, z8⟩ := a4 j (by omega) h2
    exact ⟨fun e he => by rw [e5]; exact z5 e he, fun y hy => by rw [e6, oth_u (by omega), oth_u (by omega)]; exact z6 y hy, fun s hs => by rw [e8]; exact z8 s hs⟩
end RJS


def h10 (G : cG) (x : Nat) : Prop := (∃ k n, G x = some (3, k, n)) ∨ ∃ n, G x = some (4, n, 0)
theorem hf10_up {G G1 : cG} {x : Nat} (hE : cE G G1) (h : (∃ k n, G x = some (3, k, n)) ∨ ∃ n, G x = some (4, n, 0)) : (∃ k n, G1 x = some (3, k, n)) ∨ ∃ n, G1 x = some (4, n, 0) := by
  rcases h with ⟨k, n, h⟩ | ⟨n, h⟩
  · exact Or.inl ⟨k, n, hE _ _ h⟩
  · exact Or.inr ⟨n, hE _ _ h⟩
section CAR42
variable {p : Program} {l : Launch} {e : Env} {R : Room} {s : State} {m : MethodId} {args : Array Value} {below : List Frame} {meth : Method} {c : Code} {H : Heap} {locs : List Loc} {cells slots : Nat} {Q : State → Prop}
variable {cc : ByteArray} {pc : Nat} {ls : Array Slot} {rest : List Value} {D : va_G} {cy : Nat → ClassId} {A : Nat → Prop} {ws : va_W} {G : cG} {H0 : Heap}
theorem w10sh {a n z : Nat} {fb : Nat → Option Nat} (hD : va_D A ws) (hT : cT cy G ws) (hg : G a = some (10, n, z)) (hM : cIn ws a (.inl (cy 5, cqa n fb))) : ∀ i x, i < n → fb i = some x → (∃ k n, G x = some (3, k, n)) ∨ ∃ n, G x = some (4, n, 0) := by
  obtain ⟨_, h9, f, rfl, hf⟩ := hT _ _ hg
  have z := cIn.eq hD hM h9
  simp only [Sum.inl.injEq, Prod.mk.injEq, Sum.inr.injEq, true_and] at z
  subst z
  exact hf
theorem t_aald10f (hx : p.tables.exec = Jvm.exec) (hb : c.code = cc) (hK : va_K D vwCl (cTy cy) s) (hP : va_P D vwCl ws H) {a n : Nat} {f : Nat → Option Nat} (hM : cIn ws a (.inl (cy 5, cqa n f))) (hf : ∀ i x, i < n → f i = some x → (∃ k n, G x = some (3, k, n)) ∨ ∃ n, G x = some (4, n, 0)) {i : Int32} (hin : vp_in i n) (hdg : decode cc pc = .ok (.aaload, 1))
    (kn : f i.toNatClampNeg = none → W p l e R s m args below meth c H locs cells slots Q (F0 m (pc + 1) ls (.null :: rest)))
    (kj : ∀ x k n, G x = some (3, k, n) → f i.toNatClampNeg = some x → W p l e R s m args below meth c H locs cells slots Q (F0 m (pc + 1) ls (.ref x :: rest)))
    (kr : ∀ x n, G x = some (4, n, 0) → f i.toNatClampNeg = some x → W p l e R s m args below meth c H locs cells slots Q (F0 m (pc + 1) ls (.ref x :: rest))) : W p l e R s m args below meth c H locs cells slots Q (F0 m pc ls (.int i :: .ref a :: rest)) := by
  obtain ⟨q0, hq⟩ := hM
  have hlt : i.toNatClampNeg < n := Nat.not_le.mp fun q => hin (Or.inr q)
  refine va_aldq hx hb hK hP q0 5 hq rfl hin hdg ?_
  cases hv : f i.toNatClampNeg with
  | none => exact kn hv
  | some x =>
    rcases hf _ x hlt hv with ⟨k, n', hg⟩ | ⟨n', hg⟩
    · exact kj x k n' hg hv
    · exact kr x n' hg hv
theorem t_aast10f (hx : p.tables.exec = Jvm.exec) (hb : c.code = cc) (hV : cV s) (hK : va_K D vwCl (cTy cy) s) (hP : va_P D vwCl ws H) (hD : va_D A ws) (hS : va_S A H0 H locs) (hT : cT cy G ws) {a n z v : Nat} (hg : G a = some (10, n, z)) {f : Nat → Option Nat} (hM : cIn ws a (.inl (cy 5, cqa n f))) (hf : ∀ i x, i < n → f i = some x → (∃ k n, G x = some (3, k, n)) ∨ ∃ n, G x = some (4, n, 0)) {i : Int32} (hv : (∃ k n, G v = some (3, k, n)) ∨ ∃ n, G v = some (4, n, 0)) (hin : vp_in i n) (hdg : decode cc pc = .ok (.aastore, 1))
    (kk : ∀ (H1 : Heap) (locs1 : List Loc) (ws1 : va_W), cF (fun b => b = a) ws ws1 → cIn ws1 a (.inl (cy 5, cqa n (va_up f i.toNatClampNeg (some v)))) → (∀ j x, j < n → va_up f i.toNatClampNeg (some v) j = some x → (∃ k n, G x = some (3, k, n)) ∨ ∃ n, G x = some (4, n, 0)) → va_P D vwCl ws1 H1 → va_D A ws1 → cT cy G ws1 → va_S A H0 H1 locs1 → W p l e R s m args below meth c H1 locs1 cells slots Q (F0 m (pc + 1) ls rest)) : W p l e R s m args below meth c H locs cells slots Q (F0 m pc ls (.ref v :: .int i :: .ref a :: rest)) := by
  obtain ⟨q0, hq⟩ := hM
  have hf1 : ∀ j x, j < n → va_up f i.toNatClampNeg (some v) j = some x → (∃ k n, G x = some (3, k, n)) ∨ ∃ n, G x = some (4, n, 0) := fun j x hj hx => c_upf (P := fun i x => (∃ k n, G x = some (3, k, n)) ∨ ∃ n, G x = some (4, n, 0)) hf hv hj hx
  have k : ∀ (H1 : Heap) (locs1 : List Loc), va_P D vwCl (ws.set q0 (a, .inl (cy 5, cqa n (va_up f i.toNatClampNeg (some v))))) H1 → va_D A (ws.set q0 (a, .inl (cy 5, cqa n (va_up f i.toNatClampNeg (some v))))) → va_S A H0 H1 locs1 → W p l e R s m args below meth c H1 locs1 cells slots Q (F0 m (pc + 1) ls rest) := fun H1 locs1 k1 k2 k3 => kk H1 locs1 _ (cF.up (cUp.set hq) rfl) (cUp.set hq).1 hf1 k1 k2 (hT.up (cUp.set hq) hg ⟨_, rfl, hf1⟩) k3
  rcases hv with ⟨k1, k2, hv⟩ | ⟨k1, hv⟩
  · obtain ⟨_, ⟨qk, hqk⟩, b, s', w, h, tw, x, y, ms, rfl, -, -, hJ⟩ := hT _ _ hv
    rcases hJ.kc with rfl | rfl | rfl | rfl
    · exact va_astqO (r := (RX1, TX1, 5)) hx hb hK hP hD hS q0 5 qk 1 hq rfl hV.2.2.1.1 hqk rfl hin hdg k
    · exact va_astqO (r := (RX3, TX3, 5)) hx hb hK hP hD hS q0 5 qk 2 hq rfl hV.2.2.1.2.1 hqk rfl hin hdg k
    · exact va_astqO (r := (RX4, TX4, 5)) hx hb hK hP hD hS q0 5 qk 3 hq rfl hV.2.2.1.2.2.1 hqk rfl hin hdg k
    · exact va_astqO (r := (RX5, TX5, 6)) hx hb hK hP hD hS q0 5 qk 4 hq rfl hV.2.2.1.2.2.2.1 hqk rfl hin hdg k
  · obtain ⟨_, ⟨qk, hqk⟩, hn, b, a', rfl, -⟩ := hT _ _ hv
    exact va_astqO (r := (RX7, TX7, 2)) hx hb hK hP hD hS q0 5 qk 6 hq rfl hV.2.2.1.2.2.2.2 hqk rfl hin hdg k
theorem t_aastNf (hx : p.tables.exec = Jvm.exec) (hb : c.code = cc) (hK : va_K D vwCl (cTy cy) s) (hP : va_P D vwCl ws H) (hD : va_D A ws) (hS : va_S A H0 H locs) (hT : cT cy G ws) {a n z : Nat} (hg : G a = some (10, n, z)) {f : Nat → Option Nat} (hM : cIn ws a (.inl (cy 5, cqa n f))) (hf : ∀ i x, i < n → f i = some x → (∃ k n, G x = some (3, k, n)) ∨ ∃ n, G x = some (4, n, 0)) {i : Int32} (hin : vp_in i n) (hdg : decode cc pc = .ok (.aastore, 1))
    (kk : ∀ (H1 : Heap) (locs1 : List Loc) (ws1 : va_W), cF (fun b => b = a) ws ws1 → cIn ws1 a (.inl (cy 5, cqa n (va_up f i.toNatClampNeg none))) → (∀ j x, j < n → va_up f i.toNatClampNeg none j = some x → (∃ k n, G x = some (3, k, n)) ∨ ∃ n, G x = some (4, n, 0)) → va_P D vwCl ws1 H1 → va_D A ws1 → cT cy G ws1 → va_S A H0 H1 locs1 → W p l e R s m args below meth c H1 locs1 cells slots Q (F0 m (pc + 1) ls rest)) : W p l e R s m args below meth c H locs cells slots Q (F0 m pc ls (.null :: .int i :: .ref a :: rest)) := by
  obtain ⟨q0, hq⟩ := hM
  have hf1 : ∀ j x, j < n → va_up f i.toNatClampNeg none j = some x → (∃ k n, G x = some (3, k, n)) ∨ ∃ n, G x = some (4, n, 0) := fun j x hj hx => by
    unfold va_up at hx
    split at hx
    · cases hx
    · exact hf j x hj hx
  exact va_astqN hx hb hK hP hD hS q0 5 hq rfl hin hdg (fun H1 locs1 k1 k2 k3 => kk H1 locs1 _ (cF.up (cUp.set hq) rfl) (cUp.set hq).1 hf1 k1 k2 (hT.up (cUp.set hq) hg ⟨_, rfl, hf1⟩) k3)
end CAR42
/-- what stands on a shelf: nothing, a job, a row of bytes or of longs and its size -/
def shD (G : cG) (W : va_W) (o : Option Nat) (k n : Int32) : Prop := (o = none ∧ k = 0) ∨ (∃ x a b, o = some x ∧ G x = some (3, a, b) ∧ k = 1) ∨ (∃ x m z a, o = some x ∧ G x = some (4, m, 0) ∧ cIn W x (.inr (6, [.int z, .ref a])) ∧ n.toInt = (m : Int) ∧ ((z = 1 ∧ k = 3) ∨ (z = 0 ∧ k = 4)))
section SHD
variable {cy : Nat → ClassId} {A : Nat → Prop} {G G1 : cG} {W W1 : va_W} {o : Option Nat} {k n : Int32} {x : Nat}
theorem shD_n (h : shD G W none k n) : k = 0 := by
  rcases h with ⟨-, h⟩ | ⟨x, a, b, h, -⟩ | ⟨x, m, z, a, h, -⟩
  · exact h
  · cases h
  · cases h
theorem shD_nz (h : shD G W (some x) k n) : k ≠ 0 := by
  rcases h with ⟨h, -⟩ | ⟨x, a, b, -, -, h⟩ | ⟨x, m, z, a, -, -, -, -, ⟨-, h⟩ | ⟨-, h⟩⟩
  · cases h
  · rw [h]; decide
  · rw [h]; decide
  · rw [h]; decide
theorem shD_j (h : shD G W (some x) k n) {a b : Nat} (hg : G x = some (3, a, b)) : k = 1 := by
  rcases h with ⟨h, -⟩ | ⟨x, a, b, -, -, h⟩ | ⟨y, m, z, a, h, h1, -⟩
  · cases h
  · exact h
  · cases h
    rw [hg] at h1
    cases h1
theorem shD_r (h : shD G W (some x) k n) (hD : va_D A W) {m a : Nat} {z : Int32} (hg : G x = some (4, m, 0)) (hM : cIn W x (.inr (6, [.int z, .ref a]))) : n.toInt = (m : Int) ∧ ((z = 1 ∧ k = 3) ∨ (z = 0 ∧ k = 4)) := by
  rcases h with ⟨h, -⟩ | ⟨y, a, b, h, h1, -⟩ | ⟨y, m', z', a', h, h1, h2, h3, h4⟩
  · cases h
  · cases h
    rw [hg] at h1
    cases h1
  · cases h
    rw [hg] at h1
    cases h1
    have e := cIn.eq hD hM h2
    simp only [Sum.inr.injEq, Prod.mk.injEq, List.cons.injEq, Value.int.injEq, Value.ref.injEq, and_true, true_and] at e
    rw [e.1]
    exact ⟨h3, h4⟩
theorem shD.keep (h : shD G W o k n) {ch : List Nat} (hX : cX none (chs ch) G W G1 W1) (h4 : chs ch 4 = false) : shD G1 W1 o k n := by
  rcases h with h | ⟨x, a, b, h, h1, h2⟩ | ⟨x, m, z, a, h, h1, h2, h3, h4'⟩
  · exact Or.inl h
  · exact Or.inr (Or.inl ⟨x, a, b, h, hX.1 _ _ h1, h2⟩)
  · exact Or.inr (Or.inr ⟨x, m, z, a, h, hX.1 _ _ h1, hX.2.1 _ _ (cP.no h1 h4) h2, h3, h4'⟩)
end SHD
def okSh (d : Int32) : Prop := 0 ≤ d.toInt ∧ d.toInt < 8
def hasP (z i n : Int32) : Prop := (0 ≤ i.toInt ∧ 0 ≤ n.toInt) ∧ i.toInt + n.toInt ≤ z.toInt
/-- the answer of copy, by kinds and sizes -/
def cpA (k z : Nat → Int32) (d i e j n x : Int32) : Prop := (¬ (okSh d ∧ okSh e) ∧ x = -1) ∨ ((okSh d ∧ okSh e) ∧ (((k d.toNatClampNeg = 0 ∨ k e.toNatClampNeg = 0) ∧ x = -11) ∨ ((¬ (k d.toNatClampNeg = 0 ∨ k e.toNatClampNeg = 0)) ∧ ((¬ (3 ≤ (k d.toNatClampNeg).toInt ∧ k d.toNatClampNeg = k e.toNatClampNeg) ∧ x = -12) ∨ ((3 ≤ (k d.toNatClampNeg).toInt ∧ k d.toNatClampNeg = k e.toNatClampNeg) ∧ ((¬ (hasP (z d.toNatClampNeg) i n ∧ hasP (z e.toNatClampNeg) j n) ∧ x = -13) ∨ ((hasP (z d.toNatClampNeg) i n ∧ hasP (z e.toNatClampNeg) j n) ∧ x = n)))))))
theorem two_eq {P : Prop} {A B A' B' : Prop} {x y : Int32} (hx : (P ∧ A) ∨ (¬ P ∧ B)) (hy : (P ∧ A') ∨ (¬ P ∧ B')) (h1 : P → A → A' → x = y) (h2 : ¬ P → B → B' → x = y) : x = y := by
  rcases hx with ⟨p, a⟩ | ⟨p, a⟩ <;> rcases hy with ⟨q, b⟩ | ⟨q, b⟩
  · exact h1 p a b
  · exact absurd p q
  · exact absurd q p
  · exact h2 p a b
theorem cpA_eq {k z : Nat → Int32} {d i e j n x y : Int32} (hx : cpA k z d i e j n x) (hy : cpA k z d i e j n y) : x = y :=
  two_eq (P := okSh d ∧ okSh e) hx.symm hy.symm (fun _ ha hb => two_eq ha hb (fun _ a b => a.trans b.symm) (fun _ ha hb => two_eq ha.symm hb.symm (fun _ ha hb => two_eq ha.symm hb.symm (fun _ a b => a.trans b.symm) (fun _ a b => a.trans b.symm)) (fun _ a b => a.trans b.symm))) (fun _ a b => a.trans b.symm)

def mkOk (d what n : Int32) : Prop := ((0 ≤ d.toInt ∧ d.toInt < 8) ∧ (3 ≤ what.toInt ∧ what.toInt ≤ 4)) ∧ 0 ≤ n.toInt ∧ n.toInt ≤ 60


section CQ42
variable {p : Program} {l : Launch} {e : Env} {R : Room} {s : State} {m : MethodId} {args : Array Value} {below : List Frame} {meth : Method} {c : Code} {H : Heap} {locs : List Loc} {cells slots : Nat} {Q : State → Prop}
variable {cc : ByteArray} {pc : Nat} {ls : Array Slot} {rest : List Value} {D : va_G} {cy : Nat → ClassId} {A : Nat → Prop} {ws : va_W} {G : cG} {H0 : Heap} {own : String} {index : Nat}
theorem t_newqK {C : String} {kd j : Nat} (hx : p.tables.exec = Jvm.exec) (hb : c.code = cc) (hown : s.vm.findClass own = some m.cls) (hcl : (Cond.classLink own index C).before args s = true) (hAO : va_AO C s) (hK : va_K D vwCl (cTy cy) s) (hP : va_P D vwCl ws H) (hD : va_D A ws) (hS : va_S A H0 H locs) (hA : ∀ q, H0.size ≤ q → A q) (hT : cT cy G ws) (hj : (cTy cy)[j]? = some (cy j, .object C)) (hok : ∀ (G' : cG) (N : Nat), cok cy G' (kd, N, 0) (.inl (cy j, cqa N (fun _ => none)))) {n : Int32} {N : Nat} (hn : ¬ n < 0) (hN : n.toNatClampNeg = N) (hB2 : N ≤ 100000) (hcells : cells + 1 ≤ R.cells) (hslots : slots + N ≤ R.slots) (hdg : decode cc pc = .ok (.anewarray index, 3))
    (kk : ∀ (q : Nat) (H1 : Heap) (ws1 : va_W) (G1 : cG), G1 q = some (kd, N, 0) → cIn ws1 q (.inl (cy j, cqa N (fun _ => none))) → G q = none → (∀ e, ¬ cIn ws q e) → (∀ q0 ch, cX q0 ch G ws G1 ws1) → (∀ a e, cIn ws a e → cIn ws1 a e) → (∀ a, a ≠ q → G1 a = G a) → va_P D vwCl ws1 H1 → va_D A ws1 → cT cy G1 ws1 → va_S A H0 H1 locs → W p l e R s m args below meth c H1 locs (cells + 1) (slots + N) Q (F0 m (pc + 3) ls (.ref q :: rest))) : W p l e R s m args below meth c H locs cells slots Q (F0 m pc ls (.int n :: rest)) := by
  refine va_newq (C := C) hx hb hown hcl hAO hK hP hD hS hA hn hN (by omega) hcells hslots hdg (fun q cA H1 hK1 hP1 hD1 hS1 => ?_)
  have e1 : cA = cy j := cy_obj (i := j) (j := 6) hK hK1 hj rfl
  subst e1
  have hg : G q = none := cG.none hT hD1
  have hni : ∀ e, ¬ cIn ws q e := c_fresh hD1
  refine kk q H1 _ (va_up G q (some (kd, N, 0))) (by simp [va_up]) cIn.new hg hni (fun q0 ch => ⟨cE.add hg, fun a e _ hi => hi.add, fun a t ht => ?_⟩) (fun a e hi => hi.add) (fun a ha => by simp [va_up, ha]) hP1 hD1 (hT.add hg (hok _ _)) hS1
  by_cases ha : a = q
  · subst ha; exact Or.inr (Or.inr hni)
  · exact Or.inl (by simpa [va_up, ha] using ht)
end CQ42
set_option maxHeartbeats 4000000 in
set_option maxRecDepth 100000 in
theorem c_X9_init_w (l : Launch) (D : va_G) (cy : Nat → ClassId) (A : Nat → Prop) (G : cG) (ws : va_W) (o : Nat)  (hD : va_D A ws) (hT : cT cy G ws) (hO_o : G o = none) (hM_o : cIn ws o (.inr (8, [.null, .null, .int 0, .null, .null, .null, .null, .int 0, .null])))  : Iv l D cy A yX9_init wsX9_init ({ frames := 2, cells := 10, slots := 104, locals := 40 }) 10 104 ws [.ref o] (fun u => cX (some o) (chs []) G ws u.1 u.2 ∧ u.1 o = some (7, 0, 0) ∧ (∃ bs js sh wk ll, cIn u.2 o (.inr (8, [.ref bs, .ref js, .int 0, .ref sh, .ref wk, .null, .ref ll, .int 0, .null])) ∧ cIn u.2 sh (.inl (cy 5, cqa 8 (fun _ => none))))) := by
  refine Met.ofW (cc := cX9_init) (maxL := 1) (ret := none) (by decide) rfl ?_
  intro p e s m args below meth c s₁ B hml hv
  obtain ⟨rfl, ⟨hP, hK, hA, hV⟩, hAO8, hAO9, hAO10⟩ := hv
  have hx := B.exec
  have hb := B.bytes
  have hr := B.returns
  have hts := atoms_spec (ws := wsX9_init) B.pre
  have hown : s.vm.findClass RX9 = some m.cls := findClass_of_methodNamed B.named
  have hlocks := B.notSynchronized
  have hS : va_S A s.heap s.heap [] := va_S.rf
  have hin2 : meth.name = "<init>" := (name_of_methodNamed B.named B.method).1
  have hX : cX (some o) (chs []) G ws G ws := cX.rf
  have hM0_o := hM_o
  have hl := lv_entry ([.ref o]) (n := 1) (Nat.le_of_ble_eq_true rfl)
  rw [lg_entry_eq]
  generalize (lg_sl ([.ref o]) ++ List.replicate (1 - (lg_sl ([.ref o])).length) Slot.unset).toArray = ls at hl ⊢
  have hl : lv_has ls 1 [(0, .ref o)] := hl
  have k_0 : (0 : Int32).toInt = 0 := by decide
  have k_8 : (8 : Int32).toInt = 8 := by decide
  have k_12 : (12 : Int32).toInt = 12 := by decide
  have k_36 : (36 : Int32).toInt = 36 := by decide
  refine lv_aload_n hx hb dX9_init_0 rfl (lv_at hl 0 rfl) ?_
  refine W.objInit hx hb hown (hts (.methodLink RX9 1 objectInit) (by decide +kernel)) (hts (.instanceMethod objectInit) (by decide +kernel)) (hts (.code objectInit ⟨#[0xb1]⟩ 1 none) (by decide +kernel)) rfl (by rw [hml]; exact hl.1) rfl dX9_init_1 (Nat.le_of_ble_eq_true rfl) (Nat.le_of_ble_eq_true rfl) ?_
  refine W.eq (g2 := F0 m 4 ls []) rfl ?_
  refine lv_aload_n hx hb dX9_init_4 rfl (lv_at hl 0 rfl) ?_
  refine lv_bipush (v := 36) hx hb dX9_init_5 (by decide) ?_
  refine t_newq (kd := 8) (j := 3) (C := RX0) hx hb hown (hts (.classLink RX9 7 RX0) (by decide +kernel)) hAO8 hK hP hD hS hA hT rfl (fun _ _ => ⟨_, rfl, fun _ _ _ z => nomatch z⟩) (N := 36) (by decide) rfl (by decide) (Nat.le_of_ble_eq_true rfl) (Nat.le_of_ble_eq_true rfl) dX9_init_7 (fun q7 H w7 G7 hG_q7 hz7 hF7 hX7 hk7 hg7 hP hD hT hS => ?_)
  have hN_q7 := hX.new1 hM_o hz7 hF7
  have hO_o := (hg7 o (fun z => hF7 _ (z ▸ hM_o))).trans hO_o
  have hM_o := hk7 _ _ hM_o
  have hX := hX.tr (hX7 _ _)
  refine t_putF (v := .ref q7) (C := RX9) (T := TX9) (N := 9) (ty0 := tyX9) hx hb hts (by decide +kernel) tyX9_ok nmX9 hown hK hP hD hS hM_o rfl 0 (by decide) (hts (.fieldLink RX9 9 "ShadowBench" "boards" "[LShadowBench$Board;") (by decide +kernel)) (fun _ h9 => h9) rfl hin2 rfl rfl rfl (Nat.le_of_ble_eq_true rfl) dX9_init_10 (fun H locs w10 hU10 hP hD hS => ?_)
  have hT := hT.up0 hU10 hO_o
  have hM_o : cIn w10 o (.inr (8, [.ref q7, .null, .int 0, .null, .null, .null, .null, .int 0, .null])) := hU10.1
  have hX := hX.tr (cX.up hU10 (Or.inl rfl))
  refine lv_aload_n hx hb dX9_init_13 rfl (lv_at hl 0 rfl) ?_
  refine lv_bipush (v := 8) hx hb dX9_init_14 (by decide) ?_
  refine t_newq (kd := 9) (j := 4) (C := RX3) hx hb hown (hts (.classLink RX9 15 RX3) (by decide +kernel)) hAO9 hK hP hD hS hA hT rfl (fun _ _ => ⟨_, rfl, fun _ _ _ z => nomatch z⟩) (N := 8) (by decide) rfl (by decide) (Nat.le_of_ble_eq_true rfl) (Nat.le_of_ble_eq_true rfl) dX9_init_16 (fun q16 H w16 G16 hG_q16 hz16 hF16 hX16 hk16 hg16 hP hD hT hS => ?_)
  have hN_q16 := hX.new1 hM_o hz16 hF16
  have hO_o := (hg16 o (fun z => hF16 _ (z ▸ hM_o))).trans hO_o
  have hM_o := hk16 _ _ hM_o
  have hG_q7 := (hX16 none (chs [])).1 _ _ hG_q7
  have hX := hX.tr (hX16 _ _)
  refine t_putF (v := .ref q16) (C := RX9) (T := TX9) (N := 9) (ty0 := tyX9) hx hb hts (by decide +kernel) tyX9_ok nmX9 hown hK hP hD hS hM_o rfl 1 (by decide) (hts (.fieldLink RX9 17 "ShadowBench" "jobs" "[LShadowBench$Job;") (by decide +kernel)) (fun _ h9 => h9) rfl hin2 rfl rfl rfl (Nat.le_of_ble_eq_true rfl) dX9_init_19 (fun H locs w19 hU19 hP hD hS => ?_)
  have hT := hT.up0 hU19 hO_o
  have hM_o : cIn w19 o (.inr (8, [.ref q7, .ref q16, .int 0, .null, .null, .null, .null, .int 0, .null])) := hU19.1
  have hX := hX.tr (cX.up hU19 (Or.inl rfl))
  refine lv_aload_n hx hb dX9_init_22 rfl (lv_at hl 0 rfl) ?_
  refine lv_iconst (v := 0) hx hb dX9_init_23 (by decide) ?_
  refine t_put (v := .int (0 : Int32)) (C := RX9) (T := TX9) (N := 9) (ty0 := tyX9) hx hb hts (by decide +kernel) tyX9_ok nmX9 hown hK hP hD hS hM_o rfl 2 (by decide) (hts (.fieldLink RX9 21 "ShadowBench" "jobCount" "I") (by decide +kernel)) (fun _ h9 => h9) rfl rfl rfl (Nat.le_of_ble_eq_true rfl) dX9_init_24 (fun H locs w24 hU24 hP hD hS => ?_)
  have hT := hT.up0 hU24 hO_o
  have hM_o : cIn w24 o (.inr (8, [.ref q7, .ref q16, .int (0 : Int32), .null, .null, .null, .null, .int 0, .null])) := hU24.1
  have hX := hX.tr (cX.up hU24 (Or.inl rfl))
  refine lv_aload_n hx hb dX9_init_27 rfl (lv_at hl 0 rfl) ?_
  refine lv_bipush (v := 8) hx hb dX9_init_28 (by decide) ?_
  refine t_newqK (kd := 10) (j := 5) (C := RX2) hx hb hown (hts (.classLink RX9 25 RX2) (by decide +kernel)) hAO10 hK hP hD hS hA hT rfl (fun _ _ => ⟨_, rfl, fun _ _ _ z => nomatch z⟩) (N := 8) (by decide) rfl (by decide) (Nat.le_of_ble_eq_true rfl) (Nat.le_of_ble_eq_true rfl) dX9_init_30 (fun q30 H w30 G30 hG_q30 hMn30 hz30 hF30 hX30 hk30 hg30 hP hD hT hS => ?_)
  have hN_q30 := hX.new1 hM_o hz30 hF30
  have hO_o := (hg30 o (fun z => hF30 _ (z ▸ hM_o))).trans hO_o
  have hM_o := hk30 _ _ hM_o
  have hG_q7 := (hX30 none (chs [])).1 _ _ hG_q7
  have hG_q16 := (hX30 none (chs [])).1 _ _ hG_q16
  have hX := hX.tr (hX30 _ _)
  have hM_q30 := hMn30
  have hf_q30 : ∀ i x, i < 8 → (fun _ : Nat => (none : Option Nat)) i = some x → (∃ k n, G30 x = some (3, k, n)) ∨ ∃ n, G30 x = some (4, n, 0) := fun _ _ _ z => nomatch z
  refine t_putF (v := .ref q30) (C := RX9) (T := TX9) (N := 9) (ty0 := tyX9) hx hb hts (by decide +kernel) tyX9_ok nmX9 hown hK hP hD hS hM_o rfl 3 (by decide) (hts (.fieldLink RX9 27 "ShadowBench" "shelves" "[LShadowBench$Held;") (by decide +kernel)) (fun _ h9 => h9) rfl hin2 rfl rfl rfl (Nat.le_of_ble_eq_true rfl) dX9_init_33 (fun H locs w33 hU33 hP hD hS => ?_)
  have hM_q30 := hU33.2 _ _ (Ne.symm (cne0 hO_o hG_q30)) hM_q30
  have hT := hT.up0 hU33 hO_o
  have hM_o : cIn w33 o (.inr (8, [.ref q7, .ref q16, .int (0 : Int32), .ref q30, .null, .null, .null, .int 0, .null])) := hU33.1
  have hX := hX.tr (cX.up hU33 (Or.inl rfl))
  refine lv_aload_n hx hb dX9_init_36 rfl (lv_at hl 0 rfl) ?_
  refine t_new (C := RX8) (T := TX8) (N := 10) (ci := 7) (ty0 := tyX8) (fs := [.null, .int 0, .int 0, .int 0, .long 0, .null, .null, .null, .null, .null]) hx hb hts (by decide +kernel) tyX8_ok hown (hts (.classLink RX9 31 RX8) (by decide +kernel)) (hts (.instantiable RX8 10) (by decide +kernel)) (hts (.initialized RX8) (by decide +kernel)) hK hP hD hS hA hT rfl (by decide +kernel) (Nat.le_of_ble_eq_true rfl) (Nat.le_of_ble_eq_true rfl) dX9_init_37 (fun q37 H w37 hM_q37 hO_q37 hF37 hX37 hk37 hP hD hT hS => ?_)
  have hN_q37 := hX.new1 hM_o hO_q37 hF37
  have hM_o := hk37 _ _ hM_o
  have hM_q30 := hk37 _ _ hM_q30
  have hX := hX.tr (hX37 _ _)
  refine lv_dup hx hb dX9_init_40 rfl ?_
  refine t_callv (va_runIN (g := F0 m 41 ls ([.ref q37, .ref q37, .ref o])) (As := []) (rest := [.ref q37, .ref o]) (b := q37) ⟨hx, hb, hml, hown, hts⟩ (c_X8_init l D cy A G30 w37 q37 hD hT hO_q37 hM_q37 ) ⟨va_cnB 0 hts gX9_init_X8_init_n33 rfl rfl rfl hV.1.1 (hts (.initialized RX8) (by decide +kernel)) (by decide +kernel) ⟨Nat.le_of_ble_eq_true rfl, Nat.le_of_ble_eq_true rfl⟩, rfl, hts (.instanceMethod yX8_init) (by decide +kernel)⟩ (c_preS hP hK hA hS hV) rfl rfl hl.1 rfl (lv_room (Nat.le_of_ble_eq_true rfl)) dX9_init_41 ⟨Nat.le_of_ble_eq_true rfl, Nat.le_of_ble_eq_true rfl⟩) hS (fun u H locs q41 hP9 hD9 hT9 hS => ?_)
  obtain ⟨G41, w41⟩ := u
  obtain ⟨hX9, q41⟩ := q41
  have hX9 : cX (some q37) (chs []) G30 w37 G41 w41 := hX9
  have hP : va_P D vwCl w41 H := hP9
  have hD : va_D A w41 := hD9
  have hT : cT cy G41 w41 := hT9
  have hne_o_q37 : o ≠ q37 := fun z => hN_q37 _ (z ▸ hM0_o)
  have hO9_o := hX9.none0 (cP.no01 hne_o_q37 hO_o) hO_o hM_o
  have hM_o := hX9.2.1 _ _ (cP.no01 hne_o_q37 hO_o) hM_o
  have hM_q30 := hX9.2.1 _ _ (cP.no1 (Ne.symm (cne0 hO_q37 hG_q30)) hG_q30 rfl) hM_q30
  have hG_q7 := hX9.1 _ _ hG_q7
  have hG_q16 := hX9.1 _ _ hG_q16
  have hG_q30 := hX9.1 _ _ hG_q30
  have hf_q30 := fun i9 x9 (h9 : i9 < 8) z9 => hf10_up hX9.1 (hf_q30 i9 x9 h9 z9)
  have hO_o := hO9_o
  have hG_q37 : G41 q37 = some (5, 0, 0) := q41.1
  have q41 := q41.2
  have hX := hX.trN hN_q37 hX9
  refine t_putF (v := .ref q37) (C := RX9) (T := TX9) (N := 9) (ty0 := tyX9) hx hb hts (by decide +kernel) tyX9_ok nmX9 hown hK hP hD hS hM_o rfl 4 (by decide) (hts (.fieldLink RX9 34 "ShadowBench" "walk" "LShadowBench$Walk;") (by decide +kernel)) (fun _ h9 => h9) rfl hin2 rfl rfl rfl (Nat.le_of_ble_eq_true rfl) dX9_init_44 (fun H locs w44 hU44 hP hD hS => ?_)
  have hM_q30 := hU44.2 _ _ (Ne.symm (cne0 hO_o hG_q30)) hM_q30
  have hT := hT.up0 hU44 hO_o
  have hM_o : cIn w44 o (.inr (8, [.ref q7, .ref q16, .int (0 : Int32), .ref q30, .ref q37, .null, .null, .int 0, .null])) := hU44.1
  have hX := hX.tr (cX.up hU44 (Or.inl rfl))
  refine lv_aload_n hx hb dX9_init_47 rfl (lv_at hl 0 rfl) ?_
  refine lv_null hx hb dX9_init_48 ?_
  refine t_put (v := .null) (C := RX9) (T := TX9) (N := 9) (ty0 := tyX9) hx hb hts (by decide +kernel) tyX9_ok nmX9 hown hK hP hD hS hM_o rfl 5 (by decide) (hts (.fieldLink RX9 38 "ShadowBench" "meetings" "LShadowBench$Meetings;") (by decide +kernel)) (fun _ h9 => h9) rfl rfl rfl (Nat.le_of_ble_eq_true rfl) dX9_init_49 (fun H locs w49 hU49 hP hD hS => ?_)
  have hM_q30 := hU49.2 _ _ (Ne.symm (cne0 hO_o hG_q30)) hM_q30
  have hT := hT.up0 hU49 hO_o
  have hM_o : cIn w49 o (.inr (8, [.ref q7, .ref q16, .int (0 : Int32), .ref q30, .ref q37, .null, .null, .int 0, .null])) := hU49.1
  have hX := hX.tr (cX.up hU49 (Or.inl rfl))
  refine lv_aload_n hx hb dX9_init_52 rfl (lv_at hl 0 rfl) ?_
  refine lv_bipush (v := 12) hx hb dX9_init_53 (by decide) ?_
  refine t_newl hx hb (hts (.arrayClass .long) (by decide +kernel)) hK hP hD hS hA hT (kd9 := 17) (Or.inr (Or.inr rfl)) 12 (N := 12) (by decide) rfl (by omega) (by decide) (Nat.le_of_ble_eq_true rfl) (Nat.le_of_ble_eq_true rfl) dX9_init_55 (fun q55 H w55 G55 hG_q55 hz55 hF55 hX55 hk55 hg55 hP hD hT hS => ?_)
  have hN_q55 := hX.new1 hM_o hz55 hF55
  have hO_o := (hg55 o (fun z => hF55 _ (z ▸ hM_o))).trans hO_o
  have hM_o := hk55 _ _ hM_o
  have hM_q30 := hk55 _ _ hM_q30
  have hG_q7 := (hX55 none (chs [])).1 _ _ hG_q7
  have hG_q16 := (hX55 none (chs [])).1 _ _ hG_q16
  have hG_q30 := (hX55 none (chs [])).1 _ _ hG_q30
  have hG_q37 := (hX55 none (chs [])).1 _ _ hG_q37
  have hX := hX.tr (hX55 _ _)
  refine t_putF (v := .ref q55) (C := RX9) (T := TX9) (N := 9) (ty0 := tyX9) hx hb hts (by decide +kernel) tyX9_ok nmX9 hown hK hP hD hS hM_o rfl 6 (by decide) (hts (.fieldLink RX9 42 "ShadowBench" "listed" "[J") (by decide +kernel)) (fun _ h9 => h9) rfl hin2 rfl rfl rfl (Nat.le_of_ble_eq_true rfl) dX9_init_57 (fun H locs w57 hU57 hP hD hS => ?_)
  have hM_q30 := hU57.2 _ _ (Ne.symm (cne0 hO_o hG_q30)) hM_q30
  have hT := hT.up0 hU57 hO_o
  have hM_o : cIn w57 o (.inr (8, [.ref q7, .ref q16, .int (0 : Int32), .ref q30, .ref q37, .null, .ref q55, .int 0, .null])) := hU57.1
  have hX := hX.tr (cX.up hU57 (Or.inl rfl))
  refine lv_aload_n hx hb dX9_init_60 rfl (lv_at hl 0 rfl) ?_
  refine lv_iconst (v := 0) hx hb dX9_init_61 (by decide) ?_
  refine t_put (v := .int (0 : Int32)) (C := RX9) (T := TX9) (N := 9) (ty0 := tyX9) hx hb hts (by decide +kernel) tyX9_ok nmX9 hown hK hP hD hS hM_o rfl 7 (by decide) (hts (.fieldLink RX9 46 "ShadowBench" "listCount" "I") (by decide +kernel)) (fun _ h9 => h9) rfl rfl rfl (Nat.le_of_ble_eq_true rfl) dX9_init_62 (fun H locs w62 hU62 hP hD hS => ?_)
  have hM_q30 := hU62.2 _ _ (Ne.symm (cne0 hO_o hG_q30)) hM_q30
  have hT := hT.up0 hU62 hO_o
  have hM_o : cIn w62 o (.inr (8, [.ref q7, .ref q16, .int (0 : Int32), .ref q30, .ref q37, .null, .ref q55, .int (0 : Int32), .null])) := hU62.1
  have hX := hX.tr (cX.up hU62 (Or.inl rfl))
  refine lv_aload_n hx hb dX9_init_65 rfl (lv_at hl 0 rfl) ?_
  refine lv_null hx hb dX9_init_66 ?_
  refine t_put (v := .null) (C := RX9) (T := TX9) (N := 9) (ty0 := tyX9) hx hb hts (by decide +kernel) tyX9_ok nmX9 hown hK hP hD hS hM_o rfl 8 (by decide) (hts (.fieldLink RX9 49 "ShadowBench" "listBoard" "LShadowBench$Board;") (by decide +kernel)) (fun _ h9 => h9) rfl rfl rfl (Nat.le_of_ble_eq_true rfl) dX9_init_67 (fun H locs w67 hU67 hP hD hS => ?_)
  have hM_q30 := hU67.2 _ _ (Ne.symm (cne0 hO_o hG_q30)) hM_q30
  have hT := hT.up0 hU67 hO_o
  have hM_o : cIn w67 o (.inr (8, [.ref q7, .ref q16, .int (0 : Int32), .ref q30, .ref q37, .null, .ref q55, .int (0 : Int32), .null])) := hU67.1
  have hX := hX.tr (cX.up hU67 (Or.inl rfl))
  obtain ⟨Gk70, hGk⟩ : ∃ z, z = va_up G55 o (some (7, 0, 0)) := ⟨_, rfl⟩
  have hE9 : cE G55 Gk70 := by rw [hGk]; exact cE.add hO_o
  have hG_o : Gk70 o = some (7, 0, 0) := by rw [hGk]; simp [va_up]
  have hG_q7 := hE9 _ _ hG_q7
  have hG_q16 := hE9 _ _ hG_q16
  have hG_q30 := hE9 _ _ hG_q30
  have hG_q37 := hE9 _ _ hG_q37
  have hG_q55 := hE9 _ _ hG_q55
  have hT : cT cy Gk70 w67 := by rw [hGk]; exact hT.kind hO_o hM_o (by rw [← hGk]; exact ⟨_, _, _, _, _, _, _, none, none, rfl, ⟨by decide, by decide⟩, ⟨by decide, by decide⟩, hG_q7, hG_q16, hG_q30, hG_q37, (fun _ z => nomatch z), hG_q55, (fun _ z => nomatch z)⟩)
  have hX := hX.tr (show cX (some o) (chs []) G55 w67 Gk70 w67 by rw [hGk]; exact cX.kind hO_o)
  refine W.widen (k := 10) (n := 104) (Nat.le_of_ble_eq_true rfl) (Nat.le_of_ble_eq_true rfl) ?_
  exact W.vret hx hb hr (fun t ht hW => ⟨⟨(Gk70, w67), rfl, ⟨hX, hG_o, ⟨_, _, _, _, _, hM_o, hM_q30⟩⟩, by show va_P D vwCl w67 t.heap; rw [ht]; exact hP, hD, hT⟩, hS.F ht⟩) hS.2.2 dX9_init_70

section CAR50
variable {p : Program} {l : Launch} {e : Env} {R : Room} {s : State} {m : MethodId} {args : Array Value} {below : List Frame} {meth : Method} {c : Code} {H : Heap} {locs : List Loc} {cells slots : Nat} {Q : State → Prop}
variable {cc : ByteArray} {pc : Nat} {ls : Array Slot} {rest : List Value} {D : va_G} {cy : Nat → ClassId} {A : Nat → Prop} {ws : va_W} {G : cG} {H0 : Heap} {own : String} {index : Nat}
theorem t_newlK (hx : p.tables.exec = Jvm.exec) (hb : c.code = cc) (harr : (Cond.arrayClass .long).before args s = true) (hK : va_K D vwCl (cTy cy) s) (hP : va_P D vwCl ws H) (hD : va_D A ws) (hS : va_S A H0 H locs) (hA : ∀ q, H0.size ≤ q → A q) (hT : cT cy G ws) {kd9 : Nat} (hk9 : kd9 = 1 ∨ kd9 = 16 ∨ kd9 = 17) (B : Nat) {n : Int32} {N : Nat} (hn : ¬ n < 0) (hN : n.toNatClampNeg = N) (hB : N ≤ B) (hB2 : B ≤ 100000) (hcells : cells + 1 ≤ R.cells) (hslots : slots + B ≤ R.slots) (hdg : decode cc pc = .ok (.newarray .long, 2))
    (kk : ∀ (q : Nat) (H1 : Heap) (ws1 : va_W) (G1 : cG), G1 q = some (kd9, N, 0) → cIn ws1 q (.inl (cy 1, N, .inr (.inl (fun _ => 0)))) → G q = none → (∀ e, ¬ cIn ws q e) → (∀ q0 ch, cX q0 ch G ws G1 ws1) → (∀ a e, cIn ws a e → cIn ws1 a e) → (∀ a, a ≠ q → G1 a = G a) → va_P D vwCl ws1 H1 → va_D A ws1 → cT cy G1 ws1 → va_S A H0 H1 locs → W p l e R s m args below meth c H1 locs (cells + 1) (slots + B) Q (F0 m (pc + 2) ls (.ref q :: rest))) : W p l e R s m args below meth c H locs cells slots Q (F0 m pc ls (.int n :: rest)) := by
  refine va_newa (atype := .long) (ty := .long) (a0 := (N, .inr (.inl (fun _ => 0)))) hx hb harr rfl hK hP hD hS hA (fun cA => by rw [vp_cell_l] <;> rfl) hn hN (by have : componentBytes .long = 8 := rfl; rw [this]; omega) hcells (by omega) hdg (fun q cA H1 hK1 hP1 hD1 hS1 => ?_)
  have e1 : cA = cy 1 := cy_int (i := 1) (j := 6) hK hK1 rfl rfl (Or.inr rfl)
  subst e1
  have hg : G q = none := cG.none hT hD1
  have hni : ∀ e, ¬ cIn ws q e := c_fresh hD1
  refine W.widen (k := cells + 1) (n := slots + B) (Nat.le_refl _) (by omega) (kk q H1 _ (va_up G q (some (kd9, N, 0))) (by simp [va_up]) cIn.new hg hni (fun q0 ch => ⟨cE.add hg, fun a e _ hi => hi.add, fun a t ht => ?_⟩) (fun a e hi => hi.add) (fun a ha => by simp [va_up, ha]) hP1 hD1 (hT.add hg (cLo hk9)) hS1)
  by_cases ha : a = q
  · subst ha; exact Or.inr (Or.inr hni)
  · exact Or.inl (by simpa [va_up, ha] using ht)
theorem t_copylK (hx : p.tables.exec = Jvm.exec) (hb : c.code = cc) (hml : c.maxLocals = ls.size) (hown : s.vm.findClass own = some m.cls) (hlink : (Cond.methodLink own index arraycopyName).before args s = true) (hnat : (Cond.native arraycopyName).before args s = true) (hstat : (Cond.static arraycopyName).before args s = true) (hini : (Cond.initialized "java/lang/System").before args s = true) (hK : va_K D vwCl (cTy cy) s) (hP : va_P D vwCl ws H) (hD : va_D A ws) (hS : va_S A H0 H locs) (hT : cT cy G ws) {k9 a0 a1 n0 n1 z1 : Nat} (hk9 : k9 = 1 ∨ k9 = 16 ∨ k9 = 17) (hg1 : G a1 = some (k9, n1, z1)) {f g : Nat → Int64} (hM0 : cIn ws a0 (.inl (cy 1, n0, .inr (.inl f)))) (hM1 : cIn ws a1 (.inl (cy 1, n1, .inr (.inl g)))) {sp dp n : Int32} (h1 : 0 ≤ sp.toInt) (h2 : 0 ≤ dp.toInt) (h3 : 0 ≤ n.toInt) (h4 : sp.toInt + n.toInt ≤ (n0 : Int)) (h5 : dp.toInt + n.toInt ≤ (n1 : Int)) (hframes : 1 ≤ R.frames) (hlocals : (rest.map fun v => v.category).sum + (nativeFrameWords "java/lang/System" "arraycopy" 5 + 11) ≤ R.locals) (hdg : decode cc pc = .ok (.invokestatic index, 3))
    (kk : ∀ (H1 : Heap) (locs1 : List Loc) (ws1 : va_W), cUp ws a1 (.inl (cy 1, n1, .inr (.inl (va_cpy f g sp.toNatClampNeg dp.toNatClampNeg n.toNatClampNeg)))) ws1 → va_P D vwCl ws1 H1 → va_D A ws1 → cT cy G ws1 → va_S A H0 H1 locs1 → W p l e R s m args below meth c H1 locs1 cells slots Q (F0 m (pc + 3) ls rest)) : W p l e R s m args below meth c H locs cells slots Q (F0 m pc ls (.int n :: .int dp :: .ref a1 :: .int sp :: .ref a0 :: rest)) := by
  obtain ⟨q0, hq0⟩ := hM0
  obtain ⟨q1, hq1⟩ := hM1
  have e1 := m_cl h1
  have e2 := m_cl h2
  have e3 := m_cl h3
  have lz : ∀ x : Int32, 0 ≤ x.toInt → ¬ x < 0 := fun x h z => by rw [fa_lt] at z; have : (0 : Int32).toInt = 0 := rfl; omega
  exact va_copyl hx hb hml hown hlink hnat hstat hini hK hP hD hS q0 q1 1 1 (ty := .long) hq0 hq1 rfl rfl rfl (lz _ h1) (lz _ h2) (lz _ h3) (by omega) (by omega) (fun i _ => rfl) hframes hlocals hdg (fun H1 locs1 k1 k2 k3 => kk H1 locs1 _ (cUp.set hq1) k1 k2 (hT.up (cUp.set hq1) hg1 (cLo hk9)) k3)
end CAR50

/-- what stands on a shelf, told by the reference's numbers: kind k, size n, row R; x, a: its cells -/
def shX (cy : Nat → ClassId) (G : cG) (W : va_W) (o : Option Nat) (x a : Nat) (k n : Int32) (R : Nat → Int64) : Prop :=
  (o = none ∧ k = 0) ∨
  (o = some x ∧ k = 1 ∧ ∃ (K m : Nat), G x = some (3, K, m)) ∨
  (o = some x ∧ ∃ (m : Nat) (z : Int32) (f : Nat → Int64), G x = some (4, m, 0) ∧ G a = some (16, m, 0) ∧ cIn W x (.inr (6, [.int z, .ref a])) ∧ cIn W a (.inl (cy 1, m, .inr (.inl f))) ∧ n.toInt = (m : Int) ∧ m ≤ 60 ∧ ((z = 1 ∧ k = 3) ∨ (z = 0 ∧ k = 4)) ∧ (∀ e, e < m → f e = R e) ∧ (k = 3 → ∀ e, e < m → 0 ≤ (R e).toInt ∧ (R e).toInt ≤ 1))
/-- the picture of a grey's layer -/
def layN (R : Nat → Int64) (k : Int) : Nat → Int64
  | 0 => 0
  | n + 1 => layN R k n ||| (if k < (R n).toInt then l1 n else 0)
theorem layN_cg {R S : Nat → Int64} {k : Int} : ∀ n, (∀ e, e < n → R e = S e) → layN R k n = layN S k n := by
  intro n
  induction n with
  | zero => intro _; rfl
  | succ n ih => intro h; simp only [layN]; rw [ih (fun e he => h e (by omega)), h n (by omega)]
def lyA (k n : Int32) (R : Nat → Int64) (d q : Int32) (x : Int64) : Prop := (¬ (okSh d ∧ 0 ≤ q.toInt ∧ q.toInt ≤ 8) ∧ x = -1) ∨ ((okSh d ∧ 0 ≤ q.toInt ∧ q.toInt ≤ 8) ∧ ((k = 0 ∧ x = -11) ∨ ((¬ k = 0 ∧ ¬ k = 3) ∧ x = -12) ∨ (k = 3 ∧ 36 < n.toInt ∧ x = -13) ∨ (k = 3 ∧ ¬ 36 < n.toInt ∧ x = layN R q.toInt n.toNatClampNeg)))
theorem lyA_eq {k n : Int32} {R : Nat → Int64} {d q : Int32} {x y : Int64} (hx : lyA k n R d q x) (hy : lyA k n R d q y) : x = y := by
  rcases hx with ⟨a, b⟩ | ⟨a, b⟩ <;> rcases hy with ⟨c, e⟩ | ⟨c, e⟩
  · rw [b, e]
  · exact absurd c a
  · exact absurd a c
  · rcases b with ⟨b1, b2⟩ | ⟨b1, b2⟩ | ⟨b1, b2, b3⟩ | ⟨b1, b2, b3⟩ <;> rcases e with ⟨e1, e2⟩ | ⟨e1, e2⟩ | ⟨e1, e2, e3⟩ | ⟨e1, e2, e3⟩
    · rw [b2, e2]
    · exact absurd b1 e1.1
    · exact absurd (b1.symm.trans e1) (by decide)
    · exact absurd (b1.symm.trans e1) (by decide)
    · exact absurd e1 b1.1
    · rw [b2, e2]
    · exact absurd e1 b1.2
    · exact absurd e1 b1.2
    · exact absurd (e1.symm.trans b1) (by decide)
    · exact absurd b1 e1.2
    · rw [b3, e3]
    · exact absurd b2 e2
    · exact absurd (e1.symm.trans b1) (by decide)
    · exact absurd b1 e1.2
    · exact absurd e2 b2
    · rw [b3, e3]
def elOk (k n i : Int32) : Prop := 3 ≤ k.toInt ∧ 0 ≤ i.toInt ∧ i.toInt < n.toInt

section SHX
variable {cy : Nat → ClassId} {A : Nat → Prop} {G G1 : cG} {W W1 : va_W} {o : Option Nat} {x y a : Nat} {k n : Int32} {R : Nat → Int64}
theorem shX_n (h : shX cy G W none x a k n R) : k = 0 := by
  rcases h with ⟨-, h⟩ | ⟨h, -⟩ | ⟨h, -⟩
  · exact h
  · cases h
  · cases h
theorem shX_row (h : shX cy G W (some y) x a k n R) {m : Nat} (hg : G y = some (4, m, 0)) : y = x ∧ ∃ (z : Int32) (f : Nat → Int64), G a = some (16, m, 0) ∧ cIn W y (.inr (6, [.int z, .ref a])) ∧ cIn W a (.inl (cy 1, m, .inr (.inl f))) ∧ n.toInt = (m : Int) ∧ m ≤ 60 ∧ ((z = 1 ∧ k = 3) ∨ (z = 0 ∧ k = 4)) ∧ (∀ e, e < m → f e = R e) ∧ (k = 3 → ∀ e, e < m → 0 ≤ (R e).toInt ∧ (R e).toInt ≤ 1) := by
  rcases h with ⟨h, -⟩ | ⟨h, -, K, m0, h1⟩ | ⟨h, m', z, f, h1, h2, h3, h4, h5, h6⟩
  · cases h
  · cases h
    rw [hg] at h1
    cases h1
  · cases h
    rw [hg] at h1
    cases h1
    exact ⟨rfl, z, f, h2, h3, h4, h5, h6⟩
theorem shX_job (h : shX cy G W (some y) x a k n R) {k' n' : Nat} (hg : G y = some (3, k', n')) : k = 1 := by
  rcases h with ⟨h, -⟩ | ⟨-, h, -⟩ | ⟨h, m', z, f, h1, -⟩
  · cases h
  · exact h
  · cases h
    rw [hg] at h1
    cases h1
theorem shX_nz (h : shX cy G W (some y) x a k n R) : k ≠ 0 := by
  rcases h with ⟨h, -⟩ | ⟨-, h, -⟩ | ⟨-, m', z, f, -, -, -, -, -, -, ⟨-, h⟩ | ⟨-, h⟩, -⟩
  · cases h
  · rw [h]; decide
  · rw [h]; decide
  · rw [h]; decide
end SHX

theorem w4sh {cy : Nat → ClassId} {A : Nat → Prop} {G : cG} {ws : va_W} {x n z a : Nat} {zz : Int32} (hD : va_D A ws) (hT : cT cy G ws) (hG : G x = some (4, n, z)) (hM : cIn ws x (.inr (6, [.int zz, .ref a]))) : isBo zz ∧ G a = some (16, n, 0) ∧ n ≤ 60 := by
  obtain ⟨_, hi, hn, z', a', rfl, hz, hg⟩ := hT _ _ hG
  have e := cIn.eq hD hM hi
  simp only [Sum.inr.injEq, Prod.mk.injEq, List.cons.injEq, Value.int.injEq, Value.ref.injEq, and_true, true_and] at e
  rw [e.1, e.2]
  exact ⟨hz, hg, hn⟩

set_option maxHeartbeats 4000000 in
set_option maxRecDepth 100000 in
theorem c_X7_numberAt_x (l : Launch) (D : va_G) (cy : Nat → ClassId) (A : Nat → Prop) (G : cG) (ws : va_W) (o : Nat) (i : Int32) {n z a_o : Nat} {z_o : Int32} {f : Nat → Int64} (hD : va_D A ws) (hT : cT cy G ws) (hG_o : G o = some (4, n, z)) (hM_o : cIn ws o (.inr (6, [.int z_o, .ref a_o]))) (hM_a_o : cIn ws a_o (.inl (cy 1, n, .inr (.inl f)))) (hi9 : 0 ≤ i.toInt ∧ i.toInt < (n : Int)) : Cl l D cy A yX7_numberAt wsX7_numberAt ({ frames := 1, cells := 0, slots := 0, locals := 22 }) 0 0 ws [.ref o, .int i] (fun r0 u => u = (G, ws) ∧ (r0 = f i.toNatClampNeg)) := by
  refine Met.ofW (cc := cX7_numberAt) (maxL := 2) (ret := (some .long)) (by decide) rfl ?_
  intro p e s m args below meth c s₁ B hml hv
  obtain ⟨rfl, hP, hK, hA, hV⟩ := hv
  have hx := B.exec
  have hb := B.bytes
  have hr := B.returns
  have hts := atoms_spec (ws := wsX7_numberAt) B.pre
  have hown : s.vm.findClass RX7 = some m.cls := findClass_of_methodNamed B.named
  have hlocks := B.notSynchronized
  have hS : va_S A s.heap s.heap [] := va_S.rf
  have hl := lv_entry ([.ref o, .int i]) (n := 2) (Nat.le_of_ble_eq_true rfl)
  rw [lg_entry_eq]
  generalize (lg_sl ([.ref o, .int i]) ++ List.replicate (2 - (lg_sl ([.ref o, .int i])).length) Slot.unset).toArray = ls at hl ⊢
  have hl : lv_has ls 2 [(0, .ref o), (1, .int i)] := hl
  have k_0 : (0 : Int32).toInt = 0 := by decide
  have k_1 : (1 : Int32).toInt = 1 := by decide
  have k_0L : (0 : Int64).toInt = 0 := by decide
  obtain ⟨hz_o, hG_a_o, hn60_o⟩ := w4sh hD hT hG_o hM_o
  refine lv_aload_n hx hb dX7_numberAt_0 rfl (lv_at hl 0 rfl) ?_
  refine lv_iload_n hx hb dX7_numberAt_1 rfl (lv_at hl 1 rfl) ?_
  refine lv_iconst (v := 1) hx hb dX7_numberAt_2 (by decide) ?_
  refine t_calli (va_runV (g := F0 m 3 ls ([.int (1 : Int32), .int i, .ref o])) (As := [.int i, .int (1 : Int32)]) (rest := []) ⟨hx, hb, hml, hown, hts⟩ (c_X7_has l D cy A G ws o i (1 : Int32) hD hT hG_o ) (cwV 2 hts gX7_numberAt_X7_has rfl rfl rfl (by decide +kernel) ⟨Nat.le_of_ble_eq_true rfl, Nat.le_of_ble_eq_true rfl⟩) (c_preV hM_o rfl hP hK hA hS hV) rfl rfl hl.1 rfl (lv_room (Nat.le_of_ble_eq_true rfl)) dX7_numberAt_3 ⟨Nat.le_of_ble_eq_true rfl, Nat.le_of_ble_eq_true rfl⟩) hS (fun r3 u H locs q3 hP9 hD9 hT9 hS => ?_)
  obtain ⟨rfl, q3⟩ := q3
  have hP : va_P D vwCl ws H := hP9
  refine lv_if_eq (tgt := 18) hx hb dX7_numberAt_6 (by decide) (fun c6 => ?_) (fun c6 => ?_)
  · skip
    have b6 := bo_f q3 c6
    refine lv_lconst (v := 0) hx hb dX7_numberAt_18 (by decide) ?_
    exact W.lret (v := (0 : Int64)) hx hb hr (fun t ht hW => ⟨⟨_, (G, ws), rfl, ⟨rfl, (by first | (have k1 : (1 : Int32).toInt = 1 := rfl; exfalso; omega) | exact e14)⟩, by show va_P D vwCl ws t.heap; rw [ht]; exact hP, hD, hT⟩, hS.F ht⟩) hS.2.2 dX7_numberAt_19
  · skip
    have b6 := bo_t q3 c6
    refine lv_aload_n hx hb dX7_numberAt_9 rfl (lv_at hl 0 rfl) ?_
    refine t_get (v := .ref a_o) (C := RX7) (T := TX7) (N := 2) hx hb hts (by decide +kernel) hown hK hP hM_o rfl 1 (by decide) (hts (.fieldLink RX7 13 "ShadowBench$Row" "numbers" "[J") (by decide +kernel)) (fun _ h9 => h9) rfl dX7_numberAt_10 ?_
    refine lv_iload_n hx hb dX7_numberAt_13 rfl (lv_at hl 1 rfl) ?_
    refine t_laldM hx hb hK hP hM_a_o (vp_in_iff.mpr ⟨by omega, by omega⟩) dX7_numberAt_14 ?_
    refine lv_topl (fun v14 e14 => ?_)
    refine lv_goto (tgt := 19) hx hb dX7_numberAt_15 (by decide) ?_
    exact W.lret (v := v14) hx hb hr (fun t ht hW => ⟨⟨_, (G, ws), rfl, ⟨rfl, (by first | (have k1 : (1 : Int32).toInt = 1 := rfl; exfalso; omega) | exact e14)⟩, by show va_P D vwCl ws t.heap; rw [ht]; exact hP, hD, hT⟩, hS.F ht⟩) hS.2.2 dX7_numberAt_19
set_option maxHeartbeats 4000000 in
set_option maxRecDepth 100000 in
theorem c_X7_put_x (l : Launch) (D : va_G) (cy : Nat → ClassId) (A : Nat → Prop) (G : cG) (ws : va_W) (o : Nat) (i : Nat) (v : Int64) {n z a_o : Nat} {z_o : Int32} {f : Nat → Int64} (hD : va_D A ws) (hT : cT cy G ws) (hG_o : G o = some (4, n, z)) (hM_o : cIn ws o (.inr (6, [.int z_o, .ref a_o]))) (hM_a_o : cIn ws a_o (.inl (cy 1, n, .inr (.inl f)))) (hi9 : i < n) : Cv l D cy A yX7_put wsX7_put ({ frames := 1, cells := 0, slots := 0, locals := 22 }) 0 0 ws [.ref o, .int (nI i), .long v] (fun u => ∃ w1, u = (G, w1) ∧ cF (fun b9 => b9 = a_o) ws w1 ∧ (cIn w1 a_o (.inl (cy 1, n, .inr (.inl (vp_updL f i v)))))) := by
  refine Met.ofW (cc := cX7_put) (maxL := 4) (ret := none) (by decide) rfl ?_
  intro p e s m args below meth c s₁ B hml hv
  obtain ⟨rfl, hP, hK, hA, hV⟩ := hv
  have hx := B.exec
  have hb := B.bytes
  have hr := B.returns
  have hts := atoms_spec (ws := wsX7_put) B.pre
  have hown : s.vm.findClass RX7 = some m.cls := findClass_of_methodNamed B.named
  have hlocks := B.notSynchronized
  have hS : va_S A s.heap s.heap [] := va_S.rf
  have hF : cF (fun b9 => b9 = a_o) ws ws := cF.rf
  have hl := lv_entry ([.ref o, .int (nI i), .long v]) (n := 4) (Nat.le_of_ble_eq_true rfl)
  rw [lg_entry_eq]
  generalize (lg_sl ([.ref o, .int (nI i), .long v]) ++ List.replicate (4 - (lg_sl ([.ref o, .int (nI i), .long v])).length) Slot.unset).toArray = ls at hl ⊢
  have hl : lv_has ls 4 [(0, .ref o), (1, .int (nI i)), (2, .long v)] := hl
  have k_0 : (0 : Int32).toInt = 0 := by decide
  have k_1 : (1 : Int32).toInt = 1 := by decide
  obtain ⟨hz_o, hG_a_o, hn60_o⟩ := w4sh hD hT hG_o hM_o
  have ii9 : (nI i).toInt = (i : Int) := nI_toInt (by omega)
  have ci9 : (nI i).toNatClampNeg = i := nI_clamp (by omega)
  refine lv_aload_n hx hb dX7_put_0 rfl (lv_at hl 0 rfl) ?_
  refine lv_iload_n hx hb dX7_put_1 rfl (lv_at hl 1 rfl) ?_
  refine lv_iconst (v := 1) hx hb dX7_put_2 (by decide) ?_
  refine t_calli (va_runV (g := F0 m 3 ls ([.int (1 : Int32), .int (nI i), .ref o])) (As := [.int (nI i), .int (1 : Int32)]) (rest := []) ⟨hx, hb, hml, hown, hts⟩ (c_X7_has l D cy A G ws o (nI i) (1 : Int32) hD hT hG_o ) (cwV 2 hts gX7_put_X7_has rfl rfl rfl (by decide +kernel) ⟨Nat.le_of_ble_eq_true rfl, Nat.le_of_ble_eq_true rfl⟩) (c_preV hM_o rfl hP hK hA hS hV) rfl rfl hl.1 rfl (lv_room (Nat.le_of_ble_eq_true rfl)) dX7_put_3 ⟨Nat.le_of_ble_eq_true rfl, Nat.le_of_ble_eq_true rfl⟩) hS (fun r3 u H locs q3 hP9 hD9 hT9 hS => ?_)
  obtain ⟨rfl, q3⟩ := q3
  have hP : va_P D vwCl ws H := hP9
  refine lv_if_eq (tgt := 16) hx hb dX7_put_6 (by decide) (fun c6 => ?_) (fun c6 => ?_)
  · skip
    have b6 := bo_f q3 c6
    exact W.vret hx hb hr (fun t ht hW => ⟨⟨(G, ws), rfl, ⟨ws, rfl, hF, (by first | (have k1 : (1 : Int32).toInt = 1 := rfl; exfalso; omega) | (rw [ci9] at hM_a_o; exact hM_a_o))⟩, by show va_P D vwCl ws t.heap; rw [ht]; exact hP, hD, hT⟩, hS.F ht⟩) hS.2.2 dX7_put_16
  · skip
    have b6 := bo_t q3 c6
    refine lv_aload_n hx hb dX7_put_9 rfl (lv_at hl 0 rfl) ?_
    refine t_get (v := .ref a_o) (C := RX7) (T := TX7) (N := 2) hx hb hts (by decide +kernel) hown hK hP hM_o rfl 1 (by decide) (hts (.fieldLink RX7 13 "ShadowBench$Row" "numbers" "[J") (by decide +kernel)) (fun _ h9 => h9) rfl dX7_put_10 ?_
    refine lv_iload_n hx hb dX7_put_13 rfl (lv_at hl 1 rfl) ?_
    refine lv_lload_n hx hb dX7_put_14 rfl (lv_at hl 2 rfl) ?_
    refine t_lastK hx hb hK hP hD hS hT (Or.inr (Or.inl rfl)) hG_a_o hM_a_o (vp_in_iff.mpr ⟨by omega, by omega⟩) dX7_put_15 (fun H locs w15 hU15 hP hD hT hS => ?_)
    have hM_o := hU15.2 _ _ (cne hG_o hG_a_o (show (4 : Nat) ≠ 16 by decide)) hM_o
    have hM_a_o := hU15.1
    have hF := hF.tr (cF.up hU15 rfl)
    exact W.vret hx hb hr (fun t ht hW => ⟨⟨(G, w15), rfl, ⟨w15, rfl, hF, (by first | (have k1 : (1 : Int32).toInt = 1 := rfl; exfalso; omega) | (rw [ci9] at hM_a_o; exact hM_a_o))⟩, by show va_P D vwCl w15 t.heap; rw [ht]; exact hP, hD, hT⟩, hS.F ht⟩) hS.2.2 dX7_put_16
set_option maxHeartbeats 4000000 in
set_option maxRecDepth 100000 in
theorem c_X9_layerOf_x (l : Launch) (D : va_G) (cy : Nat → ClassId) (A : Nat → Prop) (G : cG) (ws : va_W) (x1 : Nat) (k0 : Int32) {mL a1 : Nat} {z1 : Int32} {f : Nat → Int64} (hD : va_D A ws) (hT : cT cy G ws) (hG_x1 : G x1 = some (4, mL, 0)) (hM_x1 : cIn ws x1 (.inr (6, [.int z1, .ref a1]))) (hM_a1 : cIn ws a1 (.inl (cy 1, mL, .inr (.inl f)))) (hk9 : 0 ≤ k0.toInt ∧ k0.toInt ≤ 8) (hb9 : ∀ e, e < mL → 0 ≤ (f e).toInt ∧ (f e).toInt ≤ 1) : Cl l D cy A yX9_layerOf wsX9_layerOf ({ frames := 2, cells := 0, slots := 0, locals := 43 }) 0 0 ws [.ref x1, .int k0] (fun r0 u => u = (G, ws) ∧ ((36 < mL ∧ r0 = -13) ∨ (¬ 36 < mL ∧ r0 = layN f k0.toInt mL))) := by
  refine Met.ofW (cc := cX9_layerOf) (maxL := 7) (ret := (some .long)) (by decide) rfl ?_
  intro p e s m args below meth c s₁ B hml hv
  obtain ⟨rfl, hP, hK, hA, hV⟩ := hv
  have hx := B.exec
  have hb := B.bytes
  have hr := B.returns
  have hts := atoms_spec (ws := wsX9_layerOf) B.pre
  have hown : s.vm.findClass RX9 = some m.cls := findClass_of_methodNamed B.named
  have hlocks := B.notSynchronized
  have hS : va_S A s.heap s.heap [] := va_S.rf
  have hl := lv_entry ([.ref x1, .int k0]) (n := 7) (Nat.le_of_ble_eq_true rfl)
  rw [lg_entry_eq]
  generalize (lg_sl ([.ref x1, .int k0]) ++ List.replicate (7 - (lg_sl ([.ref x1, .int k0])).length) Slot.unset).toArray = ls at hl ⊢
  have hl : lv_has ls 7 [(0, .ref x1), (1, .int k0)] := hl
  have k_0 : (0 : Int32).toInt = 0 := by decide
  have k_36 : (36 : Int32).toInt = 36 := by decide
  have k_m13L : (-13 : Int64).toInt = -13 := by decide
  have k_m2L : (-2 : Int64).toInt = -2 := by decide
  have k_0L : (0 : Int64).toInt = 0 := by decide
  have k_1L : (1 : Int64).toInt = 1 := by decide
  have k_9L : (9 : Int64).toInt = 9 := by decide
  obtain ⟨hz1, hG_a1, hm60⟩ := w4sh hD hT hG_x1 hM_x1
  refine lv_lconst (v := 0) hx hb dX9_layerOf_0 (by decide) ?_
  refine lv_lstore_n (lv' := [(2, .long (0 : Int64)), (0, .ref x1), (1, .int k0)]) hx hb dX9_layerOf_1 rfl hl (by decide) rfl (fun ls hl => ?_)
  refine lv_iconst (v := 0) hx hb dX9_layerOf_2 (by decide) ?_
  refine lv_istore (lv' := [(4, .int (0 : Int32)), (2, .long (0 : Int64)), (0, .ref x1), (1, .int k0)]) hx hb dX9_layerOf_3 hl (by decide) rfl (fun ls hl => ?_)
  have loop_5 : ∀ (n : Nat) (i : Nat) (x2 : Int64), (i ≤ mL) → (x2 = layN f k0.toInt i) → 60 - i < n → ∀ (H : Heap) (locs : List Loc), va_P D vwCl ws H → va_S A s.heap H locs → ∀ (ls : Array Slot), lv_has ls 7 [(4, .int (nI i)), (2, .long x2), (0, .ref x1), (1, .int k0)] → W p l e (headSpec wsX9_layerOf ({ frames := 2, cells := 0, slots := 0, locals := 43 })).room s m #[Value.ref x1, Value.int k0] below meth c H locs 0 0 (MQ below (va_Ql (fun r0 u => u = (G, ws) ∧ ((36 < mL ∧ r0 = -13) ∨ (¬ 36 < mL ∧ r0 = layN f k0.toInt mL))) (cB D cy A) A) #[Value.ref x1, Value.int k0] s 0 0 A) (F0 m 5 ls []) := by
    intro n
    induction n with
    | zero => intro i x2 j5_0 j5_1 hn; exact absurd hn (Nat.not_lt_zero _)
    | succ n ih_5 =>
      intro i x2 j5_0 j5_1 hn_5 H locs hP hS  ls hl
      have ii : (nI i).toInt = (i : Int) := nI_toInt (by omega)
      refine lv_iload hx hb dX9_layerOf_5 (lv_at hl 0 rfl) ?_
      refine lv_aload_n hx hb dX9_layerOf_7 rfl (lv_at hl 2 rfl) ?_
      refine t_calli (va_runV (g := F0 m 8 ls ([.ref x1, .int (nI i)])) (As := []) (rest := [.int (nI i)]) ⟨hx, hb, hml, hown, hts⟩ (c_X7_size l D cy A G ws x1 hD hT hG_x1 ) (cwV 0 hts gX9_layerOf_X7_size rfl rfl rfl (by decide +kernel) ⟨Nat.le_of_ble_eq_true rfl, Nat.le_of_ble_eq_true rfl⟩) (c_preV hM_x1 rfl hP hK hA hS hV) rfl rfl hl.1 rfl (lv_room (Nat.le_of_ble_eq_true rfl)) dX9_layerOf_8 ⟨Nat.le_of_ble_eq_true rfl, Nat.le_of_ble_eq_true rfl⟩) hS (fun r8 u H locs q8 hP9 hD9 hT9 hS => ?_)
      obtain ⟨rfl, q8⟩ := q8
      have hP : va_P D vwCl ws H := hP9
      have i8 := congrArg Int32.toInt q8
      rw [nI_toInt (by omega)] at i8
      refine lv_icmp_ge (tgt := 63) hx hb dX9_layerOf_11 (by decide) (fun c11 => ?_) (fun c11 => ?_)
      · skip
        have d11 := c11
        rw [fa_le] at d11
        refine lv_aload_n hx hb dX9_layerOf_63 rfl (lv_at hl 2 rfl) ?_
        refine t_calli (va_runV (g := F0 m 64 ls ([.ref x1])) (As := []) (rest := []) ⟨hx, hb, hml, hown, hts⟩ (c_X7_size l D cy A G ws x1 hD hT hG_x1 ) (cwV 0 hts gX9_layerOf_X7_size rfl rfl rfl (by decide +kernel) ⟨Nat.le_of_ble_eq_true rfl, Nat.le_of_ble_eq_true rfl⟩) (c_preV hM_x1 rfl hP hK hA hS hV) rfl rfl hl.1 rfl (lv_room (Nat.le_of_ble_eq_true rfl)) dX9_layerOf_64 ⟨Nat.le_of_ble_eq_true rfl, Nat.le_of_ble_eq_true rfl⟩) hS (fun r64 u H locs q64 hP9 hD9 hT9 hS => ?_)
        obtain ⟨rfl, q64⟩ := q64
        have hP : va_P D vwCl ws H := hP9
        have i64 := congrArg Int32.toInt q64
        rw [nI_toInt (by omega)] at i64
        refine lv_bipush (v := 36) hx hb dX9_layerOf_67 (by decide) ?_
        refine lv_icmp_le (tgt := 78) hx hb dX9_layerOf_69 (by decide) (fun c69 => ?_) (fun c69 => ?_)
        · skip
          have d69 := c69
          rw [fa_le] at d69
          refine lv_lload_n hx hb dX9_layerOf_78 rfl (lv_at hl 1 rfl) ?_
          exact W.lret (v := x2) hx hb hr (fun t ht hW => ⟨⟨_, (G, ws), rfl, ⟨rfl, (by first | exact Or.inl ⟨by omega, rfl⟩ | exact Or.inr ⟨by omega, by rw [j5_1, show i = mL by omega]⟩)⟩, by show va_P D vwCl ws t.heap; rw [ht]; exact hP, hD, hT⟩, hS.F ht⟩) hS.2.2 dX9_layerOf_79
        · skip
          have d69 := c69
          rw [fa_le] at d69
          refine lv_ldc2 hx hb hown (hts (.constantLong RX9 344 (-13)) (by decide +kernel)) dX9_layerOf_72 ?_
          refine lv_goto (tgt := 79) hx hb dX9_layerOf_75 (by decide) ?_
          exact W.lret (v := (-13 : Int64)) hx hb hr (fun t ht hW => ⟨⟨_, (G, ws), rfl, ⟨rfl, (by first | exact Or.inl ⟨by omega, rfl⟩ | exact Or.inr ⟨by omega, by rw [j5_1, show i = mL by omega]⟩)⟩, by show va_P D vwCl ws t.heap; rw [ht]; exact hP, hD, hT⟩, hS.F ht⟩) hS.2.2 dX9_layerOf_79
      · skip
        have d11 := c11
        rw [fa_le] at d11
        refine lv_aload_n hx hb dX9_layerOf_14 rfl (lv_at hl 2 rfl) ?_
        refine lv_iload hx hb dX9_layerOf_15 (lv_at hl 0 rfl) ?_
        refine t_calll (va_runV (g := F0 m 17 ls ([.int (nI i), .ref x1])) (As := [.int (nI i)]) (rest := []) ⟨hx, hb, hml, hown, hts⟩ (c_X7_numberAt_x l D cy A G ws x1 (nI i) hD hT hG_x1 hM_x1 hM_a1 (by omega)) (cwV 1 hts gX9_layerOf_X7_numberAt rfl rfl rfl (by decide +kernel) ⟨Nat.le_of_ble_eq_true rfl, Nat.le_of_ble_eq_true rfl⟩) (c_preV hM_x1 rfl hP hK hA hS hV) rfl rfl hl.1 rfl (lv_room (Nat.le_of_ble_eq_true rfl)) dX9_layerOf_17 ⟨Nat.le_of_ble_eq_true rfl, Nat.le_of_ble_eq_true rfl⟩) hS (fun r17 u H locs q17 hP9 hD9 hT9 hS => ?_)
        obtain ⟨rfl, q17⟩ := q17
        have hP : va_P D vwCl ws H := hP9
        rw [nI_clamp (n := i) (by omega)] at q17
        have bb9 := hb9 i (by omega)
        rw [← q17] at bb9
        refine lv_lstore (lv' := [(5, .long r17), (4, .int (nI i)), (2, .long x2), (0, .ref x1), (1, .int k0)]) hx hb dX9_layerOf_20 hl (by decide) rfl (fun ls hl => ?_)
        refine lv_lload hx hb dX9_layerOf_22 (lv_at hl 0 rfl) ?_
        refine lv_lconst (v := 0) hx hb dX9_layerOf_24 (by decide) ?_
        refine W.lcmp hx hb dX9_layerOf_25 ?_
        refine lv_if_lt (tgt := 38) hx hb dX9_layerOf_26 (by decide) (fun c26 => ?_) (fun c26 => ?_)
        · skip
          have d26 := c26
          rw [lg_cmp_lt, fa_lt64] at d26
          refine lv_ldc2 hx hb hown (hts (.constantLong RX9 151 (-2)) (by decide +kernel)) dX9_layerOf_38 ?_
          exact W.lret (v := (-2 : Int64)) hx hb hr (fun t ht hW => ⟨⟨_, (G, ws), rfl, ⟨rfl, (by exfalso; have k9L : (9 : Int64).toInt = 9 := rfl; have k0L : (0 : Int64).toInt = 0 := rfl; first | omega | (rw [k0L] at d26; omega))⟩, by show va_P D vwCl ws t.heap; rw [ht]; exact hP, hD, hT⟩, hS.F ht⟩) hS.2.2 dX9_layerOf_41
        · skip
          have d26 := c26
          rw [lg_cmp_lt, fa_lt64] at d26
          refine lv_lload hx hb dX9_layerOf_29 (lv_at hl 0 rfl) ?_
          refine lv_ldc2 hx hb hown (hts (.constantLong RX9 342 (9)) (by decide +kernel)) dX9_layerOf_31 ?_
          refine W.lcmp hx hb dX9_layerOf_34 ?_
          refine lv_if_le (tgt := 42) hx hb dX9_layerOf_35 (by decide) (fun c35 => ?_) (fun c35 => ?_)
          · skip
            have d35 := c35
            rw [lg_cmp_le, fa_le64] at d35
            refine lv_lload hx hb dX9_layerOf_42 (lv_at hl 0 rfl) ?_
            refine lv_iload_n hx hb dX9_layerOf_44 rfl (lv_at hl 4 rfl) ?_
            refine lv_i2l (v := k0.toInt64) hx hb dX9_layerOf_45 rfl ?_
            refine W.lcmp hx hb dX9_layerOf_46 ?_
            refine lv_if_le (tgt := 57) hx hb dX9_layerOf_47 (by decide) (fun c47 => ?_) (fun c47 => ?_)
            · skip
              have d47 := c47
              rw [lg_cmp_le, fa_le64] at d47
              refine lv_iinc (v := (nI (i + 1))) (lv' := [(4, .int (nI (i + 1))), (5, .long r17), (2, .long x2), (0, .ref x1), (1, .int k0)]) hx hb dX9_layerOf_57 hl (k := 1) rfl (nI_1 _) (by decide) rfl (fun ls hl => ?_)
              refine lv_goto (tgt := 5) hx hb dX9_layerOf_60 (by decide) ?_
              exact ih_5 (i + 1) x2 (by omega) (by simp only [layN]; rw [← q17]; first | (rw [if_pos (by rw [k64] at d47; omega), e55, j5_1]; rfl) | (rw [if_neg (by rw [k64] at d47; omega), or_0]; exact j5_1)) (by omega) _ _ hP hS  ls (lv_sub hl [0, 2, 3, 4] rfl)
            · skip
              have d47 := c47
              rw [lg_cmp_le, fa_le64] at d47
              refine lv_lload_n hx hb dX9_layerOf_50 rfl (lv_at hl 2 rfl) ?_
              refine lv_lconst (v := 1) hx hb dX9_layerOf_51 (by decide) ?_
              refine lv_iload hx hb dX9_layerOf_52 (lv_at hl 1 rfl) ?_
              refine lv_lshl (v := (1 : Int64) <<< ((nI i).toInt64 &&& 63)) hx hb dX9_layerOf_54 rfl ?_
              refine lv_lor hx hb dX9_layerOf_55 ?_
              refine lv_topl (fun v55 e55 => ?_)
              refine lv_lstore_n (lv' := [(2, .long v55), (5, .long r17), (4, .int (nI i)), (0, .ref x1), (1, .int k0)]) hx hb dX9_layerOf_56 rfl hl (by decide) rfl (fun ls hl => ?_)
              refine lv_iinc (v := (nI (i + 1))) (lv' := [(4, .int (nI (i + 1))), (2, .long v55), (5, .long r17), (0, .ref x1), (1, .int k0)]) hx hb dX9_layerOf_57 hl (k := 2) rfl (nI_1 _) (by decide) rfl (fun ls hl => ?_)
              refine lv_goto (tgt := 5) hx hb dX9_layerOf_60 (by decide) ?_
              exact ih_5 (i + 1) v55 (by omega) (by simp only [layN]; rw [← q17]; first | (rw [if_pos (by rw [k64] at d47; omega), e55, j5_1]; rfl) | (rw [if_neg (by rw [k64] at d47; omega), or_0]; exact j5_1)) (by omega) _ _ hP hS  ls (lv_sub hl [0, 1, 3, 4] rfl)
          · skip
            have d35 := c35
            rw [lg_cmp_le, fa_le64] at d35
            refine lv_ldc2 hx hb hown (hts (.constantLong RX9 151 (-2)) (by decide +kernel)) dX9_layerOf_38 ?_
            exact W.lret (v := (-2 : Int64)) hx hb hr (fun t ht hW => ⟨⟨_, (G, ws), rfl, ⟨rfl, (by exfalso; have k9L : (9 : Int64).toInt = 9 := rfl; have k0L : (0 : Int64).toInt = 0 := rfl; first | omega | (rw [k0L] at d26; omega))⟩, by show va_P D vwCl ws t.heap; rw [ht]; exact hP, hD, hT⟩, hS.F ht⟩) hS.2.2 dX9_layerOf_41
  exact loop_5 (60 + 1) 0 (0 : Int64) (by omega) (rfl) (by omega) _ _ hP hS  ls (lv_sub hl [0, 1, 2, 3] rfl)
set_option maxHeartbeats 4000000 in
set_option maxRecDepth 100000 in
theorem c_X9_layer_w (l : Launch) (D : va_G) (cy : Nat → ClassId) (A : Nat → Prop) (G : cG) (ws : va_W) (o : Nat) (d : Int32) (k0 : Int32) {bs_o js_o sh_o wk_o ll_o : Nat} {jc_o lc_o : Int32} {mo_o lb_o : Option Nat} {fb : Nat → Option Nat} {sx sa : Nat → Nat} {kS9 zS9 : Nat → Int32} {rS9 : Nat → Nat → Int64} (hD : va_D A ws) (hT : cT cy G ws) (hG_o : G o = some (7, 0, 0)) (hM_o : cIn ws o (.inr (8, [.ref bs_o, .ref js_o, .int jc_o, .ref sh_o, .ref wk_o, va_rf mo_o, .ref ll_o, .int lc_o, va_rf lb_o]))) (hM_sh_o : cIn ws sh_o (.inl (cy 5, cqa 8 fb))) (hS9 : ∀ i9, i9 < 8 → shX cy G ws (fb i9) (sx i9) (sa i9) (kS9 i9) (zS9 i9) (rS9 i9)) : Cl l D cy A yX9_layer wsX9_layer ({ frames := 3, cells := 0, slots := 0, locals := 69 }) 0 0 ws [.ref o, .int d, .int k0] (fun r0 u => u = (G, ws) ∧ (lyA (kS9 d.toNatClampNeg) (zS9 d.toNatClampNeg) (rS9 d.toNatClampNeg) d k0 r0)) := by
  refine Met.ofW (cc := cX9_layer) (maxL := 5) (ret := (some .long)) (by decide) rfl ?_
  intro p e s m args below meth c s₁ B hml hv
  obtain ⟨rfl, hP, hK, hA, hV⟩ := hv
  have hx := B.exec
  have hb := B.bytes
  have hr := B.returns
  have hts := atoms_spec (ws := wsX9_layer) B.pre
  have hown : s.vm.findClass RX9 = some m.cls := findClass_of_methodNamed B.named
  have hlocks := B.notSynchronized
  have hS : va_S A s.heap s.heap [] := va_S.rf
  have hl := lv_entry ([.ref o, .int d, .int k0]) (n := 5) (Nat.le_of_ble_eq_true rfl)
  rw [lg_entry_eq]
  generalize (lg_sl ([.ref o, .int d, .int k0]) ++ List.replicate (5 - (lg_sl ([.ref o, .int d, .int k0])).length) Slot.unset).toArray = ls at hl ⊢
  have hl : lv_has ls 5 [(0, .ref o), (1, .int d), (2, .int k0)] := hl
  have k_0 : (0 : Int32).toInt = 0 := by decide
  have k_9 : (9 : Int32).toInt = 9 := by decide
  have k_m12L : (-12 : Int64).toInt = -12 := by decide
  have k_m11L : (-11 : Int64).toInt = -11 := by decide
  have k_m1L : (-1 : Int64).toInt = -1 := by decide
  obtain ⟨hjc_o, hlc_o, hG_bs_o, hG_js_o, hG_sh_o, hG_wk_o, hmo_o, hG_ll_o, hlb_o⟩ := w7sh hD hT hG_o hM_o
  have hf_sh_o := w10sh hD hT hG_sh_o hM_sh_o
  refine lv_iload_n hx hb dX9_layer_0 rfl (lv_at hl 1 rfl) ?_
  refine t_pu (As := [.int d]) (rest := []) ⟨hx, hb, hml, hown, hts⟩ (c_X9_isShelf l d ) (va_cwS 1 hts gX9_layer_X9_isShelf rfl rfl rfl (by decide +kernel) ⟨Nat.le_of_ble_eq_true rfl, Nat.le_of_ble_eq_true rfl⟩) hP rfl hl.1 rfl (Nat.le_of_ble_eq_true rfl) dX9_layer_1 ⟨Nat.le_of_ble_eq_true rfl, Nat.le_of_ble_eq_true rfl⟩ hS (fun r1 H locs q1 hP hS => ?_)
  refine lv_if_eq (tgt := 17) hx hb dX9_layer_4 (by decide) (fun c4 => ?_) (fun c4 => ?_)
  · skip
    have b4 := bo_f q1 c4
    refine lv_ldc2 hx hb hown (hts (.constantLong RX9 143 (-1)) (by decide +kernel)) dX9_layer_17 ?_
    exact W.lret (v := (-1 : Int64)) hx hb hr (fun t ht hW => ⟨⟨_, (G, ws), rfl, ⟨rfl, (Or.inl ⟨(fun z9 => by first | exact b4 z9.1 | (have := z9.2; omega)), rfl⟩)⟩, by show va_P D vwCl ws t.heap; rw [ht]; exact hP, hD, hT⟩, hS.F ht⟩) hS.2.2 dX9_layer_20
  · skip
    have b4 := bo_t q1 c4
    refine lv_iload_n hx hb dX9_layer_7 rfl (lv_at hl 2 rfl) ?_
    refine lv_if_lt (tgt := 17) hx hb dX9_layer_8 (by decide) (fun c8 => ?_) (fun c8 => ?_)
    · skip
      have d8 := c8
      rw [fa_lt] at d8
      refine lv_ldc2 hx hb hown (hts (.constantLong RX9 143 (-1)) (by decide +kernel)) dX9_layer_17 ?_
      exact W.lret (v := (-1 : Int64)) hx hb hr (fun t ht hW => ⟨⟨_, (G, ws), rfl, ⟨rfl, (Or.inl ⟨(fun z9 => by first | exact b4 z9.1 | (have := z9.2; omega)), rfl⟩)⟩, by show va_P D vwCl ws t.heap; rw [ht]; exact hP, hD, hT⟩, hS.F ht⟩) hS.2.2 dX9_layer_20
    · skip
      have d8 := c8
      rw [fa_lt] at d8
      refine lv_iload_n hx hb dX9_layer_11 rfl (lv_at hl 2 rfl) ?_
      refine lv_bipush (v := 9) hx hb dX9_layer_12 (by decide) ?_
      refine lv_icmp_lt (tgt := 21) hx hb dX9_layer_14 (by decide) (fun c14 => ?_) (fun c14 => ?_)
      · skip
        have d14 := c14
        rw [fa_lt] at d14
        refine lv_aload_n hx hb dX9_layer_21 rfl (lv_at hl 0 rfl) ?_
        refine t_get (v := .ref sh_o) (C := RX9) (T := TX9) (N := 9) hx hb hts (by decide +kernel) hown hK hP hM_o rfl 3 (by decide) (hts (.fieldLink RX9 27 "ShadowBench" "shelves" "[LShadowBench$Held;") (by decide +kernel)) (fun _ h9 => h9) rfl dX9_layer_22 ?_
        refine lv_iload_n hx hb dX9_layer_25 rfl (lv_at hl 1 rfl) ?_
        refine t_aald10f hx hb hK hP hM_sh_o hf_sh_o (vp_in_iff.mpr ⟨by omega, by omega⟩) dX9_layer_26 (fun nf26 => ?_) (fun x26 kx26 nx26 hG_x26 nf26 => ?_) (fun x26 nx26 hG_x26 nf26 => ?_)
        · skip
          have s26 := hS9 d.toNatClampNeg (by have := m_cl (x := d) (by omega); omega)
          rw [nf26] at s26
          refine lv_ifnonnullN hx hb dX9_layer_27 ?_
          refine lv_ldc2 hx hb hown (hts (.constantLong RX9 272 (-11)) (by decide +kernel)) dX9_layer_30 ?_
          exact W.lret (v := (-11 : Int64)) hx hb hr (fun t ht hW => ⟨⟨_, (G, ws), rfl, ⟨rfl, (Or.inr ⟨⟨b4, by omega, by omega⟩, Or.inl ⟨shX_n s26, rfl⟩⟩)⟩, by show va_P D vwCl ws t.heap; rw [ht]; exact hP, hD, hT⟩, hS.F ht⟩) hS.2.2 dX9_layer_33
        · skip
          have s26 := hS9 d.toNatClampNeg (by have := m_cl (x := d) (by omega); omega)
          rw [nf26] at s26
          refine lv_ifnonnull (tgt := 34) hx hb dX9_layer_27 (by decide) ?_
          refine lv_aload_n hx hb dX9_layer_34 rfl (lv_at hl 0 rfl) ?_
          refine t_get (v := .ref sh_o) (C := RX9) (T := TX9) (N := 9) hx hb hts (by decide +kernel) hown hK hP hM_o rfl 3 (by decide) (hts (.fieldLink RX9 27 "ShadowBench" "shelves" "[LShadowBench$Held;") (by decide +kernel)) (fun _ h9 => h9) rfl dX9_layer_35 ?_
          refine lv_iload_n hx hb dX9_layer_38 rfl (lv_at hl 1 rfl) ?_
          refine t_aald10f hx hb hK hP hM_sh_o hf_sh_o (vp_in_iff.mpr ⟨by omega, by omega⟩) dX9_layer_39 (fun nf39 => ?_) (fun x39 kx39 nx39 hG_x39 nf39 => ?_) (fun x39 nx39 hG_x39 nf39 => ?_)
          · skip
            have s39 := hS9 d.toNatClampNeg (by have := m_cl (x := d) (by omega); omega)
            rw [nf39] at s39
            refine lv_astoreN (lv' := [(4, .null), (0, .ref o), (1, .int d), (2, .int k0)]) hx hb dX9_layer_40 hl (by decide) rfl (fun ls hl => ?_)
            refine lv_aloadN hx hb dX9_layer_42 (lv_at hl 0 rfl) ?_
            refine lv_instN hx hb dX9_layer_44 ?_
            refine lv_if_eq (tgt := 69) hx hb dX9_layer_47 (by decide) (fun c47 => ?_) (fun c47 => ?_)
            · skip
              have d47 := c47
              rw [fa_eq] at d47
              refine lv_ldc2 hx hb hown (hts (.constantLong RX9 278 (-12)) (by decide +kernel)) dX9_layer_69 ?_
              exact W.lret (v := (-12 : Int64)) hx hb hr (fun t ht hW => ⟨⟨_, (G, ws), rfl, ⟨rfl, (Or.inr ⟨⟨b4, by omega, by omega⟩, Or.inr (Or.inl ⟨(by first | exact nomatch (show (none : Option Nat) = some _ from nf39.symm.trans nf26) | (have y9 := shX_job s39 hG_x39; rw [y9]; exact ⟨by decide, by decide⟩) | (rcases hk39 with ⟨y1, y2⟩ | ⟨y1, y2⟩; exact absurd (y1.symm.trans c60) (by decide); (rw [y2]; exact ⟨by decide, by decide⟩))), rfl⟩)⟩)⟩, by show va_P D vwCl ws t.heap; rw [ht]; exact hP, hD, hT⟩, hS.F ht⟩) hS.2.2 dX9_layer_72
            · first | exact absurd c47 (by decide) | exact absurd (by decide) c47
          · skip
            have s39 := hS9 d.toNatClampNeg (by have := m_cl (x := d) (by omega); omega)
            rw [nf39] at s39
            refine lv_astore (lv' := [(4, .ref x39), (0, .ref o), (1, .int d), (2, .int k0)]) hx hb dX9_layer_40 hl (by decide) rfl (fun ls hl => ?_)
            refine lv_aload hx hb dX9_layer_42 (lv_at hl 0 rfl) ?_
            obtain ⟨_, hM_x39, b_x39, s_x39, w_x39, h_x39, t_x39, x_x39, y_x39, ms_x39, rfl, hG_b_x39, hG_s_x39, hJ_x39⟩ := hT _ _ hG_x39
            refine t_instRN hx hb hV hown (hts (.classLink RX9 245 RX7) (by decide +kernel)) hK hP hJ_x39.kc hM_x39 dX9_layer_44 ?_
            refine lv_if_eq (tgt := 69) hx hb dX9_layer_47 (by decide) (fun c47 => ?_) (fun c47 => ?_)
            · skip
              have d47 := c47
              rw [fa_eq] at d47
              refine lv_ldc2 hx hb hown (hts (.constantLong RX9 278 (-12)) (by decide +kernel)) dX9_layer_69 ?_
              exact W.lret (v := (-12 : Int64)) hx hb hr (fun t ht hW => ⟨⟨_, (G, ws), rfl, ⟨rfl, (Or.inr ⟨⟨b4, by omega, by omega⟩, Or.inr (Or.inl ⟨(by first | exact nomatch (show (none : Option Nat) = some _ from nf39.symm.trans nf26) | (have y9 := shX_job s39 hG_x39; rw [y9]; exact ⟨by decide, by decide⟩) | (rcases hk39 with ⟨y1, y2⟩ | ⟨y1, y2⟩; exact absurd (y1.symm.trans c60) (by decide); (rw [y2]; exact ⟨by decide, by decide⟩))), rfl⟩)⟩)⟩, by show va_P D vwCl ws t.heap; rw [ht]; exact hP, hD, hT⟩, hS.F ht⟩) hS.2.2 dX9_layer_72
            · first | exact absurd c47 (by decide) | exact absurd (by decide) c47
          · skip
            have s39 := hS9 d.toNatClampNeg (by have := m_cl (x := d) (by omega); omega)
            rw [nf39] at s39
            refine lv_astore (lv' := [(4, .ref x39), (0, .ref o), (1, .int d), (2, .int k0)]) hx hb dX9_layer_40 hl (by decide) rfl (fun ls hl => ?_)
            refine lv_aload hx hb dX9_layer_42 (lv_at hl 0 rfl) ?_
            obtain ⟨_, hM_x39, hn_x39, z_x39, a_x39, rfl, hz_x39, hG_a_x39⟩ := hT _ _ hG_x39
            refine va_instS hx hb hown (hts (.classLink RX9 245 RX7) (by decide +kernel)) (hK.1 6 _ rfl).2 (t_recJ hK hP hM_x39 rfl) dX9_layer_44 ?_
            refine lv_if_eq (tgt := 69) hx hb dX9_layer_47 (by decide) (fun c47 => ?_) (fun c47 => ?_)
            · first | exact absurd c47 (by decide) | exact absurd (by decide) c47
            · skip
              have d47 := c47
              rw [fa_eq] at d47
              refine lv_aload hx hb dX9_layer_50 (lv_at hl 0 rfl) ?_
              refine va_castS hx hb hown (hts (.classLink RX9 245 RX7) (by decide +kernel)) (hK.1 6 _ rfl).2 (t_recJ hK hP hM_x39 rfl) dX9_layer_52 ?_
              refine lv_astore_n (lv' := [(3, .ref x39), (4, .ref x39), (0, .ref o), (1, .int d), (2, .int k0)]) hx hb dX9_layer_55 rfl hl (by decide) rfl (fun ls hl => ?_)
              obtain ⟨hx39, z39, f39, hG_ar39, hM_x39, hM_ar39, hn39, hm39, hk39, hf39, hb39⟩ := shX_row s39 hG_x39
              obtain ⟨ar39, har39⟩ : ∃ z, z = sa d.toNatClampNeg := ⟨_, rfl⟩
              rw [← har39] at hG_ar39 hM_x39 hM_ar39
              have hz39 : isBo z39 := hk39.elim (fun y9 => Or.inr y9.1) (fun y9 => Or.inl y9.1)
              refine lv_aload_n hx hb dX9_layer_56 rfl (lv_at hl 0 rfl) ?_
              skip
              refine t_get (v := .int z39) (C := RX7) (T := TX7) (N := 2) hx hb hts (by decide +kernel) hown hK hP hM_x39 rfl 0 (by decide) (hts (.fieldLink RX9 264 "ShadowBench$Row" "ofBytes" "Z") (by decide +kernel)) (fun _ h9 => h9) rfl dX9_layer_57 ?_
              refine lv_if_eq (tgt := 69) hx hb dX9_layer_60 (by decide) (fun c60 => ?_) (fun c60 => ?_)
              · skip
                have d60 := c60
                rw [fa_eq] at d60
                refine lv_ldc2 hx hb hown (hts (.constantLong RX9 278 (-12)) (by decide +kernel)) dX9_layer_69 ?_
                exact W.lret (v := (-12 : Int64)) hx hb hr (fun t ht hW => ⟨⟨_, (G, ws), rfl, ⟨rfl, (Or.inr ⟨⟨b4, by omega, by omega⟩, Or.inr (Or.inl ⟨(by first | exact nomatch (show (none : Option Nat) = some _ from nf39.symm.trans nf26) | (have y9 := shX_job s39 hG_x39; rw [y9]; exact ⟨by decide, by decide⟩) | (rcases hk39 with ⟨y1, y2⟩ | ⟨y1, y2⟩; exact absurd (y1.symm.trans c60) (by decide); (rw [y2]; exact ⟨by decide, by decide⟩))), rfl⟩)⟩)⟩, by show va_P D vwCl ws t.heap; rw [ht]; exact hP, hD, hT⟩, hS.F ht⟩) hS.2.2 dX9_layer_72
              · skip
                have d60 := c60
                rw [fa_eq] at d60
                have k39 : kS9 d.toNatClampNeg = 3 := by rcases hk39 with ⟨y1, y2⟩ | ⟨y1, y2⟩; exact y2; exact absurd y1 c60
                refine lv_aload_n hx hb dX9_layer_63 rfl (lv_at hl 0 rfl) ?_
                refine lv_iload_n hx hb dX9_layer_64 rfl (lv_at hl 4 rfl) ?_
                refine t_calll (va_runS (g := F0 m 65 ls ([.int k0, .ref x39])) (As := [.ref x39, .int k0]) (rest := []) ⟨hx, hb, hml, hown, hts⟩ (c_X9_layerOf_x l D cy A G ws x39 k0 hD hT hG_x39 hM_x39 hM_ar39 (by omega) (fun e9 h9 => by rw [hf39 e9 h9]; exact hb39 k39 e9 h9)) (va_cwS 2 hts gX9_layer_X9_layerOf rfl rfl rfl (by decide +kernel) ⟨Nat.le_of_ble_eq_true rfl, Nat.le_of_ble_eq_true rfl⟩) (c_preS hP hK hA hS hV) rfl rfl hl.1 rfl (lv_room (Nat.le_of_ble_eq_true rfl)) dX9_layer_65 ⟨Nat.le_of_ble_eq_true rfl, Nat.le_of_ble_eq_true rfl⟩) hS (fun r65 u H locs q65 hP9 hD9 hT9 hS => ?_)
                obtain ⟨rfl, q65⟩ := q65
                have hP : va_P D vwCl ws H := hP9
                exact W.lret (v := r65) hx hb hr (fun t ht hW => ⟨⟨_, (G, ws), rfl, ⟨rfl, (Or.inr ⟨⟨b4, by omega, by omega⟩, (by rcases q65 with ⟨y1, y2⟩ | ⟨y1, y2⟩; exact Or.inr (Or.inr (Or.inl ⟨k39, by omega, y2⟩)); exact Or.inr (Or.inr (Or.inr ⟨k39, by omega, by rw [y2, layN_cg _ hf39]; congr 1; have := m_cl (x := zS9 d.toNatClampNeg) (by omega); omega⟩)))⟩)⟩, by show va_P D vwCl ws t.heap; rw [ht]; exact hP, hD, hT⟩, hS.F ht⟩) hS.2.2 dX9_layer_68
        · skip
          have s26 := hS9 d.toNatClampNeg (by have := m_cl (x := d) (by omega); omega)
          rw [nf26] at s26
          refine lv_ifnonnull (tgt := 34) hx hb dX9_layer_27 (by decide) ?_
          refine lv_aload_n hx hb dX9_layer_34 rfl (lv_at hl 0 rfl) ?_
          refine t_get (v := .ref sh_o) (C := RX9) (T := TX9) (N := 9) hx hb hts (by decide +kernel) hown hK hP hM_o rfl 3 (by decide) (hts (.fieldLink RX9 27 "ShadowBench" "shelves" "[LShadowBench$Held;") (by decide +kernel)) (fun _ h9 => h9) rfl dX9_layer_35 ?_
          refine lv_iload_n hx hb dX9_layer_38 rfl (lv_at hl 1 rfl) ?_
          refine t_aald10f hx hb hK hP hM_sh_o hf_sh_o (vp_in_iff.mpr ⟨by omega, by omega⟩) dX9_layer_39 (fun nf39 => ?_) (fun x39 kx39 nx39 hG_x39 nf39 => ?_) (fun x39 nx39 hG_x39 nf39 => ?_)
          · skip
            have s39 := hS9 d.toNatClampNeg (by have := m_cl (x := d) (by omega); omega)
            rw [nf39] at s39
            refine lv_astoreN (lv' := [(4, .null), (0, .ref o), (1, .int d), (2, .int k0)]) hx hb dX9_layer_40 hl (by decide) rfl (fun ls hl => ?_)
            refine lv_aloadN hx hb dX9_layer_42 (lv_at hl 0 rfl) ?_
            refine lv_instN hx hb dX9_layer_44 ?_
            refine lv_if_eq (tgt := 69) hx hb dX9_layer_47 (by decide) (fun c47 => ?_) (fun c47 => ?_)
            · skip
              have d47 := c47
              rw [fa_eq] at d47
              refine lv_ldc2 hx hb hown (hts (.constantLong RX9 278 (-12)) (by decide +kernel)) dX9_layer_69 ?_
              exact W.lret (v := (-12 : Int64)) hx hb hr (fun t ht hW => ⟨⟨_, (G, ws), rfl, ⟨rfl, (Or.inr ⟨⟨b4, by omega, by omega⟩, Or.inr (Or.inl ⟨(by first | exact nomatch (show (none : Option Nat) = some _ from nf39.symm.trans nf26) | (have y9 := shX_job s39 hG_x39; rw [y9]; exact ⟨by decide, by decide⟩) | (rcases hk39 with ⟨y1, y2⟩ | ⟨y1, y2⟩; exact absurd (y1.symm.trans c60) (by decide); (rw [y2]; exact ⟨by decide, by decide⟩))), rfl⟩)⟩)⟩, by show va_P D vwCl ws t.heap; rw [ht]; exact hP, hD, hT⟩, hS.F ht⟩) hS.2.2 dX9_layer_72
            · first | exact absurd c47 (by decide) | exact absurd (by decide) c47
          · skip
            have s39 := hS9 d.toNatClampNeg (by have := m_cl (x := d) (by omega); omega)
            rw [nf39] at s39
            refine lv_astore (lv' := [(4, .ref x39), (0, .ref o), (1, .int d), (2, .int k0)]) hx hb dX9_layer_40 hl (by decide) rfl (fun ls hl => ?_)
            refine lv_aload hx hb dX9_layer_42 (lv_at hl 0 rfl) ?_
            obtain ⟨_, hM_x39, b_x39, s_x39, w_x39, h_x39, t_x39, x_x39, y_x39, ms_x39, rfl, hG_b_x39, hG_s_x39, hJ_x39⟩ := hT _ _ hG_x39
            refine t_instRN hx hb hV hown (hts (.classLink RX9 245 RX7) (by decide +kernel)) hK hP hJ_x39.kc hM_x39 dX9_layer_44 ?_
            refine lv_if_eq (tgt := 69) hx hb dX9_layer_47 (by decide) (fun c47 => ?_) (fun c47 => ?_)
            · skip
              have d47 := c47
              rw [fa_eq] at d47
              refine lv_ldc2 hx hb hown (hts (.constantLong RX9 278 (-12)) (by decide +kernel)) dX9_layer_69 ?_
              exact W.lret (v := (-12 : Int64)) hx hb hr (fun t ht hW => ⟨⟨_, (G, ws), rfl, ⟨rfl, (Or.inr ⟨⟨b4, by omega, by omega⟩, Or.inr (Or.inl ⟨(by first | exact nomatch (show (none : Option Nat) = some _ from nf39.symm.trans nf26) | (have y9 := shX_job s39 hG_x39; rw [y9]; exact ⟨by decide, by decide⟩) | (rcases hk39 with ⟨y1, y2⟩ | ⟨y1, y2⟩; exact absurd (y1.symm.trans c60) (by decide); (rw [y2]; exact ⟨by decide, by decide⟩))), rfl⟩)⟩)⟩, by show va_P D vwCl ws t.heap; rw [ht]; exact hP, hD, hT⟩, hS.F ht⟩) hS.2.2 dX9_layer_72
            · first | exact absurd c47 (by decide) | exact absurd (by decide) c47
          · skip
            have s39 := hS9 d.toNatClampNeg (by have := m_cl (x := d) (by omega); omega)
            rw [nf39] at s39
            refine lv_astore (lv' := [(4, .ref x39), (0, .ref o), (1, .int d), (2, .int k0)]) hx hb dX9_layer_40 hl (by decide) rfl (fun ls hl => ?_)
            refine lv_aload hx hb dX9_layer_42 (lv_at hl 0 rfl) ?_
            obtain ⟨_, hM_x39, hn_x39, z_x39, a_x39, rfl, hz_x39, hG_a_x39⟩ := hT _ _ hG_x39
            refine va_instS hx hb hown (hts (.classLink RX9 245 RX7) (by decide +kernel)) (hK.1 6 _ rfl).2 (t_recJ hK hP hM_x39 rfl) dX9_layer_44 ?_
            refine lv_if_eq (tgt := 69) hx hb dX9_layer_47 (by decide) (fun c47 => ?_) (fun c47 => ?_)
            · first | exact absurd c47 (by decide) | exact absurd (by decide) c47
            · skip
              have d47 := c47
              rw [fa_eq] at d47
              refine lv_aload hx hb dX9_layer_50 (lv_at hl 0 rfl) ?_
              refine va_castS hx hb hown (hts (.classLink RX9 245 RX7) (by decide +kernel)) (hK.1 6 _ rfl).2 (t_recJ hK hP hM_x39 rfl) dX9_layer_52 ?_
              refine lv_astore_n (lv' := [(3, .ref x39), (4, .ref x39), (0, .ref o), (1, .int d), (2, .int k0)]) hx hb dX9_layer_55 rfl hl (by decide) rfl (fun ls hl => ?_)
              obtain ⟨hx39, z39, f39, hG_ar39, hM_x39, hM_ar39, hn39, hm39, hk39, hf39, hb39⟩ := shX_row s39 hG_x39
              obtain ⟨ar39, har39⟩ : ∃ z, z = sa d.toNatClampNeg := ⟨_, rfl⟩
              rw [← har39] at hG_ar39 hM_x39 hM_ar39
              have hz39 : isBo z39 := hk39.elim (fun y9 => Or.inr y9.1) (fun y9 => Or.inl y9.1)
              refine lv_aload_n hx hb dX9_layer_56 rfl (lv_at hl 0 rfl) ?_
              skip
              refine t_get (v := .int z39) (C := RX7) (T := TX7) (N := 2) hx hb hts (by decide +kernel) hown hK hP hM_x39 rfl 0 (by decide) (hts (.fieldLink RX9 264 "ShadowBench$Row" "ofBytes" "Z") (by decide +kernel)) (fun _ h9 => h9) rfl dX9_layer_57 ?_
              refine lv_if_eq (tgt := 69) hx hb dX9_layer_60 (by decide) (fun c60 => ?_) (fun c60 => ?_)
              · skip
                have d60 := c60
                rw [fa_eq] at d60
                refine lv_ldc2 hx hb hown (hts (.constantLong RX9 278 (-12)) (by decide +kernel)) dX9_layer_69 ?_
                exact W.lret (v := (-12 : Int64)) hx hb hr (fun t ht hW => ⟨⟨_, (G, ws), rfl, ⟨rfl, (Or.inr ⟨⟨b4, by omega, by omega⟩, Or.inr (Or.inl ⟨(by first | exact nomatch (show (none : Option Nat) = some _ from nf39.symm.trans nf26) | (have y9 := shX_job s39 hG_x39; rw [y9]; exact ⟨by decide, by decide⟩) | (rcases hk39 with ⟨y1, y2⟩ | ⟨y1, y2⟩; exact absurd (y1.symm.trans c60) (by decide); (rw [y2]; exact ⟨by decide, by decide⟩))), rfl⟩)⟩)⟩, by show va_P D vwCl ws t.heap; rw [ht]; exact hP, hD, hT⟩, hS.F ht⟩) hS.2.2 dX9_layer_72
              · skip
                have d60 := c60
                rw [fa_eq] at d60
                have k39 : kS9 d.toNatClampNeg = 3 := by rcases hk39 with ⟨y1, y2⟩ | ⟨y1, y2⟩; exact y2; exact absurd y1 c60
                refine lv_aload_n hx hb dX9_layer_63 rfl (lv_at hl 0 rfl) ?_
                refine lv_iload_n hx hb dX9_layer_64 rfl (lv_at hl 4 rfl) ?_
                refine t_calll (va_runS (g := F0 m 65 ls ([.int k0, .ref x39])) (As := [.ref x39, .int k0]) (rest := []) ⟨hx, hb, hml, hown, hts⟩ (c_X9_layerOf_x l D cy A G ws x39 k0 hD hT hG_x39 hM_x39 hM_ar39 (by omega) (fun e9 h9 => by rw [hf39 e9 h9]; exact hb39 k39 e9 h9)) (va_cwS 2 hts gX9_layer_X9_layerOf rfl rfl rfl (by decide +kernel) ⟨Nat.le_of_ble_eq_true rfl, Nat.le_of_ble_eq_true rfl⟩) (c_preS hP hK hA hS hV) rfl rfl hl.1 rfl (lv_room (Nat.le_of_ble_eq_true rfl)) dX9_layer_65 ⟨Nat.le_of_ble_eq_true rfl, Nat.le_of_ble_eq_true rfl⟩) hS (fun r65 u H locs q65 hP9 hD9 hT9 hS => ?_)
                obtain ⟨rfl, q65⟩ := q65
                have hP : va_P D vwCl ws H := hP9
                exact W.lret (v := r65) hx hb hr (fun t ht hW => ⟨⟨_, (G, ws), rfl, ⟨rfl, (Or.inr ⟨⟨b4, by omega, by omega⟩, (by rcases q65 with ⟨y1, y2⟩ | ⟨y1, y2⟩; exact Or.inr (Or.inr (Or.inl ⟨k39, by omega, y2⟩)); exact Or.inr (Or.inr (Or.inr ⟨k39, by omega, by rw [y2, layN_cg _ hf39]; congr 1; have := m_cl (x := zS9 d.toNatClampNeg) (by omega); omega⟩)))⟩)⟩, by show va_P D vwCl ws t.heap; rw [ht]; exact hP, hD, hT⟩, hS.F ht⟩) hS.2.2 dX9_layer_68
      · skip
        have d14 := c14
        rw [fa_lt] at d14
        refine lv_ldc2 hx hb hown (hts (.constantLong RX9 143 (-1)) (by decide +kernel)) dX9_layer_17 ?_
        exact W.lret (v := (-1 : Int64)) hx hb hr (fun t ht hW => ⟨⟨_, (G, ws), rfl, ⟨rfl, (Or.inl ⟨(fun z9 => by first | exact b4 z9.1 | (have := z9.2; omega)), rfl⟩)⟩, by show va_P D vwCl ws t.heap; rw [ht]; exact hP, hD, hT⟩, hS.F ht⟩) hS.2.2 dX9_layer_20
set_option maxHeartbeats 4000000 in
set_option maxRecDepth 100000 in
theorem c_X7_init_z (l : Launch) (D : va_G) (cy : Nat → ClassId) (A : Nat → Prop) (G : cG) (ws : va_W) (o : Nat) (z : Int32) (n : Nat)  (hD : va_D A ws) (hT : cT cy G ws) (hO_o : G o = none) (hM_o : cIn ws o (.inr (6, [.int 0, .null]))) (hz_z : isBo z) (hn1 : n ≤ 60) : Cv l D cy A yX7_init wsX7_init ({ frames := 2, cells := 1, slots := 60, locals := 40 }) 1 60 ws [.ref o, .int z, .int (nI n)] (fun u => cX (some o) (chs []) G ws u.1 u.2 ∧ u.1 o = some (4, n, 0) ∧ (∃ a, u.1 a = some (16, n, 0) ∧ (∀ e, ¬ cIn ws a e) ∧ cIn u.2 o (.inr (6, [.int z, .ref a])) ∧ cIn u.2 a (.inl (cy 1, n, .inr (.inl (fun _ => 0)))))) := by
  refine Met.ofW (cc := cX7_init) (maxL := 3) (ret := none) (by decide) rfl ?_
  intro p e s m args below meth c s₁ B hml hv
  obtain ⟨rfl, hP, hK, hA, hV⟩ := hv
  have hx := B.exec
  have hb := B.bytes
  have hr := B.returns
  have hts := atoms_spec (ws := wsX7_init) B.pre
  have hown : s.vm.findClass RX7 = some m.cls := findClass_of_methodNamed B.named
  have hlocks := B.notSynchronized
  have hS : va_S A s.heap s.heap [] := va_S.rf
  have hin2 : meth.name = "<init>" := (name_of_methodNamed B.named B.method).1
  have hX : cX (some o) (chs []) G ws G ws := cX.rf
  have hM0_o := hM_o
  have hl := lv_entry ([.ref o, .int z, .int (nI n)]) (n := 3) (Nat.le_of_ble_eq_true rfl)
  rw [lg_entry_eq]
  generalize (lg_sl ([.ref o, .int z, .int (nI n)]) ++ List.replicate (3 - (lg_sl ([.ref o, .int z, .int (nI n)])).length) Slot.unset).toArray = ls at hl ⊢
  have hl : lv_has ls 3 [(0, .ref o), (1, .int z), (2, .int (nI n))] := hl
  have k_0 : (0 : Int32).toInt = 0 := by decide
  have ik_n : (nI n).toInt = (n : Int) := nI_toInt (by omega)
  refine lv_aload_n hx hb dX7_init_0 rfl (lv_at hl 0 rfl) ?_
  refine t_callv (va_runIN (g := F0 m 1 ls ([.ref o])) (As := []) (rest := []) (b := o) ⟨hx, hb, hml, hown, hts⟩ (c_X2_init l D cy A G ws o hD hT ) ⟨va_cnB 0 hts gX7_init_X2_init_n1 rfl rfl rfl hV.1.2.2.2 (hts (.initialized RX2) (by decide +kernel)) (by decide +kernel) ⟨Nat.le_of_ble_eq_true rfl, Nat.le_of_ble_eq_true rfl⟩, rfl, hts (.instanceMethod yX2_init) (by decide +kernel)⟩ (c_preS hP hK hA hS hV) rfl rfl hl.1 rfl (lv_room (Nat.le_of_ble_eq_true rfl)) dX7_init_1 ⟨Nat.le_of_ble_eq_true rfl, Nat.le_of_ble_eq_true rfl⟩) hS (fun u H locs q1 hP9 hD9 hT9 hS => ?_)
  obtain ⟨rfl, q1⟩ := q1
  have hP : va_P D vwCl ws H := hP9
  refine lv_aload_n hx hb dX7_init_4 rfl (lv_at hl 0 rfl) ?_
  refine lv_iload_n hx hb dX7_init_5 rfl (lv_at hl 1 rfl) ?_
  refine t_putF (v := .int z) (C := RX7) (T := TX7) (N := 2) (ty0 := tyX7) hx hb hts (by decide +kernel) tyX7_ok nmX7 hown hK hP hD hS hM_o rfl 0 (by decide) (hts (.fieldLink RX7 7 "ShadowBench$Row" "ofBytes" "Z") (by decide +kernel)) (fun _ h9 => h9) rfl hin2 rfl (isBo_z hz_z) (isBo_f hz_z) (Nat.le_of_ble_eq_true rfl) dX7_init_6 (fun H locs w6 hU6 hP hD hS => ?_)
  have hT := hT.up0 hU6 hO_o
  have hM_o : cIn w6 o (.inr (6, [.int z, .null])) := hU6.1
  have hX := hX.tr (cX.up hU6 (Or.inl rfl))
  refine lv_aload_n hx hb dX7_init_9 rfl (lv_at hl 0 rfl) ?_
  refine lv_iload_n hx hb dX7_init_10 rfl (lv_at hl 2 rfl) ?_
  refine lv_if_le (tgt := 18) hx hb dX7_init_11 (by decide) (fun c11 => ?_) (fun c11 => ?_)
  · skip
    have d11 := c11
    rw [fa_le] at d11
    have hn0 : n = 0 := by omega
    refine lv_iconst (v := 0) hx hb dX7_init_18 (by decide) ?_
    refine t_newlK hx hb (hts (.arrayClass .long) (by decide +kernel)) hK hP hD hS hA hT (kd9 := 16) (Or.inr (Or.inl rfl)) 0 (N := 0) (by decide) rfl (by omega) (by decide) (Nat.le_of_ble_eq_true rfl) (Nat.le_of_ble_eq_true rfl) dX7_init_19 (fun q19 H w19 G19 hG_q19 hMn19 hz19 hF19 hX19 hk19 hg19 hP hD hT hS => ?_)
    have hN_q19 := hX.new1 hM_o hz19 hF19
    have hO_o := (hg19 o (fun z => hF19 _ (z ▸ hM_o))).trans hO_o
    have hM_o := hk19 _ _ hM_o
    have hX := hX.tr (hX19 _ _)
    have hM_q19 := hMn19
    refine t_putF (v := .ref q19) (C := RX7) (T := TX7) (N := 2) (ty0 := tyX7) hx hb hts (by decide +kernel) tyX7_ok nmX7 hown hK hP hD hS hM_o rfl 1 (by decide) (hts (.fieldLink RX7 13 "ShadowBench$Row" "numbers" "[J") (by decide +kernel)) (fun _ h9 => h9) rfl hin2 rfl rfl rfl (Nat.le_of_ble_eq_true rfl) dX7_init_21 (fun H locs w21 hU21 hP hD hS => ?_)
    have hM_q19 := hU21.2 _ _ (Ne.symm (cne0 hO_o hG_q19)) hM_q19
    have hT := hT.up0 hU21 hO_o
    have hM_o : cIn w21 o (.inr (6, [.int z, .ref q19])) := hU21.1
    have hX := hX.tr (cX.up hU21 (Or.inl rfl))
    obtain ⟨Gk24, hGk⟩ : ∃ z, z = va_up G19 o (some (4, n, 0)) := ⟨_, rfl⟩
    have hE9 : cE G19 Gk24 := by rw [hGk]; exact cE.add hO_o
    have hG_o : Gk24 o = some (4, n, 0) := by rw [hGk]; simp [va_up]
    have hG_q19 := hE9 _ _ hG_q19
    have hT : cT cy Gk24 w21 := by rw [hGk]; exact hT.kind hO_o hM_o (by rw [← hGk]; exact ⟨hn1, _, _, rfl, hz_z, (by first | exact hG_q19 | (rw [hn0]; exact hG_q19))⟩)
    have hX := hX.tr (show cX (some o) (chs []) G19 w21 Gk24 w21 by rw [hGk]; exact cX.kind hO_o)
    refine W.widen (k := 1) (n := 60) (Nat.le_of_ble_eq_true rfl) (Nat.le_of_ble_eq_true rfl) ?_
    exact W.vret hx hb hr (fun t ht hW => ⟨⟨(Gk24, w21), rfl, ⟨hX, hG_o, (by first | exact ⟨_, hG_q19, hN_q19, hM_o, hM_q19⟩ | (subst hn0; exact ⟨_, hG_q19, hN_q19, hM_o, hM_q19⟩))⟩, by show va_P D vwCl w21 t.heap; rw [ht]; exact hP, hD, hT⟩, hS.F ht⟩) hS.2.2 dX7_init_24
  · skip
    have d11 := c11
    rw [fa_le] at d11
    refine lv_iload_n hx hb dX7_init_14 rfl (lv_at hl 2 rfl) ?_
    refine lv_goto (tgt := 19) hx hb dX7_init_15 (by decide) ?_
    refine t_newlK hx hb (hts (.arrayClass .long) (by decide +kernel)) hK hP hD hS hA hT (kd9 := 16) (Or.inr (Or.inl rfl)) 60 (N := n) (by rw [fa_lt]; omega) (nI_clamp (by omega)) (by omega) (by decide) (Nat.le_of_ble_eq_true rfl) (Nat.le_of_ble_eq_true rfl) dX7_init_19 (fun q19 H w19 G19 hG_q19 hMn19 hz19 hF19 hX19 hk19 hg19 hP hD hT hS => ?_)
    have hN_q19 := hX.new1 hM_o hz19 hF19
    have hO_o := (hg19 o (fun z => hF19 _ (z ▸ hM_o))).trans hO_o
    have hM_o := hk19 _ _ hM_o
    have hX := hX.tr (hX19 _ _)
    have hM_q19 := hMn19
    refine t_putF (v := .ref q19) (C := RX7) (T := TX7) (N := 2) (ty0 := tyX7) hx hb hts (by decide +kernel) tyX7_ok nmX7 hown hK hP hD hS hM_o rfl 1 (by decide) (hts (.fieldLink RX7 13 "ShadowBench$Row" "numbers" "[J") (by decide +kernel)) (fun _ h9 => h9) rfl hin2 rfl rfl rfl (Nat.le_of_ble_eq_true rfl) dX7_init_21 (fun H locs w21 hU21 hP hD hS => ?_)
    have hM_q19 := hU21.2 _ _ (Ne.symm (cne0 hO_o hG_q19)) hM_q19
    have hT := hT.up0 hU21 hO_o
    have hM_o : cIn w21 o (.inr (6, [.int z, .ref q19])) := hU21.1
    have hX := hX.tr (cX.up hU21 (Or.inl rfl))
    obtain ⟨Gk24, hGk⟩ : ∃ z, z = va_up G19 o (some (4, n, 0)) := ⟨_, rfl⟩
    have hE9 : cE G19 Gk24 := by rw [hGk]; exact cE.add hO_o
    have hG_o : Gk24 o = some (4, n, 0) := by rw [hGk]; simp [va_up]
    have hG_q19 := hE9 _ _ hG_q19
    have hT : cT cy Gk24 w21 := by rw [hGk]; exact hT.kind hO_o hM_o (by rw [← hGk]; exact ⟨hn1, _, _, rfl, hz_z, (by first | exact hG_q19 | (rw [hn0]; exact hG_q19))⟩)
    have hX := hX.tr (show cX (some o) (chs []) G19 w21 Gk24 w21 by rw [hGk]; exact cX.kind hO_o)
    refine W.widen (k := 1) (n := 60) (Nat.le_of_ble_eq_true rfl) (Nat.le_of_ble_eq_true rfl) ?_
    exact W.vret hx hb hr (fun t ht hW => ⟨⟨(Gk24, w21), rfl, ⟨hX, hG_o, (by first | exact ⟨_, hG_q19, hN_q19, hM_o, hM_q19⟩ | (subst hn0; exact ⟨_, hG_q19, hN_q19, hM_o, hM_q19⟩))⟩, by show va_P D vwCl w21 t.heap; rw [ht]; exact hP, hD, hT⟩, hS.F ht⟩) hS.2.2 dX7_init_24
theorem c_X7_init_zi (l : Launch) (D : va_G) (cy : Nat → ClassId) (A : Nat → Prop) (G : cG) (ws : va_W) (o : Nat) (z : Int32) (ni : Int32) (hD : va_D A ws) (hT : cT cy G ws) (hO_o : G o = none) (hM_o : cIn ws o (.inr (6, [.int 0, .null]))) (hz_z : isBo z) (hn1 : 0 ≤ ni.toInt ∧ ni.toInt ≤ 60) : Cv l D cy A yX7_init wsX7_init ({ frames := 2, cells := 1, slots := 60, locals := 40 }) 1 60 ws [.ref o, .int z, .int ni] (fun u => cX (some o) (chs []) G ws u.1 u.2 ∧ u.1 o = some (4, ni.toNatClampNeg, 0) ∧ (∃ a, u.1 a = some (16, ni.toNatClampNeg, 0) ∧ (∀ e, ¬ cIn ws a e) ∧ cIn u.2 o (.inr (6, [.int z, .ref a])) ∧ cIn u.2 a (.inl (cy 1, ni.toNatClampNeg, .inr (.inl (fun _ => 0)))))) := by
  have e1 := m_cl (x := ni) (by omega)
  have h := c_X7_init_z l D cy A G ws o z ni.toNatClampNeg hD hT hO_o hM_o hz_z (by omega)
  rw [nI_back (by omega)] at h
  exact h

def bI (p : Int64) (e : Nat) : Int64 := if lb p e then 1 else 0
theorem bI_01 (p : Int64) (e : Nat) : 0 ≤ (bI p e).toInt ∧ (bI p e).toInt ≤ 1 := by
  unfold bI
  cases lb p e <;> decide
theorem vp_at {f : Nat → Int64} {i e : Nat} {v : Int64} (h : e = i) : vp_updL f i v e = v := by unfold vp_updL; rw [if_pos h]
theorem vp_ne {f : Nat → Int64} {i e : Nat} {v : Int64} (h : ¬ e = i) : vp_updL f i v e = f e := by unfold vp_updL; rw [if_neg h]
/-- a row of a job's sums, rows first -/
def suR (fs : Nat → Int32) (w h : Nat) (F : Nat → Int64) : Prop := (∀ e, e < h → F e = (fs e).toInt64) ∧ ∀ e, e < w → F (h + e) = (fs (11 + e)).toInt64

theorem c_X7_put_i (l : Launch) (D : va_G) (cy : Nat → ClassId) (A : Nat → Prop) (G : cG) (ws : va_W) (o : Nat) (i : Int32) (v : Int64) {n z a_o : Nat} {z_o : Int32} {f : Nat → Int64} (hD : va_D A ws) (hT : cT cy G ws) (hG_o : G o = some (4, n, z)) (hM_o : cIn ws o (.inr (6, [.int z_o, .ref a_o]))) (hM_a_o : cIn ws a_o (.inl (cy 1, n, .inr (.inl f)))) (hi9 : 0 ≤ i.toInt ∧ i.toInt < (n : Int)) : Cv l D cy A yX7_put wsX7_put ({ frames := 1, cells := 0, slots := 0, locals := 22 }) 0 0 ws [.ref o, .int i, .long v] (fun u => ∃ w1, u = (G, w1) ∧ cF (fun b9 => b9 = a_o) ws w1 ∧ (cIn w1 a_o (.inl (cy 1, n, .inr (.inl (vp_updL f i.toNatClampNeg v)))))) := by
  have e1 := m_cl (x := i) hi9.1
  have h := c_X7_put_x l D cy A G ws o i.toNatClampNeg v hD hT hG_o hM_o hM_a_o (by omega)
  rw [nI_back (by omega)] at h
  exact h
set_option maxHeartbeats 4000000 in
set_option maxRecDepth 100000 in
theorem c_X7_takeFrom_x (l : Launch) (D : va_G) (cy : Nat → ClassId) (A : Nat → Prop) (G : cG) (ws : va_W) (o : Nat) (x1 : Nat) (i : Int32) (j : Int32) (m0 : Int32) {n z n1 z1 a_o a1 : Nat} {z_o zz1 : Int32} {f f1 : Nat → Int64} (hD : va_D A ws) (hT : cT cy G ws) (hG_o : G o = some (4, n, z)) (hM_o : cIn ws o (.inr (6, [.int z_o, .ref a_o]))) (hG_x1 : G x1 = some (4, n1, z1)) (hM_x1 : cIn ws x1 (.inr (6, [.int zz1, .ref a1]))) (hM_a_o : cIn ws a_o (.inl (cy 1, n, .inr (.inl f)))) (hM_a1 : cIn ws a1 (.inl (cy 1, n1, .inr (.inl f1)))) (h19 : (0 ≤ i.toInt ∧ 0 ≤ m0.toInt) ∧ i.toInt + m0.toInt ≤ (n1 : Int)) (h29 : (0 ≤ j.toInt ∧ 0 ≤ m0.toInt) ∧ j.toInt + m0.toInt ≤ (n : Int)) : Cv l D cy A yX7_takeFrom wsX7_takeFrom ({ frames := 1, cells := 0, slots := 0, locals := 68 }) 0 0 ws [.ref o, .ref x1, .int i, .int j, .int m0] (fun u => ∃ w1, u = (G, w1) ∧ cF (fun b9 => b9 = a_o) ws w1 ∧ (cIn w1 a_o (.inl (cy 1, n, .inr (.inl (va_cpy f1 f i.toNatClampNeg j.toNatClampNeg m0.toNatClampNeg)))))) := by
  refine Met.ofW (cc := cX7_takeFrom) (maxL := 5) (ret := none) (by decide) rfl ?_
  intro p e s m args below meth c s₁ B hml hv
  obtain ⟨rfl, hP, hK, hA, hV⟩ := hv
  have hx := B.exec
  have hb := B.bytes
  have hr := B.returns
  have hts := atoms_spec (ws := wsX7_takeFrom) B.pre
  have hown : s.vm.findClass RX7 = some m.cls := findClass_of_methodNamed B.named
  have hlocks := B.notSynchronized
  have hS : va_S A s.heap s.heap [] := va_S.rf
  have hF : cF (fun b9 => b9 = a_o) ws ws := cF.rf
  have hl := lv_entry ([.ref o, .ref x1, .int i, .int j, .int m0]) (n := 5) (Nat.le_of_ble_eq_true rfl)
  rw [lg_entry_eq]
  generalize (lg_sl ([.ref o, .ref x1, .int i, .int j, .int m0]) ++ List.replicate (5 - (lg_sl ([.ref o, .ref x1, .int i, .int j, .int m0])).length) Slot.unset).toArray = ls at hl ⊢
  have hl : lv_has ls 5 [(0, .ref o), (1, .ref x1), (2, .int i), (3, .int j), (4, .int m0)] := hl
  have k_0 : (0 : Int32).toInt = 0 := by decide
  obtain ⟨hz_o, hG_a_o, hn60_o⟩ := w4sh hD hT hG_o hM_o
  obtain ⟨hz_x1, hG_a1, hn60_x1⟩ := w4sh hD hT hG_x1 hM_x1
  refine lv_aload_n hx hb dX7_takeFrom_0 rfl (lv_at hl 1 rfl) ?_
  refine lv_iload_n hx hb dX7_takeFrom_1 rfl (lv_at hl 2 rfl) ?_
  refine lv_iload hx hb dX7_takeFrom_2 (lv_at hl 4 rfl) ?_
  refine t_calli (va_runV (g := F0 m 4 ls ([.int m0, .int i, .ref x1])) (As := [.int i, .int m0]) (rest := []) ⟨hx, hb, hml, hown, hts⟩ (c_X7_has l D cy A G ws x1 i m0 hD hT hG_x1 ) (cwV 2 hts gX7_takeFrom_X7_has rfl rfl rfl (by decide +kernel) ⟨Nat.le_of_ble_eq_true rfl, Nat.le_of_ble_eq_true rfl⟩) (c_preV hM_x1 rfl hP hK hA hS hV) rfl rfl hl.1 rfl (lv_room (Nat.le_of_ble_eq_true rfl)) dX7_takeFrom_4 ⟨Nat.le_of_ble_eq_true rfl, Nat.le_of_ble_eq_true rfl⟩) hS (fun r4 u H locs q4 hP9 hD9 hT9 hS => ?_)
  obtain ⟨rfl, q4⟩ := q4
  have hP : va_P D vwCl ws H := hP9
  refine lv_if_eq (tgt := 35) hx hb dX7_takeFrom_7 (by decide) (fun c7 => ?_) (fun c7 => ?_)
  · skip
    have b7 := bo_f q4 c7
    exact W.vret hx hb hr (fun t ht hW => ⟨⟨(G, ws), rfl, ⟨ws, rfl, hF, (by exfalso; first | exact b7 h19 | exact b17 h29)⟩, by show va_P D vwCl ws t.heap; rw [ht]; exact hP, hD, hT⟩, hS.F ht⟩) hS.2.2 dX7_takeFrom_35
  · skip
    have b7 := bo_t q4 c7
    refine lv_aload_n hx hb dX7_takeFrom_10 rfl (lv_at hl 0 rfl) ?_
    refine lv_iload_n hx hb dX7_takeFrom_11 rfl (lv_at hl 3 rfl) ?_
    refine lv_iload hx hb dX7_takeFrom_12 (lv_at hl 4 rfl) ?_
    refine t_calli (va_runV (g := F0 m 14 ls ([.int m0, .int j, .ref o])) (As := [.int j, .int m0]) (rest := []) ⟨hx, hb, hml, hown, hts⟩ (c_X7_has l D cy A G ws o j m0 hD hT hG_o ) (cwV 2 hts gX7_takeFrom_X7_has rfl rfl rfl (by decide +kernel) ⟨Nat.le_of_ble_eq_true rfl, Nat.le_of_ble_eq_true rfl⟩) (c_preV hM_o rfl hP hK hA hS hV) rfl rfl hl.1 rfl (lv_room (Nat.le_of_ble_eq_true rfl)) dX7_takeFrom_14 ⟨Nat.le_of_ble_eq_true rfl, Nat.le_of_ble_eq_true rfl⟩) hS (fun r14 u H locs q14 hP9 hD9 hT9 hS => ?_)
    obtain ⟨rfl, q14⟩ := q14
    have hP : va_P D vwCl ws H := hP9
    refine lv_if_eq (tgt := 35) hx hb dX7_takeFrom_17 (by decide) (fun c17 => ?_) (fun c17 => ?_)
    · skip
      have b17 := bo_f q14 c17
      exact W.vret hx hb hr (fun t ht hW => ⟨⟨(G, ws), rfl, ⟨ws, rfl, hF, (by exfalso; first | exact b7 h19 | exact b17 h29)⟩, by show va_P D vwCl ws t.heap; rw [ht]; exact hP, hD, hT⟩, hS.F ht⟩) hS.2.2 dX7_takeFrom_35
    · skip
      have b17 := bo_t q14 c17
      refine lv_aload_n hx hb dX7_takeFrom_20 rfl (lv_at hl 1 rfl) ?_
      refine t_get (v := .ref a1) (C := RX7) (T := TX7) (N := 2) hx hb hts (by decide +kernel) hown hK hP hM_x1 rfl 1 (by decide) (hts (.fieldLink RX7 13 "ShadowBench$Row" "numbers" "[J") (by decide +kernel)) (fun _ h9 => h9) rfl dX7_takeFrom_21 ?_
      refine lv_iload_n hx hb dX7_takeFrom_24 rfl (lv_at hl 2 rfl) ?_
      refine lv_aload_n hx hb dX7_takeFrom_25 rfl (lv_at hl 0 rfl) ?_
      refine t_get (v := .ref a_o) (C := RX7) (T := TX7) (N := 2) hx hb hts (by decide +kernel) hown hK hP hM_o rfl 1 (by decide) (hts (.fieldLink RX7 13 "ShadowBench$Row" "numbers" "[J") (by decide +kernel)) (fun _ h9 => h9) rfl dX7_takeFrom_26 ?_
      refine lv_iload_n hx hb dX7_takeFrom_29 rfl (lv_at hl 3 rfl) ?_
      refine lv_iload hx hb dX7_takeFrom_30 (lv_at hl 4 rfl) ?_
      refine t_copylK hx hb (by rw [hml]; exact hl.1.symm) hown (hts (.methodLink RX7 21 arraycopyName) (by decide +kernel)) (hts (.native arraycopyName) (by decide +kernel)) (hts (.static arraycopyName) (by decide +kernel)) (hts (.initialized "java/lang/System") (by decide +kernel)) hK hP hD hS hT (Or.inr (Or.inl rfl)) hG_a_o hM_a1 hM_a_o (by omega) (by omega) (by omega) (by omega) (by omega) (Nat.le_of_ble_eq_true rfl) (Nat.le_of_ble_eq_true rfl) dX7_takeFrom_32 (fun H locs w32 hU32 hP hD hT hS => ?_)
      have hM_o := hU32.2 _ _ (cne hG_o hG_a_o (show (4 : Nat) ≠ 16 by decide)) hM_o
      have hM_x1 := hU32.2 _ _ (cne hG_x1 hG_a_o (show (4 : Nat) ≠ 16 by decide)) hM_x1
      have hM_a_o := hU32.1
      have hF := hF.tr (cF.up hU32 rfl)
      exact W.vret hx hb hr (fun t ht hW => ⟨⟨(G, w32), rfl, ⟨w32, rfl, hF, hM_a_o⟩, by show va_P D vwCl w32 t.heap; rw [ht]; exact hP, hD, hT⟩, hS.F ht⟩) hS.2.2 dX7_takeFrom_35
set_option maxHeartbeats 4000000 in
set_option maxRecDepth 100000 in
theorem c_X9_squaresOf_x (l : Launch) (D : va_G) (cy : Nat → ClassId) (A : Nat → Prop) (G : cG) (ws : va_W) (b : Nat) (p0 : Int64) {w h : Nat} (hD : va_D A ws) (hT : cT cy G ws) (hG_b : G b = some (2, w, h))  : Ca l D cy A yX9_squaresOf wsX9_squaresOf ({ frames := 3, cells := 2, slots := 62, locals := 62 }) 2 62 ws [.ref b, .long p0] (fun r0 u => cX none (chs []) G ws u.1 u.2 ∧ (∃ x a F, r0 = some x ∧ u.1 x = some (4, w * h, 0) ∧ u.1 a = some (16, w * h, 0) ∧ (∀ e, ¬ cIn ws a e) ∧ cIn u.2 x (.inr (6, [.int 1, .ref a])) ∧ cIn u.2 a (.inl (cy 1, w * h, .inr (.inl F))) ∧ ∀ e, e < w * h → F e = bI p0 e)) := by
  refine Met.ofW (cc := cX9_squaresOf) (maxL := 5) (ret := (some (.object "ShadowBench$Row"))) (by decide) rfl ?_
  intro p e s m args below meth c s₁ B hml hv
  obtain ⟨rfl, hP, hK, hA, hV⟩ := hv
  have hx := B.exec
  have hb := B.bytes
  have hr := B.returns
  have hts := atoms_spec (ws := wsX9_squaresOf) B.pre
  have hown : s.vm.findClass RX9 = some m.cls := findClass_of_methodNamed B.named
  have hlocks := B.notSynchronized
  have hS : va_S A s.heap s.heap [] := va_S.rf
  have hX : cX none (chs []) G ws G ws := cX.rf
  have hl := lv_entry ([.ref b, .long p0]) (n := 5) (Nat.le_of_ble_eq_true rfl)
  rw [lg_entry_eq]
  generalize (lg_sl ([.ref b, .long p0]) ++ List.replicate (5 - (lg_sl ([.ref b, .long p0])).length) Slot.unset).toArray = ls at hl ⊢
  have hl : lv_has ls 5 [(0, .ref b), (1, .long p0)] := hl
  have k_0 : (0 : Int32).toInt = 0 := by decide
  have k_1 : (1 : Int32).toInt = 1 := by decide
  have k_1L : (1 : Int64).toInt = 1 := by decide
  refine t_new (C := RX7) (T := TX7) (N := 2) (ci := 6) (ty0 := tyX7) (fs := [.int 0, .null]) hx hb hts (by decide +kernel) tyX7_ok hown (hts (.classLink RX9 245 RX7) (by decide +kernel)) (hts (.instantiable RX7 2) (by decide +kernel)) (hts (.initialized RX7) (by decide +kernel)) hK hP hD hS hA hT rfl (by decide +kernel) (Nat.le_of_ble_eq_true rfl) (Nat.le_of_ble_eq_true rfl) dX9_squaresOf_0 (fun q0 H w0 hM_q0 hO_q0 hF0 hX0 hk0 hP hD hT hS => ?_)
  have hN_q0 := hX.new0 hO_q0 hF0
  have hX := hX.tr (hX0 _ _)
  refine lv_dup hx hb dX9_squaresOf_3 rfl ?_
  refine lv_iconst (v := 1) hx hb dX9_squaresOf_4 (by decide) ?_
  refine lv_aload_n hx hb dX9_squaresOf_5 rfl (lv_at hl 0 rfl) ?_
  obtain ⟨_, hM_b, hb_b, l_b, f_b, r_b, rfl, hG_l_b, hG_f_b, hG_r_b⟩ := hT _ _ hG_b
  refine t_get (v := .int (nI (w * h))) (C := RX0) (T := TX0) (N := 8) hx hb hts (by decide +kernel) hown hK hP hM_b rfl 2 (by decide) (hts (.fieldLink RX9 333 "ShadowBench$Board" "squares" "I") (by decide +kernel)) (fun _ h9 => h9) rfl dX9_squaresOf_6 ?_
  have m_wh_b := cb_mul hb_b
  have i_wh_b : (nI (w * h)).toInt = _ := nI_toInt (by omega)
  refine t_callv (va_runI (g := F0 m 9 ls ([.int (nI (w * h)), .int (1 : Int32), .ref q0, .ref q0])) (As := [.int (1 : Int32), .int (nI (w * h))]) (rest := [.ref q0]) (b := q0) ⟨hx, hb, hml, hown, hts⟩ (c_X7_init_z l D cy A G w0 q0 (1 : Int32) (w * h) hD hT hO_q0 hM_q0 (Or.inr rfl) (by omega)) (cwI 2 hts gX9_squaresOf_X7_init rfl rfl rfl (hts (.initialized RX7) (by decide +kernel)) (hts (.methodLink RX9 247 yX7_init) (by decide +kernel)) (hts (.instanceMethod yX7_init) (by decide +kernel)) rfl (by decide +kernel) ⟨Nat.le_of_ble_eq_true rfl, Nat.le_of_ble_eq_true rfl⟩) (c_preS hP hK hA hS hV) rfl rfl hl.1 rfl (lv_room (Nat.le_of_ble_eq_true rfl)) dX9_squaresOf_9 ⟨Nat.le_of_ble_eq_true rfl, Nat.le_of_ble_eq_true rfl⟩) hS (fun u H locs q9 hP9 hD9 hT9 hS => ?_)
  obtain ⟨G9, w9⟩ := u
  obtain ⟨hX9, q9⟩ := q9
  have hX9 : cX (some q0) (chs []) G w0 G9 w9 := hX9
  obtain ⟨hqo9, a9, hG9_a9, hN9_a9, hMx9, hMa9⟩ := q9
  have q9 := And.intro hqo9 True.intro
  have hN_a9 := hX.new0 (hT.no hN9_a9) hN9_a9
  have hP : va_P D vwCl w9 H := hP9
  have hD : va_D A w9 := hD9
  have hT : cT cy G9 w9 := hT9
  have hM_b := hX9.2.1 _ _ (cP.no1 (Ne.symm (cne0 hO_q0 hG_b)) hG_b rfl) hM_b
  have hG_b := hX9.1 _ _ hG_b
  have hG_l_b := hX9.1 _ _ hG_l_b
  have hG_f_b := hX9.1 _ _ hG_f_b
  have hG_r_b := hX9.1 _ _ hG_r_b
  have hG_q0 : G9 q0 = some (4, (w * h), 0) := q9.1
  have q9 := q9.2
  have hX := hX.trN hN_q0 hX9
  have hG_a9 : G9 a9 = some (16, (w * h), 0) := hG9_a9
  have hM_q0 : cIn w9 q0 (.inr (6, [.int (1 : Int32), .ref a9])) := hMx9
  have hM_a9 : cIn w9 a9 (.inl (cy 1, (w * h), .inr (.inl (fun _ => 0)))) := hMa9
  refine lv_astore_n (lv' := [(3, .ref q0), (0, .ref b), (1, .long p0)]) hx hb dX9_squaresOf_12 rfl hl (by decide) rfl (fun ls hl => ?_)
  refine lv_iconst (v := 0) hx hb dX9_squaresOf_13 (by decide) ?_
  refine lv_istore (lv' := [(4, .int (0 : Int32)), (3, .ref q0), (0, .ref b), (1, .long p0)]) hx hb dX9_squaresOf_14 hl (by decide) rfl (fun ls hl => ?_)
  have loop_16 : ∀ (n : Nat) (i : Nat) (F : Nat → Int64), (i ≤ w * h ∧ w * h ≤ 36) → (∀ e9, e9 < i → F e9 = bI p0 e9) → 36 - i < n → ∀ (Gl16 : cG) (wl16 : va_W), cE G9 Gl16 → cX none (chs []) G ws Gl16 wl16 → va_D A wl16 → cT cy Gl16 wl16 → ∀ (H : Heap) (locs : List Loc), va_P D vwCl wl16 H → va_S A s.heap H locs → cIn wl16 q0 (.inr (6, [.int (1 : Int32), .ref a9])) → cIn wl16 a9 (.inl (cy 1, (w * h), .inr (.inl F))) → ∀ (ls : Array Slot), lv_has ls 5 [(4, .int (nI i)), (3, .ref q0), (0, .ref b), (1, .long p0)] → W p l e (headSpec wsX9_squaresOf ({ frames := 3, cells := 2, slots := 62, locals := 62 })).room s m #[Value.ref b, Value.long p0] below meth c H locs 2 62 (MQ below (cQa (fun r0 u => cX none (chs []) G ws u.1 u.2 ∧ (∃ x a F, r0 = some x ∧ u.1 x = some (4, w * h, 0) ∧ u.1 a = some (16, w * h, 0) ∧ (∀ e, ¬ cIn ws a e) ∧ cIn u.2 x (.inr (6, [.int 1, .ref a])) ∧ cIn u.2 a (.inl (cy 1, w * h, .inr (.inl F))) ∧ ∀ e, e < w * h → F e = bI p0 e)) (cB D cy A) A) #[Value.ref b, Value.long p0] s 2 62 A) (F0 m 16 ls []) := by
    intro n
    induction n with
    | zero => intro i F j16_0 j16_1 hn; exact absurd hn (Nat.not_lt_zero _)
    | succ n ih_16 =>
      intro i F j16_0 j16_1 hn_16 Gl16 wl16 hEl16 hX hD hT H locs hP hS hM_q0 hM_a9 ls hl
      have hG_b := hEl16 _ _ hG_b
      have hG_l_b := hEl16 _ _ hG_l_b
      have hG_f_b := hEl16 _ _ hG_f_b
      have hG_r_b := hEl16 _ _ hG_r_b
      have hG_q0 := hEl16 _ _ hG_q0
      have hG_a9 := hEl16 _ _ hG_a9
      have ii : (nI i).toInt = (i : Int) := nI_toInt (by omega)
      have m36_9 := cb_mul (c_hb hT hG_b)
      refine lv_iload hx hb dX9_squaresOf_16 (lv_at hl 0 rfl) ?_
      refine lv_aload_n hx hb dX9_squaresOf_18 rfl (lv_at hl 2 rfl) ?_
      obtain ⟨_, hM_b, hb_b, lv1_b, fv1_b, rv1_b, rfl, hG_lv1_b, hG_fv1_b, hG_rv1_b⟩ := hT _ _ hG_b
      refine t_get (v := .int (nI (w * h))) (C := RX0) (T := TX0) (N := 8) hx hb hts (by decide +kernel) hown hK hP hM_b rfl 2 (by decide) (hts (.fieldLink RX9 333 "ShadowBench$Board" "squares" "I") (by decide +kernel)) (fun _ h9 => h9) rfl dX9_squaresOf_19 ?_
      refine lv_icmp_ge (tgt := 43) hx hb dX9_squaresOf_22 (by decide) (fun c22 => ?_) (fun c22 => ?_)
      · skip
        have d22 := c22
        rw [fa_le] at d22
        refine lv_aload_n hx hb dX9_squaresOf_43 rfl (lv_at hl 1 rfl) ?_
        refine W.widen (k := 2) (n := 62) (Nat.le_of_ble_eq_true rfl) (Nat.le_of_ble_eq_true rfl) ?_
        exact W.aret (v := .ref q0) hx hb hr (Or.inl ⟨_, rfl⟩) (Or.inr ⟨_, rfl⟩) (fun t ht hW => ⟨⟨(some q0), (Gl16, wl16), rfl, ⟨hX, ⟨_, _, F, rfl, hG_q0, hG_a9, hN_a9, hM_q0, hM_a9, fun e9 h9 => j16_1 e9 (by omega)⟩⟩, by show va_P D vwCl wl16 t.heap; rw [ht]; exact hP, hD, hT⟩, hS.F ht⟩) hS.2.2 dX9_squaresOf_44
      · skip
        have d22 := c22
        rw [fa_le] at d22
        refine lv_aload_n hx hb dX9_squaresOf_25 rfl (lv_at hl 1 rfl) ?_
        refine lv_iload hx hb dX9_squaresOf_26 (lv_at hl 0 rfl) ?_
        refine lv_lload_n hx hb dX9_squaresOf_28 rfl (lv_at hl 3 rfl) ?_
        refine lv_iload hx hb dX9_squaresOf_29 (lv_at hl 0 rfl) ?_
        refine lv_lushr (v := (p0.toUInt64 >>> ((nI i).toInt64.toUInt64 &&& Int64.toUInt64 63)).toInt64) hx hb dX9_squaresOf_31 rfl ?_
        refine lv_lconst (v := 1) hx hb dX9_squaresOf_32 (by decide) ?_
        refine lv_land hx hb dX9_squaresOf_33 ?_
        refine lv_topl (fun v33 e33 => ?_)
        refine t_callv (va_runV (g := F0 m 34 ls ([.long v33, .int (nI i), .ref q0])) (As := [.int (nI i), .long v33]) (rest := []) ⟨hx, hb, hml, hown, hts⟩ (c_X7_put_x l D cy A Gl16 wl16 q0 i v33 hD hT hG_q0 hM_q0 hM_a9 (by omega)) (cwV 2 hts gX9_squaresOf_X7_put rfl rfl rfl (by decide +kernel) ⟨Nat.le_of_ble_eq_true rfl, Nat.le_of_ble_eq_true rfl⟩) (c_preV hM_q0 rfl hP hK hA hS hV) rfl rfl hl.1 rfl (lv_room (Nat.le_of_ble_eq_true rfl)) dX9_squaresOf_34 ⟨Nat.le_of_ble_eq_true rfl, Nat.le_of_ble_eq_true rfl⟩) hS (fun u H locs q34 hP9 hD9 hT9 hS => ?_)
        obtain ⟨w34, rfl, hF34, q34⟩ := q34
        have hP : va_P D vwCl w34 H := hP9
        have hD : va_D A w34 := hD9
        have hT : cT cy Gl16 w34 := hT9
        have hM_q0 := hF34 _ _ (cne hG_q0 hG_a9 (show (4 : Nat) ≠ 16 by decide)) hM_q0
        have hM_b := hF34 _ _ (cne hG_b hG_a9 (show (2 : Nat) ≠ 16 by decide)) hM_b
        have hX := hX.trF (fun b9 z9 => by subst z9; exact hN_a9) hF34
        have hM_a9 : cIn w34 a9 (.inl (cy 1, (w * h), .inr (.inl (vp_updL F i v33)))) := q34
        refine lv_iinc (v := (nI (i + 1))) (lv' := [(4, .int (nI (i + 1))), (3, .ref q0), (0, .ref b), (1, .long p0)]) hx hb dX9_squaresOf_37 hl (k := 0) rfl (nI_1 _) (by decide) rfl (fun ls hl => ?_)
        refine lv_goto (tgt := 16) hx hb dX9_squaresOf_40 (by decide) ?_
        exact ih_16 (i + 1) (vp_updL F i v33) (by omega) (fun e9 h9 => by by_cases z9 : e9 = i; (rw [vp_at z9, z9, e33]; exact ub_lb p0 (by omega)); (rw [vp_ne z9]; exact j16_1 e9 (by omega))) (by omega) Gl16 w34 hEl16 hX hD hT _ _ hP hS hM_q0 hM_a9 ls (lv_sub hl [0, 1, 2, 3] rfl)
  exact loop_16 (36 + 1) 0 (fun _ => 0) (by have := cb_mul (c_hb hT hG_b); omega) (fun e9 h9 => absurd h9 (Nat.not_lt_zero _)) (by omega) G9 w9 cE.rf hX hD hT _ _ hP hS hM_q0 hM_a9 ls (lv_sub hl [0, 1, 2, 3] rfl)
set_option maxHeartbeats 4000000 in
set_option maxRecDepth 100000 in
theorem c_X9_sumsOf_x (l : Launch) (D : va_G) (cy : Nat → ClassId) (A : Nat → Prop) (G : cG) (ws : va_W) (x1 : Nat) {k1 wq hq b1 s1 t1 : Nat} {o1 y1 : Int64} {ms1 : List Value} {fs : Nat → Int32} (hD : va_D A ws) (hT : cT cy G ws) (hG_x1 : G x1 = some (3, k1, 8 * wq + hq)) (hM_x1 : cIn ws x1 (.inr (k1, .ref b1 :: .ref s1 :: .int (nI t1) :: .long o1 :: .long y1 :: ms1))) (hM_s1 : cIn ws s1 (.inl (cy 0, 44, .inl fs))) (hb9 : 1 ≤ wq ∧ wq ≤ 6 ∧ 1 ≤ hq ∧ hq ≤ 6) (ht9 : t1 < 16) : Ca l D cy A yX9_sumsOf wsX9_sumsOf ({ frames := 3, cells := 2, slots := 62, locals := 62 }) 2 62 ws [.ref x1] (fun r0 u => cX none (chs []) G ws u.1 u.2 ∧ (∃ x a m F, r0 = some x ∧ u.1 x = some (4, m, 0) ∧ u.1 a = some (16, m, 0) ∧ (∀ e, ¬ cIn ws a e) ∧ cIn u.2 x (.inr (6, [.int 0, .ref a])) ∧ cIn u.2 a (.inl (cy 1, m, .inr (.inl F))) ∧ m = hq + wq ∧ suR fs wq hq F)) := by
  refine Met.ofW (cc := cX9_sumsOf) (maxL := 4) (ret := (some (.object "ShadowBench$Row"))) (by decide) rfl ?_
  intro p e s m args below meth c s₁ B hml hv
  obtain ⟨rfl, hP, hK, hA, hV⟩ := hv
  have hx := B.exec
  have hb := B.bytes
  have hr := B.returns
  have hts := atoms_spec (ws := wsX9_sumsOf) B.pre
  have hown : s.vm.findClass RX9 = some m.cls := findClass_of_methodNamed B.named
  have hlocks := B.notSynchronized
  have hS : va_S A s.heap s.heap [] := va_S.rf
  have hinJ : ∀ w ∈ wsX10 ++ wsX30 ++ wsX40 ++ wsX50, w ∈ wsX9_sumsOf := by decide +kernel
  have hX : cX none (chs []) G ws G ws := cX.rf
  have hl := lv_entry ([.ref x1]) (n := 4) (Nat.le_of_ble_eq_true rfl)
  rw [lg_entry_eq]
  generalize (lg_sl ([.ref x1]) ++ List.replicate (4 - (lg_sl ([.ref x1])).length) Slot.unset).toArray = ls at hl ⊢
  have hl : lv_has ls 4 [(0, .ref x1)] := hl
  have k_0 : (0 : Int32).toInt = 0 := by decide
  have k_1 : (1 : Int32).toInt = 1 := by decide
  obtain ⟨hG_b1, hG_s1, hJ_x1⟩ := w3sh hD hT hG_x1 hb9 hM_x1
  refine lv_aload_n hx hb dX9_sumsOf_0 rfl (lv_at hl 0 rfl) ?_
  refine t_getJ (v := .ref b1) hx hb hts hinJ hown hK hP hJ_x1.kc hM_x1 0 (by decide) (hts (.fieldLink RX9 65 "ShadowBench$Job" "board" "LShadowBench$Board;") (by decide +kernel)) (fun _ h9 => h9) rfl dX9_sumsOf_1 ?_
  obtain ⟨_, hM_b1, hb_b1, l_b1, f_b1, r_b1, rfl, hG_l_b1, hG_f_b1, hG_r_b1⟩ := hT _ _ hG_b1
  refine t_get (v := .int (nI hq)) (C := RX0) (T := TX0) (N := 8) hx hb hts (by decide +kernel) hown hK hP hM_b1 rfl 1 (by decide) (hts (.fieldLink RX9 306 "ShadowBench$Board" "high" "I") (by decide +kernel)) (fun _ h9 => h9) rfl dX9_sumsOf_4 ?_
  have i_h_b1 : (nI hq).toInt = _ := nI_toInt (by omega)
  refine lv_istore_n (lv' := [(1, .int (nI hq)), (0, .ref x1)]) hx hb dX9_sumsOf_7 rfl hl (by decide) rfl (fun ls hl => ?_)
  refine t_new (C := RX7) (T := TX7) (N := 2) (ci := 6) (ty0 := tyX7) (fs := [.int 0, .null]) hx hb hts (by decide +kernel) tyX7_ok hown (hts (.classLink RX9 245 RX7) (by decide +kernel)) (hts (.instantiable RX7 2) (by decide +kernel)) (hts (.initialized RX7) (by decide +kernel)) hK hP hD hS hA hT rfl (by decide +kernel) (Nat.le_of_ble_eq_true rfl) (Nat.le_of_ble_eq_true rfl) dX9_sumsOf_8 (fun q8 H w8 hM_q8 hO_q8 hF8 hX8 hk8 hP hD hT hS => ?_)
  have hN_q8 := hX.new0 hO_q8 hF8
  have hM_x1 := hk8 _ _ hM_x1
  have hM_s1 := hk8 _ _ hM_s1
  have hM_b1 := hk8 _ _ hM_b1
  have hX := hX.tr (hX8 _ _)
  refine lv_dup hx hb dX9_sumsOf_11 rfl ?_
  refine lv_iconst (v := 0) hx hb dX9_sumsOf_12 (by decide) ?_
  refine lv_iload_n hx hb dX9_sumsOf_13 rfl (lv_at hl 0 rfl) ?_
  refine lv_aload_n hx hb dX9_sumsOf_14 rfl (lv_at hl 1 rfl) ?_
  refine t_getJ (v := .ref b1) hx hb hts hinJ hown hK hP hJ_x1.kc hM_x1 0 (by decide) (hts (.fieldLink RX9 65 "ShadowBench$Job" "board" "LShadowBench$Board;") (by decide +kernel)) (fun _ h9 => h9) rfl dX9_sumsOf_15 ?_
  refine t_get (v := .int (nI wq)) (C := RX0) (T := TX0) (N := 8) hx hb hts (by decide +kernel) hown hK hP hM_b1 rfl 0 (by decide) (hts (.fieldLink RX9 156 "ShadowBench$Board" "wide" "I") (by decide +kernel)) (fun _ h9 => h9) rfl dX9_sumsOf_18 ?_
  have i_w_b1 : (nI wq).toInt = _ := nI_toInt (by omega)
  refine lv_iadd hx hb dX9_sumsOf_21 ?_
  refine lv_topi (fun v21 e21 => ?_)
  have i21 : v21.toInt = (nI hq).toInt + (nI wq).toInt := by rw [e21]; exact fb_addI (by omega) (by omega)
  have cv9 := m_cl (x := v21) (by omega)
  refine t_callv (va_runI (g := F0 m 22 ls ([.int v21, .int (0 : Int32), .ref q8, .ref q8])) (As := [.int (0 : Int32), .int v21]) (rest := [.ref q8]) (b := q8) ⟨hx, hb, hml, hown, hts⟩ (c_X7_init_zi l D cy A G w8 q8 (0 : Int32) v21 hD hT hO_q8 hM_q8 (Or.inl rfl) (by omega)) (cwI 2 hts gX9_sumsOf_X7_init rfl rfl rfl (hts (.initialized RX7) (by decide +kernel)) (hts (.methodLink RX9 247 yX7_init) (by decide +kernel)) (hts (.instanceMethod yX7_init) (by decide +kernel)) rfl (by decide +kernel) ⟨Nat.le_of_ble_eq_true rfl, Nat.le_of_ble_eq_true rfl⟩) (c_preS hP hK hA hS hV) rfl rfl hl.1 rfl (lv_room (Nat.le_of_ble_eq_true rfl)) dX9_sumsOf_22 ⟨Nat.le_of_ble_eq_true rfl, Nat.le_of_ble_eq_true rfl⟩) hS (fun u H locs q22 hP9 hD9 hT9 hS => ?_)
  obtain ⟨G22, w22⟩ := u
  obtain ⟨hX9, q22⟩ := q22
  have hX9 : cX (some q8) (chs []) G w8 G22 w22 := hX9
  obtain ⟨hqo22, a22, hG9_a22, hN9_a22, hMx22, hMa22⟩ := q22
  have q22 := And.intro hqo22 True.intro
  have hN_a22 := hX.new0 (hT.no hN9_a22) hN9_a22
  have hP : va_P D vwCl w22 H := hP9
  have hD : va_D A w22 := hD9
  have hT : cT cy G22 w22 := hT9
  have hM_x1 := hX9.2.1 _ _ (cP.no1 (Ne.symm (cne0 hO_q8 hG_x1)) hG_x1 rfl) hM_x1
  have hM_s1 := hX9.2.1 _ _ (cP.no1 (Ne.symm (cne0 hO_q8 hG_s1)) hG_s1 rfl) hM_s1
  have hM_b1 := hX9.2.1 _ _ (cP.no1 (Ne.symm (cne0 hO_q8 hG_b1)) hG_b1 rfl) hM_b1
  have hG_x1 := hX9.1 _ _ hG_x1
  have hG_b1 := hX9.1 _ _ hG_b1
  have hG_s1 := hX9.1 _ _ hG_s1
  have hG_l_b1 := hX9.1 _ _ hG_l_b1
  have hG_f_b1 := hX9.1 _ _ hG_f_b1
  have hG_r_b1 := hX9.1 _ _ hG_r_b1
  have hG_q8 : G22 q8 = some (4, v21.toNatClampNeg, 0) := q22.1
  have q22 := q22.2
  have hX := hX.trN hN_q8 hX9
  have hG_a22 : G22 a22 = some (16, v21.toNatClampNeg, 0) := hG9_a22
  have hM_q8 : cIn w22 q8 (.inr (6, [.int (0 : Int32), .ref a22])) := hMx22
  have hM_a22 : cIn w22 a22 (.inl (cy 1, v21.toNatClampNeg, .inr (.inl (fun _ => 0)))) := hMa22
  refine lv_astore_n (lv' := [(2, .ref q8), (1, .int (nI hq)), (0, .ref x1)]) hx hb dX9_sumsOf_25 rfl hl (by decide) rfl (fun ls hl => ?_)
  refine lv_iconst (v := 0) hx hb dX9_sumsOf_26 (by decide) ?_
  refine lv_istore_n (lv' := [(3, .int (0 : Int32)), (2, .ref q8), (1, .int (nI hq)), (0, .ref x1)]) hx hb dX9_sumsOf_27 rfl hl (by decide) rfl (fun ls hl => ?_)
  have loop_28 : ∀ (n : Nat) (i : Nat) (F : Nat → Int64), (i ≤ hq) → (∀ e9, e9 < i → F e9 = (fs e9).toInt64) → 6 - i < n → ∀ (Gl28 : cG) (wl28 : va_W), cE G22 Gl28 → cX none (chs []) G ws Gl28 wl28 → va_D A wl28 → cT cy Gl28 wl28 → ∀ (H : Heap) (locs : List Loc), va_P D vwCl wl28 H → va_S A s.heap H locs → cIn wl28 q8 (.inr (6, [.int (0 : Int32), .ref a22])) → cIn wl28 x1 (.inr (k1, .ref b1 :: .ref s1 :: .int (nI t1) :: .long o1 :: .long y1 :: ms1)) → cIn wl28 a22 (.inl (cy 1, v21.toNatClampNeg, .inr (.inl F))) → cIn wl28 s1 (.inl (cy 0, 44, .inl fs)) → ∀ (ls : Array Slot), lv_has ls 4 [(3, .int (nI i)), (2, .ref q8), (1, .int (nI hq)), (0, .ref x1)] → W p l e (headSpec wsX9_sumsOf ({ frames := 3, cells := 2, slots := 62, locals := 62 })).room s m #[Value.ref x1] below meth c H locs 2 62 (MQ below (cQa (fun r0 u => cX none (chs []) G ws u.1 u.2 ∧ (∃ x a m F, r0 = some x ∧ u.1 x = some (4, m, 0) ∧ u.1 a = some (16, m, 0) ∧ (∀ e, ¬ cIn ws a e) ∧ cIn u.2 x (.inr (6, [.int 0, .ref a])) ∧ cIn u.2 a (.inl (cy 1, m, .inr (.inl F))) ∧ m = hq + wq ∧ suR fs wq hq F)) (cB D cy A) A) #[Value.ref x1] s 2 62 A) (F0 m 28 ls []) := by
    intro n
    induction n with
    | zero => intro i F j28_0 j28_1 hn; exact absurd hn (Nat.not_lt_zero _)
    | succ n ih_28 =>
      intro i F j28_0 j28_1 hn_28 Gl28 wl28 hEl28 hX hD hT H locs hP hS hM_q8 hM_x1 hM_a22 hM_s1 ls hl
      have hG_x1 := hEl28 _ _ hG_x1
      have hG_b1 := hEl28 _ _ hG_b1
      have hG_s1 := hEl28 _ _ hG_s1
      have hG_l_b1 := hEl28 _ _ hG_l_b1
      have hG_f_b1 := hEl28 _ _ hG_f_b1
      have hG_r_b1 := hEl28 _ _ hG_r_b1
      have hG_q8 := hEl28 _ _ hG_q8
      have hG_a22 := hEl28 _ _ hG_a22
      have ii : (nI i).toInt = (i : Int) := nI_toInt (by omega)
      refine lv_iload_n hx hb dX9_sumsOf_28 rfl (lv_at hl 0 rfl) ?_
      refine lv_iload_n hx hb dX9_sumsOf_29 rfl (lv_at hl 2 rfl) ?_
      refine lv_icmp_ge (tgt := 51) hx hb dX9_sumsOf_30 (by decide) (fun c30 => ?_) (fun c30 => ?_)
      · skip
        have d30 := c30
        rw [fa_le] at d30
        refine lv_iconst (v := 0) hx hb dX9_sumsOf_51 (by decide) ?_
        refine lv_istore_n (lv' := [(3, .int (0 : Int32)), (2, .ref q8), (1, .int (nI hq)), (0, .ref x1)]) hx hb dX9_sumsOf_52 rfl hl (by decide) rfl (fun ls hl => ?_)
        have loop_53 : ∀ (n : Nat) (i2 : Nat) (F2 : Nat → Int64), (i2 ≤ wq) → (∀ e9, e9 < hq → F2 e9 = (fs e9).toInt64) → (∀ e9, e9 < i2 → F2 (hq + e9) = (fs (11 + e9)).toInt64) → 6 - i2 < n → ∀ (Gl53 : cG) (wl53 : va_W), cE Gl28 Gl53 → cX none (chs []) G ws Gl53 wl53 → va_D A wl53 → cT cy Gl53 wl53 → ∀ (H : Heap) (locs : List Loc), va_P D vwCl wl53 H → va_S A s.heap H locs → cIn wl53 q8 (.inr (6, [.int (0 : Int32), .ref a22])) → cIn wl53 x1 (.inr (k1, .ref b1 :: .ref s1 :: .int (nI t1) :: .long o1 :: .long y1 :: ms1)) → cIn wl53 a22 (.inl (cy 1, v21.toNatClampNeg, .inr (.inl F2))) → cIn wl53 s1 (.inl (cy 0, 44, .inl fs)) → ∀ (ls : Array Slot), lv_has ls 4 [(3, .int (nI i2)), (2, .ref q8), (1, .int (nI hq)), (0, .ref x1)] → W p l e (headSpec wsX9_sumsOf ({ frames := 3, cells := 2, slots := 62, locals := 62 })).room s m #[Value.ref x1] below meth c H locs 2 62 (MQ below (cQa (fun r0 u => cX none (chs []) G ws u.1 u.2 ∧ (∃ x a m F, r0 = some x ∧ u.1 x = some (4, m, 0) ∧ u.1 a = some (16, m, 0) ∧ (∀ e, ¬ cIn ws a e) ∧ cIn u.2 x (.inr (6, [.int 0, .ref a])) ∧ cIn u.2 a (.inl (cy 1, m, .inr (.inl F))) ∧ m = hq + wq ∧ suR fs wq hq F)) (cB D cy A) A) #[Value.ref x1] s 2 62 A) (F0 m 53 ls []) := by
          intro n
          induction n with
          | zero => intro i2 F2 j53_0 j53_1 j53_2 hn; exact absurd hn (Nat.not_lt_zero _)
          | succ n ih_53 =>
            intro i2 F2 j53_0 j53_1 j53_2 hn_53 Gl53 wl53 hEl53 hX hD hT H locs hP hS hM_q8 hM_x1 hM_a22 hM_s1 ls hl
            have hG_x1 := hEl53 _ _ hG_x1
            have hG_b1 := hEl53 _ _ hG_b1
            have hG_s1 := hEl53 _ _ hG_s1
            have hG_l_b1 := hEl53 _ _ hG_l_b1
            have hG_f_b1 := hEl53 _ _ hG_f_b1
            have hG_r_b1 := hEl53 _ _ hG_r_b1
            have hG_q8 := hEl53 _ _ hG_q8
            have hG_a22 := hEl53 _ _ hG_a22
            have hEl28 := hEl28.tr hEl53
            have ii2 : (nI i2).toInt = (i2 : Int) := nI_toInt (by omega)
            refine lv_iload_n hx hb dX9_sumsOf_53 rfl (lv_at hl 0 rfl) ?_
            refine lv_aload_n hx hb dX9_sumsOf_54 rfl (lv_at hl 3 rfl) ?_
            refine t_getJ (v := .ref b1) hx hb hts hinJ hown hK hP hJ_x1.kc hM_x1 0 (by decide) (hts (.fieldLink RX9 65 "ShadowBench$Job" "board" "LShadowBench$Board;") (by decide +kernel)) (fun _ h9 => h9) rfl dX9_sumsOf_55 ?_
            obtain ⟨_, hM_b1, hb_b1, lv1_b1, fv1_b1, rv1_b1, rfl, hG_lv1_b1, hG_fv1_b1, hG_rv1_b1⟩ := hT _ _ hG_b1
            refine t_get (v := .int (nI wq)) (C := RX0) (T := TX0) (N := 8) hx hb hts (by decide +kernel) hown hK hP hM_b1 rfl 0 (by decide) (hts (.fieldLink RX9 156 "ShadowBench$Board" "wide" "I") (by decide +kernel)) (fun _ h9 => h9) rfl dX9_sumsOf_58 ?_
            refine lv_icmp_ge (tgt := 84) hx hb dX9_sumsOf_61 (by decide) (fun c61 => ?_) (fun c61 => ?_)
            · skip
              have d61 := c61
              rw [fa_le] at d61
              refine lv_aload_n hx hb dX9_sumsOf_84 rfl (lv_at hl 1 rfl) ?_
              refine W.widen (k := 2) (n := 62) (Nat.le_of_ble_eq_true rfl) (Nat.le_of_ble_eq_true rfl) ?_
              exact W.aret (v := .ref q8) hx hb hr (Or.inl ⟨_, rfl⟩) (Or.inr ⟨_, rfl⟩) (fun t ht hW => ⟨⟨(some q8), (Gl53, wl53), rfl, ⟨hX, ⟨_, _, _, _, rfl, hG_q8, hG_a22, hN_a22, hM_q8, hM_a22, (by omega), j53_1, (fun e9 h9 => j53_2 e9 (by omega))⟩⟩, by show va_P D vwCl wl53 t.heap; rw [ht]; exact hP, hD, hT⟩, hS.F ht⟩) hS.2.2 dX9_sumsOf_85
            · skip
              have d61 := c61
              rw [fa_le] at d61
              refine lv_aload_n hx hb dX9_sumsOf_64 rfl (lv_at hl 1 rfl) ?_
              refine lv_iload_n hx hb dX9_sumsOf_65 rfl (lv_at hl 2 rfl) ?_
              refine lv_iload_n hx hb dX9_sumsOf_66 rfl (lv_at hl 0 rfl) ?_
              refine lv_iadd hx hb dX9_sumsOf_67 ?_
              refine lv_topi (fun v67 e67 => ?_)
              have i67 : v67.toInt = (nI hq).toInt + (nI i2).toInt := by rw [e67]; exact fb_addI (by omega) (by omega)
              refine lv_aload_n hx hb dX9_sumsOf_68 rfl (lv_at hl 3 rfl) ?_
              refine lv_iconst (v := 1) hx hb dX9_sumsOf_69 (by decide) ?_
              refine lv_iload_n hx hb dX9_sumsOf_70 rfl (lv_at hl 0 rfl) ?_
              refine t_calli (t_runJ (g := F0 m 71 ls ([.int (nI i2), .int (1 : Int32), .ref x1, .int v67, .ref q8])) (As := [.int (1 : Int32), .int (nI i2)]) (rest := [.int v67, .ref q8]) ⟨hx, hb, hml, hown, hts⟩ (c_X3_sumOf_x l D cy A Gl53 wl53 x1 (1 : Int32) (nI i2) hD hT hG_x1 hM_x1 hM_s1 hb9 ht9 (by decide) (by omega)) (va_cwU 2 hts gX9_sumsOf_X3_sumOf_u120X1 rfl rfl rfl rfl (by decide +kernel) ⟨Nat.le_of_ble_eq_true rfl, Nat.le_of_ble_eq_true rfl⟩) (cwV 2 hts gX9_sumsOf_X3_sumOf rfl rfl rfl (by decide +kernel) ⟨Nat.le_of_ble_eq_true rfl, Nat.le_of_ble_eq_true rfl⟩) (va_cwU 2 hts gX9_sumsOf_X3_sumOf_u120X4 rfl rfl rfl rfl (by decide +kernel) ⟨Nat.le_of_ble_eq_true rfl, Nat.le_of_ble_eq_true rfl⟩) (va_cwU 2 hts gX9_sumsOf_X3_sumOf_u120X5 rfl rfl rfl rfl (by decide +kernel) ⟨Nat.le_of_ble_eq_true rfl, Nat.le_of_ble_eq_true rfl⟩) hJ_x1.kc hM_x1 hP hK c_blind (c_preS hP hK hA hS hV).2 rfl rfl hl.1 rfl (lv_room (Nat.le_of_ble_eq_true rfl)) dX9_sumsOf_71 ⟨Nat.le_of_ble_eq_true rfl, Nat.le_of_ble_eq_true rfl⟩) hS (fun r71 u H locs q71 hP9 hD9 hT9 hS => ?_)
              obtain ⟨rfl, q71⟩ := q71
              have hP : va_P D vwCl wl53 H := hP9
              rw [nI_clamp (n := i2) (by omega)] at q71
              have cv8 := m_cl (x := v67) (by omega)
              refine lv_i2l (v := r71.toInt64) hx hb dX9_sumsOf_74 rfl ?_
              refine t_callv (va_runV (g := F0 m 75 ls ([.long (r71.toInt64), .int v67, .ref q8])) (As := [.int v67, .long (r71.toInt64)]) (rest := []) ⟨hx, hb, hml, hown, hts⟩ (c_X7_put_i l D cy A Gl53 wl53 q8 v67 r71.toInt64 hD hT hG_q8 hM_q8 hM_a22 (by omega)) (cwV 2 hts gX9_sumsOf_X7_put rfl rfl rfl (by decide +kernel) ⟨Nat.le_of_ble_eq_true rfl, Nat.le_of_ble_eq_true rfl⟩) (c_preV hM_q8 rfl hP hK hA hS hV) rfl rfl hl.1 rfl (lv_room (Nat.le_of_ble_eq_true rfl)) dX9_sumsOf_75 ⟨Nat.le_of_ble_eq_true rfl, Nat.le_of_ble_eq_true rfl⟩) hS (fun u H locs q75 hP9 hD9 hT9 hS => ?_)
              obtain ⟨w75, rfl, hF75, q75⟩ := q75
              have hP : va_P D vwCl w75 H := hP9
              have hD : va_D A w75 := hD9
              have hT : cT cy Gl53 w75 := hT9
              have hM_x1 := hF75 _ _ (cne hG_x1 hG_a22 (show (3 : Nat) ≠ 16 by decide)) hM_x1
              have hM_s1 := hF75 _ _ (cne hG_s1 hG_a22 (show (14 : Nat) ≠ 16 by decide)) hM_s1
              have hM_q8 := hF75 _ _ (cne hG_q8 hG_a22 (show (4 : Nat) ≠ 16 by decide)) hM_q8
              have hM_b1 := hF75 _ _ (cne hG_b1 hG_a22 (show (2 : Nat) ≠ 16 by decide)) hM_b1
              have hX := hX.trF (fun b9 z9 => by subst z9; exact hN_a22) hF75
              have hM_a22 : cIn w75 a22 (.inl (cy 1, v21.toNatClampNeg, .inr (.inl (vp_updL F2 v67.toNatClampNeg r71.toInt64)))) := q75
              refine lv_iinc (v := (nI (i2 + 1))) (lv' := [(3, .int (nI (i2 + 1))), (2, .ref q8), (1, .int (nI hq)), (0, .ref x1)]) hx hb dX9_sumsOf_78 hl (k := 0) rfl (nI_1 _) (by decide) rfl (fun ls hl => ?_)
              refine lv_goto (tgt := 53) hx hb dX9_sumsOf_81 (by decide) ?_
              exact ih_53 (i2 + 1) (vp_updL F2 v67.toNatClampNeg r71.toInt64) (by omega) (fun e9 h9 => by rw [vp_ne (i := v67.toNatClampNeg) (e := e9) (by omega)]; exact j53_1 e9 h9) (fun e9 h9 => by by_cases z9 : e9 = i2; (rw [z9, vp_at (i := v67.toNatClampNeg) (e := hq + i2) (by omega), q71, show (1 : Int32).toNatClampNeg = 1 from rfl, Nat.one_mul]); (rw [vp_ne (i := v67.toNatClampNeg) (e := hq + e9) (by omega)]; exact j53_2 e9 (by omega))) (by omega) Gl53 w75 hEl53 hX hD hT _ _ hP hS hM_q8 hM_x1 hM_a22 hM_s1 ls (lv_sub hl [0, 1, 2, 3] rfl)
        exact loop_53 (6 + 1) 0 F (by omega) (fun e9 h9 => j28_1 e9 (by omega)) (fun e9 h9 => absurd h9 (Nat.not_lt_zero _)) (by omega) Gl28 wl28 cE.rf hX hD hT _ _ hP hS hM_q8 hM_x1 hM_a22 hM_s1 ls (lv_sub hl [0, 1, 2, 3] rfl)
      · skip
        have d30 := c30
        rw [fa_le] at d30
        refine lv_aload_n hx hb dX9_sumsOf_33 rfl (lv_at hl 1 rfl) ?_
        refine lv_iload_n hx hb dX9_sumsOf_34 rfl (lv_at hl 0 rfl) ?_
        refine lv_aload_n hx hb dX9_sumsOf_35 rfl (lv_at hl 3 rfl) ?_
        refine lv_iconst (v := 0) hx hb dX9_sumsOf_36 (by decide) ?_
        refine lv_iload_n hx hb dX9_sumsOf_37 rfl (lv_at hl 0 rfl) ?_
        refine t_calli (t_runJ (g := F0 m 38 ls ([.int (nI i), .int (0 : Int32), .ref x1, .int (nI i), .ref q8])) (As := [.int (0 : Int32), .int (nI i)]) (rest := [.int (nI i), .ref q8]) ⟨hx, hb, hml, hown, hts⟩ (c_X3_sumOf_x l D cy A Gl28 wl28 x1 (0 : Int32) (nI i) hD hT hG_x1 hM_x1 hM_s1 hb9 ht9 (by decide) (by omega)) (va_cwU 2 hts gX9_sumsOf_X3_sumOf_u120X1 rfl rfl rfl rfl (by decide +kernel) ⟨Nat.le_of_ble_eq_true rfl, Nat.le_of_ble_eq_true rfl⟩) (cwV 2 hts gX9_sumsOf_X3_sumOf rfl rfl rfl (by decide +kernel) ⟨Nat.le_of_ble_eq_true rfl, Nat.le_of_ble_eq_true rfl⟩) (va_cwU 2 hts gX9_sumsOf_X3_sumOf_u120X4 rfl rfl rfl rfl (by decide +kernel) ⟨Nat.le_of_ble_eq_true rfl, Nat.le_of_ble_eq_true rfl⟩) (va_cwU 2 hts gX9_sumsOf_X3_sumOf_u120X5 rfl rfl rfl rfl (by decide +kernel) ⟨Nat.le_of_ble_eq_true rfl, Nat.le_of_ble_eq_true rfl⟩) hJ_x1.kc hM_x1 hP hK c_blind (c_preS hP hK hA hS hV).2 rfl rfl hl.1 rfl (lv_room (Nat.le_of_ble_eq_true rfl)) dX9_sumsOf_38 ⟨Nat.le_of_ble_eq_true rfl, Nat.le_of_ble_eq_true rfl⟩) hS (fun r38 u H locs q38 hP9 hD9 hT9 hS => ?_)
        obtain ⟨rfl, q38⟩ := q38
        have hP : va_P D vwCl wl28 H := hP9
        rw [nI_clamp (n := i) (by omega)] at q38
        refine lv_i2l (v := r38.toInt64) hx hb dX9_sumsOf_41 rfl ?_
        refine t_callv (va_runV (g := F0 m 42 ls ([.long (r38.toInt64), .int (nI i), .ref q8])) (As := [.int (nI i), .long (r38.toInt64)]) (rest := []) ⟨hx, hb, hml, hown, hts⟩ (c_X7_put_x l D cy A Gl28 wl28 q8 i r38.toInt64 hD hT hG_q8 hM_q8 hM_a22 (by omega)) (cwV 2 hts gX9_sumsOf_X7_put rfl rfl rfl (by decide +kernel) ⟨Nat.le_of_ble_eq_true rfl, Nat.le_of_ble_eq_true rfl⟩) (c_preV hM_q8 rfl hP hK hA hS hV) rfl rfl hl.1 rfl (lv_room (Nat.le_of_ble_eq_true rfl)) dX9_sumsOf_42 ⟨Nat.le_of_ble_eq_true rfl, Nat.le_of_ble_eq_true rfl⟩) hS (fun u H locs q42 hP9 hD9 hT9 hS => ?_)
        obtain ⟨w42, rfl, hF42, q42⟩ := q42
        have hP : va_P D vwCl w42 H := hP9
        have hD : va_D A w42 := hD9
        have hT : cT cy Gl28 w42 := hT9
        have hM_x1 := hF42 _ _ (cne hG_x1 hG_a22 (show (3 : Nat) ≠ 16 by decide)) hM_x1
        have hM_s1 := hF42 _ _ (cne hG_s1 hG_a22 (show (14 : Nat) ≠ 16 by decide)) hM_s1
        have hM_q8 := hF42 _ _ (cne hG_q8 hG_a22 (show (4 : Nat) ≠ 16 by decide)) hM_q8
        have hX := hX.trF (fun b9 z9 => by subst z9; exact hN_a22) hF42
        have hM_a22 : cIn w42 a22 (.inl (cy 1, v21.toNatClampNeg, .inr (.inl (vp_updL F i r38.toInt64)))) := q42
        refine lv_iinc (v := (nI (i + 1))) (lv' := [(3, .int (nI (i + 1))), (2, .ref q8), (1, .int (nI hq)), (0, .ref x1)]) hx hb dX9_sumsOf_45 hl (k := 0) rfl (nI_1 _) (by decide) rfl (fun ls hl => ?_)
        refine lv_goto (tgt := 28) hx hb dX9_sumsOf_48 (by decide) ?_
        exact ih_28 (i + 1) (vp_updL F i r38.toInt64) (by omega) (fun e9 h9 => by by_cases z9 : e9 = i; (rw [vp_at z9, z9, q38, show (0 : Int32).toNatClampNeg = 0 from rfl, Nat.zero_mul, Nat.zero_add]); (rw [vp_ne z9]; exact j28_1 e9 (by omega))) (by omega) Gl28 w42 hEl28 hX hD hT _ _ hP hS hM_q8 hM_x1 hM_a22 hM_s1 ls (lv_sub hl [0, 1, 2, 3] rfl)
  exact loop_28 (6 + 1) 0 (fun _ => 0) (by omega) (fun e9 h9 => absurd h9 (Nat.not_lt_zero _)) (by omega) G22 w22 cE.rf hX hD hT _ _ hP hS hM_q8 hM_x1 hM_a22 hM_s1 ls (lv_sub hl [0, 1, 2, 3] rfl)

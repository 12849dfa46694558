
theorem cy_obj {D : va_G} {cl : List vw_C} {tys tys' : List (ClassId × FieldType)} {s : State} {c1 c2 : ClassId} {C : String} {i j : Nat} (hK : va_K D cl tys s) (hK' : va_K D cl tys' s) (h1 : tys[i]? = some (c1, .object C)) (h2 : tys'[j]? = some (c2, .object C)) : c2 = c1 := by
  obtain ⟨k1, m1, -, -, -, a1⟩ := (hK.2 i _ h1).2
  obtain ⟨k2, m2, -, -, -, a2⟩ := (hK'.2 j _ h2).2
  exact Option.some.inj (a2.symm.trans a1)
section CQ
variable {p : Program} {l : Launch} {e : Env} {R : Room} {s : State} {m : MethodId} {args : Array Value} {below : List Frame} {meth : Method} {c : Code} {H : Heap} {locs : List Loc} {cells slots : Nat} {Q : State → Prop}
variable {cc : ByteArray} {pc : Nat} {ls : Array Slot} {rest : List Value} {D : va_G} {cy : Nat → ClassId} {A : Nat → Prop} {ws : va_W} {G : cG} {H0 : Heap} {own : String} {index : Nat}
theorem t_newq {C : String} {kd j : Nat} (hx : p.tables.exec = Jvm.exec) (hb : c.code = cc) (hown : s.vm.findClass own = some m.cls) (hcl : (Cond.classLink own index C).before args s = true) (hAO : va_AO C s) (hK : va_K D vwCl (cTy cy) s) (hP : va_P D vwCl ws H) (hD : va_D A ws) (hS : va_S A H0 H locs) (hA : ∀ q, H0.size ≤ q → A q) (hT : cT cy G ws) (hj : (cTy cy)[j]? = some (cy j, .object C)) (hok : ∀ (G' : cG) (N : Nat), cok cy G' (kd, N, 0) (.inl (cy j, cqa N (fun _ => none)))) {n : Int32} {N : Nat} (hn : ¬ n < 0) (hN : n.toNatClampNeg = N) (hB2 : N ≤ 100000) (hcells : cells + 1 ≤ R.cells) (hslots : slots + N ≤ R.slots) (hdg : decode cc pc = .ok (.anewarray index, 3))
    (kk : ∀ (q : Nat) (H1 : Heap) (ws1 : va_W) (G1 : cG), G1 q = some (kd, N, 0) → G q = none → (∀ e, ¬ cIn ws q e) → (∀ q0 ch, cX q0 ch G ws G1 ws1) → (∀ a e, cIn ws a e → cIn ws1 a e) → (∀ a, a ≠ q → G1 a = G a) → va_P D vwCl ws1 H1 → va_D A ws1 → cT cy G1 ws1 → va_S A H0 H1 locs → W p l e R s m args below meth c H1 locs (cells + 1) (slots + N) Q (F0 m (pc + 3) ls (.ref q :: rest))) : W p l e R s m args below meth c H locs cells slots Q (F0 m pc ls (.int n :: rest)) := by
  refine va_newq (C := C) hx hb hown hcl hAO hK hP hD hS hA hn hN (by omega) hcells hslots hdg (fun q cA H1 hK1 hP1 hD1 hS1 => ?_)
  have e1 : cA = cy j := cy_obj (i := j) (j := 6) hK hK1 hj rfl
  subst e1
  have hg : G q = none := cG.none hT hD1
  have hni : ∀ e, ¬ cIn ws q e := c_fresh hD1
  refine kk q H1 _ (va_up G q (some (kd, N, 0))) (by simp [va_up]) hg hni (fun q0 ch => ⟨cE.add hg, fun a e _ hi => hi.add, fun a t ht => ?_⟩) (fun a e hi => hi.add) (fun a ha => by simp [va_up, ha]) hP1 hD1 (hT.add hg (hok _ _)) hS1
  by_cases ha : a = q
  · subst ha; exact Or.inr (Or.inr hni)
  · exact Or.inl (by simpa [va_up, ha] using ht)
end CQ
def iPc (D : va_G) (cy : Nat → ClassId) (A : Nat → Prop) (ws : va_W) (av : List Value) : Array Value → State → Prop := va_Pc av (fun U => (va_P D vwCl ws U.heap ∧ va_K D vwCl (cTy cy) U ∧ (∀ q, U.heap.size ≤ q → A q) ∧ cV U) ∧ va_AO RX0 U ∧ va_AO RX3 U ∧ va_AO RX2 U)
def Iv (l : Launch) (D : va_G) (cy : Nat → ClassId) (A : Nat → Prop) (y : MethodName) (wc : List Cond) (rm : Room) (mc ms : Nat) (ws : va_W) (av : List Value) (post : cS → Prop) : Prop := Met l y wc rm (iPc D cy A ws av) (va_Qv post (cB D cy A) A) mc ms A
set_option maxHeartbeats 4000000 in
set_option maxRecDepth 100000 in
theorem c_X9_init (l : Launch) (D : va_G) (cy : Nat → ClassId) (A : Nat → Prop) (G : cG) (ws : va_W) (o : Nat)  (hD : va_D A ws) (hT : cT cy G ws) (hO_o : G o = none) (hM_o : cIn ws o (.inr (8, [.null, .null, .int 0, .null, .null, .null, .null, .int 0, .null])))  : Iv l D cy A yX9_init wsX9_init ({ frames := 2, cells := 10, slots := 104, locals := 40 }) 10 104 ws [.ref o] (fun u => cX (some o) (chs []) G ws u.1 u.2 ∧ u.1 o = some (7, 0, 0) ∧ (∃ bs js sh wk ll, cIn u.2 o (.inr (8, [.ref bs, .ref js, .int 0, .ref sh, .ref wk, .null, .ref ll, .int 0, .null])))) := by
  refine Met.ofW (cc := cX9_init) (maxL := 1) (ret := none) (by decide) rfl ?_
  intro p e s m args below meth c s₁ B hml hv
  obtain ⟨rfl, ⟨hP, hK, hA, hV⟩, hAO8, hAO9, hAO10⟩ := hv
  have hx := B.exec
  have hb := B.bytes
  have hr := B.returns
  have hts := atoms_spec (ws := wsX9_init) B.pre
  have hown : s.vm.findClass RX9 = some m.cls := findClass_of_methodNamed B.named
  have hlocks := B.notSynchronized
  have hS : va_S A s.heap s.heap [] := va_S.rf
  have hin2 : meth.name = "<init>" := (name_of_methodNamed B.named B.method).1
  have hX : cX (some o) (chs []) G ws G ws := cX.rf
  have hM0_o := hM_o
  have hl := lv_entry ([.ref o]) (n := 1) (Nat.le_of_ble_eq_true rfl)
  rw [lg_entry_eq]
  generalize (lg_sl ([.ref o]) ++ List.replicate (1 - (lg_sl ([.ref o])).length) Slot.unset).toArray = ls at hl ⊢
  have hl : lv_has ls 1 [(0, .ref o)] := hl
  have k_0 : (0 : Int32).toInt = 0 := by decide
  have k_8 : (8 : Int32).toInt = 8 := by decide
  have k_12 : (12 : Int32).toInt = 12 := by decide
  have k_36 : (36 : Int32).toInt = 36 := by decide
  refine lv_aload_n hx hb dX9_init_0 rfl (lv_at hl 0 rfl) ?_
  refine W.objInit hx hb hown (hts (.methodLink RX9 1 objectInit) (by decide +kernel)) (hts (.instanceMethod objectInit) (by decide +kernel)) (hts (.code objectInit ⟨#[0xb1]⟩ 1 none) (by decide +kernel)) rfl (by rw [hml]; exact hl.1) rfl dX9_init_1 (Nat.le_of_ble_eq_true rfl) (Nat.le_of_ble_eq_true rfl) ?_
  refine W.eq (g2 := F0 m 4 ls []) rfl ?_
  refine lv_aload_n hx hb dX9_init_4 rfl (lv_at hl 0 rfl) ?_
  refine lv_bipush (v := 36) hx hb dX9_init_5 (by decide) ?_
  refine t_newq (kd := 8) (j := 3) (C := RX0) hx hb hown (hts (.classLink RX9 7 RX0) (by decide +kernel)) hAO8 hK hP hD hS hA hT rfl (fun _ _ => ⟨_, rfl, fun _ _ _ z => nomatch z⟩) (N := 36) (by decide) rfl (by decide) (Nat.le_of_ble_eq_true rfl) (Nat.le_of_ble_eq_true rfl) dX9_init_7 (fun q7 H w7 G7 hG_q7 hz7 hF7 hX7 hk7 hg7 hP hD hT hS => ?_)
  have hN_q7 := hX.new1 hM_o hz7 hF7
  have hO_o := (hg7 o (fun z => hF7 _ (z ▸ hM_o))).trans hO_o
  have hM_o := hk7 _ _ hM_o
  have hX := hX.tr (hX7 _ _)
  refine t_putF (v := .ref q7) (C := RX9) (T := TX9) (N := 9) (ty0 := tyX9) hx hb hts (by decide +kernel) tyX9_ok nmX9 hown hK hP hD hS hM_o rfl 0 (by decide) (hts (.fieldLink RX9 9 "ShadowBench" "boards" "[LShadowBench$Board;") (by decide +kernel)) (fun _ h9 => h9) rfl hin2 rfl rfl rfl (Nat.le_of_ble_eq_true rfl) dX9_init_10 (fun H locs w10 hU10 hP hD hS => ?_)
  have hT := hT.up0 hU10 hO_o
  have hM_o : cIn w10 o (.inr (8, [.ref q7, .null, .int 0, .null, .null, .null, .null, .int 0, .null])) := hU10.1
  have hX := hX.tr (cX.up hU10 (Or.inl rfl))
  refine lv_aload_n hx hb dX9_init_13 rfl (lv_at hl 0 rfl) ?_
  refine lv_bipush (v := 8) hx hb dX9_init_14 (by decide) ?_
  refine t_newq (kd := 9) (j := 4) (C := RX3) hx hb hown (hts (.classLink RX9 15 RX3) (by decide +kernel)) hAO9 hK hP hD hS hA hT rfl (fun _ _ => ⟨_, rfl, fun _ _ _ z => nomatch z⟩) (N := 8) (by decide) rfl (by decide) (Nat.le_of_ble_eq_true rfl) (Nat.le_of_ble_eq_true rfl) dX9_init_16 (fun q16 H w16 G16 hG_q16 hz16 hF16 hX16 hk16 hg16 hP hD hT hS => ?_)
  have hN_q16 := hX.new1 hM_o hz16 hF16
  have hO_o := (hg16 o (fun z => hF16 _ (z ▸ hM_o))).trans hO_o
  have hM_o := hk16 _ _ hM_o
  have hG_q7 := (hX16 none (chs [])).1 _ _ hG_q7
  have hX := hX.tr (hX16 _ _)
  refine t_putF (v := .ref q16) (C := RX9) (T := TX9) (N := 9) (ty0 := tyX9) hx hb hts (by decide +kernel) tyX9_ok nmX9 hown hK hP hD hS hM_o rfl 1 (by decide) (hts (.fieldLink RX9 17 "ShadowBench" "jobs" "[LShadowBench$Job;") (by decide +kernel)) (fun _ h9 => h9) rfl hin2 rfl rfl rfl (Nat.le_of_ble_eq_true rfl) dX9_init_19 (fun H locs w19 hU19 hP hD hS => ?_)
  have hT := hT.up0 hU19 hO_o
  have hM_o : cIn w19 o (.inr (8, [.ref q7, .ref q16, .int 0, .null, .null, .null, .null, .int 0, .null])) := hU19.1
  have hX := hX.tr (cX.up hU19 (Or.inl rfl))
  refine lv_aload_n hx hb dX9_init_22 rfl (lv_at hl 0 rfl) ?_
  refine lv_iconst (v := 0) hx hb dX9_init_23 (by decide) ?_
  refine t_put (v := .int (0 : Int32)) (C := RX9) (T := TX9) (N := 9) (ty0 := tyX9) hx hb hts (by decide +kernel) tyX9_ok nmX9 hown hK hP hD hS hM_o rfl 2 (by decide) (hts (.fieldLink RX9 21 "ShadowBench" "jobCount" "I") (by decide +kernel)) (fun _ h9 => h9) rfl rfl rfl (Nat.le_of_ble_eq_true rfl) dX9_init_24 (fun H locs w24 hU24 hP hD hS => ?_)
  have hT := hT.up0 hU24 hO_o
  have hM_o : cIn w24 o (.inr (8, [.ref q7, .ref q16, .int (0 : Int32), .null, .null, .null, .null, .int 0, .null])) := hU24.1
  have hX := hX.tr (cX.up hU24 (Or.inl rfl))
  refine lv_aload_n hx hb dX9_init_27 rfl (lv_at hl 0 rfl) ?_
  refine lv_bipush (v := 8) hx hb dX9_init_28 (by decide) ?_
  refine t_newq (kd := 10) (j := 5) (C := RX2) hx hb hown (hts (.classLink RX9 25 RX2) (by decide +kernel)) hAO10 hK hP hD hS hA hT rfl (fun _ _ => ⟨_, rfl, fun _ _ _ z => nomatch z⟩) (N := 8) (by decide) rfl (by decide) (Nat.le_of_ble_eq_true rfl) (Nat.le_of_ble_eq_true rfl) dX9_init_30 (fun q30 H w30 G30 hG_q30 hz30 hF30 hX30 hk30 hg30 hP hD hT hS => ?_)
  have hN_q30 := hX.new1 hM_o hz30 hF30
  have hO_o := (hg30 o (fun z => hF30 _ (z ▸ hM_o))).trans hO_o
  have hM_o := hk30 _ _ hM_o
  have hG_q7 := (hX30 none (chs [])).1 _ _ hG_q7
  have hG_q16 := (hX30 none (chs [])).1 _ _ hG_q16
  have hX := hX.tr (hX30 _ _)
  refine t_putF (v := .ref q30) (C := RX9) (T := TX9) (N := 9) (ty0 := tyX9) hx hb hts (by decide +kernel) tyX9_ok nmX9 hown hK hP hD hS hM_o rfl 3 (by decide) (hts (.fieldLink RX9 27 "ShadowBench" "shelves" "[LShadowBench$Held;") (by decide +kernel)) (fun _ h9 => h9) rfl hin2 rfl rfl rfl (Nat.le_of_ble_eq_true rfl) dX9_init_33 (fun H locs w33 hU33 hP hD hS => ?_)
  have hT := hT.up0 hU33 hO_o
  have hM_o : cIn w33 o (.inr (8, [.ref q7, .ref q16, .int (0 : Int32), .ref q30, .null, .null, .null, .int 0, .null])) := hU33.1
  have hX := hX.tr (cX.up hU33 (Or.inl rfl))
  refine lv_aload_n hx hb dX9_init_36 rfl (lv_at hl 0 rfl) ?_
  refine t_new (C := RX8) (T := TX8) (N := 10) (ci := 7) (ty0 := tyX8) (fs := [.null, .int 0, .int 0, .int 0, .long 0, .null, .null, .null, .null, .null]) hx hb hts (by decide +kernel) tyX8_ok hown (hts (.classLink RX9 31 RX8) (by decide +kernel)) (hts (.instantiable RX8 10) (by decide +kernel)) (hts (.initialized RX8) (by decide +kernel)) hK hP hD hS hA hT rfl (by decide +kernel) (Nat.le_of_ble_eq_true rfl) (Nat.le_of_ble_eq_true rfl) dX9_init_37 (fun q37 H w37 hM_q37 hO_q37 hF37 hX37 hk37 hP hD hT hS => ?_)
  have hN_q37 := hX.new1 hM_o hO_q37 hF37
  have hM_o := hk37 _ _ hM_o
  have hX := hX.tr (hX37 _ _)
  refine lv_dup hx hb dX9_init_40 rfl ?_
  refine t_callv (va_runIN (g := F0 m 41 ls ([.ref q37, .ref q37, .ref o])) (As := []) (rest := [.ref q37, .ref o]) (b := q37) ⟨hx, hb, hml, hown, hts⟩ (c_X8_init l D cy A G30 w37 q37 hD hT hO_q37 hM_q37 ) ⟨va_cnB 0 hts gX9_init_X8_init_n33 rfl rfl rfl hV.1.1 (hts (.initialized RX8) (by decide +kernel)) (by decide +kernel) ⟨Nat.le_of_ble_eq_true rfl, Nat.le_of_ble_eq_true rfl⟩, rfl, hts (.instanceMethod yX8_init) (by decide +kernel)⟩ (c_preS hP hK hA hS hV) rfl rfl hl.1 rfl (lv_room (Nat.le_of_ble_eq_true rfl)) dX9_init_41 ⟨Nat.le_of_ble_eq_true rfl, Nat.le_of_ble_eq_true rfl⟩) hS (fun u H locs q41 hP9 hD9 hT9 hS => ?_)
  obtain ⟨G41, w41⟩ := u
  obtain ⟨hX9, q41⟩ := q41
  have hX9 : cX (some q37) (chs []) G30 w37 G41 w41 := hX9
  have hP : va_P D vwCl w41 H := hP9
  have hD : va_D A w41 := hD9
  have hT : cT cy G41 w41 := hT9
  have hne_o_q37 : o ≠ q37 := fun z => hN_q37 _ (z ▸ hM0_o)
  have hO9_o := hX9.none0 (cP.no01 hne_o_q37 hO_o) hO_o hM_o
  have hM_o := hX9.2.1 _ _ (cP.no01 hne_o_q37 hO_o) hM_o
  have hG_q7 := hX9.1 _ _ hG_q7
  have hG_q16 := hX9.1 _ _ hG_q16
  have hG_q30 := hX9.1 _ _ hG_q30
  have hO_o := hO9_o
  have hG_q37 : G41 q37 = some (5, 0, 0) := q41.1
  have q41 := q41.2
  have hX := hX.trN hN_q37 hX9
  refine t_putF (v := .ref q37) (C := RX9) (T := TX9) (N := 9) (ty0 := tyX9) hx hb hts (by decide +kernel) tyX9_ok nmX9 hown hK hP hD hS hM_o rfl 4 (by decide) (hts (.fieldLink RX9 34 "ShadowBench" "walk" "LShadowBench$Walk;") (by decide +kernel)) (fun _ h9 => h9) rfl hin2 rfl rfl rfl (Nat.le_of_ble_eq_true rfl) dX9_init_44 (fun H locs w44 hU44 hP hD hS => ?_)
  have hT := hT.up0 hU44 hO_o
  have hM_o : cIn w44 o (.inr (8, [.ref q7, .ref q16, .int (0 : Int32), .ref q30, .ref q37, .null, .null, .int 0, .null])) := hU44.1
  have hX := hX.tr (cX.up hU44 (Or.inl rfl))
  refine lv_aload_n hx hb dX9_init_47 rfl (lv_at hl 0 rfl) ?_
  refine lv_null hx hb dX9_init_48 ?_
  refine t_put (v := .null) (C := RX9) (T := TX9) (N := 9) (ty0 := tyX9) hx hb hts (by decide +kernel) tyX9_ok nmX9 hown hK hP hD hS hM_o rfl 5 (by decide) (hts (.fieldLink RX9 38 "ShadowBench" "meetings" "LShadowBench$Meetings;") (by decide +kernel)) (fun _ h9 => h9) rfl rfl rfl (Nat.le_of_ble_eq_true rfl) dX9_init_49 (fun H locs w49 hU49 hP hD hS => ?_)
  have hT := hT.up0 hU49 hO_o
  have hM_o : cIn w49 o (.inr (8, [.ref q7, .ref q16, .int (0 : Int32), .ref q30, .ref q37, .null, .null, .int 0, .null])) := hU49.1
  have hX := hX.tr (cX.up hU49 (Or.inl rfl))
  refine lv_aload_n hx hb dX9_init_52 rfl (lv_at hl 0 rfl) ?_
  refine lv_bipush (v := 12) hx hb dX9_init_53 (by decide) ?_
  refine t_newl hx hb (hts (.arrayClass .long) (by decide +kernel)) hK hP hD hS hA hT (kd9 := 17) (Or.inr (Or.inr rfl)) 12 (N := 12) (by decide) rfl (by omega) (by decide) (Nat.le_of_ble_eq_true rfl) (Nat.le_of_ble_eq_true rfl) dX9_init_55 (fun q55 H w55 G55 hG_q55 hz55 hF55 hX55 hk55 hg55 hP hD hT hS => ?_)
  have hN_q55 := hX.new1 hM_o hz55 hF55
  have hO_o := (hg55 o (fun z => hF55 _ (z ▸ hM_o))).trans hO_o
  have hM_o := hk55 _ _ hM_o
  have hG_q7 := (hX55 none (chs [])).1 _ _ hG_q7
  have hG_q16 := (hX55 none (chs [])).1 _ _ hG_q16
  have hG_q30 := (hX55 none (chs [])).1 _ _ hG_q30
  have hG_q37 := (hX55 none (chs [])).1 _ _ hG_q37
  have hX := hX.tr (hX55 _ _)
  refine t_putF (v := .ref q55) (C := RX9) (T := TX9) (N := 9) (ty0 := tyX9) hx hb hts (by decide +kernel) tyX9_ok nmX9 hown hK hP hD hS hM_o rfl 6 (by decide) (hts (.fieldLink RX9 42 "ShadowBench" "listed" "[J") (by decide +kernel)) (fun _ h9 => h9) rfl hin2 rfl rfl rfl (Nat.le_of_ble_eq_true rfl) dX9_init_57 (fun H locs w57 hU57 hP hD hS => ?_)
  have hT := hT.up0 hU57 hO_o
  have hM_o : cIn w57 o (.inr (8, [.ref q7, .ref q16, .int (0 : Int32), .ref q30, .ref q37, .null, .ref q55, .int 0, .null])) := hU57.1
  have hX := hX.tr (cX.up hU57 (Or.inl rfl))
  refine lv_aload_n hx hb dX9_init_60 rfl (lv_at hl 0 rfl) ?_
  refine lv_iconst (v := 0) hx hb dX9_init_61 (by decide) ?_
  refine t_put (v := .int (0 : Int32)) (C := RX9) (T := TX9) (N := 9) (ty0 := tyX9) hx hb hts (by decide +kernel) tyX9_ok nmX9 hown hK hP hD hS hM_o rfl 7 (by decide) (hts (.fieldLink RX9 46 "ShadowBench" "listCount" "I") (by decide +kernel)) (fun _ h9 => h9) rfl rfl rfl (Nat.le_of_ble_eq_true rfl) dX9_init_62 (fun H locs w62 hU62 hP hD hS => ?_)
  have hT := hT.up0 hU62 hO_o
  have hM_o : cIn w62 o (.inr (8, [.ref q7, .ref q16, .int (0 : Int32), .ref q30, .ref q37, .null, .ref q55, .int (0 : Int32), .null])) := hU62.1
  have hX := hX.tr (cX.up hU62 (Or.inl rfl))
  refine lv_aload_n hx hb dX9_init_65 rfl (lv_at hl 0 rfl) ?_
  refine lv_null hx hb dX9_init_66 ?_
  refine t_put (v := .null) (C := RX9) (T := TX9) (N := 9) (ty0 := tyX9) hx hb hts (by decide +kernel) tyX9_ok nmX9 hown hK hP hD hS hM_o rfl 8 (by decide) (hts (.fieldLink RX9 49 "ShadowBench" "listBoard" "LShadowBench$Board;") (by decide +kernel)) (fun _ h9 => h9) rfl rfl rfl (Nat.le_of_ble_eq_true rfl) dX9_init_67 (fun H locs w67 hU67 hP hD hS => ?_)
  have hT := hT.up0 hU67 hO_o
  have hM_o : cIn w67 o (.inr (8, [.ref q7, .ref q16, .int (0 : Int32), .ref q30, .ref q37, .null, .ref q55, .int (0 : Int32), .null])) := hU67.1
  have hX := hX.tr (cX.up hU67 (Or.inl rfl))
  obtain ⟨Gk70, hGk⟩ : ∃ z, z = va_up G55 o (some (7, 0, 0)) := ⟨_, rfl⟩
  have hE9 : cE G55 Gk70 := by rw [hGk]; exact cE.add hO_o
  have hG_o : Gk70 o = some (7, 0, 0) := by rw [hGk]; simp [va_up]
  have hG_q7 := hE9 _ _ hG_q7
  have hG_q16 := hE9 _ _ hG_q16
  have hG_q30 := hE9 _ _ hG_q30
  have hG_q37 := hE9 _ _ hG_q37
  have hG_q55 := hE9 _ _ hG_q55
  have hT : cT cy Gk70 w67 := by rw [hGk]; exact hT.kind hO_o hM_o (by rw [← hGk]; exact ⟨_, _, _, _, _, _, _, none, none, rfl, ⟨by decide, by decide⟩, ⟨by decide, by decide⟩, hG_q7, hG_q16, hG_q30, hG_q37, (fun _ z => nomatch z), hG_q55, (fun _ z => nomatch z)⟩)
  have hX := hX.tr (show cX (some o) (chs []) G55 w67 Gk70 w67 by rw [hGk]; exact cX.kind hO_o)
  refine W.widen (k := 10) (n := 104) (Nat.le_of_ble_eq_true rfl) (Nat.le_of_ble_eq_true rfl) ?_
  exact W.vret hx hb hr (fun t ht hW => ⟨⟨(Gk70, w67), rfl, ⟨hX, hG_o, ⟨_, _, _, _, _, hM_o⟩⟩, by show va_P D vwCl w67 t.heap; rw [ht]; exact hP, hD, hT⟩, hS.F ht⟩) hS.2.2 dX9_init_70


section CQ42
variable {p : Program} {l : Launch} {e : Env} {R : Room} {s : State} {m : MethodId} {args : Array Value} {below : List Frame} {meth : Method} {c : Code} {H : Heap} {locs : List Loc} {cells slots : Nat} {Q : State → Prop}
variable {cc : ByteArray} {pc : Nat} {ls : Array Slot} {rest : List Value} {D : va_G} {cy : Nat → ClassId} {A : Nat → Prop} {ws : va_W} {G : cG} {H0 : Heap} {own : String} {index : Nat}
theorem t_newqK {C : String} {kd j : Nat} (hx : p.tables.exec = Jvm.exec) (hb : c.code = cc) (hown : s.vm.findClass own = some m.cls) (hcl : (Cond.classLink own index C).before args s = true) (hAO : va_AO C s) (hK : va_K D vwCl (cTy cy) s) (hP : va_P D vwCl ws H) (hD : va_D A ws) (hS : va_S A H0 H locs) (hA : ∀ q, H0.size ≤ q → A q) (hT : cT cy G ws) (hj : (cTy cy)[j]? = some (cy j, .object C)) (hok : ∀ (G' : cG) (N : Nat), cok cy G' (kd, N, 0) (.inl (cy j, cqa N (fun _ => none)))) {n : Int32} {N : Nat} (hn : ¬ n < 0) (hN : n.toNatClampNeg = N) (hB2 : N ≤ 100000) (hcells : cells + 1 ≤ R.cells) (hslots : slots + N ≤ R.slots) (hdg : decode cc pc = .ok (.anewarray index, 3))
    (kk : ∀ (q : Nat) (H1 : Heap) (ws1 : va_W) (G1 : cG), G1 q = some (kd, N, 0) → cIn ws1 q (.inl (cy j, cqa N (fun _ => none))) → G q = none → (∀ e, ¬ cIn ws q e) → (∀ q0 ch, cX q0 ch G ws G1 ws1) → (∀ a e, cIn ws a e → cIn ws1 a e) → (∀ a, a ≠ q → G1 a = G a) → va_P D vwCl ws1 H1 → va_D A ws1 → cT cy G1 ws1 → va_S A H0 H1 locs → W p l e R s m args below meth c H1 locs (cells + 1) (slots + N) Q (F0 m (pc + 3) ls (.ref q :: rest))) : W p l e R s m args below meth c H locs cells slots Q (F0 m pc ls (.int n :: rest)) := by
  refine va_newq (C := C) hx hb hown hcl hAO hK hP hD hS hA hn hN (by omega) hcells hslots hdg (fun q cA H1 hK1 hP1 hD1 hS1 => ?_)
  have e1 : cA = cy j := cy_obj (i := j) (j := 6) hK hK1 hj rfl
  subst e1
  have hg : G q = none := cG.none hT hD1
  have hni : ∀ e, ¬ cIn ws q e := c_fresh hD1
  refine kk q H1 _ (va_up G q (some (kd, N, 0))) (by simp [va_up]) cIn.new hg hni (fun q0 ch => ⟨cE.add hg, fun a e _ hi => hi.add, fun a t ht => ?_⟩) (fun a e hi => hi.add) (fun a ha => by simp [va_up, ha]) hP1 hD1 (hT.add hg (hok _ _)) hS1
  by_cases ha : a = q
  · subst ha; exact Or.inr (Or.inr hni)
  · exact Or.inl (by simpa [va_up, ha] using ht)
end CQ42
set_option maxHeartbeats 4000000 in
set_option maxRecDepth 100000 in
theorem c_X9_init_w (l : Launch) (D : va_G) (cy : Nat → ClassId) (A : Nat → Prop) (G : cG) (ws : va_W) (o : Nat)  (hD : va_D A ws) (hT : cT cy G ws) (hO_o : G o = none) (hM_o : cIn ws o (.inr (8, [.null, .null, .int 0, .null, .null, .null, .null, .int 0, .null])))  : Iv l D cy A yX9_init wsX9_init ({ frames := 2, cells := 10, slots := 104, locals := 40 }) 10 104 ws [.ref o] (fun u => cX (some o) (chs []) G ws u.1 u.2 ∧ u.1 o = some (7, 0, 0) ∧ (∃ bs js sh wk ll, cIn u.2 o (.inr (8, [.ref bs, .ref js, .int 0, .ref sh, .ref wk, .null, .ref ll, .int 0, .null])) ∧ cIn u.2 sh (.inl (cy 5, cqa 8 (fun _ => none))))) := by
  refine Met.ofW (cc := cX9_init) (maxL := 1) (ret := none) (by decide) rfl ?_
  intro p e s m args below meth c s₁ B hml hv
  obtain ⟨rfl, ⟨hP, hK, hA, hV⟩, hAO8, hAO9, hAO10⟩ := hv
  have hx := B.exec
  have hb := B.bytes
  have hr := B.returns
  have hts := atoms_spec (ws := wsX9_init) B.pre
  have hown : s.vm.findClass RX9 = some m.cls := findClass_of_methodNamed B.named
  have hlocks := B.notSynchronized
  have hS : va_S A s.heap s.heap [] := va_S.rf
  have hin2 : meth.name = "<init>" := (name_of_methodNamed B.named B.method).1
  have hX : cX (some o) (chs []) G ws G ws := cX.rf
  have hM0_o := hM_o
  have hl := lv_entry ([.ref o]) (n := 1) (Nat.le_of_ble_eq_true rfl)
  rw [lg_entry_eq]
  generalize (lg_sl ([.ref o]) ++ List.replicate (1 - (lg_sl ([.ref o])).length) Slot.unset).toArray = ls at hl ⊢
  have hl : lv_has ls 1 [(0, .ref o)] := hl
  have k_0 : (0 : Int32).toInt = 0 := by decide
  have k_8 : (8 : Int32).toInt = 8 := by decide
  have k_12 : (12 : Int32).toInt = 12 := by decide
  have k_36 : (36 : Int32).toInt = 36 := by decide
  refine lv_aload_n hx hb dX9_init_0 rfl (lv_at hl 0 rfl) ?_
  refine W.objInit hx hb hown (hts (.methodLink RX9 1 objectInit) (by decide +kernel)) (hts (.instanceMethod objectInit) (by decide +kernel)) (hts (.code objectInit ⟨#[0xb1]⟩ 1 none) (by decide +kernel)) rfl (by rw [hml]; exact hl.1) rfl dX9_init_1 (Nat.le_of_ble_eq_true rfl) (Nat.le_of_ble_eq_true rfl) ?_
  refine W.eq (g2 := F0 m 4 ls []) rfl ?_
  refine lv_aload_n hx hb dX9_init_4 rfl (lv_at hl 0 rfl) ?_
  refine lv_bipush (v := 36) hx hb dX9_init_5 (by decide) ?_
  refine t_newq (kd := 8) (j := 3) (C := RX0) hx hb hown (hts (.classLink RX9 7 RX0) (by decide +kernel)) hAO8 hK hP hD hS hA hT rfl (fun _ _ => ⟨_, rfl, fun _ _ _ z => nomatch z⟩) (N := 36) (by decide) rfl (by decide) (Nat.le_of_ble_eq_true rfl) (Nat.le_of_ble_eq_true rfl) dX9_init_7 (fun q7 H w7 G7 hG_q7 hz7 hF7 hX7 hk7 hg7 hP hD hT hS => ?_)
  have hN_q7 := hX.new1 hM_o hz7 hF7
  have hO_o := (hg7 o (fun z => hF7 _ (z ▸ hM_o))).trans hO_o
  have hM_o := hk7 _ _ hM_o
  have hX := hX.tr (hX7 _ _)
  refine t_putF (v := .ref q7) (C := RX9) (T := TX9) (N := 9) (ty0 := tyX9) hx hb hts (by decide +kernel) tyX9_ok nmX9 hown hK hP hD hS hM_o rfl 0 (by decide) (hts (.fieldLink RX9 9 "ShadowBench" "boards" "[LShadowBench$Board;") (by decide +kernel)) (fun _ h9 => h9) rfl hin2 rfl rfl rfl (Nat.le_of_ble_eq_true rfl) dX9_init_10 (fun H locs w10 hU10 hP hD hS => ?_)
  have hT := hT.up0 hU10 hO_o
  have hM_o : cIn w10 o (.inr (8, [.ref q7, .null, .int 0, .null, .null, .null, .null, .int 0, .null])) := hU10.1
  have hX := hX.tr (cX.up hU10 (Or.inl rfl))
  refine lv_aload_n hx hb dX9_init_13 rfl (lv_at hl 0 rfl) ?_
  refine lv_bipush (v := 8) hx hb dX9_init_14 (by decide) ?_
  refine t_newq (kd := 9) (j := 4) (C := RX3) hx hb hown (hts (.classLink RX9 15 RX3) (by decide +kernel)) hAO9 hK hP hD hS hA hT rfl (fun _ _ => ⟨_, rfl, fun _ _ _ z => nomatch z⟩) (N := 8) (by decide) rfl (by decide) (Nat.le_of_ble_eq_true rfl) (Nat.le_of_ble_eq_true rfl) dX9_init_16 (fun q16 H w16 G16 hG_q16 hz16 hF16 hX16 hk16 hg16 hP hD hT hS => ?_)
  have hN_q16 := hX.new1 hM_o hz16 hF16
  have hO_o := (hg16 o (fun z => hF16 _ (z ▸ hM_o))).trans hO_o
  have hM_o := hk16 _ _ hM_o
  have hG_q7 := (hX16 none (chs [])).1 _ _ hG_q7
  have hX := hX.tr (hX16 _ _)
  refine t_putF (v := .ref q16) (C := RX9) (T := TX9) (N := 9) (ty0 := tyX9) hx hb hts (by decide +kernel) tyX9_ok nmX9 hown hK hP hD hS hM_o rfl 1 (by decide) (hts (.fieldLink RX9 17 "ShadowBench" "jobs" "[LShadowBench$Job;") (by decide +kernel)) (fun _ h9 => h9) rfl hin2 rfl rfl rfl (Nat.le_of_ble_eq_true rfl) dX9_init_19 (fun H locs w19 hU19 hP hD hS => ?_)
  have hT := hT.up0 hU19 hO_o
  have hM_o : cIn w19 o (.inr (8, [.ref q7, .ref q16, .int 0, .null, .null, .null, .null, .int 0, .null])) := hU19.1
  have hX := hX.tr (cX.up hU19 (Or.inl rfl))
  refine lv_aload_n hx hb dX9_init_22 rfl (lv_at hl 0 rfl) ?_
  refine lv_iconst (v := 0) hx hb dX9_init_23 (by decide) ?_
  refine t_put (v := .int (0 : Int32)) (C := RX9) (T := TX9) (N := 9) (ty0 := tyX9) hx hb hts (by decide +kernel) tyX9_ok nmX9 hown hK hP hD hS hM_o rfl 2 (by decide) (hts (.fieldLink RX9 21 "ShadowBench" "jobCount" "I") (by decide +kernel)) (fun _ h9 => h9) rfl rfl rfl (Nat.le_of_ble_eq_true rfl) dX9_init_24 (fun H locs w24 hU24 hP hD hS => ?_)
  have hT := hT.up0 hU24 hO_o
  have hM_o : cIn w24 o (.inr (8, [.ref q7, .ref q16, .int (0 : Int32), .null, .null, .null, .null, .int 0, .null])) := hU24.1
  have hX := hX.tr (cX.up hU24 (Or.inl rfl))
  refine lv_aload_n hx hb dX9_init_27 rfl (lv_at hl 0 rfl) ?_
  refine lv_bipush (v := 8) hx hb dX9_init_28 (by decide) ?_
  refine t_newqK (kd := 10) (j := 5) (C := RX2) hx hb hown (hts (.classLink RX9 25 RX2) (by decide +kernel)) hAO10 hK hP hD hS hA hT rfl (fun _ _ => ⟨_, rfl, fun _ _ _ z => nomatch z⟩) (N := 8) (by decide) rfl (by decide) (Nat.le_of_ble_eq_true rfl) (Nat.le_of_ble_eq_true rfl) dX9_init_30 (fun q30 H w30 G30 hG_q30 hMn30 hz30 hF30 hX30 hk30 hg30 hP hD hT hS => ?_)
  have hN_q30 := hX.new1 hM_o hz30 hF30
  have hO_o := (hg30 o (fun z => hF30 _ (z ▸ hM_o))).trans hO_o
  have hM_o := hk30 _ _ hM_o
  have hG_q7 := (hX30 none (chs [])).1 _ _ hG_q7
  have hG_q16 := (hX30 none (chs [])).1 _ _ hG_q16
  have hX := hX.tr (hX30 _ _)
  have hM_q30 := hMn30
  have hf_q30 : ∀ i x, i < 8 → (fun _ : Nat => (none : Option Nat)) i = some x → (∃ k n, G30 x = some (3, k, n)) ∨ ∃ n, G30 x = some (4, n, 0) := fun _ _ _ z => nomatch z
  refine t_putF (v := .ref q30) (C := RX9) (T := TX9) (N := 9) (ty0 := tyX9) hx hb hts (by decide +kernel) tyX9_ok nmX9 hown hK hP hD hS hM_o rfl 3 (by decide) (hts (.fieldLink RX9 27 "ShadowBench" "shelves" "[LShadowBench$Held;") (by decide +kernel)) (fun _ h9 => h9) rfl hin2 rfl rfl rfl (Nat.le_of_ble_eq_true rfl) dX9_init_33 (fun H locs w33 hU33 hP hD hS => ?_)
  have hM_q30 := hU33.2 _ _ (Ne.symm (cne0 hO_o hG_q30)) hM_q30
  have hT := hT.up0 hU33 hO_o
  have hM_o : cIn w33 o (.inr (8, [.ref q7, .ref q16, .int (0 : Int32), .ref q30, .null, .null, .null, .int 0, .null])) := hU33.1
  have hX := hX.tr (cX.up hU33 (Or.inl rfl))
  refine lv_aload_n hx hb dX9_init_36 rfl (lv_at hl 0 rfl) ?_
  refine t_new (C := RX8) (T := TX8) (N := 10) (ci := 7) (ty0 := tyX8) (fs := [.null, .int 0, .int 0, .int 0, .long 0, .null, .null, .null, .null, .null]) hx hb hts (by decide +kernel) tyX8_ok hown (hts (.classLink RX9 31 RX8) (by decide +kernel)) (hts (.instantiable RX8 10) (by decide +kernel)) (hts (.initialized RX8) (by decide +kernel)) hK hP hD hS hA hT rfl (by decide +kernel) (Nat.le_of_ble_eq_true rfl) (Nat.le_of_ble_eq_true rfl) dX9_init_37 (fun q37 H w37 hM_q37 hO_q37 hF37 hX37 hk37 hP hD hT hS => ?_)
  have hN_q37 := hX.new1 hM_o hO_q37 hF37
  have hM_o := hk37 _ _ hM_o
  have hM_q30 := hk37 _ _ hM_q30
  have hX := hX.tr (hX37 _ _)
  refine lv_dup hx hb dX9_init_40 rfl ?_
  refine t_callv (va_runIN (g := F0 m 41 ls ([.ref q37, .ref q37, .ref o])) (As := []) (rest := [.ref q37, .ref o]) (b := q37) ⟨hx, hb, hml, hown, hts⟩ (c_X8_init l D cy A G30 w37 q37 hD hT hO_q37 hM_q37 ) ⟨va_cnB 0 hts gX9_init_X8_init_n33 rfl rfl rfl hV.1.1 (hts (.initialized RX8) (by decide +kernel)) (by decide +kernel) ⟨Nat.le_of_ble_eq_true rfl, Nat.le_of_ble_eq_true rfl⟩, rfl, hts (.instanceMethod yX8_init) (by decide +kernel)⟩ (c_preS hP hK hA hS hV) rfl rfl hl.1 rfl (lv_room (Nat.le_of_ble_eq_true rfl)) dX9_init_41 ⟨Nat.le_of_ble_eq_true rfl, Nat.le_of_ble_eq_true rfl⟩) hS (fun u H locs q41 hP9 hD9 hT9 hS => ?_)
  obtain ⟨G41, w41⟩ := u
  obtain ⟨hX9, q41⟩ := q41
  have hX9 : cX (some q37) (chs []) G30 w37 G41 w41 := hX9
  have hP : va_P D vwCl w41 H := hP9
  have hD : va_D A w41 := hD9
  have hT : cT cy G41 w41 := hT9
  have hne_o_q37 : o ≠ q37 := fun z => hN_q37 _ (z ▸ hM0_o)
  have hO9_o := hX9.none0 (cP.no01 hne_o_q37 hO_o) hO_o hM_o
  have hM_o := hX9.2.1 _ _ (cP.no01 hne_o_q37 hO_o) hM_o
  have hM_q30 := hX9.2.1 _ _ (cP.no1 (Ne.symm (cne0 hO_q37 hG_q30)) hG_q30 rfl) hM_q30
  have hG_q7 := hX9.1 _ _ hG_q7
  have hG_q16 := hX9.1 _ _ hG_q16
  have hG_q30 := hX9.1 _ _ hG_q30
  have hf_q30 := fun i9 x9 (h9 : i9 < 8) z9 => hf10_up hX9.1 (hf_q30 i9 x9 h9 z9)
  have hO_o := hO9_o
  have hG_q37 : G41 q37 = some (5, 0, 0) := q41.1
  have q41 := q41.2
  have hX := hX.trN hN_q37 hX9
  refine t_putF (v := .ref q37) (C := RX9) (T := TX9) (N := 9) (ty0 := tyX9) hx hb hts (by decide +kernel) tyX9_ok nmX9 hown hK hP hD hS hM_o rfl 4 (by decide) (hts (.fieldLink RX9 34 "ShadowBench" "walk" "LShadowBench$Walk;") (by decide +kernel)) (fun _ h9 => h9) rfl hin2 rfl rfl rfl (Nat.le_of_ble_eq_true rfl) dX9_init_44 (fun H locs w44 hU44 hP hD hS => ?_)
  have hM_q30 := hU44.2 _ _ (Ne.symm (cne0 hO_o hG_q30)) hM_q30
  have hT := hT.up0 hU44 hO_o
  have hM_o : cIn w44 o (.inr (8, [.ref q7, .ref q16, .int (0 : Int32), .ref q30, .ref q37, .null, .null, .int 0, .null])) := hU44.1
  have hX := hX.tr (cX.up hU44 (Or.inl rfl))
  refine lv_aload_n hx hb dX9_init_47 rfl (lv_at hl 0 rfl) ?_
  refine lv_null hx hb dX9_init_48 ?_
  refine t_put (v := .null) (C := RX9) (T := TX9) (N := 9) (ty0 := tyX9) hx hb hts (by decide +kernel) tyX9_ok nmX9 hown hK hP hD hS hM_o rfl 5 (by decide) (hts (.fieldLink RX9 38 "ShadowBench" "meetings" "LShadowBench$Meetings;") (by decide +kernel)) (fun _ h9 => h9) rfl rfl rfl (Nat.le_of_ble_eq_true rfl) dX9_init_49 (fun H locs w49 hU49 hP hD hS => ?_)
  have hM_q30 := hU49.2 _ _ (Ne.symm (cne0 hO_o hG_q30)) hM_q30
  have hT := hT.up0 hU49 hO_o
  have hM_o : cIn w49 o (.inr (8, [.ref q7, .ref q16, .int (0 : Int32), .ref q30, .ref q37, .null, .null, .int 0, .null])) := hU49.1
  have hX := hX.tr (cX.up hU49 (Or.inl rfl))
  refine lv_aload_n hx hb dX9_init_52 rfl (lv_at hl 0 rfl) ?_
  refine lv_bipush (v := 12) hx hb dX9_init_53 (by decide) ?_
  refine t_newl hx hb (hts (.arrayClass .long) (by decide +kernel)) hK hP hD hS hA hT (kd9 := 17) (Or.inr (Or.inr rfl)) 12 (N := 12) (by decide) rfl (by omega) (by decide) (Nat.le_of_ble_eq_true rfl) (Nat.le_of_ble_eq_true rfl) dX9_init_55 (fun q55 H w55 G55 hG_q55 hz55 hF55 hX55 hk55 hg55 hP hD hT hS => ?_)
  have hN_q55 := hX.new1 hM_o hz55 hF55
  have hO_o := (hg55 o (fun z => hF55 _ (z ▸ hM_o))).trans hO_o
  have hM_o := hk55 _ _ hM_o
  have hM_q30 := hk55 _ _ hM_q30
  have hG_q7 := (hX55 none (chs [])).1 _ _ hG_q7
  have hG_q16 := (hX55 none (chs [])).1 _ _ hG_q16
  have hG_q30 := (hX55 none (chs [])).1 _ _ hG_q30
  have hG_q37 := (hX55 none (chs [])).1 _ _ hG_q37
  have hX := hX.tr (hX55 _ _)
  refine t_putF (v := .ref q55) (C := RX9) (T := TX9) (N := 9) (ty0 := tyX9) hx hb hts (by decide +kernel) tyX9_ok nmX9 hown hK hP hD hS hM_o rfl 6 (by decide) (hts (.fieldLink RX9 42 "ShadowBench" "listed" "[J") (by decide +kernel)) (fun _ h9 => h9) rfl hin2 rfl rfl rfl (Nat.le_of_ble_eq_true rfl) dX9_init_57 (fun H locs w57 hU57 hP hD hS => ?_)
  have hM_q30 := hU57.2 _ _ (Ne.symm (cne0 hO_o hG_q30)) hM_q30
  have hT := hT.up0 hU57 hO_o
  have hM_o : cIn w57 o (.inr (8, [.ref q7, .ref q16, .int (0 : Int32), .ref q30, .ref q37, .null, .ref q55, .int 0, .null])) := hU57.1
  have hX := hX.tr (cX.up hU57 (Or.inl rfl))
  refine lv_aload_n hx hb dX9_init_60 rfl (lv_at hl 0 rfl) ?_
  refine lv_iconst (v := 0) hx hb dX9_init_61 (by decide) ?_
  refine t_put (v := .int (0 : Int32)) (C := RX9) (T := TX9) (N := 9) (ty0 := tyX9) hx hb hts (by decide +kernel) tyX9_ok nmX9 hown hK hP hD hS hM_o rfl 7 (by decide) (hts (.fieldLink RX9 46 "ShadowBench" "listCount" "I") (by decide +kernel)) (fun _ h9 => h9) rfl rfl rfl (Nat.le_of_ble_eq_true rfl) dX9_init_62 (fun H locs w62 hU62 hP hD hS => ?_)
  have hM_q30 := hU62.2 _ _ (Ne.symm (cne0 hO_o hG_q30)) hM_q30
  have hT := hT.up0 hU62 hO_o
  have hM_o : cIn w62 o (.inr (8, [.ref q7, .ref q16, .int (0 : Int32), .ref q30, .ref q37, .null, .ref q55, .int (0 : Int32), .null])) := hU62.1
  have hX := hX.tr (cX.up hU62 (Or.inl rfl))
  refine lv_aload_n hx hb dX9_init_65 rfl (lv_at hl 0 rfl) ?_
  refine lv_null hx hb dX9_init_66 ?_
  refine t_put (v := .null) (C := RX9) (T := TX9) (N := 9) (ty0 := tyX9) hx hb hts (by decide +kernel) tyX9_ok nmX9 hown hK hP hD hS hM_o rfl 8 (by decide) (hts (.fieldLink RX9 49 "ShadowBench" "listBoard" "LShadowBench$Board;") (by decide +kernel)) (fun _ h9 => h9) rfl rfl rfl (Nat.le_of_ble_eq_true rfl) dX9_init_67 (fun H locs w67 hU67 hP hD hS => ?_)
  have hM_q30 := hU67.2 _ _ (Ne.symm (cne0 hO_o hG_q30)) hM_q30
  have hT := hT.up0 hU67 hO_o
  have hM_o : cIn w67 o (.inr (8, [.ref q7, .ref q16, .int (0 : Int32), .ref q30, .ref q37, .null, .ref q55, .int (0 : Int32), .null])) := hU67.1
  have hX := hX.tr (cX.up hU67 (Or.inl rfl))
  obtain ⟨Gk70, hGk⟩ : ∃ z, z = va_up G55 o (some (7, 0, 0)) := ⟨_, rfl⟩
  have hE9 : cE G55 Gk70 := by rw [hGk]; exact cE.add hO_o
  have hG_o : Gk70 o = some (7, 0, 0) := by rw [hGk]; simp [va_up]
  have hG_q7 := hE9 _ _ hG_q7
  have hG_q16 := hE9 _ _ hG_q16
  have hG_q30 := hE9 _ _ hG_q30
  have hG_q37 := hE9 _ _ hG_q37
  have hG_q55 := hE9 _ _ hG_q55
  have hT : cT cy Gk70 w67 := by rw [hGk]; exact hT.kind hO_o hM_o (by rw [← hGk]; exact ⟨_, _, _, _, _, _, _, none, none, rfl, ⟨by decide, by decide⟩, ⟨by decide, by decide⟩, hG_q7, hG_q16, hG_q30, hG_q37, (fun _ z => nomatch z), hG_q55, (fun _ z => nomatch z)⟩)
  have hX := hX.tr (show cX (some o) (chs []) G55 w67 Gk70 w67 by rw [hGk]; exact cX.kind hO_o)
  refine W.widen (k := 10) (n := 104) (Nat.le_of_ble_eq_true rfl) (Nat.le_of_ble_eq_true rfl) ?_
  exact W.vret hx hb hr (fun t ht hW => ⟨⟨(Gk70, w67), rfl, ⟨hX, hG_o, ⟨_, _, _, _, _, hM_o, hM_q30⟩⟩, by show va_P D vwCl w67 t.heap; rw [ht]; exact hP, hD, hT⟩, hS.F ht⟩) hS.2.2 dX9_init_70

/-- the answers of an object without jobs and with bare shelves -/
def keO (d what : Int32) : Int32 := if (0 ≤ d.toInt ∧ d.toInt < 8) ∧ what.toInt = 0 then 0 else -1
def cpO (d e : Int32) : Int32 := if (0 ≤ d.toInt ∧ d.toInt < 8) ∧ (0 ≤ e.toInt ∧ e.toInt < 8) then -11 else -1
def laO (d k : Int32) : Int64 := if (0 ≤ d.toInt ∧ d.toInt < 8) ∧ (0 ≤ k.toInt ∧ k.toInt < 9) then -11 else -1
def toO (d : Int32) : Int32 := if 0 ≤ d.toInt ∧ d.toInt < 8 then -11 else -1
def exO (d k : Int32) : Prop := (k = 1 ∧ ¬ (0 ≤ d.toInt ∧ d.toInt < 8)) ∨ (k = 2 ∧ (0 ≤ d.toInt ∧ d.toInt < 8))
theorem exO_eq {d k t : Int32} (h : exO d k) (z : exO d t) : t = k := by
  rcases h with ⟨a, b⟩ | ⟨a, b⟩ <;> rcases z with ⟨c, e⟩ | ⟨c, e⟩
  · rw [a, c]
  · exact absurd e b
  · exact absurd b e
  · rw [a, c]
theorem exO_nz {d k : Int32} (h : exO d k) : k ≠ 0 := by
  rcases h with ⟨a, b⟩ | ⟨a, b⟩
  · rw [a]; decide
  · rw [a]; decide
set_option maxHeartbeats 4000000 in
set_option maxRecDepth 100000 in
theorem c_X9_jobOf_0 (l : Launch) (D : va_G) (cy : Nat → ClassId) (A : Nat → Prop) (G : cG) (ws : va_W) (o : Nat) (j : Int32) {bs_o js_o sh_o wk_o ll_o : Nat} {jc_o lc_o : Int32} {mo_o lb_o : Option Nat} (hD : va_D A ws) (hT : cT cy G ws) (hG_o : G o = some (7, 0, 0)) (hM_o : cIn ws o (.inr (8, [.ref bs_o, .ref js_o, .int jc_o, .ref sh_o, .ref wk_o, va_rf mo_o, .ref ll_o, .int lc_o, va_rf lb_o]))) (hj0 : jc_o.toInt = 0) : Ca l D cy A yX9_jobOf wsX9_jobOf ({ frames := 0, cells := 0, slots := 0, locals := 0 }) 0 0 ws [.ref o, .int j] (fun r0 u => u = (G, ws) ∧ (r0 = none)) := by
  refine Met.ofW (cc := cX9_jobOf) (maxL := 2) (ret := (some (.object "ShadowBench$Job"))) (by decide) rfl ?_
  intro p e s m args below meth c s₁ B hml hv
  obtain ⟨rfl, hP, hK, hA, hV⟩ := hv
  have hx := B.exec
  have hb := B.bytes
  have hr := B.returns
  have hts := atoms_spec (ws := wsX9_jobOf) B.pre
  have hown : s.vm.findClass RX9 = some m.cls := findClass_of_methodNamed B.named
  have hlocks := B.notSynchronized
  have hS : va_S A s.heap s.heap [] := va_S.rf
  have hl := lv_entry ([.ref o, .int j]) (n := 2) (Nat.le_of_ble_eq_true rfl)
  rw [lg_entry_eq]
  generalize (lg_sl ([.ref o, .int j]) ++ List.replicate (2 - (lg_sl ([.ref o, .int j])).length) Slot.unset).toArray = ls at hl ⊢
  have hl : lv_has ls 2 [(0, .ref o), (1, .int j)] := hl
  have k_0 : (0 : Int32).toInt = 0 := by decide
  have k_8 : (8 : Int32).toInt = 8 := by decide
  obtain ⟨hjc_o, hlc_o, hG_bs_o, hG_js_o, hG_sh_o, hG_wk_o, hmo_o, hG_ll_o, hlb_o⟩ := w7sh hD hT hG_o hM_o
  refine lv_iload_n hx hb dX9_jobOf_0 rfl (lv_at hl 1 rfl) ?_
  refine lv_if_lt (tgt := 27) hx hb dX9_jobOf_1 (by decide) (fun c1 => ?_) (fun c1 => ?_)
  · skip
    have d1 := c1
    rw [fa_lt] at d1
    refine lv_null hx hb dX9_jobOf_27 ?_
    exact W.aret (v := .null) hx hb hr (Or.inl ⟨_, rfl⟩) (Or.inl rfl) (fun t ht hW => ⟨⟨none, (G, ws), rfl, ⟨rfl, rfl⟩, by show va_P D vwCl ws t.heap; rw [ht]; exact hP, hD, hT⟩, hS.F ht⟩) hS.2.2 dX9_jobOf_28
  · skip
    have d1 := c1
    rw [fa_lt] at d1
    refine lv_iload_n hx hb dX9_jobOf_4 rfl (lv_at hl 1 rfl) ?_
    refine lv_aload_n hx hb dX9_jobOf_5 rfl (lv_at hl 0 rfl) ?_
    refine t_get (v := .int jc_o) (C := RX9) (T := TX9) (N := 9) hx hb hts (by decide +kernel) hown hK hP hM_o rfl 2 (by decide) (hts (.fieldLink RX9 21 "ShadowBench" "jobCount" "I") (by decide +kernel)) (fun _ h9 => h9) rfl dX9_jobOf_6 ?_
    refine lv_icmp_ge (tgt := 27) hx hb dX9_jobOf_9 (by decide) (fun c9 => ?_) (fun c9 => ?_)
    · skip
      have d9 := c9
      rw [fa_le] at d9
      refine lv_null hx hb dX9_jobOf_27 ?_
      exact W.aret (v := .null) hx hb hr (Or.inl ⟨_, rfl⟩) (Or.inl rfl) (fun t ht hW => ⟨⟨none, (G, ws), rfl, ⟨rfl, rfl⟩, by show va_P D vwCl ws t.heap; rw [ht]; exact hP, hD, hT⟩, hS.F ht⟩) hS.2.2 dX9_jobOf_28
    · skip
      have d9 := c9
      rw [fa_le] at d9
      refine lv_iload_n hx hb dX9_jobOf_12 rfl (lv_at hl 1 rfl) ?_
      refine lv_bipush (v := 8) hx hb dX9_jobOf_13 (by decide) ?_
      refine lv_icmp_ge (tgt := 27) hx hb dX9_jobOf_15 (by decide) (fun c15 => ?_) (fun c15 => ?_)
      · skip
        have d15 := c15
        rw [fa_le] at d15
        refine lv_null hx hb dX9_jobOf_27 ?_
        exact W.aret (v := .null) hx hb hr (Or.inl ⟨_, rfl⟩) (Or.inl rfl) (fun t ht hW => ⟨⟨none, (G, ws), rfl, ⟨rfl, rfl⟩, by show va_P D vwCl ws t.heap; rw [ht]; exact hP, hD, hT⟩, hS.F ht⟩) hS.2.2 dX9_jobOf_28
      · skip
        have d15 := c15
        rw [fa_le] at d15
        exfalso; omega
set_option maxHeartbeats 4000000 in
set_option maxRecDepth 100000 in
theorem c_X9_sum_0 (l : Launch) (D : va_G) (cy : Nat → ClassId) (A : Nat → Prop) (G : cG) (ws : va_W) (o : Nat) (j : Int32) (way : Int32) (line : Int32) (v : Int32) {bs_o js_o sh_o wk_o ll_o : Nat} {jc_o lc_o : Int32} {mo_o lb_o : Option Nat} (hD : va_D A ws) (hT : cT cy G ws) (hG_o : G o = some (7, 0, 0)) (hM_o : cIn ws o (.inr (8, [.ref bs_o, .ref js_o, .int jc_o, .ref sh_o, .ref wk_o, va_rf mo_o, .ref ll_o, .int lc_o, va_rf lb_o]))) (hj0 : jc_o.toInt = 0) : Ci l D cy A yX9_sum wsX9_sum ({ frames := 1, cells := 0, slots := 0, locals := 21 }) 0 0 ws [.ref o, .int j, .int way, .int line, .int v] (fun r0 u => u = (G, ws) ∧ (r0 = -1)) := by
  refine Met.ofW (cc := cX9_sum) (maxL := 6) (ret := (some .int)) (by decide) rfl ?_
  intro p e s m args below meth c s₁ B hml hv
  obtain ⟨rfl, hP, hK, hA, hV⟩ := hv
  have hx := B.exec
  have hb := B.bytes
  have hr := B.returns
  have hts := atoms_spec (ws := wsX9_sum) B.pre
  have hown : s.vm.findClass RX9 = some m.cls := findClass_of_methodNamed B.named
  have hlocks := B.notSynchronized
  have hS : va_S A s.heap s.heap [] := va_S.rf
  have hl := lv_entry ([.ref o, .int j, .int way, .int line, .int v]) (n := 6) (Nat.le_of_ble_eq_true rfl)
  rw [lg_entry_eq]
  generalize (lg_sl ([.ref o, .int j, .int way, .int line, .int v]) ++ List.replicate (6 - (lg_sl ([.ref o, .int j, .int way, .int line, .int v])).length) Slot.unset).toArray = ls at hl ⊢
  have hl : lv_has ls 6 [(0, .ref o), (1, .int j), (2, .int way), (3, .int line), (4, .int v)] := hl
  have k_m1 : (-1 : Int32).toInt = -1 := by decide
  have k_0 : (0 : Int32).toInt = 0 := by decide
  obtain ⟨hjc_o, hlc_o, hG_bs_o, hG_js_o, hG_sh_o, hG_wk_o, hmo_o, hG_ll_o, hlb_o⟩ := w7sh hD hT hG_o hM_o
  refine lv_aload_n hx hb dX9_sum_0 rfl (lv_at hl 0 rfl) ?_
  refine lv_iload_n hx hb dX9_sum_1 rfl (lv_at hl 1 rfl) ?_
  refine t_calla (va_runV (g := F0 m 2 ls ([.int j, .ref o])) (As := [.int j]) (rest := []) ⟨hx, hb, hml, hown, hts⟩ (c_X9_jobOf_0 l D cy A G ws o j hD hT hG_o hM_o hj0) (cwV 1 hts gX9_sum_X9_jobOf rfl rfl rfl (by decide +kernel) ⟨Nat.le_of_ble_eq_true rfl, Nat.le_of_ble_eq_true rfl⟩) (c_preV hM_o rfl hP hK hA hS hV) rfl rfl hl.1 rfl (lv_room (Nat.le_of_ble_eq_true rfl)) dX9_sum_2 ⟨Nat.le_of_ble_eq_true rfl, Nat.le_of_ble_eq_true rfl⟩) hS (fun r2 u H locs q2 hP9 hD9 hT9 hS => ?_)
  obtain ⟨rfl, q2⟩ := q2
  have hP : va_P D vwCl ws H := hP9
  subst q2
  refine lv_astoreN (lv' := [(5, .null), (0, .ref o), (1, .int j), (2, .int way), (3, .int line), (4, .int v)]) hx hb dX9_sum_5 hl (by decide) rfl (fun ls hl => ?_)
  refine lv_aloadN hx hb dX9_sum_7 (lv_at hl 0 rfl) ?_
  refine lv_ifnullN (tgt := 37) hx hb dX9_sum_9 (by decide) ?_
  refine lv_iconst (v := (-1)) hx hb dX9_sum_37 (by decide) ?_
  exact W.iret (v := ((-1) : Int32)) hx hb hr (fun t ht hW => ⟨⟨_, (G, ws), rfl, ⟨rfl, rfl⟩, by show va_P D vwCl ws t.heap; rw [ht]; exact hP, hD, hT⟩, hS.F ht⟩) hS.2.2 dX9_sum_38
set_option maxHeartbeats 4000000 in
set_option maxRecDepth 100000 in
theorem c_X9_cast_0 (l : Launch) (D : va_G) (cy : Nat → ClassId) (A : Nat → Prop) (G : cG) (ws : va_W) (o : Nat) (j : Int32) (way : Int32) (p0 : Int64) {bs_o js_o sh_o wk_o ll_o : Nat} {jc_o lc_o : Int32} {mo_o lb_o : Option Nat} (hD : va_D A ws) (hT : cT cy G ws) (hG_o : G o = some (7, 0, 0)) (hM_o : cIn ws o (.inr (8, [.ref bs_o, .ref js_o, .int jc_o, .ref sh_o, .ref wk_o, va_rf mo_o, .ref ll_o, .int lc_o, va_rf lb_o]))) (hj0 : jc_o.toInt = 0) : Ci l D cy A yX9_cast wsX9_cast ({ frames := 1, cells := 0, slots := 0, locals := 21 }) 0 0 ws [.ref o, .int j, .int way, .long p0] (fun r0 u => u = (G, ws) ∧ (r0 = -1)) := by
  refine Met.ofW (cc := cX9_cast) (maxL := 6) (ret := (some .int)) (by decide) rfl ?_
  intro p e s m args below meth c s₁ B hml hv
  obtain ⟨rfl, hP, hK, hA, hV⟩ := hv
  have hx := B.exec
  have hb := B.bytes
  have hr := B.returns
  have hts := atoms_spec (ws := wsX9_cast) B.pre
  have hown : s.vm.findClass RX9 = some m.cls := findClass_of_methodNamed B.named
  have hlocks := B.notSynchronized
  have hS : va_S A s.heap s.heap [] := va_S.rf
  have hl := lv_entry ([.ref o, .int j, .int way, .long p0]) (n := 6) (Nat.le_of_ble_eq_true rfl)
  rw [lg_entry_eq]
  generalize (lg_sl ([.ref o, .int j, .int way, .long p0]) ++ List.replicate (6 - (lg_sl ([.ref o, .int j, .int way, .long p0])).length) Slot.unset).toArray = ls at hl ⊢
  have hl : lv_has ls 6 [(0, .ref o), (1, .int j), (2, .int way), (3, .long p0)] := hl
  have k_m1 : (-1 : Int32).toInt = -1 := by decide
  have k_0 : (0 : Int32).toInt = 0 := by decide
  obtain ⟨hjc_o, hlc_o, hG_bs_o, hG_js_o, hG_sh_o, hG_wk_o, hmo_o, hG_ll_o, hlb_o⟩ := w7sh hD hT hG_o hM_o
  refine lv_aload_n hx hb dX9_cast_0 rfl (lv_at hl 0 rfl) ?_
  refine lv_iload_n hx hb dX9_cast_1 rfl (lv_at hl 1 rfl) ?_
  refine t_calla (va_runV (g := F0 m 2 ls ([.int j, .ref o])) (As := [.int j]) (rest := []) ⟨hx, hb, hml, hown, hts⟩ (c_X9_jobOf_0 l D cy A G ws o j hD hT hG_o hM_o hj0) (cwV 1 hts gX9_cast_X9_jobOf rfl rfl rfl (by decide +kernel) ⟨Nat.le_of_ble_eq_true rfl, Nat.le_of_ble_eq_true rfl⟩) (c_preV hM_o rfl hP hK hA hS hV) rfl rfl hl.1 rfl (lv_room (Nat.le_of_ble_eq_true rfl)) dX9_cast_2 ⟨Nat.le_of_ble_eq_true rfl, Nat.le_of_ble_eq_true rfl⟩) hS (fun r2 u H locs q2 hP9 hD9 hT9 hS => ?_)
  obtain ⟨rfl, q2⟩ := q2
  have hP : va_P D vwCl ws H := hP9
  subst q2
  refine lv_astoreN (lv' := [(5, .null), (0, .ref o), (1, .int j), (2, .int way), (3, .long p0)]) hx hb dX9_cast_5 hl (by decide) rfl (fun ls hl => ?_)
  refine lv_aloadN hx hb dX9_cast_7 (lv_at hl 0 rfl) ?_
  refine lv_ifnullN (tgt := 31) hx hb dX9_cast_9 (by decide) ?_
  refine lv_iconst (v := (-1)) hx hb dX9_cast_31 (by decide) ?_
  exact W.iret (v := ((-1) : Int32)) hx hb hr (fun t ht hW => ⟨⟨_, (G, ws), rfl, ⟨rfl, rfl⟩, by show va_P D vwCl ws t.heap; rw [ht]; exact hP, hD, hT⟩, hS.F ht⟩) hS.2.2 dX9_cast_32
set_option maxHeartbeats 4000000 in
set_option maxRecDepth 100000 in
theorem c_X9_untell_0 (l : Launch) (D : va_G) (cy : Nat → ClassId) (A : Nat → Prop) (G : cG) (ws : va_W) (o : Nat) (j : Int32) (way : Int32) {bs_o js_o sh_o wk_o ll_o : Nat} {jc_o lc_o : Int32} {mo_o lb_o : Option Nat} (hD : va_D A ws) (hT : cT cy G ws) (hG_o : G o = some (7, 0, 0)) (hM_o : cIn ws o (.inr (8, [.ref bs_o, .ref js_o, .int jc_o, .ref sh_o, .ref wk_o, va_rf mo_o, .ref ll_o, .int lc_o, va_rf lb_o]))) (hj0 : jc_o.toInt = 0) : Ci l D cy A yX9_untell wsX9_untell ({ frames := 1, cells := 0, slots := 0, locals := 21 }) 0 0 ws [.ref o, .int j, .int way] (fun r0 u => u = (G, ws) ∧ (r0 = -1)) := by
  refine Met.ofW (cc := cX9_untell) (maxL := 5) (ret := (some .int)) (by decide) rfl ?_
  intro p e s m args below meth c s₁ B hml hv
  obtain ⟨rfl, hP, hK, hA, hV⟩ := hv
  have hx := B.exec
  have hb := B.bytes
  have hr := B.returns
  have hts := atoms_spec (ws := wsX9_untell) B.pre
  have hown : s.vm.findClass RX9 = some m.cls := findClass_of_methodNamed B.named
  have hlocks := B.notSynchronized
  have hS : va_S A s.heap s.heap [] := va_S.rf
  have hl := lv_entry ([.ref o, .int j, .int way]) (n := 5) (Nat.le_of_ble_eq_true rfl)
  rw [lg_entry_eq]
  generalize (lg_sl ([.ref o, .int j, .int way]) ++ List.replicate (5 - (lg_sl ([.ref o, .int j, .int way])).length) Slot.unset).toArray = ls at hl ⊢
  have hl : lv_has ls 5 [(0, .ref o), (1, .int j), (2, .int way)] := hl
  have k_m1 : (-1 : Int32).toInt = -1 := by decide
  have k_0 : (0 : Int32).toInt = 0 := by decide
  obtain ⟨hjc_o, hlc_o, hG_bs_o, hG_js_o, hG_sh_o, hG_wk_o, hmo_o, hG_ll_o, hlb_o⟩ := w7sh hD hT hG_o hM_o
  refine lv_aload_n hx hb dX9_untell_0 rfl (lv_at hl 0 rfl) ?_
  refine lv_iload_n hx hb dX9_untell_1 rfl (lv_at hl 1 rfl) ?_
  refine t_calla (va_runV (g := F0 m 2 ls ([.int j, .ref o])) (As := [.int j]) (rest := []) ⟨hx, hb, hml, hown, hts⟩ (c_X9_jobOf_0 l D cy A G ws o j hD hT hG_o hM_o hj0) (cwV 1 hts gX9_untell_X9_jobOf rfl rfl rfl (by decide +kernel) ⟨Nat.le_of_ble_eq_true rfl, Nat.le_of_ble_eq_true rfl⟩) (c_preV hM_o rfl hP hK hA hS hV) rfl rfl hl.1 rfl (lv_room (Nat.le_of_ble_eq_true rfl)) dX9_untell_2 ⟨Nat.le_of_ble_eq_true rfl, Nat.le_of_ble_eq_true rfl⟩) hS (fun r2 u H locs q2 hP9 hD9 hT9 hS => ?_)
  obtain ⟨rfl, q2⟩ := q2
  have hP : va_P D vwCl ws H := hP9
  subst q2
  refine lv_astore_nN (lv' := [(3, .null), (0, .ref o), (1, .int j), (2, .int way)]) hx hb dX9_untell_5 rfl hl (by decide) rfl (fun ls hl => ?_)
  refine lv_aload_nN hx hb dX9_untell_6 rfl (lv_at hl 0 rfl) ?_
  refine lv_ifnullN (tgt := 22) hx hb dX9_untell_7 (by decide) ?_
  refine lv_iconst (v := (-1)) hx hb dX9_untell_22 (by decide) ?_
  exact W.iret (v := ((-1) : Int32)) hx hb hr (fun t ht hW => ⟨⟨_, (G, ws), rfl, ⟨rfl, rfl⟩, by show va_P D vwCl ws t.heap; rw [ht]; exact hP, hD, hT⟩, hS.F ht⟩) hS.2.2 dX9_untell_23
set_option maxHeartbeats 4000000 in
set_option maxRecDepth 100000 in
theorem c_X9_hold_0 (l : Launch) (D : va_G) (cy : Nat → ClassId) (A : Nat → Prop) (G : cG) (ws : va_W) (o : Nat) (j : Int32) (s0 : Int32) (how : Int32) {bs_o js_o sh_o wk_o ll_o : Nat} {jc_o lc_o : Int32} {mo_o lb_o : Option Nat} (hD : va_D A ws) (hT : cT cy G ws) (hG_o : G o = some (7, 0, 0)) (hM_o : cIn ws o (.inr (8, [.ref bs_o, .ref js_o, .int jc_o, .ref sh_o, .ref wk_o, va_rf mo_o, .ref ll_o, .int lc_o, va_rf lb_o]))) (hj0 : jc_o.toInt = 0) : Ci l D cy A yX9_hold wsX9_hold ({ frames := 1, cells := 0, slots := 0, locals := 21 }) 0 0 ws [.ref o, .int j, .int s0, .int how] (fun r0 u => u = (G, ws) ∧ (r0 = -1)) := by
  refine Met.ofW (cc := cX9_hold) (maxL := 6) (ret := (some .int)) (by decide) rfl ?_
  intro p e s m args below meth c s₁ B hml hv
  obtain ⟨rfl, hP, hK, hA, hV⟩ := hv
  have hx := B.exec
  have hb := B.bytes
  have hr := B.returns
  have hts := atoms_spec (ws := wsX9_hold) B.pre
  have hown : s.vm.findClass RX9 = some m.cls := findClass_of_methodNamed B.named
  have hlocks := B.notSynchronized
  have hS : va_S A s.heap s.heap [] := va_S.rf
  have hl := lv_entry ([.ref o, .int j, .int s0, .int how]) (n := 6) (Nat.le_of_ble_eq_true rfl)
  rw [lg_entry_eq]
  generalize (lg_sl ([.ref o, .int j, .int s0, .int how]) ++ List.replicate (6 - (lg_sl ([.ref o, .int j, .int s0, .int how])).length) Slot.unset).toArray = ls at hl ⊢
  have hl : lv_has ls 6 [(0, .ref o), (1, .int j), (2, .int s0), (3, .int how)] := hl
  have k_m1 : (-1 : Int32).toInt = -1 := by decide
  have k_0 : (0 : Int32).toInt = 0 := by decide
  obtain ⟨hjc_o, hlc_o, hG_bs_o, hG_js_o, hG_sh_o, hG_wk_o, hmo_o, hG_ll_o, hlb_o⟩ := w7sh hD hT hG_o hM_o
  refine lv_aload_n hx hb dX9_hold_0 rfl (lv_at hl 0 rfl) ?_
  refine lv_iload_n hx hb dX9_hold_1 rfl (lv_at hl 1 rfl) ?_
  refine t_calla (va_runV (g := F0 m 2 ls ([.int j, .ref o])) (As := [.int j]) (rest := []) ⟨hx, hb, hml, hown, hts⟩ (c_X9_jobOf_0 l D cy A G ws o j hD hT hG_o hM_o hj0) (cwV 1 hts gX9_hold_X9_jobOf rfl rfl rfl (by decide +kernel) ⟨Nat.le_of_ble_eq_true rfl, Nat.le_of_ble_eq_true rfl⟩) (c_preV hM_o rfl hP hK hA hS hV) rfl rfl hl.1 rfl (lv_room (Nat.le_of_ble_eq_true rfl)) dX9_hold_2 ⟨Nat.le_of_ble_eq_true rfl, Nat.le_of_ble_eq_true rfl⟩) hS (fun r2 u H locs q2 hP9 hD9 hT9 hS => ?_)
  obtain ⟨rfl, q2⟩ := q2
  have hP : va_P D vwCl ws H := hP9
  subst q2
  refine lv_astoreN (lv' := [(4, .null), (0, .ref o), (1, .int j), (2, .int s0), (3, .int how)]) hx hb dX9_hold_5 hl (by decide) rfl (fun ls hl => ?_)
  refine lv_aloadN hx hb dX9_hold_7 (lv_at hl 0 rfl) ?_
  refine lv_ifnullN (tgt := 33) hx hb dX9_hold_9 (by decide) ?_
  refine lv_iconst (v := (-1)) hx hb dX9_hold_33 (by decide) ?_
  exact W.iret (v := ((-1) : Int32)) hx hb hr (fun t ht hW => ⟨⟨_, (G, ws), rfl, ⟨rfl, rfl⟩, by show va_P D vwCl ws t.heap; rw [ht]; exact hP, hD, hT⟩, hS.F ht⟩) hS.2.2 dX9_hold_34
set_option maxHeartbeats 4000000 in
set_option maxRecDepth 100000 in
theorem c_X9_mark_0 (l : Launch) (D : va_G) (cy : Nat → ClassId) (A : Nat → Prop) (G : cG) (ws : va_W) (o : Nat) (j : Int32) (s0 : Int32) (v : Int32) {bs_o js_o sh_o wk_o ll_o : Nat} {jc_o lc_o : Int32} {mo_o lb_o : Option Nat} (hD : va_D A ws) (hT : cT cy G ws) (hG_o : G o = some (7, 0, 0)) (hM_o : cIn ws o (.inr (8, [.ref bs_o, .ref js_o, .int jc_o, .ref sh_o, .ref wk_o, va_rf mo_o, .ref ll_o, .int lc_o, va_rf lb_o]))) (hj0 : jc_o.toInt = 0) : Ci l D cy A yX9_mark wsX9_mark ({ frames := 1, cells := 0, slots := 0, locals := 21 }) 0 0 ws [.ref o, .int j, .int s0, .int v] (fun r0 u => u = (G, ws) ∧ (r0 = -1)) := by
  refine Met.ofW (cc := cX9_mark) (maxL := 6) (ret := (some .int)) (by decide) rfl ?_
  intro p e s m args below meth c s₁ B hml hv
  obtain ⟨rfl, hP, hK, hA, hV⟩ := hv
  have hx := B.exec
  have hb := B.bytes
  have hr := B.returns
  have hts := atoms_spec (ws := wsX9_mark) B.pre
  have hown : s.vm.findClass RX9 = some m.cls := findClass_of_methodNamed B.named
  have hlocks := B.notSynchronized
  have hS : va_S A s.heap s.heap [] := va_S.rf
  have hl := lv_entry ([.ref o, .int j, .int s0, .int v]) (n := 6) (Nat.le_of_ble_eq_true rfl)
  rw [lg_entry_eq]
  generalize (lg_sl ([.ref o, .int j, .int s0, .int v]) ++ List.replicate (6 - (lg_sl ([.ref o, .int j, .int s0, .int v])).length) Slot.unset).toArray = ls at hl ⊢
  have hl : lv_has ls 6 [(0, .ref o), (1, .int j), (2, .int s0), (3, .int v)] := hl
  have k_m1 : (-1 : Int32).toInt = -1 := by decide
  have k_0 : (0 : Int32).toInt = 0 := by decide
  obtain ⟨hjc_o, hlc_o, hG_bs_o, hG_js_o, hG_sh_o, hG_wk_o, hmo_o, hG_ll_o, hlb_o⟩ := w7sh hD hT hG_o hM_o
  refine lv_aload_n hx hb dX9_mark_0 rfl (lv_at hl 0 rfl) ?_
  refine lv_iload_n hx hb dX9_mark_1 rfl (lv_at hl 1 rfl) ?_
  refine t_calla (va_runV (g := F0 m 2 ls ([.int j, .ref o])) (As := [.int j]) (rest := []) ⟨hx, hb, hml, hown, hts⟩ (c_X9_jobOf_0 l D cy A G ws o j hD hT hG_o hM_o hj0) (cwV 1 hts gX9_mark_X9_jobOf rfl rfl rfl (by decide +kernel) ⟨Nat.le_of_ble_eq_true rfl, Nat.le_of_ble_eq_true rfl⟩) (c_preV hM_o rfl hP hK hA hS hV) rfl rfl hl.1 rfl (lv_room (Nat.le_of_ble_eq_true rfl)) dX9_mark_2 ⟨Nat.le_of_ble_eq_true rfl, Nat.le_of_ble_eq_true rfl⟩) hS (fun r2 u H locs q2 hP9 hD9 hT9 hS => ?_)
  obtain ⟨rfl, q2⟩ := q2
  have hP : va_P D vwCl ws H := hP9
  subst q2
  refine lv_astoreN (lv' := [(4, .null), (0, .ref o), (1, .int j), (2, .int s0), (3, .int v)]) hx hb dX9_mark_5 hl (by decide) rfl (fun ls hl => ?_)
  refine lv_aloadN hx hb dX9_mark_7 (lv_at hl 0 rfl) ?_
  refine lv_ifnullN (tgt := 36) hx hb dX9_mark_9 (by decide) ?_
  refine lv_iconst (v := (-1)) hx hb dX9_mark_36 (by decide) ?_
  exact W.iret (v := ((-1) : Int32)) hx hb hr (fun t ht hW => ⟨⟨_, (G, ws), rfl, ⟨rfl, rfl⟩, by show va_P D vwCl ws t.heap; rw [ht]; exact hP, hD, hT⟩, hS.F ht⟩) hS.2.2 dX9_mark_37
set_option maxHeartbeats 4000000 in
set_option maxRecDepth 100000 in
theorem c_X9_told_0 (l : Launch) (D : va_G) (cy : Nat → ClassId) (A : Nat → Prop) (G : cG) (ws : va_W) (o : Nat) (j : Int32) (way : Int32) (line : Int32) {bs_o js_o sh_o wk_o ll_o : Nat} {jc_o lc_o : Int32} {mo_o lb_o : Option Nat} (hD : va_D A ws) (hT : cT cy G ws) (hG_o : G o = some (7, 0, 0)) (hM_o : cIn ws o (.inr (8, [.ref bs_o, .ref js_o, .int jc_o, .ref sh_o, .ref wk_o, va_rf mo_o, .ref ll_o, .int lc_o, va_rf lb_o]))) (hj0 : jc_o.toInt = 0) : Ci l D cy A yX9_told wsX9_told ({ frames := 1, cells := 0, slots := 0, locals := 21 }) 0 0 ws [.ref o, .int j, .int way, .int line] (fun r0 u => u = (G, ws) ∧ (r0 = -1)) := by
  refine Met.ofW (cc := cX9_told) (maxL := 5) (ret := (some .int)) (by decide) rfl ?_
  intro p e s m args below meth c s₁ B hml hv
  obtain ⟨rfl, hP, hK, hA, hV⟩ := hv
  have hx := B.exec
  have hb := B.bytes
  have hr := B.returns
  have hts := atoms_spec (ws := wsX9_told) B.pre
  have hown : s.vm.findClass RX9 = some m.cls := findClass_of_methodNamed B.named
  have hlocks := B.notSynchronized
  have hS : va_S A s.heap s.heap [] := va_S.rf
  have hl := lv_entry ([.ref o, .int j, .int way, .int line]) (n := 5) (Nat.le_of_ble_eq_true rfl)
  rw [lg_entry_eq]
  generalize (lg_sl ([.ref o, .int j, .int way, .int line]) ++ List.replicate (5 - (lg_sl ([.ref o, .int j, .int way, .int line])).length) Slot.unset).toArray = ls at hl ⊢
  have hl : lv_has ls 5 [(0, .ref o), (1, .int j), (2, .int way), (3, .int line)] := hl
  have k_m1 : (-1 : Int32).toInt = -1 := by decide
  have k_0 : (0 : Int32).toInt = 0 := by decide
  obtain ⟨hjc_o, hlc_o, hG_bs_o, hG_js_o, hG_sh_o, hG_wk_o, hmo_o, hG_ll_o, hlb_o⟩ := w7sh hD hT hG_o hM_o
  refine lv_aload_n hx hb dX9_told_0 rfl (lv_at hl 0 rfl) ?_
  refine lv_iload_n hx hb dX9_told_1 rfl (lv_at hl 1 rfl) ?_
  refine t_calla (va_runV (g := F0 m 2 ls ([.int j, .ref o])) (As := [.int j]) (rest := []) ⟨hx, hb, hml, hown, hts⟩ (c_X9_jobOf_0 l D cy A G ws o j hD hT hG_o hM_o hj0) (cwV 1 hts gX9_told_X9_jobOf rfl rfl rfl (by decide +kernel) ⟨Nat.le_of_ble_eq_true rfl, Nat.le_of_ble_eq_true rfl⟩) (c_preV hM_o rfl hP hK hA hS hV) rfl rfl hl.1 rfl (lv_room (Nat.le_of_ble_eq_true rfl)) dX9_told_2 ⟨Nat.le_of_ble_eq_true rfl, Nat.le_of_ble_eq_true rfl⟩) hS (fun r2 u H locs q2 hP9 hD9 hT9 hS => ?_)
  obtain ⟨rfl, q2⟩ := q2
  have hP : va_P D vwCl ws H := hP9
  subst q2
  refine lv_astoreN (lv' := [(4, .null), (0, .ref o), (1, .int j), (2, .int way), (3, .int line)]) hx hb dX9_told_5 hl (by decide) rfl (fun ls hl => ?_)
  refine lv_aloadN hx hb dX9_told_7 (lv_at hl 0 rfl) ?_
  refine lv_ifnullN (tgt := 19) hx hb dX9_told_9 (by decide) ?_
  refine lv_iconst (v := (-1)) hx hb dX9_told_19 (by decide) ?_
  exact W.iret (v := ((-1) : Int32)) hx hb hr (fun t ht hW => ⟨⟨_, (G, ws), rfl, ⟨rfl, rfl⟩, by show va_P D vwCl ws t.heap; rw [ht]; exact hP, hD, hT⟩, hS.F ht⟩) hS.2.2 dX9_told_20
set_option maxHeartbeats 4000000 in
set_option maxRecDepth 100000 in
theorem c_X9_fits_0 (l : Launch) (D : va_G) (cy : Nat → ClassId) (A : Nat → Prop) (G : cG) (ws : va_W) (o : Nat) (j : Int32) (p0 : Int64) {bs_o js_o sh_o wk_o ll_o : Nat} {jc_o lc_o : Int32} {mo_o lb_o : Option Nat} (hD : va_D A ws) (hT : cT cy G ws) (hG_o : G o = some (7, 0, 0)) (hM_o : cIn ws o (.inr (8, [.ref bs_o, .ref js_o, .int jc_o, .ref sh_o, .ref wk_o, va_rf mo_o, .ref ll_o, .int lc_o, va_rf lb_o]))) (hj0 : jc_o.toInt = 0) : Ci l D cy A yX9_fits wsX9_fits ({ frames := 1, cells := 0, slots := 0, locals := 21 }) 0 0 ws [.ref o, .int j, .long p0] (fun r0 u => u = (G, ws) ∧ (r0 = -1)) := by
  refine Met.ofW (cc := cX9_fits) (maxL := 5) (ret := (some .int)) (by decide) rfl ?_
  intro p e s m args below meth c s₁ B hml hv
  obtain ⟨rfl, hP, hK, hA, hV⟩ := hv
  have hx := B.exec
  have hb := B.bytes
  have hr := B.returns
  have hts := atoms_spec (ws := wsX9_fits) B.pre
  have hown : s.vm.findClass RX9 = some m.cls := findClass_of_methodNamed B.named
  have hlocks := B.notSynchronized
  have hS : va_S A s.heap s.heap [] := va_S.rf
  have hl := lv_entry ([.ref o, .int j, .long p0]) (n := 5) (Nat.le_of_ble_eq_true rfl)
  rw [lg_entry_eq]
  generalize (lg_sl ([.ref o, .int j, .long p0]) ++ List.replicate (5 - (lg_sl ([.ref o, .int j, .long p0])).length) Slot.unset).toArray = ls at hl ⊢
  have hl : lv_has ls 5 [(0, .ref o), (1, .int j), (2, .long p0)] := hl
  have k_m1 : (-1 : Int32).toInt = -1 := by decide
  have k_0 : (0 : Int32).toInt = 0 := by decide
  obtain ⟨hjc_o, hlc_o, hG_bs_o, hG_js_o, hG_sh_o, hG_wk_o, hmo_o, hG_ll_o, hlb_o⟩ := w7sh hD hT hG_o hM_o
  refine lv_aload_n hx hb dX9_fits_0 rfl (lv_at hl 0 rfl) ?_
  refine lv_iload_n hx hb dX9_fits_1 rfl (lv_at hl 1 rfl) ?_
  refine t_calla (va_runV (g := F0 m 2 ls ([.int j, .ref o])) (As := [.int j]) (rest := []) ⟨hx, hb, hml, hown, hts⟩ (c_X9_jobOf_0 l D cy A G ws o j hD hT hG_o hM_o hj0) (cwV 1 hts gX9_fits_X9_jobOf rfl rfl rfl (by decide +kernel) ⟨Nat.le_of_ble_eq_true rfl, Nat.le_of_ble_eq_true rfl⟩) (c_preV hM_o rfl hP hK hA hS hV) rfl rfl hl.1 rfl (lv_room (Nat.le_of_ble_eq_true rfl)) dX9_fits_2 ⟨Nat.le_of_ble_eq_true rfl, Nat.le_of_ble_eq_true rfl⟩) hS (fun r2 u H locs q2 hP9 hD9 hT9 hS => ?_)
  obtain ⟨rfl, q2⟩ := q2
  have hP : va_P D vwCl ws H := hP9
  subst q2
  refine lv_astoreN (lv' := [(4, .null), (0, .ref o), (1, .int j), (2, .long p0)]) hx hb dX9_fits_5 hl (by decide) rfl (fun ls hl => ?_)
  refine lv_aloadN hx hb dX9_fits_7 (lv_at hl 0 rfl) ?_
  refine lv_ifnullN (tgt := 24) hx hb dX9_fits_9 (by decide) ?_
  refine lv_iconst (v := (-1)) hx hb dX9_fits_24 (by decide) ?_
  exact W.iret (v := ((-1) : Int32)) hx hb hr (fun t ht hW => ⟨⟨_, (G, ws), rfl, ⟨rfl, rfl⟩, by show va_P D vwCl ws t.heap; rw [ht]; exact hP, hD, hT⟩, hS.F ht⟩) hS.2.2 dX9_fits_25
set_option maxHeartbeats 4000000 in
set_option maxRecDepth 100000 in
theorem c_X9_count_0 (l : Launch) (D : va_G) (cy : Nat → ClassId) (A : Nat → Prop) (G : cG) (ws : va_W) (o : Nat) (j : Int32) {bs_o js_o sh_o wk_o ll_o : Nat} {jc_o lc_o : Int32} {mo_o lb_o : Option Nat} (hD : va_D A ws) (hT : cT cy G ws) (hG_o : G o = some (7, 0, 0)) (hM_o : cIn ws o (.inr (8, [.ref bs_o, .ref js_o, .int jc_o, .ref sh_o, .ref wk_o, va_rf mo_o, .ref ll_o, .int lc_o, va_rf lb_o]))) (hj0 : jc_o.toInt = 0) : Ci l D cy A yX9_count wsX9_count ({ frames := 1, cells := 0, slots := 0, locals := 21 }) 0 0 ws [.ref o, .int j] (fun r0 u => u = (G, ws) ∧ (r0 = -1)) := by
  refine Met.ofW (cc := cX9_count) (maxL := 4) (ret := (some .int)) (by decide) rfl ?_
  intro p e s m args below meth c s₁ B hml hv
  obtain ⟨rfl, hP, hK, hA, hV⟩ := hv
  have hx := B.exec
  have hb := B.bytes
  have hr := B.returns
  have hts := atoms_spec (ws := wsX9_count) B.pre
  have hown : s.vm.findClass RX9 = some m.cls := findClass_of_methodNamed B.named
  have hlocks := B.notSynchronized
  have hS : va_S A s.heap s.heap [] := va_S.rf
  have hl := lv_entry ([.ref o, .int j]) (n := 4) (Nat.le_of_ble_eq_true rfl)
  rw [lg_entry_eq]
  generalize (lg_sl ([.ref o, .int j]) ++ List.replicate (4 - (lg_sl ([.ref o, .int j])).length) Slot.unset).toArray = ls at hl ⊢
  have hl : lv_has ls 4 [(0, .ref o), (1, .int j)] := hl
  have k_m1 : (-1 : Int32).toInt = -1 := by decide
  have k_0 : (0 : Int32).toInt = 0 := by decide
  obtain ⟨hjc_o, hlc_o, hG_bs_o, hG_js_o, hG_sh_o, hG_wk_o, hmo_o, hG_ll_o, hlb_o⟩ := w7sh hD hT hG_o hM_o
  refine lv_aload_n hx hb dX9_count_0 rfl (lv_at hl 0 rfl) ?_
  refine lv_iload_n hx hb dX9_count_1 rfl (lv_at hl 1 rfl) ?_
  refine t_calla (va_runV (g := F0 m 2 ls ([.int j, .ref o])) (As := [.int j]) (rest := []) ⟨hx, hb, hml, hown, hts⟩ (c_X9_jobOf_0 l D cy A G ws o j hD hT hG_o hM_o hj0) (cwV 1 hts gX9_count_X9_jobOf rfl rfl rfl (by decide +kernel) ⟨Nat.le_of_ble_eq_true rfl, Nat.le_of_ble_eq_true rfl⟩) (c_preV hM_o rfl hP hK hA hS hV) rfl rfl hl.1 rfl (lv_room (Nat.le_of_ble_eq_true rfl)) dX9_count_2 ⟨Nat.le_of_ble_eq_true rfl, Nat.le_of_ble_eq_true rfl⟩) hS (fun r2 u H locs q2 hP9 hD9 hT9 hS => ?_)
  obtain ⟨rfl, q2⟩ := q2
  have hP : va_P D vwCl ws H := hP9
  subst q2
  refine lv_astore_nN (lv' := [(2, .null), (0, .ref o), (1, .int j)]) hx hb dX9_count_5 rfl hl (by decide) rfl (fun ls hl => ?_)
  refine lv_aload_nN hx hb dX9_count_6 rfl (lv_at hl 0 rfl) ?_
  refine lv_ifnonnullN hx hb dX9_count_7 ?_
  refine lv_iconst (v := (-1)) hx hb dX9_count_10 (by decide) ?_
  exact W.iret (v := ((-1) : Int32)) hx hb hr (fun t ht hW => ⟨⟨_, (G, ws), rfl, ⟨rfl, rfl⟩, by show va_P D vwCl ws t.heap; rw [ht]; exact hP, hD, hT⟩, hS.F ht⟩) hS.2.2 dX9_count_11
set_option maxHeartbeats 4000000 in
set_option maxRecDepth 100000 in
theorem c_X9_find_0 (l : Launch) (D : va_G) (cy : Nat → ClassId) (A : Nat → Prop) (G : cG) (ws : va_W) (o : Nat) (j : Int32) (i0 : Int32) {bs_o js_o sh_o wk_o ll_o : Nat} {jc_o lc_o : Int32} {mo_o lb_o : Option Nat} (hD : va_D A ws) (hT : cT cy G ws) (hG_o : G o = some (7, 0, 0)) (hM_o : cIn ws o (.inr (8, [.ref bs_o, .ref js_o, .int jc_o, .ref sh_o, .ref wk_o, va_rf mo_o, .ref ll_o, .int lc_o, va_rf lb_o]))) (hj0 : jc_o.toInt = 0) : Cl l D cy A yX9_find wsX9_find ({ frames := 1, cells := 0, slots := 0, locals := 21 }) 0 0 ws [.ref o, .int j, .int i0] (fun r0 u => u = (G, ws) ∧ (r0 = -1)) := by
  refine Met.ofW (cc := cX9_find) (maxL := 5) (ret := (some .long)) (by decide) rfl ?_
  intro p e s m args below meth c s₁ B hml hv
  obtain ⟨rfl, hP, hK, hA, hV⟩ := hv
  have hx := B.exec
  have hb := B.bytes
  have hr := B.returns
  have hts := atoms_spec (ws := wsX9_find) B.pre
  have hown : s.vm.findClass RX9 = some m.cls := findClass_of_methodNamed B.named
  have hlocks := B.notSynchronized
  have hS : va_S A s.heap s.heap [] := va_S.rf
  have hl := lv_entry ([.ref o, .int j, .int i0]) (n := 5) (Nat.le_of_ble_eq_true rfl)
  rw [lg_entry_eq]
  generalize (lg_sl ([.ref o, .int j, .int i0]) ++ List.replicate (5 - (lg_sl ([.ref o, .int j, .int i0])).length) Slot.unset).toArray = ls at hl ⊢
  have hl : lv_has ls 5 [(0, .ref o), (1, .int j), (2, .int i0)] := hl
  have k_0 : (0 : Int32).toInt = 0 := by decide
  have k_m1L : (-1 : Int64).toInt = -1 := by decide
  obtain ⟨hjc_o, hlc_o, hG_bs_o, hG_js_o, hG_sh_o, hG_wk_o, hmo_o, hG_ll_o, hlb_o⟩ := w7sh hD hT hG_o hM_o
  refine lv_aload_n hx hb dX9_find_0 rfl (lv_at hl 0 rfl) ?_
  refine lv_iload_n hx hb dX9_find_1 rfl (lv_at hl 1 rfl) ?_
  refine t_calla (va_runV (g := F0 m 2 ls ([.int j, .ref o])) (As := [.int j]) (rest := []) ⟨hx, hb, hml, hown, hts⟩ (c_X9_jobOf_0 l D cy A G ws o j hD hT hG_o hM_o hj0) (cwV 1 hts gX9_find_X9_jobOf rfl rfl rfl (by decide +kernel) ⟨Nat.le_of_ble_eq_true rfl, Nat.le_of_ble_eq_true rfl⟩) (c_preV hM_o rfl hP hK hA hS hV) rfl rfl hl.1 rfl (lv_room (Nat.le_of_ble_eq_true rfl)) dX9_find_2 ⟨Nat.le_of_ble_eq_true rfl, Nat.le_of_ble_eq_true rfl⟩) hS (fun r2 u H locs q2 hP9 hD9 hT9 hS => ?_)
  obtain ⟨rfl, q2⟩ := q2
  have hP : va_P D vwCl ws H := hP9
  subst q2
  refine lv_astore_nN (lv' := [(3, .null), (0, .ref o), (1, .int j), (2, .int i0)]) hx hb dX9_find_5 rfl hl (by decide) rfl (fun ls hl => ?_)
  refine lv_aload_nN hx hb dX9_find_6 rfl (lv_at hl 0 rfl) ?_
  refine lv_ifnullN (tgt := 14) hx hb dX9_find_7 (by decide) ?_
  refine lv_ldc2 hx hb hown (hts (.constantLong RX9 143 (-1)) (by decide +kernel)) dX9_find_14 ?_
  exact W.lret (v := (-1 : Int64)) hx hb hr (fun t ht hW => ⟨⟨_, (G, ws), rfl, ⟨rfl, rfl⟩, by show va_P D vwCl ws t.heap; rw [ht]; exact hP, hD, hT⟩, hS.F ht⟩) hS.2.2 dX9_find_17
set_option maxHeartbeats 4000000 in
set_option maxRecDepth 100000 in
theorem c_X9_rank_0 (l : Launch) (D : va_G) (cy : Nat → ClassId) (A : Nat → Prop) (G : cG) (ws : va_W) (o : Nat) (j : Int32) (p0 : Int64) {bs_o js_o sh_o wk_o ll_o : Nat} {jc_o lc_o : Int32} {mo_o lb_o : Option Nat} (hD : va_D A ws) (hT : cT cy G ws) (hG_o : G o = some (7, 0, 0)) (hM_o : cIn ws o (.inr (8, [.ref bs_o, .ref js_o, .int jc_o, .ref sh_o, .ref wk_o, va_rf mo_o, .ref ll_o, .int lc_o, va_rf lb_o]))) (hj0 : jc_o.toInt = 0) : Ci l D cy A yX9_rank wsX9_rank ({ frames := 1, cells := 0, slots := 0, locals := 21 }) 0 0 ws [.ref o, .int j, .long p0] (fun r0 u => u = (G, ws) ∧ (r0 = -1)) := by
  refine Met.ofW (cc := cX9_rank) (maxL := 6) (ret := (some .int)) (by decide) rfl ?_
  intro p e s m args below meth c s₁ B hml hv
  obtain ⟨rfl, hP, hK, hA, hV⟩ := hv
  have hx := B.exec
  have hb := B.bytes
  have hr := B.returns
  have hts := atoms_spec (ws := wsX9_rank) B.pre
  have hown : s.vm.findClass RX9 = some m.cls := findClass_of_methodNamed B.named
  have hlocks := B.notSynchronized
  have hS : va_S A s.heap s.heap [] := va_S.rf
  have hl := lv_entry ([.ref o, .int j, .long p0]) (n := 6) (Nat.le_of_ble_eq_true rfl)
  rw [lg_entry_eq]
  generalize (lg_sl ([.ref o, .int j, .long p0]) ++ List.replicate (6 - (lg_sl ([.ref o, .int j, .long p0])).length) Slot.unset).toArray = ls at hl ⊢
  have hl : lv_has ls 6 [(0, .ref o), (1, .int j), (2, .long p0)] := hl
  have k_m1 : (-1 : Int32).toInt = -1 := by decide
  have k_0 : (0 : Int32).toInt = 0 := by decide
  obtain ⟨hjc_o, hlc_o, hG_bs_o, hG_js_o, hG_sh_o, hG_wk_o, hmo_o, hG_ll_o, hlb_o⟩ := w7sh hD hT hG_o hM_o
  refine lv_aload_n hx hb dX9_rank_0 rfl (lv_at hl 0 rfl) ?_
  refine lv_iload_n hx hb dX9_rank_1 rfl (lv_at hl 1 rfl) ?_
  refine t_calla (va_runV (g := F0 m 2 ls ([.int j, .ref o])) (As := [.int j]) (rest := []) ⟨hx, hb, hml, hown, hts⟩ (c_X9_jobOf_0 l D cy A G ws o j hD hT hG_o hM_o hj0) (cwV 1 hts gX9_rank_X9_jobOf rfl rfl rfl (by decide +kernel) ⟨Nat.le_of_ble_eq_true rfl, Nat.le_of_ble_eq_true rfl⟩) (c_preV hM_o rfl hP hK hA hS hV) rfl rfl hl.1 rfl (lv_room (Nat.le_of_ble_eq_true rfl)) dX9_rank_2 ⟨Nat.le_of_ble_eq_true rfl, Nat.le_of_ble_eq_true rfl⟩) hS (fun r2 u H locs q2 hP9 hD9 hT9 hS => ?_)
  obtain ⟨rfl, q2⟩ := q2
  have hP : va_P D vwCl ws H := hP9
  subst q2
  refine lv_astoreN (lv' := [(4, .null), (0, .ref o), (1, .int j), (2, .long p0)]) hx hb dX9_rank_5 hl (by decide) rfl (fun ls hl => ?_)
  refine lv_aloadN hx hb dX9_rank_7 (lv_at hl 0 rfl) ?_
  refine lv_ifnullN (tgt := 24) hx hb dX9_rank_9 (by decide) ?_
  refine lv_iconst (v := (-1)) hx hb dX9_rank_24 (by decide) ?_
  exact W.iret (v := ((-1) : Int32)) hx hb hr (fun t ht hW => ⟨⟨_, (G, ws), rfl, ⟨rfl, rfl⟩, by show va_P D vwCl ws t.heap; rw [ht]; exact hP, hD, hT⟩, hS.F ht⟩) hS.2.2 dX9_rank_25
set_option maxHeartbeats 4000000 in
set_option maxRecDepth 100000 in
theorem c_X9_sure_0 (l : Launch) (D : va_G) (cy : Nat → ClassId) (A : Nat → Prop) (G : cG) (ws : va_W) (o : Nat) (j : Int32) (s0 : Int32) {bs_o js_o sh_o wk_o ll_o : Nat} {jc_o lc_o : Int32} {mo_o lb_o : Option Nat} (hD : va_D A ws) (hT : cT cy G ws) (hG_o : G o = some (7, 0, 0)) (hM_o : cIn ws o (.inr (8, [.ref bs_o, .ref js_o, .int jc_o, .ref sh_o, .ref wk_o, va_rf mo_o, .ref ll_o, .int lc_o, va_rf lb_o]))) (hj0 : jc_o.toInt = 0) : Ci l D cy A yX9_sure wsX9_sure ({ frames := 1, cells := 0, slots := 0, locals := 21 }) 0 0 ws [.ref o, .int j, .int s0] (fun r0 u => u = (G, ws) ∧ (r0 = -1)) := by
  refine Met.ofW (cc := cX9_sure) (maxL := 6) (ret := (some .int)) (by decide) rfl ?_
  intro p e s m args below meth c s₁ B hml hv
  obtain ⟨rfl, hP, hK, hA, hV⟩ := hv
  have hx := B.exec
  have hb := B.bytes
  have hr := B.returns
  have hts := atoms_spec (ws := wsX9_sure) B.pre
  have hown : s.vm.findClass RX9 = some m.cls := findClass_of_methodNamed B.named
  have hlocks := B.notSynchronized
  have hS : va_S A s.heap s.heap [] := va_S.rf
  have hl := lv_entry ([.ref o, .int j, .int s0]) (n := 6) (Nat.le_of_ble_eq_true rfl)
  rw [lg_entry_eq]
  generalize (lg_sl ([.ref o, .int j, .int s0]) ++ List.replicate (6 - (lg_sl ([.ref o, .int j, .int s0])).length) Slot.unset).toArray = ls at hl ⊢
  have hl : lv_has ls 6 [(0, .ref o), (1, .int j), (2, .int s0)] := hl
  have k_m1 : (-1 : Int32).toInt = -1 := by decide
  have k_0 : (0 : Int32).toInt = 0 := by decide
  obtain ⟨hjc_o, hlc_o, hG_bs_o, hG_js_o, hG_sh_o, hG_wk_o, hmo_o, hG_ll_o, hlb_o⟩ := w7sh hD hT hG_o hM_o
  refine lv_aload_n hx hb dX9_sure_0 rfl (lv_at hl 0 rfl) ?_
  refine lv_iload_n hx hb dX9_sure_1 rfl (lv_at hl 1 rfl) ?_
  refine t_calla (va_runV (g := F0 m 2 ls ([.int j, .ref o])) (As := [.int j]) (rest := []) ⟨hx, hb, hml, hown, hts⟩ (c_X9_jobOf_0 l D cy A G ws o j hD hT hG_o hM_o hj0) (cwV 1 hts gX9_sure_X9_jobOf rfl rfl rfl (by decide +kernel) ⟨Nat.le_of_ble_eq_true rfl, Nat.le_of_ble_eq_true rfl⟩) (c_preV hM_o rfl hP hK hA hS hV) rfl rfl hl.1 rfl (lv_room (Nat.le_of_ble_eq_true rfl)) dX9_sure_2 ⟨Nat.le_of_ble_eq_true rfl, Nat.le_of_ble_eq_true rfl⟩) hS (fun r2 u H locs q2 hP9 hD9 hT9 hS => ?_)
  obtain ⟨rfl, q2⟩ := q2
  have hP : va_P D vwCl ws H := hP9
  subst q2
  refine lv_astore_nN (lv' := [(3, .null), (0, .ref o), (1, .int j), (2, .int s0)]) hx hb dX9_sure_5 rfl hl (by decide) rfl (fun ls hl => ?_)
  refine lv_aload_nN hx hb dX9_sure_6 rfl (lv_at hl 0 rfl) ?_
  refine lv_ifnullN (tgt := 21) hx hb dX9_sure_7 (by decide) ?_
  refine lv_iconst (v := (-1)) hx hb dX9_sure_21 (by decide) ?_
  exact W.iret (v := ((-1) : Int32)) hx hb hr (fun t ht hW => ⟨⟨_, (G, ws), rfl, ⟨rfl, rfl⟩, by show va_P D vwCl ws t.heap; rw [ht]; exact hP, hD, hT⟩, hS.F ht⟩) hS.2.2 dX9_sure_22
set_option maxHeartbeats 4000000 in
set_option maxRecDepth 100000 in
theorem c_X9_clash_0 (l : Launch) (D : va_G) (cy : Nat → ClassId) (A : Nat → Prop) (G : cG) (ws : va_W) (o : Nat) (j : Int32) {bs_o js_o sh_o wk_o ll_o : Nat} {jc_o lc_o : Int32} {mo_o lb_o : Option Nat} (hD : va_D A ws) (hT : cT cy G ws) (hG_o : G o = some (7, 0, 0)) (hM_o : cIn ws o (.inr (8, [.ref bs_o, .ref js_o, .int jc_o, .ref sh_o, .ref wk_o, va_rf mo_o, .ref ll_o, .int lc_o, va_rf lb_o]))) (hj0 : jc_o.toInt = 0) : Ci l D cy A yX9_clash wsX9_clash ({ frames := 1, cells := 0, slots := 0, locals := 21 }) 0 0 ws [.ref o, .int j] (fun r0 u => u = (G, ws) ∧ (r0 = -1)) := by
  refine Met.ofW (cc := cX9_clash) (maxL := 4) (ret := (some .int)) (by decide) rfl ?_
  intro p e s m args below meth c s₁ B hml hv
  obtain ⟨rfl, hP, hK, hA, hV⟩ := hv
  have hx := B.exec
  have hb := B.bytes
  have hr := B.returns
  have hts := atoms_spec (ws := wsX9_clash) B.pre
  have hown : s.vm.findClass RX9 = some m.cls := findClass_of_methodNamed B.named
  have hlocks := B.notSynchronized
  have hS : va_S A s.heap s.heap [] := va_S.rf
  have hl := lv_entry ([.ref o, .int j]) (n := 4) (Nat.le_of_ble_eq_true rfl)
  rw [lg_entry_eq]
  generalize (lg_sl ([.ref o, .int j]) ++ List.replicate (4 - (lg_sl ([.ref o, .int j])).length) Slot.unset).toArray = ls at hl ⊢
  have hl : lv_has ls 4 [(0, .ref o), (1, .int j)] := hl
  have k_m1 : (-1 : Int32).toInt = -1 := by decide
  have k_0 : (0 : Int32).toInt = 0 := by decide
  obtain ⟨hjc_o, hlc_o, hG_bs_o, hG_js_o, hG_sh_o, hG_wk_o, hmo_o, hG_ll_o, hlb_o⟩ := w7sh hD hT hG_o hM_o
  refine lv_aload_n hx hb dX9_clash_0 rfl (lv_at hl 0 rfl) ?_
  refine lv_iload_n hx hb dX9_clash_1 rfl (lv_at hl 1 rfl) ?_
  refine t_calla (va_runV (g := F0 m 2 ls ([.int j, .ref o])) (As := [.int j]) (rest := []) ⟨hx, hb, hml, hown, hts⟩ (c_X9_jobOf_0 l D cy A G ws o j hD hT hG_o hM_o hj0) (cwV 1 hts gX9_clash_X9_jobOf rfl rfl rfl (by decide +kernel) ⟨Nat.le_of_ble_eq_true rfl, Nat.le_of_ble_eq_true rfl⟩) (c_preV hM_o rfl hP hK hA hS hV) rfl rfl hl.1 rfl (lv_room (Nat.le_of_ble_eq_true rfl)) dX9_clash_2 ⟨Nat.le_of_ble_eq_true rfl, Nat.le_of_ble_eq_true rfl⟩) hS (fun r2 u H locs q2 hP9 hD9 hT9 hS => ?_)
  obtain ⟨rfl, q2⟩ := q2
  have hP : va_P D vwCl ws H := hP9
  subst q2
  refine lv_astore_nN (lv' := [(2, .null), (0, .ref o), (1, .int j)]) hx hb dX9_clash_5 rfl hl (by decide) rfl (fun ls hl => ?_)
  refine lv_aload_nN hx hb dX9_clash_6 rfl (lv_at hl 0 rfl) ?_
  refine lv_ifnonnullN hx hb dX9_clash_7 ?_
  refine lv_iconst (v := (-1)) hx hb dX9_clash_10 (by decide) ?_
  exact W.iret (v := ((-1) : Int32)) hx hb hr (fun t ht hW => ⟨⟨_, (G, ws), rfl, ⟨rfl, rfl⟩, by show va_P D vwCl ws t.heap; rw [ht]; exact hP, hD, hT⟩, hS.F ht⟩) hS.2.2 dX9_clash_11
set_option maxHeartbeats 4000000 in
set_option maxRecDepth 100000 in
theorem c_X9_thingToKeep_0 (l : Launch) (D : va_G) (cy : Nat → ClassId) (A : Nat → Prop) (G : cG) (ws : va_W) (what : Int32) (p0 : Int64)  (hD : va_D A ws) (hT : cT cy G ws)   : Ca l D cy A yX9_thingToKeep wsX9_thingToKeep ({ frames := 0, cells := 0, slots := 0, locals := 0 }) 0 0 ws [.int what, .null, .long p0] (fun r0 u => cX none (chs []) G ws u.1 u.2 ∧ (r0 = none)) := by
  refine Met.ofW (cc := cX9_thingToKeep) (maxL := 4) (ret := (some (.object "ShadowBench$Held"))) (by decide) rfl ?_
  intro p e s m args below meth c s₁ B hml hv
  obtain ⟨rfl, hP, hK, hA, hV⟩ := hv
  have hx := B.exec
  have hb := B.bytes
  have hr := B.returns
  have hts := atoms_spec (ws := wsX9_thingToKeep) B.pre
  have hown : s.vm.findClass RX9 = some m.cls := findClass_of_methodNamed B.named
  have hlocks := B.notSynchronized
  have hS : va_S A s.heap s.heap [] := va_S.rf
  have hX : cX none (chs []) G ws G ws := cX.rf
  have hl := lv_entry ([.int what, .null, .long p0]) (n := 4) (Nat.le_of_ble_eq_true rfl)
  rw [lg_entry_eq]
  generalize (lg_sl ([.int what, .null, .long p0]) ++ List.replicate (4 - (lg_sl ([.int what, .null, .long p0])).length) Slot.unset).toArray = ls at hl ⊢
  have hl : lv_has ls 4 [(0, .int what), (1, .null), (2, .long p0)] := hl
  have k_0 : (0 : Int32).toInt = 0 := by decide
  refine lv_aload_nN hx hb dX9_thingToKeep_0 rfl (lv_at hl 1 rfl) ?_
  refine lv_ifnonnullN hx hb dX9_thingToKeep_1 ?_
  refine lv_null hx hb dX9_thingToKeep_4 ?_
  exact W.aret (v := .null) hx hb hr (Or.inl ⟨_, rfl⟩) (Or.inl rfl) (fun t ht hW => ⟨⟨none, (G, ws), rfl, ⟨hX, rfl⟩, by show va_P D vwCl ws t.heap; rw [ht]; exact hP, hD, hT⟩, hS.F ht⟩) hS.2.2 dX9_thingToKeep_5
set_option maxHeartbeats 4000000 in
set_option maxRecDepth 100000 in
theorem c_X9_keep_0 (l : Launch) (D : va_G) (cy : Nat → ClassId) (A : Nat → Prop) (G : cG) (ws : va_W) (o : Nat) (d : Int32) (what : Int32) (k0 : Int32) (p0 : Int64) {bs_o js_o sh_o wk_o ll_o : Nat} {jc_o lc_o : Int32} {mo_o lb_o : Option Nat} (hD : va_D A ws) (hT : cT cy G ws) (hG_o : G o = some (7, 0, 0)) (hM_o : cIn ws o (.inr (8, [.ref bs_o, .ref js_o, .int jc_o, .ref sh_o, .ref wk_o, va_rf mo_o, .ref ll_o, .int lc_o, va_rf lb_o]))) (hj0 : jc_o.toInt = 0) : Ci l D cy A yX9_keep wsX9_keep ({ frames := 1, cells := 0, slots := 0, locals := 23 }) 0 0 ws [.ref o, .int d, .int what, .int k0, .long p0] (fun r0 u => cX none (chs [10]) G ws u.1 u.2 ∧ (r0 = keO d what)) := by
  refine Met.ofW (cc := cX9_keep) (maxL := 7) (ret := (some .int)) (by decide) rfl ?_
  intro p e s m args below meth c s₁ B hml hv
  obtain ⟨rfl, hP, hK, hA, hV⟩ := hv
  have hx := B.exec
  have hb := B.bytes
  have hr := B.returns
  have hts := atoms_spec (ws := wsX9_keep) B.pre
  have hown : s.vm.findClass RX9 = some m.cls := findClass_of_methodNamed B.named
  have hlocks := B.notSynchronized
  have hS : va_S A s.heap s.heap [] := va_S.rf
  have hX : cX none (chs [10]) G ws G ws := cX.rf
  have hl := lv_entry ([.ref o, .int d, .int what, .int k0, .long p0]) (n := 7) (Nat.le_of_ble_eq_true rfl)
  rw [lg_entry_eq]
  generalize (lg_sl ([.ref o, .int d, .int what, .int k0, .long p0]) ++ List.replicate (7 - (lg_sl ([.ref o, .int d, .int what, .int k0, .long p0])).length) Slot.unset).toArray = ls at hl ⊢
  have hl : lv_has ls 7 [(0, .ref o), (1, .int d), (2, .int what), (3, .int k0), (4, .long p0)] := hl
  have k_m1 : (-1 : Int32).toInt = -1 := by decide
  have k_0 : (0 : Int32).toInt = 0 := by decide
  obtain ⟨hjc_o, hlc_o, hG_bs_o, hG_js_o, hG_sh_o, hG_wk_o, hmo_o, hG_ll_o, hlb_o⟩ := w7sh hD hT hG_o hM_o
  refine lv_iload_n hx hb dX9_keep_0 rfl (lv_at hl 1 rfl) ?_
  refine t_pu (As := [.int d]) (rest := []) ⟨hx, hb, hml, hown, hts⟩ (c_X9_isShelf l d ) (va_cwS 1 hts gX9_keep_X9_isShelf rfl rfl rfl (by decide +kernel) ⟨Nat.le_of_ble_eq_true rfl, Nat.le_of_ble_eq_true rfl⟩) hP rfl hl.1 rfl (Nat.le_of_ble_eq_true rfl) dX9_keep_1 ⟨Nat.le_of_ble_eq_true rfl, Nat.le_of_ble_eq_true rfl⟩ hS (fun r1 H locs q1 hP hS => ?_)
  refine lv_if_ne (tgt := 9) hx hb dX9_keep_4 (by decide) (fun c4 => ?_) (fun c4 => ?_)
  · skip
    have b4 := bo_t q1 c4
    refine lv_iload_n hx hb dX9_keep_9 rfl (lv_at hl 2 rfl) ?_
    refine lv_if_ne (tgt := 22) hx hb dX9_keep_10 (by decide) (fun c10 => ?_) (fun c10 => ?_)
    · skip
      have d10 := c10
      rw [fa_eq] at d10
      refine lv_iload_n hx hb dX9_keep_22 rfl (lv_at hl 2 rfl) ?_
      refine lv_aload_n hx hb dX9_keep_23 rfl (lv_at hl 0 rfl) ?_
      refine lv_iload_n hx hb dX9_keep_24 rfl (lv_at hl 3 rfl) ?_
      refine t_calla (va_runV (g := F0 m 25 ls ([.int k0, .ref o, .int what])) (As := [.int k0]) (rest := [.int what]) ⟨hx, hb, hml, hown, hts⟩ (c_X9_jobOf_0 l D cy A G ws o k0 hD hT hG_o hM_o hj0) (cwV 1 hts gX9_keep_X9_jobOf rfl rfl rfl (by decide +kernel) ⟨Nat.le_of_ble_eq_true rfl, Nat.le_of_ble_eq_true rfl⟩) (c_preV hM_o rfl hP hK hA hS hV) rfl rfl hl.1 rfl (lv_room (Nat.le_of_ble_eq_true rfl)) dX9_keep_25 ⟨Nat.le_of_ble_eq_true rfl, Nat.le_of_ble_eq_true rfl⟩) hS (fun r25 u H locs q25 hP9 hD9 hT9 hS => ?_)
      obtain ⟨rfl, q25⟩ := q25
      have hP : va_P D vwCl ws H := hP9
      subst q25
      refine lv_lload hx hb dX9_keep_28 (lv_at hl 4 rfl) ?_
      refine t_calla (va_runS (g := F0 m 30 ls ([.long p0, .null, .int what])) (As := [.int what, .null, .long p0]) (rest := []) ⟨hx, hb, hml, hown, hts⟩ (c_X9_thingToKeep_0 l D cy A G ws what p0 hD hT ) (va_cwS 3 hts gX9_keep_X9_thingToKeep rfl rfl rfl (by decide +kernel) ⟨Nat.le_of_ble_eq_true rfl, Nat.le_of_ble_eq_true rfl⟩) (c_preS hP hK hA hS hV) rfl rfl hl.1 rfl (lv_room (Nat.le_of_ble_eq_true rfl)) dX9_keep_30 ⟨Nat.le_of_ble_eq_true rfl, Nat.le_of_ble_eq_true rfl⟩) hS (fun r30 u H locs q30 hP9 hD9 hT9 hS => ?_)
      obtain ⟨G30, w30⟩ := u
      obtain ⟨hX9, q30⟩ := q30
      have hX9 : cX none (chs []) G ws G30 w30 := hX9
      have hP : va_P D vwCl w30 H := hP9
      have hD : va_D A w30 := hD9
      have hT : cT cy G30 w30 := hT9
      have hM_o := hX9.2.1 _ _ (cP.no hG_o rfl) hM_o
      have hG_o := hX9.1 _ _ hG_o
      have hG_bs_o := hX9.1 _ _ hG_bs_o
      have hG_js_o := hX9.1 _ _ hG_js_o
      have hG_sh_o := hX9.1 _ _ hG_sh_o
      have hG_wk_o := hX9.1 _ _ hG_wk_o
      have hG_ll_o := hX9.1 _ _ hG_ll_o
      have hmo_o := fun x9 z9 => hX9.1 _ _ (hmo_o x9 z9)
      have hlb_o : ∀ x9, lb_o = some x9 → ∃ w9 h9, _ = some (2, w9, h9) := fun x9 z9 => (hlb_o x9 z9).elim fun w9 z9 => z9.elim fun h9 z9 => ⟨w9, h9, hX9.1 _ _ z9⟩
      have hX := hX.tr (hX9.wk (chs_sub (by decide)))
      subst q30
      refine lv_astoreN (lv' := [(6, .null), (0, .ref o), (1, .int d), (2, .int what), (3, .int k0), (4, .long p0)]) hx hb dX9_keep_33 hl (by decide) rfl (fun ls hl => ?_)
      refine lv_aloadN hx hb dX9_keep_35 (lv_at hl 0 rfl) ?_
      refine lv_ifnonnullN hx hb dX9_keep_37 ?_
      refine lv_iconst (v := (-1)) hx hb dX9_keep_40 (by decide) ?_
      exact W.iret (v := ((-1) : Int32)) hx hb hr (fun t ht hW => ⟨⟨_, (G30, w30), rfl, ⟨hX, (by unfold keO; rw [if_neg (by omega)])⟩, by show va_P D vwCl w30 t.heap; rw [ht]; exact hP, hD, hT⟩, hS.F ht⟩) hS.2.2 dX9_keep_41
    · skip
      have d10 := c10
      rw [fa_eq] at d10
      refine lv_aload_n hx hb dX9_keep_13 rfl (lv_at hl 0 rfl) ?_
      refine t_get (v := .ref sh_o) (C := RX9) (T := TX9) (N := 9) hx hb hts (by decide +kernel) hown hK hP hM_o rfl 3 (by decide) (hts (.fieldLink RX9 27 "ShadowBench" "shelves" "[LShadowBench$Held;") (by decide +kernel)) (fun _ h9 => h9) rfl dX9_keep_14 ?_
      refine lv_iload_n hx hb dX9_keep_17 rfl (lv_at hl 1 rfl) ?_
      refine lv_null hx hb dX9_keep_18 ?_
      refine t_aastN hx hb hK hP hD hS hT hG_sh_o (vp_in_iff.mpr ⟨by omega, by omega⟩) dX9_keep_19 (fun H locs w19 hU19 hP hD hT hS => ?_)
      have hM_o := hU19 _ _ (cne hG_o hG_sh_o (show (7 : Nat) ≠ 10 by decide)) hM_o
      have hX := hX.tr (cX.uF hU19 (Or.inr ⟨_, hG_sh_o, rfl⟩))
      refine lv_iconst (v := 0) hx hb dX9_keep_20 (by decide) ?_
      exact W.iret (v := (0 : Int32)) hx hb hr (fun t ht hW => ⟨⟨_, (G, w19), rfl, ⟨hX, (by unfold keO; rw [if_pos (by omega)])⟩, by show va_P D vwCl w19 t.heap; rw [ht]; exact hP, hD, hT⟩, hS.F ht⟩) hS.2.2 dX9_keep_21
  · skip
    have b4 := bo_f q1 c4
    refine lv_iconst (v := (-1)) hx hb dX9_keep_7 (by decide) ?_
    exact W.iret (v := ((-1) : Int32)) hx hb hr (fun t ht hW => ⟨⟨_, (G, ws), rfl, ⟨hX, (by unfold keO; rw [if_neg (by omega)])⟩, by show va_P D vwCl ws t.heap; rw [ht]; exact hP, hD, hT⟩, hS.F ht⟩) hS.2.2 dX9_keep_8
set_option maxHeartbeats 4000000 in
set_option maxRecDepth 100000 in
theorem c_X9_copy_0 (l : Launch) (D : va_G) (cy : Nat → ClassId) (A : Nat → Prop) (G : cG) (ws : va_W) (o : Nat) (d : Int32) (i : Int32) (e0 : Int32) (j : Int32) (m0 : Int32) {bs_o js_o sh_o wk_o ll_o : Nat} {jc_o lc_o : Int32} {mo_o lb_o : Option Nat} {fb : Nat → Option Nat} (hD : va_D A ws) (hT : cT cy G ws) (hG_o : G o = some (7, 0, 0)) (hM_o : cIn ws o (.inr (8, [.ref bs_o, .ref js_o, .int jc_o, .ref sh_o, .ref wk_o, va_rf mo_o, .ref ll_o, .int lc_o, va_rf lb_o]))) (hM_sh_o : cIn ws sh_o (.inl (cy 5, cqa 8 fb))) (hs0 : ∀ i, fb i = none) : Ci l D cy A yX9_copy wsX9_copy ({ frames := 1, cells := 0, slots := 0, locals := 20 }) 0 0 ws [.ref o, .int d, .int i, .int e0, .int j, .int m0] (fun r0 u => u = (G, ws) ∧ (r0 = cpO d e0)) := by
  refine Met.ofW (cc := cX9_copy) (maxL := 9) (ret := (some .int)) (by decide) rfl ?_
  intro p e s m args below meth c s₁ B hml hv
  obtain ⟨rfl, hP, hK, hA, hV⟩ := hv
  have hx := B.exec
  have hb := B.bytes
  have hr := B.returns
  have hts := atoms_spec (ws := wsX9_copy) B.pre
  have hown : s.vm.findClass RX9 = some m.cls := findClass_of_methodNamed B.named
  have hlocks := B.notSynchronized
  have hS : va_S A s.heap s.heap [] := va_S.rf
  have hl := lv_entry ([.ref o, .int d, .int i, .int e0, .int j, .int m0]) (n := 9) (Nat.le_of_ble_eq_true rfl)
  rw [lg_entry_eq]
  generalize (lg_sl ([.ref o, .int d, .int i, .int e0, .int j, .int m0]) ++ List.replicate (9 - (lg_sl ([.ref o, .int d, .int i, .int e0, .int j, .int m0])).length) Slot.unset).toArray = ls at hl ⊢
  have hl : lv_has ls 9 [(0, .ref o), (1, .int d), (2, .int i), (3, .int e0), (4, .int j), (5, .int m0)] := hl
  have k_m11 : (-11 : Int32).toInt = -11 := by decide
  have k_m1 : (-1 : Int32).toInt = -1 := by decide
  have k_0 : (0 : Int32).toInt = 0 := by decide
  obtain ⟨hjc_o, hlc_o, hG_bs_o, hG_js_o, hG_sh_o, hG_wk_o, hmo_o, hG_ll_o, hlb_o⟩ := w7sh hD hT hG_o hM_o
  have hf_sh_o := w10sh hD hT hG_sh_o hM_sh_o
  refine lv_iload_n hx hb dX9_copy_0 rfl (lv_at hl 1 rfl) ?_
  refine t_pu (As := [.int d]) (rest := []) ⟨hx, hb, hml, hown, hts⟩ (c_X9_isShelf l d ) (va_cwS 1 hts gX9_copy_X9_isShelf rfl rfl rfl (by decide +kernel) ⟨Nat.le_of_ble_eq_true rfl, Nat.le_of_ble_eq_true rfl⟩) hP rfl hl.1 rfl (Nat.le_of_ble_eq_true rfl) dX9_copy_1 ⟨Nat.le_of_ble_eq_true rfl, Nat.le_of_ble_eq_true rfl⟩ hS (fun r1 H locs q1 hP hS => ?_)
  refine lv_if_eq (tgt := 14) hx hb dX9_copy_4 (by decide) (fun c4 => ?_) (fun c4 => ?_)
  · skip
    have b4 := bo_f q1 c4
    refine lv_iconst (v := (-1)) hx hb dX9_copy_14 (by decide) ?_
    exact W.iret (v := ((-1) : Int32)) hx hb hr (fun t ht hW => ⟨⟨_, (G, ws), rfl, ⟨rfl, (by unfold cpO; rw [if_neg (by omega)])⟩, by show va_P D vwCl ws t.heap; rw [ht]; exact hP, hD, hT⟩, hS.F ht⟩) hS.2.2 dX9_copy_15
  · skip
    have b4 := bo_t q1 c4
    refine lv_iload_n hx hb dX9_copy_7 rfl (lv_at hl 3 rfl) ?_
    refine t_pu (As := [.int e0]) (rest := []) ⟨hx, hb, hml, hown, hts⟩ (c_X9_isShelf l e0 ) (va_cwS 1 hts gX9_copy_X9_isShelf rfl rfl rfl (by decide +kernel) ⟨Nat.le_of_ble_eq_true rfl, Nat.le_of_ble_eq_true rfl⟩) hP rfl hl.1 rfl (Nat.le_of_ble_eq_true rfl) dX9_copy_8 ⟨Nat.le_of_ble_eq_true rfl, Nat.le_of_ble_eq_true rfl⟩ hS (fun r8 H locs q8 hP hS => ?_)
    refine lv_if_ne (tgt := 16) hx hb dX9_copy_11 (by decide) (fun c11 => ?_) (fun c11 => ?_)
    · skip
      have b11 := bo_t q8 c11
      refine lv_aload_n hx hb dX9_copy_16 rfl (lv_at hl 0 rfl) ?_
      refine t_get (v := .ref sh_o) (C := RX9) (T := TX9) (N := 9) hx hb hts (by decide +kernel) hown hK hP hM_o rfl 3 (by decide) (hts (.fieldLink RX9 27 "ShadowBench" "shelves" "[LShadowBench$Held;") (by decide +kernel)) (fun _ h9 => h9) rfl dX9_copy_17 ?_
      refine lv_iload_n hx hb dX9_copy_20 rfl (lv_at hl 1 rfl) ?_
      refine t_aald10f hx hb hK hP hM_sh_o hf_sh_o (vp_in_iff.mpr ⟨by omega, by omega⟩) dX9_copy_21 (fun nf21 => ?_) (fun x21 kx21 nx21 hG_x21 nf21 => ?_) (fun x21 nx21 hG_x21 nf21 => ?_)
      · skip
        refine lv_ifnullN (tgt := 34) hx hb dX9_copy_22 (by decide) ?_
        refine lv_bipush (v := (-11)) hx hb dX9_copy_34 (by decide) ?_
        exact W.iret (v := ((-11) : Int32)) hx hb hr (fun t ht hW => ⟨⟨_, (G, ws), rfl, ⟨rfl, (by unfold cpO; rw [if_pos (by omega)])⟩, by show va_P D vwCl ws t.heap; rw [ht]; exact hP, hD, hT⟩, hS.F ht⟩) hS.2.2 dX9_copy_36
      · exact nomatch (show (none : Option Nat) = some _ from (hs0 _).symm.trans nf21)
      · exact nomatch (show (none : Option Nat) = some _ from (hs0 _).symm.trans nf21)
    · skip
      have b11 := bo_f q8 c11
      refine lv_iconst (v := (-1)) hx hb dX9_copy_14 (by decide) ?_
      exact W.iret (v := ((-1) : Int32)) hx hb hr (fun t ht hW => ⟨⟨_, (G, ws), rfl, ⟨rfl, (by unfold cpO; rw [if_neg (by omega)])⟩, by show va_P D vwCl ws t.heap; rw [ht]; exact hP, hD, hT⟩, hS.F ht⟩) hS.2.2 dX9_copy_15
set_option maxHeartbeats 4000000 in
set_option maxRecDepth 100000 in
theorem c_X9_layer_0 (l : Launch) (D : va_G) (cy : Nat → ClassId) (A : Nat → Prop) (G : cG) (ws : va_W) (o : Nat) (d : Int32) (k0 : Int32) {bs_o js_o sh_o wk_o ll_o : Nat} {jc_o lc_o : Int32} {mo_o lb_o : Option Nat} {fb : Nat → Option Nat} (hD : va_D A ws) (hT : cT cy G ws) (hG_o : G o = some (7, 0, 0)) (hM_o : cIn ws o (.inr (8, [.ref bs_o, .ref js_o, .int jc_o, .ref sh_o, .ref wk_o, va_rf mo_o, .ref ll_o, .int lc_o, va_rf lb_o]))) (hM_sh_o : cIn ws sh_o (.inl (cy 5, cqa 8 fb))) (hs0 : ∀ i, fb i = none) : Cl l D cy A yX9_layer wsX9_layer ({ frames := 1, cells := 0, slots := 0, locals := 20 }) 0 0 ws [.ref o, .int d, .int k0] (fun r0 u => u = (G, ws) ∧ (r0 = laO d k0)) := by
  refine Met.ofW (cc := cX9_layer) (maxL := 5) (ret := (some .long)) (by decide) rfl ?_
  intro p e s m args below meth c s₁ B hml hv
  obtain ⟨rfl, hP, hK, hA, hV⟩ := hv
  have hx := B.exec
  have hb := B.bytes
  have hr := B.returns
  have hts := atoms_spec (ws := wsX9_layer) B.pre
  have hown : s.vm.findClass RX9 = some m.cls := findClass_of_methodNamed B.named
  have hlocks := B.notSynchronized
  have hS : va_S A s.heap s.heap [] := va_S.rf
  have hl := lv_entry ([.ref o, .int d, .int k0]) (n := 5) (Nat.le_of_ble_eq_true rfl)
  rw [lg_entry_eq]
  generalize (lg_sl ([.ref o, .int d, .int k0]) ++ List.replicate (5 - (lg_sl ([.ref o, .int d, .int k0])).length) Slot.unset).toArray = ls at hl ⊢
  have hl : lv_has ls 5 [(0, .ref o), (1, .int d), (2, .int k0)] := hl
  have k_0 : (0 : Int32).toInt = 0 := by decide
  have k_9 : (9 : Int32).toInt = 9 := by decide
  have k_m11L : (-11 : Int64).toInt = -11 := by decide
  have k_m1L : (-1 : Int64).toInt = -1 := by decide
  obtain ⟨hjc_o, hlc_o, hG_bs_o, hG_js_o, hG_sh_o, hG_wk_o, hmo_o, hG_ll_o, hlb_o⟩ := w7sh hD hT hG_o hM_o
  have hf_sh_o := w10sh hD hT hG_sh_o hM_sh_o
  refine lv_iload_n hx hb dX9_layer_0 rfl (lv_at hl 1 rfl) ?_
  refine t_pu (As := [.int d]) (rest := []) ⟨hx, hb, hml, hown, hts⟩ (c_X9_isShelf l d ) (va_cwS 1 hts gX9_layer_X9_isShelf rfl rfl rfl (by decide +kernel) ⟨Nat.le_of_ble_eq_true rfl, Nat.le_of_ble_eq_true rfl⟩) hP rfl hl.1 rfl (Nat.le_of_ble_eq_true rfl) dX9_layer_1 ⟨Nat.le_of_ble_eq_true rfl, Nat.le_of_ble_eq_true rfl⟩ hS (fun r1 H locs q1 hP hS => ?_)
  refine lv_if_eq (tgt := 17) hx hb dX9_layer_4 (by decide) (fun c4 => ?_) (fun c4 => ?_)
  · skip
    have b4 := bo_f q1 c4
    refine lv_ldc2 hx hb hown (hts (.constantLong RX9 143 (-1)) (by decide +kernel)) dX9_layer_17 ?_
    exact W.lret (v := (-1 : Int64)) hx hb hr (fun t ht hW => ⟨⟨_, (G, ws), rfl, ⟨rfl, (by unfold laO; rw [if_neg (by omega)])⟩, by show va_P D vwCl ws t.heap; rw [ht]; exact hP, hD, hT⟩, hS.F ht⟩) hS.2.2 dX9_layer_20
  · skip
    have b4 := bo_t q1 c4
    refine lv_iload_n hx hb dX9_layer_7 rfl (lv_at hl 2 rfl) ?_
    refine lv_if_lt (tgt := 17) hx hb dX9_layer_8 (by decide) (fun c8 => ?_) (fun c8 => ?_)
    · skip
      have d8 := c8
      rw [fa_lt] at d8
      refine lv_ldc2 hx hb hown (hts (.constantLong RX9 143 (-1)) (by decide +kernel)) dX9_layer_17 ?_
      exact W.lret (v := (-1 : Int64)) hx hb hr (fun t ht hW => ⟨⟨_, (G, ws), rfl, ⟨rfl, (by unfold laO; rw [if_neg (by omega)])⟩, by show va_P D vwCl ws t.heap; rw [ht]; exact hP, hD, hT⟩, hS.F ht⟩) hS.2.2 dX9_layer_20
    · skip
      have d8 := c8
      rw [fa_lt] at d8
      refine lv_iload_n hx hb dX9_layer_11 rfl (lv_at hl 2 rfl) ?_
      refine lv_bipush (v := 9) hx hb dX9_layer_12 (by decide) ?_
      refine lv_icmp_lt (tgt := 21) hx hb dX9_layer_14 (by decide) (fun c14 => ?_) (fun c14 => ?_)
      · skip
        have d14 := c14
        rw [fa_lt] at d14
        refine lv_aload_n hx hb dX9_layer_21 rfl (lv_at hl 0 rfl) ?_
        refine t_get (v := .ref sh_o) (C := RX9) (T := TX9) (N := 9) hx hb hts (by decide +kernel) hown hK hP hM_o rfl 3 (by decide) (hts (.fieldLink RX9 27 "ShadowBench" "shelves" "[LShadowBench$Held;") (by decide +kernel)) (fun _ h9 => h9) rfl dX9_layer_22 ?_
        refine lv_iload_n hx hb dX9_layer_25 rfl (lv_at hl 1 rfl) ?_
        refine t_aald10f hx hb hK hP hM_sh_o hf_sh_o (vp_in_iff.mpr ⟨by omega, by omega⟩) dX9_layer_26 (fun nf26 => ?_) (fun x26 kx26 nx26 hG_x26 nf26 => ?_) (fun x26 nx26 hG_x26 nf26 => ?_)
        · skip
          refine lv_ifnonnullN hx hb dX9_layer_27 ?_
          refine lv_ldc2 hx hb hown (hts (.constantLong RX9 272 (-11)) (by decide +kernel)) dX9_layer_30 ?_
          exact W.lret (v := (-11 : Int64)) hx hb hr (fun t ht hW => ⟨⟨_, (G, ws), rfl, ⟨rfl, (by unfold laO; rw [if_pos (by omega)])⟩, by show va_P D vwCl ws t.heap; rw [ht]; exact hP, hD, hT⟩, hS.F ht⟩) hS.2.2 dX9_layer_33
        · exact nomatch (show (none : Option Nat) = some _ from (hs0 _).symm.trans nf26)
        · exact nomatch (show (none : Option Nat) = some _ from (hs0 _).symm.trans nf26)
      · skip
        have d14 := c14
        rw [fa_lt] at d14
        refine lv_ldc2 hx hb hown (hts (.constantLong RX9 143 (-1)) (by decide +kernel)) dX9_layer_17 ?_
        exact W.lret (v := (-1 : Int64)) hx hb hr (fun t ht hW => ⟨⟨_, (G, ws), rfl, ⟨rfl, (by unfold laO; rw [if_neg (by omega)])⟩, by show va_P D vwCl ws t.heap; rw [ht]; exact hP, hD, hT⟩, hS.F ht⟩) hS.2.2 dX9_layer_20
set_option maxHeartbeats 4000000 in
set_option maxRecDepth 100000 in
theorem c_X9_toss_0 (l : Launch) (D : va_G) (cy : Nat → ClassId) (A : Nat → Prop) (G : cG) (ws : va_W) (o : Nat) (d : Int32) {bs_o js_o sh_o wk_o ll_o : Nat} {jc_o lc_o : Int32} {mo_o lb_o : Option Nat} {fb : Nat → Option Nat} (hD : va_D A ws) (hT : cT cy G ws) (hG_o : G o = some (7, 0, 0)) (hM_o : cIn ws o (.inr (8, [.ref bs_o, .ref js_o, .int jc_o, .ref sh_o, .ref wk_o, va_rf mo_o, .ref ll_o, .int lc_o, va_rf lb_o]))) (hM_sh_o : cIn ws sh_o (.inl (cy 5, cqa 8 fb))) (hs0 : ∀ i, fb i = none) : Ci l D cy A yX9_toss wsX9_toss ({ frames := 1, cells := 0, slots := 0, locals := 20 }) 0 0 ws [.ref o, .int d] (fun r0 u => u = (G, ws) ∧ (r0 = toO d)) := by
  refine Met.ofW (cc := cX9_toss) (maxL := 4) (ret := (some .int)) (by decide) rfl ?_
  intro p e s m args below meth c s₁ B hml hv
  obtain ⟨rfl, hP, hK, hA, hV⟩ := hv
  have hx := B.exec
  have hb := B.bytes
  have hr := B.returns
  have hts := atoms_spec (ws := wsX9_toss) B.pre
  have hown : s.vm.findClass RX9 = some m.cls := findClass_of_methodNamed B.named
  have hlocks := B.notSynchronized
  have hS : va_S A s.heap s.heap [] := va_S.rf
  have hl := lv_entry ([.ref o, .int d]) (n := 4) (Nat.le_of_ble_eq_true rfl)
  rw [lg_entry_eq]
  generalize (lg_sl ([.ref o, .int d]) ++ List.replicate (4 - (lg_sl ([.ref o, .int d])).length) Slot.unset).toArray = ls at hl ⊢
  have hl : lv_has ls 4 [(0, .ref o), (1, .int d)] := hl
  have k_m11 : (-11 : Int32).toInt = -11 := by decide
  have k_m1 : (-1 : Int32).toInt = -1 := by decide
  have k_0 : (0 : Int32).toInt = 0 := by decide
  obtain ⟨hjc_o, hlc_o, hG_bs_o, hG_js_o, hG_sh_o, hG_wk_o, hmo_o, hG_ll_o, hlb_o⟩ := w7sh hD hT hG_o hM_o
  have hf_sh_o := w10sh hD hT hG_sh_o hM_sh_o
  refine lv_iload_n hx hb dX9_toss_0 rfl (lv_at hl 1 rfl) ?_
  refine t_pu (As := [.int d]) (rest := []) ⟨hx, hb, hml, hown, hts⟩ (c_X9_isShelf l d ) (va_cwS 1 hts gX9_toss_X9_isShelf rfl rfl rfl (by decide +kernel) ⟨Nat.le_of_ble_eq_true rfl, Nat.le_of_ble_eq_true rfl⟩) hP rfl hl.1 rfl (Nat.le_of_ble_eq_true rfl) dX9_toss_1 ⟨Nat.le_of_ble_eq_true rfl, Nat.le_of_ble_eq_true rfl⟩ hS (fun r1 H locs q1 hP hS => ?_)
  refine lv_if_ne (tgt := 9) hx hb dX9_toss_4 (by decide) (fun c4 => ?_) (fun c4 => ?_)
  · skip
    have b4 := bo_t q1 c4
    refine lv_aload_n hx hb dX9_toss_9 rfl (lv_at hl 0 rfl) ?_
    refine t_get (v := .ref sh_o) (C := RX9) (T := TX9) (N := 9) hx hb hts (by decide +kernel) hown hK hP hM_o rfl 3 (by decide) (hts (.fieldLink RX9 27 "ShadowBench" "shelves" "[LShadowBench$Held;") (by decide +kernel)) (fun _ h9 => h9) rfl dX9_toss_10 ?_
    refine lv_iload_n hx hb dX9_toss_13 rfl (lv_at hl 1 rfl) ?_
    refine t_aald10f hx hb hK hP hM_sh_o hf_sh_o (vp_in_iff.mpr ⟨by omega, by omega⟩) dX9_toss_14 (fun nf14 => ?_) (fun x14 kx14 nx14 hG_x14 nf14 => ?_) (fun x14 nx14 hG_x14 nf14 => ?_)
    · skip
      refine lv_ifnonnullN hx hb dX9_toss_15 ?_
      refine lv_bipush (v := (-11)) hx hb dX9_toss_18 (by decide) ?_
      exact W.iret (v := ((-11) : Int32)) hx hb hr (fun t ht hW => ⟨⟨_, (G, ws), rfl, ⟨rfl, (by unfold toO; rw [if_pos (by omega)])⟩, by show va_P D vwCl ws t.heap; rw [ht]; exact hP, hD, hT⟩, hS.F ht⟩) hS.2.2 dX9_toss_20
    · exact nomatch (show (none : Option Nat) = some _ from (hs0 _).symm.trans nf14)
    · exact nomatch (show (none : Option Nat) = some _ from (hs0 _).symm.trans nf14)
  · skip
    have b4 := bo_f q1 c4
    refine lv_iconst (v := (-1)) hx hb dX9_toss_7 (by decide) ?_
    exact W.iret (v := ((-1) : Int32)) hx hb hr (fun t ht hW => ⟨⟨_, (G, ws), rfl, ⟨rfl, (by unfold toO; rw [if_neg (by omega)])⟩, by show va_P D vwCl ws t.heap; rw [ht]; exact hP, hD, hT⟩, hS.F ht⟩) hS.2.2 dX9_toss_8
set_option maxHeartbeats 4000000 in
set_option maxRecDepth 100000 in
theorem c_X9_markedJobOf_0 (l : Launch) (hst : l.stackTraces = false) (D : va_G) (cy : Nat → ClassId) (A : Nat → Prop) (G : cG) (ws : va_W) (o : Nat) (j : Int32) {bs_o js_o sh_o wk_o ll_o : Nat} {jc_o lc_o : Int32} {mo_o lb_o : Option Nat} (hD : va_D A ws) (hT : cT cy G ws) (hG_o : G o = some (7, 0, 0)) (hM_o : cIn ws o (.inr (8, [.ref bs_o, .ref js_o, .int jc_o, .ref sh_o, .ref wk_o, va_rf mo_o, .ref ll_o, .int lc_o, va_rf lb_o]))) (hj0 : jc_o.toInt = 0) : Xa l D cy A yX9_markedJobOf wsX9_markedJobOf ({ frames := 6, cells := 1, slots := 6, locals := 90 }) 1 6 ws [.ref o, .int j] (fun r0 u => u = (G, ws) ∧ (False)) (fun u => u = (G, ws)) (fun E => E = xIA) := by
  refine vx_ofW (cc := cX9_markedJobOf) (maxL := 4) (ret := (some (.object "ShadowBench$MarkedJob"))) (by decide) rfl ?_
  intro p e s m args below meth c s₁ B hml hno hv
  obtain ⟨rfl, ⟨hP, hK, hA, hV⟩, hZ, hXT⟩ := hv
  have hx := B.exec
  have hb := B.bytes
  have hr := B.returns
  have hts := atoms_spec (ws := wsX9_markedJobOf) B.pre
  have hown : s.vm.findClass RX9 = some m.cls := findClass_of_methodNamed B.named
  have hlocks := B.notSynchronized
  have hS : va_S A s.heap s.heap [] := va_S.rf
  have hl := lv_entry ([.ref o, .int j]) (n := 4) (Nat.le_of_ble_eq_true rfl)
  rw [lg_entry_eq]
  generalize (lg_sl ([.ref o, .int j]) ++ List.replicate (4 - (lg_sl ([.ref o, .int j])).length) Slot.unset).toArray = ls at hl ⊢
  have hl : lv_has ls 4 [(0, .ref o), (1, .int j)] := hl
  have k_0 : (0 : Int32).toInt = 0 := by decide
  obtain ⟨hjc_o, hlc_o, hG_bs_o, hG_js_o, hG_sh_o, hG_wk_o, hmo_o, hG_ll_o, hlb_o⟩ := w7sh hD hT hG_o hM_o
  refine lv_aload_n hx hb dX9_markedJobOf_0 rfl (lv_at hl 0 rfl) ?_
  refine lv_iload_n hx hb dX9_markedJobOf_1 rfl (lv_at hl 1 rfl) ?_
  refine t_calla (va_runV (g := F0 m 2 ls ([.int j, .ref o])) (As := [.int j]) (rest := []) ⟨hx, hb, hml, hown, hts⟩ (c_X9_jobOf_0 l D cy A G ws o j hD hT hG_o hM_o hj0) (cwV 1 hts gX9_markedJobOf_X9_jobOf rfl rfl rfl (by decide +kernel) ⟨Nat.le_of_ble_eq_true rfl, Nat.le_of_ble_eq_true rfl⟩) (c_preV hM_o rfl hP hK hA hS hV) rfl rfl hl.1 rfl (lv_room (Nat.le_of_ble_eq_true rfl)) dX9_markedJobOf_2 ⟨Nat.le_of_ble_eq_true rfl, Nat.le_of_ble_eq_true rfl⟩) hS (fun r2 u H locs q2 hP9 hD9 hT9 hS => ?_)
  obtain ⟨rfl, q2⟩ := q2
  have hP : va_P D vwCl ws H := hP9
  subst q2
  refine lv_astore_nN (lv' := [(3, .null), (0, .ref o), (1, .int j)]) hx hb dX9_markedJobOf_5 rfl hl (by decide) rfl (fun ls hl => ?_)
  refine lv_aload_nN hx hb dX9_markedJobOf_6 rfl (lv_at hl 0 rfl) ?_
  refine lv_instN hx hb dX9_markedJobOf_7 ?_
  refine lv_if_eq (tgt := 20) hx hb dX9_markedJobOf_10 (by decide) (fun c10 => ?_) (fun c10 => ?_)
  · skip
    have d10 := c10
    rw [fa_eq] at d10
    obtain ⟨sa20, hsa20⟩ := hXT.2.2.1 (RX9, 302, "no such job, or it is not marked") (by decide)
    exact vx_throwSW (own := RX9) (cls := xIA) (names := [xRT, xEX]) (A := A) (ik := 223) (ic := 227) hx hb hst hown (by decide) (by decide) (hts (.classLink RX9 223 xIA) (by decide +kernel)) (hts (.initialized xIA) (by decide +kernel)) hsa20 (x_hat hts hXT (Or.inl rfl) (by decide +kernel) (by decide +kernel)) (by decide +kernel) hXT.2.2.2.1 hXT.2.2.2.2 hS (by rw [hml]; exact hl.1) dX9_markedJobOf_20 dX9_markedJobOf_23 dX9_markedJobOf_24 dX9_markedJobOf_27 dX9_markedJobOf_30 (fun x9 h9 => (hno x9 h9).elim) (Nat.le_of_ble_eq_true rfl) (Nat.le_of_ble_eq_true rfl) (Nat.le_of_ble_eq_true rfl) (Nat.le_of_ble_eq_true rfl) hlocks (x_thr (G' := G) (ws' := ws) rfl (rfl) hP hD hT hS) hS.2.2 (Nat.le_of_ble_eq_true rfl) (Nat.le_of_ble_eq_true rfl)
  · first | exact absurd c10 (by decide) | exact absurd (by decide) c10
set_option maxHeartbeats 4000000 in
set_option maxRecDepth 100000 in
theorem c_X9_best_0 (l : Launch) (hst : l.stackTraces = false) (D : va_G) (cy : Nat → ClassId) (A : Nat → Prop) (G : cG) (ws : va_W) (o : Nat) (j : Int32) {bs_o js_o sh_o wk_o ll_o : Nat} {jc_o lc_o : Int32} {mo_o lb_o : Option Nat} (hD : va_D A ws) (hT : cT cy G ws) (hG_o : G o = some (7, 0, 0)) (hM_o : cIn ws o (.inr (8, [.ref bs_o, .ref js_o, .int jc_o, .ref sh_o, .ref wk_o, va_rf mo_o, .ref ll_o, .int lc_o, va_rf lb_o]))) (hj0 : jc_o.toInt = 0) : Xi l D cy A yX9_best wsX9_best ({ frames := 7, cells := 1, slots := 6, locals := 113 }) 1 6 ws [.ref o, .int j] (fun r0 u => u = (G, ws) ∧ (False)) (fun u => u = (G, ws)) (fun E => E = xIA) := by
  refine vx_ofW (cc := cX9_best) (maxL := 3) (ret := (some .int)) (by decide) rfl ?_
  intro p e s m args below meth c s₁ B hml hno hv
  obtain ⟨rfl, ⟨hP, hK, hA, hV⟩, hZ, hXT⟩ := hv
  have hx := B.exec
  have hb := B.bytes
  have hr := B.returns
  have hts := atoms_spec (ws := wsX9_best) B.pre
  have hown : s.vm.findClass RX9 = some m.cls := findClass_of_methodNamed B.named
  have hlocks := B.notSynchronized
  have hS : va_S A s.heap s.heap [] := va_S.rf
  have hl := lv_entry ([.ref o, .int j]) (n := 3) (Nat.le_of_ble_eq_true rfl)
  rw [lg_entry_eq]
  generalize (lg_sl ([.ref o, .int j]) ++ List.replicate (3 - (lg_sl ([.ref o, .int j])).length) Slot.unset).toArray = ls at hl ⊢
  have hl : lv_has ls 3 [(0, .ref o), (1, .int j)] := hl
  have k_0 : (0 : Int32).toInt = 0 := by decide
  obtain ⟨hjc_o, hlc_o, hG_bs_o, hG_js_o, hG_sh_o, hG_wk_o, hmo_o, hG_ll_o, hlb_o⟩ := w7sh hD hT hG_o hM_o
  refine lv_aload_n hx hb dX9_best_0 rfl (lv_at hl 0 rfl) ?_
  refine lv_iload_n hx hb dX9_best_1 rfl (lv_at hl 1 rfl) ?_
  refine x_calla (vx_runV (g := F0 m 2 ls ([.int j, .ref o])) (As := [.int j]) (rest := []) ⟨hx, hb, hml, hown, hts⟩ (c_X9_markedJobOf_0 l hst D cy A G ws o j hD hT hG_o hM_o hj0) (cwV 1 hts gX9_best_X9_markedJobOf rfl rfl rfl (by decide +kernel) ⟨Nat.le_of_ble_eq_true rfl, Nat.le_of_ble_eq_true rfl⟩) (x_preV hM_o rfl hP hK hA hS hV hZ hXT) rfl rfl hl.1 rfl (lv_room (Nat.le_of_ble_eq_true rfl)) dX9_best_2 ⟨Nat.le_of_ble_eq_true rfl, Nat.le_of_ble_eq_true rfl⟩) hS (fun E9 ce9 q9 u H locs px9 pe9 hP9 hD9 hT9 hS hc9 hv9 hcl9 => ?_) (fun r2 u H locs q2 hP9 hD9 hT9 hS => ?_)
  · skip
    obtain rfl := px9
    have hP : va_P D vwCl ws H := hP9
    exact x_out (G' := G) (ws' := ws) hno hlocks hc9 hv9 hcl9 rfl pe9 hP hD hT hS (Nat.le_of_ble_eq_true rfl) (Nat.le_of_ble_eq_true rfl)
  exact (q2.2 : False).elim
set_option maxHeartbeats 4000000 in
set_option maxRecDepth 100000 in
theorem c_X9_bestOne_0 (l : Launch) (hst : l.stackTraces = false) (D : va_G) (cy : Nat → ClassId) (A : Nat → Prop) (G : cG) (ws : va_W) (o : Nat) (j : Int32) {bs_o js_o sh_o wk_o ll_o : Nat} {jc_o lc_o : Int32} {mo_o lb_o : Option Nat} (hD : va_D A ws) (hT : cT cy G ws) (hG_o : G o = some (7, 0, 0)) (hM_o : cIn ws o (.inr (8, [.ref bs_o, .ref js_o, .int jc_o, .ref sh_o, .ref wk_o, va_rf mo_o, .ref ll_o, .int lc_o, va_rf lb_o]))) (hj0 : jc_o.toInt = 0) : Xl l D cy A yX9_bestOne wsX9_bestOne ({ frames := 7, cells := 1, slots := 6, locals := 113 }) 1 6 ws [.ref o, .int j] (fun r0 u => u = (G, ws) ∧ (False)) (fun u => u = (G, ws)) (fun E => E = xIA) := by
  refine vx_ofW (cc := cX9_bestOne) (maxL := 2) (ret := (some .long)) (by decide) rfl ?_
  intro p e s m args below meth c s₁ B hml hno hv
  obtain ⟨rfl, ⟨hP, hK, hA, hV⟩, hZ, hXT⟩ := hv
  have hx := B.exec
  have hb := B.bytes
  have hr := B.returns
  have hts := atoms_spec (ws := wsX9_bestOne) B.pre
  have hown : s.vm.findClass RX9 = some m.cls := findClass_of_methodNamed B.named
  have hlocks := B.notSynchronized
  have hS : va_S A s.heap s.heap [] := va_S.rf
  have hl := lv_entry ([.ref o, .int j]) (n := 2) (Nat.le_of_ble_eq_true rfl)
  rw [lg_entry_eq]
  generalize (lg_sl ([.ref o, .int j]) ++ List.replicate (2 - (lg_sl ([.ref o, .int j])).length) Slot.unset).toArray = ls at hl ⊢
  have hl : lv_has ls 2 [(0, .ref o), (1, .int j)] := hl
  have k_0 : (0 : Int32).toInt = 0 := by decide
  obtain ⟨hjc_o, hlc_o, hG_bs_o, hG_js_o, hG_sh_o, hG_wk_o, hmo_o, hG_ll_o, hlb_o⟩ := w7sh hD hT hG_o hM_o
  refine lv_aload_n hx hb dX9_bestOne_0 rfl (lv_at hl 0 rfl) ?_
  refine lv_aload_n hx hb dX9_bestOne_1 rfl (lv_at hl 0 rfl) ?_
  refine lv_iload_n hx hb dX9_bestOne_2 rfl (lv_at hl 1 rfl) ?_
  refine x_calla (vx_runV (g := F0 m 3 ls ([.int j, .ref o, .ref o])) (As := [.int j]) (rest := [.ref o]) ⟨hx, hb, hml, hown, hts⟩ (c_X9_markedJobOf_0 l hst D cy A G ws o j hD hT hG_o hM_o hj0) (cwV 1 hts gX9_bestOne_X9_markedJobOf rfl rfl rfl (by decide +kernel) ⟨Nat.le_of_ble_eq_true rfl, Nat.le_of_ble_eq_true rfl⟩) (x_preV hM_o rfl hP hK hA hS hV hZ hXT) rfl rfl hl.1 rfl (lv_room (Nat.le_of_ble_eq_true rfl)) dX9_bestOne_3 ⟨Nat.le_of_ble_eq_true rfl, Nat.le_of_ble_eq_true rfl⟩) hS (fun E9 ce9 q9 u H locs px9 pe9 hP9 hD9 hT9 hS hc9 hv9 hcl9 => ?_) (fun r3 u H locs q3 hP9 hD9 hT9 hS => ?_)
  · skip
    obtain rfl := px9
    have hP : va_P D vwCl ws H := hP9
    exact x_out (G' := G) (ws' := ws) hno hlocks hc9 hv9 hcl9 rfl pe9 hP hD hT hS (Nat.le_of_ble_eq_true rfl) (Nat.le_of_ble_eq_true rfl)
  exact (q3.2 : False).elim
set_option maxHeartbeats 4000000 in
set_option maxRecDepth 100000 in
theorem c_X9_element_0 (l : Launch) (hst : l.stackTraces = false) (D : va_G) (cy : Nat → ClassId) (A : Nat → Prop) (G : cG) (ws : va_W) (o : Nat) (d : Int32) (i : Int32) {bs_o js_o sh_o wk_o ll_o : Nat} {jc_o lc_o : Int32} {mo_o lb_o : Option Nat} {fb : Nat → Option Nat} (hD : va_D A ws) (hT : cT cy G ws) (hG_o : G o = some (7, 0, 0)) (hM_o : cIn ws o (.inr (8, [.ref bs_o, .ref js_o, .int jc_o, .ref sh_o, .ref wk_o, va_rf mo_o, .ref ll_o, .int lc_o, va_rf lb_o]))) (hM_sh_o : cIn ws sh_o (.inl (cy 5, cqa 8 fb))) (hs0 : ∀ i, fb i = none) : Xl l D cy A yX9_element wsX9_element ({ frames := 6, cells := 1, slots := 6, locals := 90 }) 1 6 ws [.ref o, .int d, .int i] (fun r0 u => u = (G, ws) ∧ (False)) (fun u => u = (G, ws)) (fun E => (E = xIA ∧ ¬ (0 ≤ d.toInt ∧ d.toInt < 8)) ∨ (E = xIS ∧ (0 ≤ d.toInt ∧ d.toInt < 8))) := by
  refine vx_ofW (cc := cX9_element) (maxL := 5) (ret := (some .long)) (by decide) rfl ?_
  intro p e s m args below meth c s₁ B hml hno hv
  obtain ⟨rfl, ⟨hP, hK, hA, hV⟩, hZ, hXT⟩ := hv
  have hx := B.exec
  have hb := B.bytes
  have hr := B.returns
  have hts := atoms_spec (ws := wsX9_element) B.pre
  have hown : s.vm.findClass RX9 = some m.cls := findClass_of_methodNamed B.named
  have hlocks := B.notSynchronized
  have hS : va_S A s.heap s.heap [] := va_S.rf
  have hl := lv_entry ([.ref o, .int d, .int i]) (n := 5) (Nat.le_of_ble_eq_true rfl)
  rw [lg_entry_eq]
  generalize (lg_sl ([.ref o, .int d, .int i]) ++ List.replicate (5 - (lg_sl ([.ref o, .int d, .int i])).length) Slot.unset).toArray = ls at hl ⊢
  have hl : lv_has ls 5 [(0, .ref o), (1, .int d), (2, .int i)] := hl
  have k_0 : (0 : Int32).toInt = 0 := by decide
  obtain ⟨hjc_o, hlc_o, hG_bs_o, hG_js_o, hG_sh_o, hG_wk_o, hmo_o, hG_ll_o, hlb_o⟩ := w7sh hD hT hG_o hM_o
  have hf_sh_o := w10sh hD hT hG_sh_o hM_sh_o
  refine lv_iload_n hx hb dX9_element_0 rfl (lv_at hl 1 rfl) ?_
  refine t_pu (As := [.int d]) (rest := []) ⟨hx, hb, hml, hown, hts⟩ (c_X9_isShelf l d ) (va_cwS 1 hts gX9_element_X9_isShelf rfl rfl rfl (by decide +kernel) ⟨Nat.le_of_ble_eq_true rfl, Nat.le_of_ble_eq_true rfl⟩) hP rfl hl.1 rfl (Nat.le_of_ble_eq_true rfl) dX9_element_1 ⟨Nat.le_of_ble_eq_true rfl, Nat.le_of_ble_eq_true rfl⟩ hS (fun r1 H locs q1 hP hS => ?_)
  refine lv_if_ne (tgt := 17) hx hb dX9_element_4 (by decide) (fun c4 => ?_) (fun c4 => ?_)
  · skip
    have b4 := bo_t q1 c4
    refine lv_aload_n hx hb dX9_element_17 rfl (lv_at hl 0 rfl) ?_
    refine t_get (v := .ref sh_o) (C := RX9) (T := TX9) (N := 9) hx hb hts (by decide +kernel) hown hK hP hM_o rfl 3 (by decide) (hts (.fieldLink RX9 27 "ShadowBench" "shelves" "[LShadowBench$Held;") (by decide +kernel)) (fun _ h9 => h9) rfl dX9_element_18 ?_
    refine lv_iload_n hx hb dX9_element_21 rfl (lv_at hl 1 rfl) ?_
    refine t_aald10f hx hb hK hP hM_sh_o hf_sh_o (vp_in_iff.mpr ⟨by omega, by omega⟩) dX9_element_22 (fun nf22 => ?_) (fun x22 kx22 nx22 hG_x22 nf22 => ?_) (fun x22 nx22 hG_x22 nf22 => ?_)
    · skip
      refine lv_astoreN (lv' := [(4, .null), (0, .ref o), (1, .int d), (2, .int i)]) hx hb dX9_element_23 hl (by decide) rfl (fun ls hl => ?_)
      refine lv_aloadN hx hb dX9_element_25 (lv_at hl 0 rfl) ?_
      refine lv_instN hx hb dX9_element_27 ?_
      refine lv_if_eq (tgt := 54) hx hb dX9_element_30 (by decide) (fun c30 => ?_) (fun c30 => ?_)
      · skip
        have d30 := c30
        rw [fa_eq] at d30
        obtain ⟨sa54, hsa54⟩ := hXT.2.2.1 (RX9, 261, "no row with such a place is held there") (by decide)
        exact vx_throwSW (own := RX9) (cls := xIS) (names := [xRT, xEX]) (A := A) (ik := 259) (ic := 263) hx hb hst hown (by decide) (by decide) (hts (.classLink RX9 259 xIS) (by decide +kernel)) (hts (.initialized xIS) (by decide +kernel)) hsa54 (x_hat hts hXT (Or.inr (Or.inl rfl)) (by decide +kernel) (by decide +kernel)) (by decide +kernel) hXT.2.2.2.1 hXT.2.2.2.2 hS (by rw [hml]; exact hl.1) dX9_element_54 dX9_element_57 dX9_element_58 dX9_element_61 dX9_element_64 (fun x9 h9 => (hno x9 h9).elim) (Nat.le_of_ble_eq_true rfl) (Nat.le_of_ble_eq_true rfl) (Nat.le_of_ble_eq_true rfl) (Nat.le_of_ble_eq_true rfl) hlocks (x_thr (G' := G) (ws' := ws) rfl (Or.inr ⟨rfl, b4⟩) hP hD hT hS) hS.2.2 (Nat.le_of_ble_eq_true rfl) (Nat.le_of_ble_eq_true rfl)
      · first | exact absurd c30 (by decide) | exact absurd (by decide) c30
    · exact nomatch (show (none : Option Nat) = some _ from (hs0 _).symm.trans nf22)
    · exact nomatch (show (none : Option Nat) = some _ from (hs0 _).symm.trans nf22)
  · skip
    have b4 := bo_f q1 c4
    obtain ⟨sa7, hsa7⟩ := hXT.2.2.1 (RX9, 250, "no such shelf") (by decide)
    exact vx_throwS (own := RX9) (cls := xIA) (names := [xRT, xEX]) (A := A) (ik := 223) (ic := 227) hx hb hst hown (by decide) (by decide) (hts (.classLink RX9 223 xIA) (by decide +kernel)) (hts (.initialized xIA) (by decide +kernel)) hsa7 (x_hat hts hXT (Or.inl rfl) (by decide +kernel) (by decide +kernel)) (by decide +kernel) hXT.2.2.2.1 hXT.2.2.2.2 hS (by rw [hml]; exact hl.1) dX9_element_7 dX9_element_10 dX9_element_11 dX9_element_13 dX9_element_16 (fun x9 h9 => (hno x9 h9).elim) (Nat.le_of_ble_eq_true rfl) (Nat.le_of_ble_eq_true rfl) (Nat.le_of_ble_eq_true rfl) (Nat.le_of_ble_eq_true rfl) hlocks (x_thr (G' := G) (ws' := ws) rfl (Or.inl ⟨rfl, b4⟩) hP hD hT hS) hS.2.2 (Nat.le_of_ble_eq_true rfl) (Nat.le_of_ble_eq_true rfl)
set_option maxHeartbeats 4000000 in
set_option maxRecDepth 100000 in
theorem c_X9_weight_0 (l : Launch) (hst : l.stackTraces = false) (D : va_G) (cy : Nat → ClassId) (A : Nat → Prop) (G : cG) (ws : va_W) (o : Nat) (d : Int32) {bs_o js_o sh_o wk_o ll_o : Nat} {jc_o lc_o : Int32} {mo_o lb_o : Option Nat} {fb : Nat → Option Nat} (hD : va_D A ws) (hT : cT cy G ws) (hG_o : G o = some (7, 0, 0)) (hM_o : cIn ws o (.inr (8, [.ref bs_o, .ref js_o, .int jc_o, .ref sh_o, .ref wk_o, va_rf mo_o, .ref ll_o, .int lc_o, va_rf lb_o]))) (hM_sh_o : cIn ws sh_o (.inl (cy 5, cqa 8 fb))) (hs0 : ∀ i, fb i = none) : Xi l D cy A yX9_weight wsX9_weight ({ frames := 6, cells := 1, slots := 6, locals := 90 }) 1 6 ws [.ref o, .int d] (fun r0 u => u = (G, ws) ∧ (False)) (fun u => u = (G, ws)) (fun E => (E = xIA ∧ ¬ (0 ≤ d.toInt ∧ d.toInt < 8)) ∨ (E = xIS ∧ (0 ≤ d.toInt ∧ d.toInt < 8))) := by
  refine vx_ofW (cc := cX9_weight) (maxL := 4) (ret := (some .int)) (by decide) rfl ?_
  intro p e s m args below meth c s₁ B hml hno hv
  obtain ⟨rfl, ⟨hP, hK, hA, hV⟩, hZ, hXT⟩ := hv
  have hx := B.exec
  have hb := B.bytes
  have hr := B.returns
  have hts := atoms_spec (ws := wsX9_weight) B.pre
  have hown : s.vm.findClass RX9 = some m.cls := findClass_of_methodNamed B.named
  have hlocks := B.notSynchronized
  have hS : va_S A s.heap s.heap [] := va_S.rf
  have hl := lv_entry ([.ref o, .int d]) (n := 4) (Nat.le_of_ble_eq_true rfl)
  rw [lg_entry_eq]
  generalize (lg_sl ([.ref o, .int d]) ++ List.replicate (4 - (lg_sl ([.ref o, .int d])).length) Slot.unset).toArray = ls at hl ⊢
  have hl : lv_has ls 4 [(0, .ref o), (1, .int d)] := hl
  have k_0 : (0 : Int32).toInt = 0 := by decide
  obtain ⟨hjc_o, hlc_o, hG_bs_o, hG_js_o, hG_sh_o, hG_wk_o, hmo_o, hG_ll_o, hlb_o⟩ := w7sh hD hT hG_o hM_o
  have hf_sh_o := w10sh hD hT hG_sh_o hM_sh_o
  refine lv_iload_n hx hb dX9_weight_0 rfl (lv_at hl 1 rfl) ?_
  refine t_pu (As := [.int d]) (rest := []) ⟨hx, hb, hml, hown, hts⟩ (c_X9_isShelf l d ) (va_cwS 1 hts gX9_weight_X9_isShelf rfl rfl rfl (by decide +kernel) ⟨Nat.le_of_ble_eq_true rfl, Nat.le_of_ble_eq_true rfl⟩) hP rfl hl.1 rfl (Nat.le_of_ble_eq_true rfl) dX9_weight_1 ⟨Nat.le_of_ble_eq_true rfl, Nat.le_of_ble_eq_true rfl⟩ hS (fun r1 H locs q1 hP hS => ?_)
  refine lv_if_ne (tgt := 17) hx hb dX9_weight_4 (by decide) (fun c4 => ?_) (fun c4 => ?_)
  · skip
    have b4 := bo_t q1 c4
    refine lv_aload_n hx hb dX9_weight_17 rfl (lv_at hl 0 rfl) ?_
    refine t_get (v := .ref sh_o) (C := RX9) (T := TX9) (N := 9) hx hb hts (by decide +kernel) hown hK hP hM_o rfl 3 (by decide) (hts (.fieldLink RX9 27 "ShadowBench" "shelves" "[LShadowBench$Held;") (by decide +kernel)) (fun _ h9 => h9) rfl dX9_weight_18 ?_
    refine lv_iload_n hx hb dX9_weight_21 rfl (lv_at hl 1 rfl) ?_
    refine t_aald10f hx hb hK hP hM_sh_o hf_sh_o (vp_in_iff.mpr ⟨by omega, by omega⟩) dX9_weight_22 (fun nf22 => ?_) (fun x22 kx22 nx22 hG_x22 nf22 => ?_) (fun x22 nx22 hG_x22 nf22 => ?_)
    · skip
      refine lv_astore_nN (lv' := [(3, .null), (0, .ref o), (1, .int d)]) hx hb dX9_weight_23 rfl hl (by decide) rfl (fun ls hl => ?_)
      refine lv_aload_nN hx hb dX9_weight_24 rfl (lv_at hl 0 rfl) ?_
      refine lv_instN hx hb dX9_weight_25 ?_
      refine lv_if_eq (tgt := 41) hx hb dX9_weight_28 (by decide) (fun c28 => ?_) (fun c28 => ?_)
      · skip
        have d28 := c28
        rw [fa_eq] at d28
        obtain ⟨sa41, hsa41⟩ := hXT.2.2.1 (RX9, 284, "no job is held there") (by decide)
        exact vx_throwSW (own := RX9) (cls := xIS) (names := [xRT, xEX]) (A := A) (ik := 259) (ic := 263) hx hb hst hown (by decide) (by decide) (hts (.classLink RX9 259 xIS) (by decide +kernel)) (hts (.initialized xIS) (by decide +kernel)) hsa41 (x_hat hts hXT (Or.inr (Or.inl rfl)) (by decide +kernel) (by decide +kernel)) (by decide +kernel) hXT.2.2.2.1 hXT.2.2.2.2 hS (by rw [hml]; exact hl.1) dX9_weight_41 dX9_weight_44 dX9_weight_45 dX9_weight_48 dX9_weight_51 (fun x9 h9 => (hno x9 h9).elim) (Nat.le_of_ble_eq_true rfl) (Nat.le_of_ble_eq_true rfl) (Nat.le_of_ble_eq_true rfl) (Nat.le_of_ble_eq_true rfl) hlocks (x_thr (G' := G) (ws' := ws) rfl (Or.inr ⟨rfl, b4⟩) hP hD hT hS) hS.2.2 (Nat.le_of_ble_eq_true rfl) (Nat.le_of_ble_eq_true rfl)
      · first | exact absurd c28 (by decide) | exact absurd (by decide) c28
    · exact nomatch (show (none : Option Nat) = some _ from (hs0 _).symm.trans nf22)
    · exact nomatch (show (none : Option Nat) = some _ from (hs0 _).symm.trans nf22)
  · skip
    have b4 := bo_f q1 c4
    obtain ⟨sa7, hsa7⟩ := hXT.2.2.1 (RX9, 250, "no such shelf") (by decide)
    exact vx_throwS (own := RX9) (cls := xIA) (names := [xRT, xEX]) (A := A) (ik := 223) (ic := 227) hx hb hst hown (by decide) (by decide) (hts (.classLink RX9 223 xIA) (by decide +kernel)) (hts (.initialized xIA) (by decide +kernel)) hsa7 (x_hat hts hXT (Or.inl rfl) (by decide +kernel) (by decide +kernel)) (by decide +kernel) hXT.2.2.2.1 hXT.2.2.2.2 hS (by rw [hml]; exact hl.1) dX9_weight_7 dX9_weight_10 dX9_weight_11 dX9_weight_13 dX9_weight_16 (fun x9 h9 => (hno x9 h9).elim) (Nat.le_of_ble_eq_true rfl) (Nat.le_of_ble_eq_true rfl) (Nat.le_of_ble_eq_true rfl) (Nat.le_of_ble_eq_true rfl) hlocks (x_thr (G' := G) (ws' := ws) rfl (Or.inl ⟨rfl, b4⟩) hP hD hT hS) hS.2.2 (Nat.le_of_ble_eq_true rfl) (Nat.le_of_ble_eq_true rfl)
set_option maxHeartbeats 4000000 in
set_option maxRecDepth 100000 in
theorem c_L_best_0 (l : Launch) (hst : l.stackTraces = false) (D : va_G) (cy : Nat → ClassId) (A : Nat → Prop) (G : cG) (ws : va_W) (xb : Nat) (p0 : Int32) (ou : Nat) {bs_o js_o sh_o wk_o ll_o : Nat} {jc_o lc_o : Int32} {mo_o lb_o : Option Nat} (hD : va_D A ws) (hT : cT cy G ws) (hG_xb : G xb = some (7, 0, 0)) (hM_xb : cIn ws xb (.inr (8, [.ref bs_o, .ref js_o, .int jc_o, .ref sh_o, .ref wk_o, va_rf mo_o, .ref ll_o, .int lc_o, va_rf lb_o]))) (hG_ou : G ou = some (1, 1, 0)) (hj0 : jc_o.toInt = 0) : Yi l D cy A yL_best wsL_best ({ frames := 8, cells := 1, slots := 6, locals := 135 }) 1 6 ws [.ref xb, .int p0, .ref ou] (fun r0 u => u = (G, ws) ∧ (r0 = 1)) := by
  refine va_MetW (cc := cL_best) (maxL := 4) (ret := (some .int)) (by decide) rfl ?_
  intro p e s m args below meth c s₁ B hml hv
  obtain ⟨rfl, ⟨hP, hK, hA, hV⟩, hZ, hXT⟩ := hv
  have hx := B.exec
  have hb := B.bytes
  have hr := B.returns
  have hts := atoms_spec (ws := wsL_best) B.pre
  have hown : s.vm.findClass RL = some m.cls := findClass_of_methodNamed B.named
  have hlocks := B.notSynchronized
  have htab := vx_table (x := yL_best) B (hts (.codeWith yL_best cL_best 4 (some .int) [(0, 9, 12, 13), (0, 9, 15, 15)]) (by decide +kernel))
  have hS : va_S A s.heap s.heap [] := va_S.rf
  have hl := lv_entry ([.ref xb, .int p0, .ref ou]) (n := 4) (Nat.le_of_ble_eq_true rfl)
  rw [lg_entry_eq]
  generalize (lg_sl ([.ref xb, .int p0, .ref ou]) ++ List.replicate (4 - (lg_sl ([.ref xb, .int p0, .ref ou])).length) Slot.unset).toArray = ls at hl ⊢
  have hl : lv_has ls 4 [(0, .ref xb), (1, .int p0), (2, .ref ou)] := hl
  have k_0 : (0 : Int32).toInt = 0 := by decide
  have k_1 : (1 : Int32).toInt = 1 := by decide
  obtain ⟨hjc_o, hlc_o, hG_bs_o, hG_js_o, hG_sh_o, hG_wk_o, hmo_o, hG_ll_o, hlb_o⟩ := w7sh hD hT hG_xb hM_xb
  refine lv_aload_n hx hb dL_best_0 rfl (lv_at hl 2 rfl) ?_
  refine lv_iconst (v := 0) hx hb dL_best_1 (by decide) ?_
  refine lv_aload_n hx hb dL_best_2 rfl (lv_at hl 0 rfl) ?_
  refine lv_iload_n hx hb dL_best_3 rfl (lv_at hl 1 rfl) ?_
  refine x_calli (vx_runV (g := F0 m 4 ls ([.int p0, .ref xb, .int (0 : Int32), .ref ou])) (As := [.int p0]) (rest := [.int (0 : Int32), .ref ou]) ⟨hx, hb, hml, hown, hts⟩ (c_X9_best_0 l hst D cy A G ws xb p0 hD hT hG_xb hM_xb hj0) (cwV 1 hts gL_best_X9_best rfl rfl rfl (by decide +kernel) ⟨Nat.le_of_ble_eq_true rfl, Nat.le_of_ble_eq_true rfl⟩) (x_preV hM_xb rfl hP hK hA hS hV hZ hXT) rfl rfl hl.1 rfl (lv_room (Nat.le_of_ble_eq_true rfl)) dL_best_4 ⟨Nat.le_of_ble_eq_true rfl, Nat.le_of_ble_eq_true rfl⟩) hS (fun E9 ce9 q9 u H locs px9 pe9 hP9 hD9 hT9 hS hc9 hv9 hcl9 => ?_) (fun r4 u H locs q4 hP9 hD9 hT9 hS => ?_)
  · skip
    obtain rfl := px9
    have hP : va_P D vwCl ws H := hP9
    obtain rfl := pe9
    refine vx_catch (own := RL) (name := xIA) (E := xIA) hown [] ⟨0, 9, 12, 13⟩ [⟨0, 9, 15, 15⟩] htab (fun z9 h9 => by simp at h9) (by decide) (by decide) (hts (.classLink RL 13 xIA) (by decide +kernel)) (hXT.1.2.1.use rfl) hc9 hv9 hcl9 ?_
    refine lv_astore_n (lv' := [(3, .ref q9), (0, .ref xb), (1, .int p0), (2, .ref ou)]) hx hb dL_best_12 rfl hl (by decide) rfl (fun ls hl => ?_)
    refine lv_iconst (v := 1) hx hb dL_best_13 (by decide) ?_
    refine W.widen (k := 1) (n := 6) (Nat.le_of_ble_eq_true rfl) (Nat.le_of_ble_eq_true rfl) ?_
    exact W.iret (v := (1 : Int32)) hx hb hr (fun t ht hW => ⟨⟨_, (G, ws), rfl, ⟨rfl, rfl⟩, by show va_P D vwCl ws t.heap; rw [ht]; exact hP, hD, hT⟩, hS.F ht⟩) hS.2.2 dL_best_14
  exact (q4.2 : False).elim
set_option maxHeartbeats 4000000 in
set_option maxRecDepth 100000 in
theorem c_L_bestOne_0 (l : Launch) (hst : l.stackTraces = false) (D : va_G) (cy : Nat → ClassId) (A : Nat → Prop) (G : cG) (ws : va_W) (xb : Nat) (p0 : Int32) (ou : Nat) {bs_o js_o sh_o wk_o ll_o : Nat} {jc_o lc_o : Int32} {mo_o lb_o : Option Nat} (hD : va_D A ws) (hT : cT cy G ws) (hG_xb : G xb = some (7, 0, 0)) (hM_xb : cIn ws xb (.inr (8, [.ref bs_o, .ref js_o, .int jc_o, .ref sh_o, .ref wk_o, va_rf mo_o, .ref ll_o, .int lc_o, va_rf lb_o]))) (hG_ou : G ou = some (1, 1, 0)) (hj0 : jc_o.toInt = 0) : Yi l D cy A yL_bestOne wsL_bestOne ({ frames := 8, cells := 1, slots := 6, locals := 134 }) 1 6 ws [.ref xb, .int p0, .ref ou] (fun r0 u => u = (G, ws) ∧ (r0 = 1)) := by
  refine va_MetW (cc := cL_bestOne) (maxL := 4) (ret := (some .int)) (by decide) rfl ?_
  intro p e s m args below meth c s₁ B hml hv
  obtain ⟨rfl, ⟨hP, hK, hA, hV⟩, hZ, hXT⟩ := hv
  have hx := B.exec
  have hb := B.bytes
  have hr := B.returns
  have hts := atoms_spec (ws := wsL_bestOne) B.pre
  have hown : s.vm.findClass RL = some m.cls := findClass_of_methodNamed B.named
  have hlocks := B.notSynchronized
  have htab := vx_table (x := yL_bestOne) B (hts (.codeWith yL_bestOne cL_bestOne 4 (some .int) [(0, 8, 11, 13), (0, 8, 14, 15)]) (by decide +kernel))
  have hS : va_S A s.heap s.heap [] := va_S.rf
  have hl := lv_entry ([.ref xb, .int p0, .ref ou]) (n := 4) (Nat.le_of_ble_eq_true rfl)
  rw [lg_entry_eq]
  generalize (lg_sl ([.ref xb, .int p0, .ref ou]) ++ List.replicate (4 - (lg_sl ([.ref xb, .int p0, .ref ou])).length) Slot.unset).toArray = ls at hl ⊢
  have hl : lv_has ls 4 [(0, .ref xb), (1, .int p0), (2, .ref ou)] := hl
  have k_0 : (0 : Int32).toInt = 0 := by decide
  have k_1 : (1 : Int32).toInt = 1 := by decide
  obtain ⟨hjc_o, hlc_o, hG_bs_o, hG_js_o, hG_sh_o, hG_wk_o, hmo_o, hG_ll_o, hlb_o⟩ := w7sh hD hT hG_xb hM_xb
  refine lv_aload_n hx hb dL_bestOne_0 rfl (lv_at hl 2 rfl) ?_
  refine lv_iconst (v := 0) hx hb dL_bestOne_1 (by decide) ?_
  refine lv_aload_n hx hb dL_bestOne_2 rfl (lv_at hl 0 rfl) ?_
  refine lv_iload_n hx hb dL_bestOne_3 rfl (lv_at hl 1 rfl) ?_
  refine x_calll (vx_runV (g := F0 m 4 ls ([.int p0, .ref xb, .int (0 : Int32), .ref ou])) (As := [.int p0]) (rest := [.int (0 : Int32), .ref ou]) ⟨hx, hb, hml, hown, hts⟩ (c_X9_bestOne_0 l hst D cy A G ws xb p0 hD hT hG_xb hM_xb hj0) (cwV 1 hts gL_bestOne_X9_bestOne rfl rfl rfl (by decide +kernel) ⟨Nat.le_of_ble_eq_true rfl, Nat.le_of_ble_eq_true rfl⟩) (x_preV hM_xb rfl hP hK hA hS hV hZ hXT) rfl rfl hl.1 rfl (lv_room (Nat.le_of_ble_eq_true rfl)) dL_bestOne_4 ⟨Nat.le_of_ble_eq_true rfl, Nat.le_of_ble_eq_true rfl⟩) hS (fun E9 ce9 q9 u H locs px9 pe9 hP9 hD9 hT9 hS hc9 hv9 hcl9 => ?_) (fun r4 u H locs q4 hP9 hD9 hT9 hS => ?_)
  · skip
    obtain rfl := px9
    have hP : va_P D vwCl ws H := hP9
    obtain rfl := pe9
    refine vx_catch (own := RL) (name := xIA) (E := xIA) hown [] ⟨0, 8, 11, 13⟩ [⟨0, 8, 14, 15⟩] htab (fun z9 h9 => by simp at h9) (by decide) (by decide) (hts (.classLink RL 13 xIA) (by decide +kernel)) (hXT.1.2.1.use rfl) hc9 hv9 hcl9 ?_
    refine lv_astore_n (lv' := [(3, .ref q9), (0, .ref xb), (1, .int p0), (2, .ref ou)]) hx hb dL_bestOne_11 rfl hl (by decide) rfl (fun ls hl => ?_)
    refine lv_iconst (v := 1) hx hb dL_bestOne_12 (by decide) ?_
    refine W.widen (k := 1) (n := 6) (Nat.le_of_ble_eq_true rfl) (Nat.le_of_ble_eq_true rfl) ?_
    exact W.iret (v := (1 : Int32)) hx hb hr (fun t ht hW => ⟨⟨_, (G, ws), rfl, ⟨rfl, rfl⟩, by show va_P D vwCl ws t.heap; rw [ht]; exact hP, hD, hT⟩, hS.F ht⟩) hS.2.2 dL_bestOne_13
  exact (q4.2 : False).elim
set_option maxHeartbeats 4000000 in
set_option maxRecDepth 100000 in
theorem c_L_element_0 (l : Launch) (hst : l.stackTraces = false) (D : va_G) (cy : Nat → ClassId) (A : Nat → Prop) (G : cG) (ws : va_W) (xb : Nat) (p0 : Int32) (p1 : Int32) (ou : Nat) {bs_o js_o sh_o wk_o ll_o : Nat} {jc_o lc_o : Int32} {mo_o lb_o : Option Nat} {fb : Nat → Option Nat} (hD : va_D A ws) (hT : cT cy G ws) (hG_xb : G xb = some (7, 0, 0)) (hM_xb : cIn ws xb (.inr (8, [.ref bs_o, .ref js_o, .int jc_o, .ref sh_o, .ref wk_o, va_rf mo_o, .ref ll_o, .int lc_o, va_rf lb_o]))) (hG_ou : G ou = some (1, 1, 0)) (hM_sh_o : cIn ws sh_o (.inl (cy 5, cqa 8 fb))) (hs0 : ∀ i, fb i = none) : Yi l D cy A yL_element wsL_element ({ frames := 7, cells := 1, slots := 6, locals := 114 }) 1 6 ws [.ref xb, .int p0, .int p1, .ref ou] (fun r0 u => u = (G, ws) ∧ (exO p0 r0)) := by
  refine va_MetW (cc := cL_element) (maxL := 5) (ret := (some .int)) (by decide) rfl ?_
  intro p e s m args below meth c s₁ B hml hv
  obtain ⟨rfl, ⟨hP, hK, hA, hV⟩, hZ, hXT⟩ := hv
  have hx := B.exec
  have hb := B.bytes
  have hr := B.returns
  have hts := atoms_spec (ws := wsL_element) B.pre
  have hown : s.vm.findClass RL = some m.cls := findClass_of_methodNamed B.named
  have hlocks := B.notSynchronized
  have htab := vx_table (x := yL_element) B (hts (.codeWith yL_element cL_element 5 (some .int) [(0, 9, 12, 13), (0, 9, 16, 15)]) (by decide +kernel))
  have hS : va_S A s.heap s.heap [] := va_S.rf
  have hl := lv_entry ([.ref xb, .int p0, .int p1, .ref ou]) (n := 5) (Nat.le_of_ble_eq_true rfl)
  rw [lg_entry_eq]
  generalize (lg_sl ([.ref xb, .int p0, .int p1, .ref ou]) ++ List.replicate (5 - (lg_sl ([.ref xb, .int p0, .int p1, .ref ou])).length) Slot.unset).toArray = ls at hl ⊢
  have hl : lv_has ls 5 [(0, .ref xb), (1, .int p0), (2, .int p1), (3, .ref ou)] := hl
  have k_0 : (0 : Int32).toInt = 0 := by decide
  have k_1 : (1 : Int32).toInt = 1 := by decide
  have k_2 : (2 : Int32).toInt = 2 := by decide
  obtain ⟨hjc_o, hlc_o, hG_bs_o, hG_js_o, hG_sh_o, hG_wk_o, hmo_o, hG_ll_o, hlb_o⟩ := w7sh hD hT hG_xb hM_xb
  have hf_sh_o := w10sh hD hT hG_sh_o hM_sh_o
  refine lv_aload_n hx hb dL_element_0 rfl (lv_at hl 3 rfl) ?_
  refine lv_iconst (v := 0) hx hb dL_element_1 (by decide) ?_
  refine lv_aload_n hx hb dL_element_2 rfl (lv_at hl 0 rfl) ?_
  refine lv_iload_n hx hb dL_element_3 rfl (lv_at hl 1 rfl) ?_
  refine lv_iload_n hx hb dL_element_4 rfl (lv_at hl 2 rfl) ?_
  refine x_calll (vx_runV (g := F0 m 5 ls ([.int p1, .int p0, .ref xb, .int (0 : Int32), .ref ou])) (As := [.int p0, .int p1]) (rest := [.int (0 : Int32), .ref ou]) ⟨hx, hb, hml, hown, hts⟩ (c_X9_element_0 l hst D cy A G ws xb p0 p1 hD hT hG_xb hM_xb hM_sh_o hs0) (cwV 2 hts gL_element_X9_element rfl rfl rfl (by decide +kernel) ⟨Nat.le_of_ble_eq_true rfl, Nat.le_of_ble_eq_true rfl⟩) (x_preV hM_xb rfl hP hK hA hS hV hZ hXT) rfl rfl hl.1 rfl (lv_room (Nat.le_of_ble_eq_true rfl)) dL_element_5 ⟨Nat.le_of_ble_eq_true rfl, Nat.le_of_ble_eq_true rfl⟩) hS (fun E9 ce9 q9 u H locs px9 pe9 hP9 hD9 hT9 hS hc9 hv9 hcl9 => ?_) (fun r5 u H locs q5 hP9 hD9 hT9 hS => ?_)
  · skip
    obtain rfl := px9
    have hP : va_P D vwCl ws H := hP9
    rcases pe9 with ⟨rfl, np9⟩ | ⟨rfl, np9⟩
    · skip
      refine vx_catch (own := RL) (name := xIA) (E := xIA) hown [] ⟨0, 9, 12, 13⟩ [⟨0, 9, 16, 15⟩] htab (fun z9 h9 => by simp at h9) (by decide) (by decide) (hts (.classLink RL 13 xIA) (by decide +kernel)) (hXT.1.2.1.use rfl) hc9 hv9 hcl9 ?_
      refine lv_astore (lv' := [(4, .ref q9), (0, .ref xb), (1, .int p0), (2, .int p1), (3, .ref ou)]) hx hb dL_element_12 hl (by decide) rfl (fun ls hl => ?_)
      refine lv_iconst (v := 1) hx hb dL_element_14 (by decide) ?_
      refine W.widen (k := 1) (n := 6) (Nat.le_of_ble_eq_true rfl) (Nat.le_of_ble_eq_true rfl) ?_
      exact W.iret (v := (1 : Int32)) hx hb hr (fun t ht hW => ⟨⟨_, (G, ws), rfl, ⟨rfl, Or.inl ⟨rfl, np9⟩⟩, by show va_P D vwCl ws t.heap; rw [ht]; exact hP, hD, hT⟩, hS.F ht⟩) hS.2.2 dL_element_15
    · skip
      refine vx_catch (own := RL) (name := xIS) (E := xIS) hown [⟨0, 9, 12, 13⟩] ⟨0, 9, 16, 15⟩ [] htab (fun z9 h9 => by rcases List.mem_cons.mp h9 with rfl | h9; exact Or.inr ⟨by decide, xIA, hts (.classLink RL 13 xIA) (by decide +kernel), hXT.2.1.2.2.2⟩; simp at h9) (by decide) (by decide) (hts (.classLink RL 15 xIS) (by decide +kernel)) (hXT.1.2.2.1.use rfl) hc9 hv9 hcl9 ?_
      refine lv_astore (lv' := [(4, .ref q9), (0, .ref xb), (1, .int p0), (2, .int p1), (3, .ref ou)]) hx hb dL_element_16 hl (by decide) rfl (fun ls hl => ?_)
      refine lv_iconst (v := 2) hx hb dL_element_18 (by decide) ?_
      refine W.widen (k := 1) (n := 6) (Nat.le_of_ble_eq_true rfl) (Nat.le_of_ble_eq_true rfl) ?_
      exact W.iret (v := (2 : Int32)) hx hb hr (fun t ht hW => ⟨⟨_, (G, ws), rfl, ⟨rfl, Or.inr ⟨rfl, np9⟩⟩, by show va_P D vwCl ws t.heap; rw [ht]; exact hP, hD, hT⟩, hS.F ht⟩) hS.2.2 dL_element_19
  exact (q5.2 : False).elim
set_option maxHeartbeats 4000000 in
set_option maxRecDepth 100000 in
theorem c_L_weight_0 (l : Launch) (hst : l.stackTraces = false) (D : va_G) (cy : Nat → ClassId) (A : Nat → Prop) (G : cG) (ws : va_W) (xb : Nat) (p0 : Int32) (ou : Nat) {bs_o js_o sh_o wk_o ll_o : Nat} {jc_o lc_o : Int32} {mo_o lb_o : Option Nat} {fb : Nat → Option Nat} (hD : va_D A ws) (hT : cT cy G ws) (hG_xb : G xb = some (7, 0, 0)) (hM_xb : cIn ws xb (.inr (8, [.ref bs_o, .ref js_o, .int jc_o, .ref sh_o, .ref wk_o, va_rf mo_o, .ref ll_o, .int lc_o, va_rf lb_o]))) (hG_ou : G ou = some (1, 1, 0)) (hM_sh_o : cIn ws sh_o (.inl (cy 5, cqa 8 fb))) (hs0 : ∀ i, fb i = none) : Yi l D cy A yL_weight wsL_weight ({ frames := 7, cells := 1, slots := 6, locals := 113 }) 1 6 ws [.ref xb, .int p0, .ref ou] (fun r0 u => u = (G, ws) ∧ (exO p0 r0)) := by
  refine va_MetW (cc := cL_weight) (maxL := 4) (ret := (some .int)) (by decide) rfl ?_
  intro p e s m args below meth c s₁ B hml hv
  obtain ⟨rfl, ⟨hP, hK, hA, hV⟩, hZ, hXT⟩ := hv
  have hx := B.exec
  have hb := B.bytes
  have hr := B.returns
  have hts := atoms_spec (ws := wsL_weight) B.pre
  have hown : s.vm.findClass RL = some m.cls := findClass_of_methodNamed B.named
  have hlocks := B.notSynchronized
  have htab := vx_table (x := yL_weight) B (hts (.codeWith yL_weight cL_weight 4 (some .int) [(0, 9, 12, 13), (0, 9, 15, 15)]) (by decide +kernel))
  have hS : va_S A s.heap s.heap [] := va_S.rf
  have hl := lv_entry ([.ref xb, .int p0, .ref ou]) (n := 4) (Nat.le_of_ble_eq_true rfl)
  rw [lg_entry_eq]
  generalize (lg_sl ([.ref xb, .int p0, .ref ou]) ++ List.replicate (4 - (lg_sl ([.ref xb, .int p0, .ref ou])).length) Slot.unset).toArray = ls at hl ⊢
  have hl : lv_has ls 4 [(0, .ref xb), (1, .int p0), (2, .ref ou)] := hl
  have k_0 : (0 : Int32).toInt = 0 := by decide
  have k_1 : (1 : Int32).toInt = 1 := by decide
  have k_2 : (2 : Int32).toInt = 2 := by decide
  obtain ⟨hjc_o, hlc_o, hG_bs_o, hG_js_o, hG_sh_o, hG_wk_o, hmo_o, hG_ll_o, hlb_o⟩ := w7sh hD hT hG_xb hM_xb
  have hf_sh_o := w10sh hD hT hG_sh_o hM_sh_o
  refine lv_aload_n hx hb dL_weight_0 rfl (lv_at hl 2 rfl) ?_
  refine lv_iconst (v := 0) hx hb dL_weight_1 (by decide) ?_
  refine lv_aload_n hx hb dL_weight_2 rfl (lv_at hl 0 rfl) ?_
  refine lv_iload_n hx hb dL_weight_3 rfl (lv_at hl 1 rfl) ?_
  refine x_calli (vx_runV (g := F0 m 4 ls ([.int p0, .ref xb, .int (0 : Int32), .ref ou])) (As := [.int p0]) (rest := [.int (0 : Int32), .ref ou]) ⟨hx, hb, hml, hown, hts⟩ (c_X9_weight_0 l hst D cy A G ws xb p0 hD hT hG_xb hM_xb hM_sh_o hs0) (cwV 1 hts gL_weight_X9_weight rfl rfl rfl (by decide +kernel) ⟨Nat.le_of_ble_eq_true rfl, Nat.le_of_ble_eq_true rfl⟩) (x_preV hM_xb rfl hP hK hA hS hV hZ hXT) rfl rfl hl.1 rfl (lv_room (Nat.le_of_ble_eq_true rfl)) dL_weight_4 ⟨Nat.le_of_ble_eq_true rfl, Nat.le_of_ble_eq_true rfl⟩) hS (fun E9 ce9 q9 u H locs px9 pe9 hP9 hD9 hT9 hS hc9 hv9 hcl9 => ?_) (fun r4 u H locs q4 hP9 hD9 hT9 hS => ?_)
  · skip
    obtain rfl := px9
    have hP : va_P D vwCl ws H := hP9
    rcases pe9 with ⟨rfl, np9⟩ | ⟨rfl, np9⟩
    · skip
      refine vx_catch (own := RL) (name := xIA) (E := xIA) hown [] ⟨0, 9, 12, 13⟩ [⟨0, 9, 15, 15⟩] htab (fun z9 h9 => by simp at h9) (by decide) (by decide) (hts (.classLink RL 13 xIA) (by decide +kernel)) (hXT.1.2.1.use rfl) hc9 hv9 hcl9 ?_
      refine lv_astore_n (lv' := [(3, .ref q9), (0, .ref xb), (1, .int p0), (2, .ref ou)]) hx hb dL_weight_12 rfl hl (by decide) rfl (fun ls hl => ?_)
      refine lv_iconst (v := 1) hx hb dL_weight_13 (by decide) ?_
      refine W.widen (k := 1) (n := 6) (Nat.le_of_ble_eq_true rfl) (Nat.le_of_ble_eq_true rfl) ?_
      exact W.iret (v := (1 : Int32)) hx hb hr (fun t ht hW => ⟨⟨_, (G, ws), rfl, ⟨rfl, Or.inl ⟨rfl, np9⟩⟩, by show va_P D vwCl ws t.heap; rw [ht]; exact hP, hD, hT⟩, hS.F ht⟩) hS.2.2 dL_weight_14
    · skip
      refine vx_catch (own := RL) (name := xIS) (E := xIS) hown [⟨0, 9, 12, 13⟩] ⟨0, 9, 15, 15⟩ [] htab (fun z9 h9 => by rcases List.mem_cons.mp h9 with rfl | h9; exact Or.inr ⟨by decide, xIA, hts (.classLink RL 13 xIA) (by decide +kernel), hXT.2.1.2.2.2⟩; simp at h9) (by decide) (by decide) (hts (.classLink RL 15 xIS) (by decide +kernel)) (hXT.1.2.2.1.use rfl) hc9 hv9 hcl9 ?_
      refine lv_astore_n (lv' := [(3, .ref q9), (0, .ref xb), (1, .int p0), (2, .ref ou)]) hx hb dL_weight_15 rfl hl (by decide) rfl (fun ls hl => ?_)
      refine lv_iconst (v := 2) hx hb dL_weight_16 (by decide) ?_
      refine W.widen (k := 1) (n := 6) (Nat.le_of_ble_eq_true rfl) (Nat.le_of_ble_eq_true rfl) ?_
      exact W.iret (v := (2 : Int32)) hx hb hr (fun t ht hW => ⟨⟨_, (G, ws), rfl, ⟨rfl, Or.inr ⟨rfl, np9⟩⟩, by show va_P D vwCl ws t.heap; rw [ht]; exact hP, hD, hT⟩, hS.F ht⟩) hS.2.2 dL_weight_17
  exact (q4.2 : False).elim

set_option maxHeartbeats 4000000 in
set_option maxRecDepth 100000 in
theorem c_X10_sum_0 (l : Launch) (D : va_G) (cy : Nat → ClassId) (mo : Nat) (a : Nat → Nat) (f : Nat → Int32) (g : Nat → Int64) (r : Nat → Nat → Int32) (q : Nat → Nat → Int64) (j : Int32) (way : Int32) (line : Int32) (v0 : Int32) (hD : DM cy mo a) (hI : MI f r) (h10 : (f 1).toInt = 0) : Mi l D cy mo a yX10_sum wsX10_sum ({ frames := 2, cells := 0, slots := 0, locals := 48 }) f g r q [.int j, .int way, .int line, .int v0] (fun r0 u => u = ((upd f 0 (0 : Int32)), g, r, q) ∧ (r0 = -1)) := by
  refine Met.ofW (cc := cX10_sum) (maxL := 5) (ret := (some .int)) (by decide) rfl ?_
  intro p e s m args below meth c s₁ B hml hv
  obtain ⟨rfl, hP, hK⟩ := hv
  have hx := B.exec
  have hb := B.bytes
  have hr := B.returns
  have hts := atoms_spec (ws := wsX10_sum) B.pre
  have hin : ∀ w ∈ u_ws RX10 TX10 35, w ∈ wsX10_sum := by decide +kernel
  have hown : s.vm.findClass RX10 = some m.cls := findClass_of_methodNamed B.named
  have hlocks := B.notSynchronized
  have hS : va_S (AM mo a) s.heap s.heap [] := va_S.rf
  have hl := lv_entry ([.ref mo, .int j, .int way, .int line, .int v0]) (n := 5) (Nat.le_of_ble_eq_true rfl)
  rw [lg_entry_eq]
  generalize (lg_sl ([.ref mo, .int j, .int way, .int line, .int v0]) ++ List.replicate (5 - (lg_sl ([.ref mo, .int j, .int way, .int line, .int v0])).length) Slot.unset).toArray = ls at hl ⊢
  have hl : lv_has ls 5 [(0, .ref mo), (1, .int j), (2, .int way), (3, .int line), (4, .int v0)] := hl
  have k_m1 : (-1 : Int32).toInt = -1 := by decide
  have k_0 : (0 : Int32).toInt = 0 := by decide
  have hI1 := hI.1
  refine lv_aload_n hx hb dX10_sum_0 rfl (lv_at hl 0 rfl) ?_
  refine lv_iconst (v := 0) hx hb dX10_sum_1 (by decide) ?_
  refine m_put (v := .int (0 : Int32)) (ty := .int) hx hb hts hin hown hK hP hD hS 0 (by decide) rfl (hts (.fieldLink RX10 79 "ShadowBenchModel" "thrown" "I") (by decide +kernel)) rfl (by decide +kernel) rfl rfl (upd f 0 (0 : Int32)) g rfl dX10_sum_2 (fun H locs hP hS => ?_)
  refine lv_aload_n hx hb dX10_sum_5 rfl (lv_at hl 0 rfl) ?_
  refine lv_iload_n hx hb dX10_sum_6 rfl (lv_at hl 1 rfl) ?_
  refine lv_iload_n hx hb dX10_sum_7 rfl (lv_at hl 2 rfl) ?_
  refine lv_iload_n hx hb dX10_sum_8 rfl (lv_at hl 3 rfl) ?_
  refine m_calli (As := [.int j, .int way, .int line]) (rest := []) ⟨hx, hb, hml, hown, hts⟩ (c_X10_isLine l D cy mo a (upd f 0 (0 : Int32)) g r q j way line hD hI) (cwV 3 hts gX10_sum_X10_isLine rfl rfl rfl (by decide +kernel) ⟨Nat.le_of_ble_eq_true rfl, Nat.le_of_ble_eq_true rfl⟩) hK hP rfl hl.1 rfl (Nat.le_of_ble_eq_true rfl) dX10_sum_9 ⟨Nat.le_of_ble_eq_true rfl, Nat.le_of_ble_eq_true rfl⟩ hS (fun r9 u H locs q9 hP hS => ?_)
  obtain ⟨rfl, q9⟩ := q9
  have hP : va_P D vwCl (WM cy mo a (upd f 0 (0 : Int32)) g r q) H := hP
  have q9 : Bo r9 (((0 ≤ j.toInt ∧ j.toInt < ((f 1)).toInt) ∧ 0 ≤ way.toInt ∧ way.toInt ≤ 3) ∧ 0 ≤ line.toInt ∧ line.toInt < (r_lines ((r 3) j.toNatClampNeg) ((r 4) j.toNatClampNeg) way).toInt) := q9
  refine lv_if_eq (tgt := 28) hx hb dX10_sum_12 (by decide) (fun c12 => ?_) (fun c12 => ?_)
  · skip
    have b12 := bo_f q9 c12
    refine lv_iconst (v := (-1)) hx hb dX10_sum_28 (by decide) ?_
    exact W.iret (v := ((-1) : Int32)) hx hb hr (fun t ht hW => ⟨⟨_, ((upd f 0 (0 : Int32)), g, r, q), rfl, ⟨rfl, rfl⟩, by unfold mB; rw [ht]; exact hP⟩, hS.F ht⟩) hS.2.2 dX10_sum_29
  · skip
    have b12 := bo_t q9 c12
    exfalso; omega
set_option maxHeartbeats 4000000 in
set_option maxRecDepth 100000 in
theorem c_X10_cast_0 (l : Launch) (D : va_G) (cy : Nat → ClassId) (mo : Nat) (a : Nat → Nat) (f : Nat → Int32) (g : Nat → Int64) (r : Nat → Nat → Int32) (q : Nat → Nat → Int64) (j : Int32) (way : Int32) (p0 : Int64) (hD : DM cy mo a) (hI : MI f r) (h10 : (f 1).toInt = 0) : Mi l D cy mo a yX10_cast wsX10_cast ({ frames := 2, cells := 0, slots := 0, locals := 48 }) f g r q [.int j, .int way, .long p0] (fun r0 u => u = ((upd f 0 (0 : Int32)), g, r, q) ∧ (r0 = -1)) := by
  refine Met.ofW (cc := cX10_cast) (maxL := 6) (ret := (some .int)) (by decide) rfl ?_
  intro p e s m args below meth c s₁ B hml hv
  obtain ⟨rfl, hP, hK⟩ := hv
  have hx := B.exec
  have hb := B.bytes
  have hr := B.returns
  have hts := atoms_spec (ws := wsX10_cast) B.pre
  have hin : ∀ w ∈ u_ws RX10 TX10 35, w ∈ wsX10_cast := by decide +kernel
  have hown : s.vm.findClass RX10 = some m.cls := findClass_of_methodNamed B.named
  have hlocks := B.notSynchronized
  have hS : va_S (AM mo a) s.heap s.heap [] := va_S.rf
  have hl := lv_entry ([.ref mo, .int j, .int way, .long p0]) (n := 6) (Nat.le_of_ble_eq_true rfl)
  rw [lg_entry_eq]
  generalize (lg_sl ([.ref mo, .int j, .int way, .long p0]) ++ List.replicate (6 - (lg_sl ([.ref mo, .int j, .int way, .long p0])).length) Slot.unset).toArray = ls at hl ⊢
  have hl : lv_has ls 6 [(0, .ref mo), (1, .int j), (2, .int way), (3, .long p0)] := hl
  have k_m1 : (-1 : Int32).toInt = -1 := by decide
  have k_0 : (0 : Int32).toInt = 0 := by decide
  have hI1 := hI.1
  refine lv_aload_n hx hb dX10_cast_0 rfl (lv_at hl 0 rfl) ?_
  refine lv_iconst (v := 0) hx hb dX10_cast_1 (by decide) ?_
  refine m_put (v := .int (0 : Int32)) (ty := .int) hx hb hts hin hown hK hP hD hS 0 (by decide) rfl (hts (.fieldLink RX10 79 "ShadowBenchModel" "thrown" "I") (by decide +kernel)) rfl (by decide +kernel) rfl rfl (upd f 0 (0 : Int32)) g rfl dX10_cast_2 (fun H locs hP hS => ?_)
  refine lv_aload_n hx hb dX10_cast_5 rfl (lv_at hl 0 rfl) ?_
  refine lv_iload_n hx hb dX10_cast_6 rfl (lv_at hl 1 rfl) ?_
  refine lv_iload_n hx hb dX10_cast_7 rfl (lv_at hl 2 rfl) ?_
  refine lv_iconst (v := 0) hx hb dX10_cast_8 (by decide) ?_
  refine m_calli (As := [.int j, .int way, .int (0 : Int32)]) (rest := []) ⟨hx, hb, hml, hown, hts⟩ (c_X10_isLine l D cy mo a (upd f 0 (0 : Int32)) g r q j way (0 : Int32) hD hI) (cwV 3 hts gX10_cast_X10_isLine rfl rfl rfl (by decide +kernel) ⟨Nat.le_of_ble_eq_true rfl, Nat.le_of_ble_eq_true rfl⟩) hK hP rfl hl.1 rfl (Nat.le_of_ble_eq_true rfl) dX10_cast_9 ⟨Nat.le_of_ble_eq_true rfl, Nat.le_of_ble_eq_true rfl⟩ hS (fun r9 u H locs q9 hP hS => ?_)
  obtain ⟨rfl, q9⟩ := q9
  have hP : va_P D vwCl (WM cy mo a (upd f 0 (0 : Int32)) g r q) H := hP
  have q9 : Bo r9 (((0 ≤ j.toInt ∧ j.toInt < ((f 1)).toInt) ∧ 0 ≤ way.toInt ∧ way.toInt ≤ 3) ∧ 0 ≤ (0 : Int32).toInt ∧ (0 : Int32).toInt < (r_lines ((r 3) j.toNatClampNeg) ((r 4) j.toNatClampNeg) way).toInt) := q9
  refine lv_if_eq (tgt := 34) hx hb dX10_cast_12 (by decide) (fun c12 => ?_) (fun c12 => ?_)
  · skip
    have b12 := bo_f q9 c12
    refine lv_iconst (v := (-1)) hx hb dX10_cast_34 (by decide) ?_
    exact W.iret (v := ((-1) : Int32)) hx hb hr (fun t ht hW => ⟨⟨_, ((upd f 0 (0 : Int32)), g, r, q), rfl, ⟨rfl, rfl⟩, by unfold mB; rw [ht]; exact hP⟩, hS.F ht⟩) hS.2.2 dX10_cast_35
  · skip
    have b12 := bo_t q9 c12
    exfalso; omega
set_option maxHeartbeats 4000000 in
set_option maxRecDepth 100000 in
theorem c_X10_untell_0 (l : Launch) (D : va_G) (cy : Nat → ClassId) (mo : Nat) (a : Nat → Nat) (f : Nat → Int32) (g : Nat → Int64) (r : Nat → Nat → Int32) (q : Nat → Nat → Int64) (j : Int32) (way : Int32) (hD : DM cy mo a) (hI : MI f r) (h10 : (f 1).toInt = 0) : Mi l D cy mo a yX10_untell wsX10_untell ({ frames := 1, cells := 0, slots := 0, locals := 21 }) f g r q [.int j, .int way] (fun r0 u => u = ((upd f 0 (0 : Int32)), g, r, q) ∧ (r0 = -1)) := by
  refine Met.ofW (cc := cX10_untell) (maxL := 4) (ret := (some .int)) (by decide) rfl ?_
  intro p e s m args below meth c s₁ B hml hv
  obtain ⟨rfl, hP, hK⟩ := hv
  have hx := B.exec
  have hb := B.bytes
  have hr := B.returns
  have hts := atoms_spec (ws := wsX10_untell) B.pre
  have hin : ∀ w ∈ u_ws RX10 TX10 35, w ∈ wsX10_untell := by decide +kernel
  have hown : s.vm.findClass RX10 = some m.cls := findClass_of_methodNamed B.named
  have hlocks := B.notSynchronized
  have hS : va_S (AM mo a) s.heap s.heap [] := va_S.rf
  have hl := lv_entry ([.ref mo, .int j, .int way]) (n := 4) (Nat.le_of_ble_eq_true rfl)
  rw [lg_entry_eq]
  generalize (lg_sl ([.ref mo, .int j, .int way]) ++ List.replicate (4 - (lg_sl ([.ref mo, .int j, .int way])).length) Slot.unset).toArray = ls at hl ⊢
  have hl : lv_has ls 4 [(0, .ref mo), (1, .int j), (2, .int way)] := hl
  have k_m1 : (-1 : Int32).toInt = -1 := by decide
  have k_0 : (0 : Int32).toInt = 0 := by decide
  have hI1 := hI.1
  refine lv_aload_n hx hb dX10_untell_0 rfl (lv_at hl 0 rfl) ?_
  refine lv_iconst (v := 0) hx hb dX10_untell_1 (by decide) ?_
  refine m_put (v := .int (0 : Int32)) (ty := .int) hx hb hts hin hown hK hP hD hS 0 (by decide) rfl (hts (.fieldLink RX10 79 "ShadowBenchModel" "thrown" "I") (by decide +kernel)) rfl (by decide +kernel) rfl rfl (upd f 0 (0 : Int32)) g rfl dX10_untell_2 (fun H locs hP hS => ?_)
  refine lv_aload_n hx hb dX10_untell_5 rfl (lv_at hl 0 rfl) ?_
  refine lv_iload_n hx hb dX10_untell_6 rfl (lv_at hl 1 rfl) ?_
  refine m_calli (As := [.int j]) (rest := []) ⟨hx, hb, hml, hown, hts⟩ (c_X10_isJob l D cy mo a (upd f 0 (0 : Int32)) g r q j hD) (cwV 1 hts gX10_untell_X10_isJob rfl rfl rfl (by decide +kernel) ⟨Nat.le_of_ble_eq_true rfl, Nat.le_of_ble_eq_true rfl⟩) hK hP rfl hl.1 rfl (Nat.le_of_ble_eq_true rfl) dX10_untell_7 ⟨Nat.le_of_ble_eq_true rfl, Nat.le_of_ble_eq_true rfl⟩ hS (fun r7 u H locs q7 hP hS => ?_)
  obtain ⟨rfl, q7⟩ := q7
  have hP : va_P D vwCl (WM cy mo a (upd f 0 (0 : Int32)) g r q) H := hP
  have q7 : Bo r7 (0 ≤ j.toInt ∧ j.toInt < ((f 1)).toInt) := q7
  refine lv_if_eq (tgt := 27) hx hb dX10_untell_10 (by decide) (fun c10 => ?_) (fun c10 => ?_)
  · skip
    have b10 := bo_f q7 c10
    refine lv_iconst (v := (-1)) hx hb dX10_untell_27 (by decide) ?_
    exact W.iret (v := ((-1) : Int32)) hx hb hr (fun t ht hW => ⟨⟨_, ((upd f 0 (0 : Int32)), g, r, q), rfl, ⟨rfl, rfl⟩, by unfold mB; rw [ht]; exact hP⟩, hS.F ht⟩) hS.2.2 dX10_untell_28
  · skip
    have b10 := bo_t q7 c10
    exfalso; omega
set_option maxHeartbeats 4000000 in
set_option maxRecDepth 100000 in
theorem c_X10_hold_0 (l : Launch) (D : va_G) (cy : Nat → ClassId) (mo : Nat) (a : Nat → Nat) (f : Nat → Int32) (g : Nat → Int64) (r : Nat → Nat → Int32) (q : Nat → Nat → Int64) (j : Int32) (s0 : Int32) (how : Int32) (hD : DM cy mo a) (hI : MI f r) (h10 : (f 1).toInt = 0) : Mi l D cy mo a yX10_hold wsX10_hold ({ frames := 2, cells := 0, slots := 0, locals := 43 }) f g r q [.int j, .int s0, .int how] (fun r0 u => u = ((upd f 0 (0 : Int32)), g, r, q) ∧ (r0 = -1)) := by
  refine Met.ofW (cc := cX10_hold) (maxL := 5) (ret := (some .int)) (by decide) rfl ?_
  intro p e s m args below meth c s₁ B hml hv
  obtain ⟨rfl, hP, hK⟩ := hv
  have hx := B.exec
  have hb := B.bytes
  have hr := B.returns
  have hts := atoms_spec (ws := wsX10_hold) B.pre
  have hin : ∀ w ∈ u_ws RX10 TX10 35, w ∈ wsX10_hold := by decide +kernel
  have hown : s.vm.findClass RX10 = some m.cls := findClass_of_methodNamed B.named
  have hlocks := B.notSynchronized
  have hS : va_S (AM mo a) s.heap s.heap [] := va_S.rf
  have hl := lv_entry ([.ref mo, .int j, .int s0, .int how]) (n := 5) (Nat.le_of_ble_eq_true rfl)
  rw [lg_entry_eq]
  generalize (lg_sl ([.ref mo, .int j, .int s0, .int how]) ++ List.replicate (5 - (lg_sl ([.ref mo, .int j, .int s0, .int how])).length) Slot.unset).toArray = ls at hl ⊢
  have hl : lv_has ls 5 [(0, .ref mo), (1, .int j), (2, .int s0), (3, .int how)] := hl
  have k_m1 : (-1 : Int32).toInt = -1 := by decide
  have k_0 : (0 : Int32).toInt = 0 := by decide
  have hI1 := hI.1
  refine lv_aload_n hx hb dX10_hold_0 rfl (lv_at hl 0 rfl) ?_
  refine lv_iconst (v := 0) hx hb dX10_hold_1 (by decide) ?_
  refine m_put (v := .int (0 : Int32)) (ty := .int) hx hb hts hin hown hK hP hD hS 0 (by decide) rfl (hts (.fieldLink RX10 79 "ShadowBenchModel" "thrown" "I") (by decide +kernel)) rfl (by decide +kernel) rfl rfl (upd f 0 (0 : Int32)) g rfl dX10_hold_2 (fun H locs hP hS => ?_)
  refine lv_aload_n hx hb dX10_hold_5 rfl (lv_at hl 0 rfl) ?_
  refine lv_iload_n hx hb dX10_hold_6 rfl (lv_at hl 1 rfl) ?_
  refine lv_iload_n hx hb dX10_hold_7 rfl (lv_at hl 2 rfl) ?_
  refine m_calli (As := [.int j, .int s0]) (rest := []) ⟨hx, hb, hml, hown, hts⟩ (c_X10_isSquare l D cy mo a (upd f 0 (0 : Int32)) g r q j s0 hD hI) (cwV 2 hts gX10_hold_X10_isSquare rfl rfl rfl (by decide +kernel) ⟨Nat.le_of_ble_eq_true rfl, Nat.le_of_ble_eq_true rfl⟩) hK hP rfl hl.1 rfl (Nat.le_of_ble_eq_true rfl) dX10_hold_8 ⟨Nat.le_of_ble_eq_true rfl, Nat.le_of_ble_eq_true rfl⟩ hS (fun r8 u H locs q8 hP hS => ?_)
  obtain ⟨rfl, q8⟩ := q8
  have hP : va_P D vwCl (WM cy mo a (upd f 0 (0 : Int32)) g r q) H := hP
  have q8 : Bo r8 ((0 ≤ j.toInt ∧ j.toInt < ((f 1)).toInt) ∧ 0 ≤ s0.toInt ∧ s0.toInt < ((r 3) j.toNatClampNeg).toInt * ((r 4) j.toNatClampNeg).toInt) := q8
  refine lv_if_eq (tgt := 26) hx hb dX10_hold_11 (by decide) (fun c11 => ?_) (fun c11 => ?_)
  · skip
    have b11 := bo_f q8 c11
    refine lv_iconst (v := (-1)) hx hb dX10_hold_26 (by decide) ?_
    exact W.iret (v := ((-1) : Int32)) hx hb hr (fun t ht hW => ⟨⟨_, ((upd f 0 (0 : Int32)), g, r, q), rfl, ⟨rfl, rfl⟩, by unfold mB; rw [ht]; exact hP⟩, hS.F ht⟩) hS.2.2 dX10_hold_27
  · skip
    have b11 := bo_t q8 c11
    exfalso; omega
set_option maxHeartbeats 4000000 in
set_option maxRecDepth 100000 in
theorem c_X10_mark_0 (l : Launch) (D : va_G) (cy : Nat → ClassId) (mo : Nat) (a : Nat → Nat) (f : Nat → Int32) (g : Nat → Int64) (r : Nat → Nat → Int32) (q : Nat → Nat → Int64) (j : Int32) (s0 : Int32) (v0 : Int32) (hD : DM cy mo a) (hI : MI f r) (h10 : (f 1).toInt = 0) : Mi l D cy mo a yX10_mark wsX10_mark ({ frames := 2, cells := 0, slots := 0, locals := 43 }) f g r q [.int j, .int s0, .int v0] (fun r0 u => u = ((upd f 0 (0 : Int32)), g, r, q) ∧ (r0 = -1)) := by
  refine Met.ofW (cc := cX10_mark) (maxL := 5) (ret := (some .int)) (by decide) rfl ?_
  intro p e s m args below meth c s₁ B hml hv
  obtain ⟨rfl, hP, hK⟩ := hv
  have hx := B.exec
  have hb := B.bytes
  have hr := B.returns
  have hts := atoms_spec (ws := wsX10_mark) B.pre
  have hin : ∀ w ∈ u_ws RX10 TX10 35, w ∈ wsX10_mark := by decide +kernel
  have hown : s.vm.findClass RX10 = some m.cls := findClass_of_methodNamed B.named
  have hlocks := B.notSynchronized
  have hS : va_S (AM mo a) s.heap s.heap [] := va_S.rf
  have hl := lv_entry ([.ref mo, .int j, .int s0, .int v0]) (n := 5) (Nat.le_of_ble_eq_true rfl)
  rw [lg_entry_eq]
  generalize (lg_sl ([.ref mo, .int j, .int s0, .int v0]) ++ List.replicate (5 - (lg_sl ([.ref mo, .int j, .int s0, .int v0])).length) Slot.unset).toArray = ls at hl ⊢
  have hl : lv_has ls 5 [(0, .ref mo), (1, .int j), (2, .int s0), (3, .int v0)] := hl
  have k_m1 : (-1 : Int32).toInt = -1 := by decide
  have k_0 : (0 : Int32).toInt = 0 := by decide
  have hI1 := hI.1
  refine lv_aload_n hx hb dX10_mark_0 rfl (lv_at hl 0 rfl) ?_
  refine lv_iconst (v := 0) hx hb dX10_mark_1 (by decide) ?_
  refine m_put (v := .int (0 : Int32)) (ty := .int) hx hb hts hin hown hK hP hD hS 0 (by decide) rfl (hts (.fieldLink RX10 79 "ShadowBenchModel" "thrown" "I") (by decide +kernel)) rfl (by decide +kernel) rfl rfl (upd f 0 (0 : Int32)) g rfl dX10_mark_2 (fun H locs hP hS => ?_)
  refine lv_aload_n hx hb dX10_mark_5 rfl (lv_at hl 0 rfl) ?_
  refine lv_iload_n hx hb dX10_mark_6 rfl (lv_at hl 1 rfl) ?_
  refine lv_iload_n hx hb dX10_mark_7 rfl (lv_at hl 2 rfl) ?_
  refine m_calli (As := [.int j, .int s0]) (rest := []) ⟨hx, hb, hml, hown, hts⟩ (c_X10_isSquare l D cy mo a (upd f 0 (0 : Int32)) g r q j s0 hD hI) (cwV 2 hts gX10_mark_X10_isSquare rfl rfl rfl (by decide +kernel) ⟨Nat.le_of_ble_eq_true rfl, Nat.le_of_ble_eq_true rfl⟩) hK hP rfl hl.1 rfl (Nat.le_of_ble_eq_true rfl) dX10_mark_8 ⟨Nat.le_of_ble_eq_true rfl, Nat.le_of_ble_eq_true rfl⟩ hS (fun r8 u H locs q8 hP hS => ?_)
  obtain ⟨rfl, q8⟩ := q8
  have hP : va_P D vwCl (WM cy mo a (upd f 0 (0 : Int32)) g r q) H := hP
  have q8 : Bo r8 ((0 ≤ j.toInt ∧ j.toInt < ((f 1)).toInt) ∧ 0 ≤ s0.toInt ∧ s0.toInt < ((r 3) j.toNatClampNeg).toInt * ((r 4) j.toNatClampNeg).toInt) := q8
  refine lv_if_eq (tgt := 28) hx hb dX10_mark_11 (by decide) (fun c11 => ?_) (fun c11 => ?_)
  · skip
    have b11 := bo_f q8 c11
    refine lv_iconst (v := (-1)) hx hb dX10_mark_28 (by decide) ?_
    exact W.iret (v := ((-1) : Int32)) hx hb hr (fun t ht hW => ⟨⟨_, ((upd f 0 (0 : Int32)), g, r, q), rfl, ⟨rfl, rfl⟩, by unfold mB; rw [ht]; exact hP⟩, hS.F ht⟩) hS.2.2 dX10_mark_29
  · skip
    have b11 := bo_t q8 c11
    exfalso; omega
set_option maxHeartbeats 4000000 in
set_option maxRecDepth 100000 in
theorem c_X10_told_0 (l : Launch) (D : va_G) (cy : Nat → ClassId) (mo : Nat) (a : Nat → Nat) (f : Nat → Int32) (g : Nat → Int64) (r : Nat → Nat → Int32) (q : Nat → Nat → Int64) (j : Int32) (way : Int32) (line : Int32) (hD : DM cy mo a) (hI : MI f r) (h10 : (f 1).toInt = 0) : Mi l D cy mo a yX10_told wsX10_told ({ frames := 2, cells := 0, slots := 0, locals := 48 }) f g r q [.int j, .int way, .int line] (fun r0 u => u = ((upd f 0 (0 : Int32)), g, r, q) ∧ (r0 = -1)) := by
  refine Met.ofW (cc := cX10_told) (maxL := 4) (ret := (some .int)) (by decide) rfl ?_
  intro p e s m args below meth c s₁ B hml hv
  obtain ⟨rfl, hP, hK⟩ := hv
  have hx := B.exec
  have hb := B.bytes
  have hr := B.returns
  have hts := atoms_spec (ws := wsX10_told) B.pre
  have hin : ∀ w ∈ u_ws RX10 TX10 35, w ∈ wsX10_told := by decide +kernel
  have hown : s.vm.findClass RX10 = some m.cls := findClass_of_methodNamed B.named
  have hlocks := B.notSynchronized
  have hS : va_S (AM mo a) s.heap s.heap [] := va_S.rf
  have hl := lv_entry ([.ref mo, .int j, .int way, .int line]) (n := 4) (Nat.le_of_ble_eq_true rfl)
  rw [lg_entry_eq]
  generalize (lg_sl ([.ref mo, .int j, .int way, .int line]) ++ List.replicate (4 - (lg_sl ([.ref mo, .int j, .int way, .int line])).length) Slot.unset).toArray = ls at hl ⊢
  have hl : lv_has ls 4 [(0, .ref mo), (1, .int j), (2, .int way), (3, .int line)] := hl
  have k_m1 : (-1 : Int32).toInt = -1 := by decide
  have k_0 : (0 : Int32).toInt = 0 := by decide
  have hI1 := hI.1
  refine lv_aload_n hx hb dX10_told_0 rfl (lv_at hl 0 rfl) ?_
  refine lv_iconst (v := 0) hx hb dX10_told_1 (by decide) ?_
  refine m_put (v := .int (0 : Int32)) (ty := .int) hx hb hts hin hown hK hP hD hS 0 (by decide) rfl (hts (.fieldLink RX10 79 "ShadowBenchModel" "thrown" "I") (by decide +kernel)) rfl (by decide +kernel) rfl rfl (upd f 0 (0 : Int32)) g rfl dX10_told_2 (fun H locs hP hS => ?_)
  refine lv_aload_n hx hb dX10_told_5 rfl (lv_at hl 0 rfl) ?_
  refine lv_iload_n hx hb dX10_told_6 rfl (lv_at hl 1 rfl) ?_
  refine lv_iload_n hx hb dX10_told_7 rfl (lv_at hl 2 rfl) ?_
  refine lv_iload_n hx hb dX10_told_8 rfl (lv_at hl 3 rfl) ?_
  refine lv_iconst (v := (-1)) hx hb dX10_told_9 (by decide) ?_
  refine lv_icmp_ne (tgt := 17) hx hb dX10_told_10 (by decide) (fun c10 => ?_) (fun c10 => ?_)
  · skip
    have d10 := c10
    rw [fa_eq] at d10
    refine lv_iload_n hx hb dX10_told_17 rfl (lv_at hl 3 rfl) ?_
    refine m_calli (As := [.int j, .int way, .int line]) (rest := []) ⟨hx, hb, hml, hown, hts⟩ (c_X10_isLine l D cy mo a (upd f 0 (0 : Int32)) g r q j way line hD hI) (cwV 3 hts gX10_told_X10_isLine rfl rfl rfl (by decide +kernel) ⟨Nat.le_of_ble_eq_true rfl, Nat.le_of_ble_eq_true rfl⟩) hK hP rfl hl.1 rfl (Nat.le_of_ble_eq_true rfl) dX10_told_18 ⟨Nat.le_of_ble_eq_true rfl, Nat.le_of_ble_eq_true rfl⟩ hS (fun r18 u H locs q18 hP hS => ?_)
    obtain ⟨rfl, q18⟩ := q18
    have hP : va_P D vwCl (WM cy mo a (upd f 0 (0 : Int32)) g r q) H := hP
    have q18 : Bo r18 (((0 ≤ j.toInt ∧ j.toInt < ((f 1)).toInt) ∧ 0 ≤ way.toInt ∧ way.toInt ≤ 3) ∧ 0 ≤ line.toInt ∧ line.toInt < (r_lines ((r 3) j.toNatClampNeg) ((r 4) j.toNatClampNeg) way).toInt) := q18
    refine lv_if_ne (tgt := 26) hx hb dX10_told_21 (by decide) (fun c21 => ?_) (fun c21 => ?_)
    · skip
      have b21 := bo_t q18 c21
      exfalso; omega
    · skip
      have b21 := bo_f q18 c21
      refine lv_iconst (v := (-1)) hx hb dX10_told_24 (by decide) ?_
      exact W.iret (v := ((-1) : Int32)) hx hb hr (fun t ht hW => ⟨⟨_, ((upd f 0 (0 : Int32)), g, r, q), rfl, ⟨rfl, rfl⟩, by unfold mB; rw [ht]; exact hP⟩, hS.F ht⟩) hS.2.2 dX10_told_25
  · skip
    have d10 := c10
    rw [fa_eq] at d10
    refine lv_iconst (v := 0) hx hb dX10_told_13 (by decide) ?_
    refine lv_goto (tgt := 18) hx hb dX10_told_14 (by decide) ?_
    refine m_calli (As := [.int j, .int way, .int (0 : Int32)]) (rest := []) ⟨hx, hb, hml, hown, hts⟩ (c_X10_isLine l D cy mo a (upd f 0 (0 : Int32)) g r q j way (0 : Int32) hD hI) (cwV 3 hts gX10_told_X10_isLine rfl rfl rfl (by decide +kernel) ⟨Nat.le_of_ble_eq_true rfl, Nat.le_of_ble_eq_true rfl⟩) hK hP rfl hl.1 rfl (Nat.le_of_ble_eq_true rfl) dX10_told_18 ⟨Nat.le_of_ble_eq_true rfl, Nat.le_of_ble_eq_true rfl⟩ hS (fun r18 u H locs q18 hP hS => ?_)
    obtain ⟨rfl, q18⟩ := q18
    have hP : va_P D vwCl (WM cy mo a (upd f 0 (0 : Int32)) g r q) H := hP
    have q18 : Bo r18 (((0 ≤ j.toInt ∧ j.toInt < ((f 1)).toInt) ∧ 0 ≤ way.toInt ∧ way.toInt ≤ 3) ∧ 0 ≤ (0 : Int32).toInt ∧ (0 : Int32).toInt < (r_lines ((r 3) j.toNatClampNeg) ((r 4) j.toNatClampNeg) way).toInt) := q18
    refine lv_if_ne (tgt := 26) hx hb dX10_told_21 (by decide) (fun c21 => ?_) (fun c21 => ?_)
    · skip
      have b21 := bo_t q18 c21
      exfalso; omega
    · skip
      have b21 := bo_f q18 c21
      refine lv_iconst (v := (-1)) hx hb dX10_told_24 (by decide) ?_
      exact W.iret (v := ((-1) : Int32)) hx hb hr (fun t ht hW => ⟨⟨_, ((upd f 0 (0 : Int32)), g, r, q), rfl, ⟨rfl, rfl⟩, by unfold mB; rw [ht]; exact hP⟩, hS.F ht⟩) hS.2.2 dX10_told_25
set_option maxHeartbeats 4000000 in
set_option maxRecDepth 100000 in
theorem c_X10_fits_0 (l : Launch) (D : va_G) (cy : Nat → ClassId) (mo : Nat) (a : Nat → Nat) (f : Nat → Int32) (g : Nat → Int64) (r : Nat → Nat → Int32) (q : Nat → Nat → Int64) (j : Int32) (p0 : Int64) (hD : DM cy mo a) (hI : MI f r) (h10 : (f 1).toInt = 0) : Mi l D cy mo a yX10_fits wsX10_fits ({ frames := 1, cells := 0, slots := 0, locals := 21 }) f g r q [.int j, .long p0] (fun r0 u => u = ((upd f 0 (0 : Int32)), g, r, q) ∧ (r0 = -1)) := by
  refine Met.ofW (cc := cX10_fits) (maxL := 4) (ret := (some .int)) (by decide) rfl ?_
  intro p e s m args below meth c s₁ B hml hv
  obtain ⟨rfl, hP, hK⟩ := hv
  have hx := B.exec
  have hb := B.bytes
  have hr := B.returns
  have hts := atoms_spec (ws := wsX10_fits) B.pre
  have hin : ∀ w ∈ u_ws RX10 TX10 35, w ∈ wsX10_fits := by decide +kernel
  have hown : s.vm.findClass RX10 = some m.cls := findClass_of_methodNamed B.named
  have hlocks := B.notSynchronized
  have hS : va_S (AM mo a) s.heap s.heap [] := va_S.rf
  have hl := lv_entry ([.ref mo, .int j, .long p0]) (n := 4) (Nat.le_of_ble_eq_true rfl)
  rw [lg_entry_eq]
  generalize (lg_sl ([.ref mo, .int j, .long p0]) ++ List.replicate (4 - (lg_sl ([.ref mo, .int j, .long p0])).length) Slot.unset).toArray = ls at hl ⊢
  have hl : lv_has ls 4 [(0, .ref mo), (1, .int j), (2, .long p0)] := hl
  have k_m1 : (-1 : Int32).toInt = -1 := by decide
  have k_0 : (0 : Int32).toInt = 0 := by decide
  have hI1 := hI.1
  refine lv_aload_n hx hb dX10_fits_0 rfl (lv_at hl 0 rfl) ?_
  refine lv_iconst (v := 0) hx hb dX10_fits_1 (by decide) ?_
  refine m_put (v := .int (0 : Int32)) (ty := .int) hx hb hts hin hown hK hP hD hS 0 (by decide) rfl (hts (.fieldLink RX10 79 "ShadowBenchModel" "thrown" "I") (by decide +kernel)) rfl (by decide +kernel) rfl rfl (upd f 0 (0 : Int32)) g rfl dX10_fits_2 (fun H locs hP hS => ?_)
  refine lv_aload_n hx hb dX10_fits_5 rfl (lv_at hl 0 rfl) ?_
  refine lv_iload_n hx hb dX10_fits_6 rfl (lv_at hl 1 rfl) ?_
  refine m_calli (As := [.int j]) (rest := []) ⟨hx, hb, hml, hown, hts⟩ (c_X10_isJob l D cy mo a (upd f 0 (0 : Int32)) g r q j hD) (cwV 1 hts gX10_fits_X10_isJob rfl rfl rfl (by decide +kernel) ⟨Nat.le_of_ble_eq_true rfl, Nat.le_of_ble_eq_true rfl⟩) hK hP rfl hl.1 rfl (Nat.le_of_ble_eq_true rfl) dX10_fits_7 ⟨Nat.le_of_ble_eq_true rfl, Nat.le_of_ble_eq_true rfl⟩ hS (fun r7 u H locs q7 hP hS => ?_)
  obtain ⟨rfl, q7⟩ := q7
  have hP : va_P D vwCl (WM cy mo a (upd f 0 (0 : Int32)) g r q) H := hP
  have q7 : Bo r7 (0 ≤ j.toInt ∧ j.toInt < ((f 1)).toInt) := q7
  refine lv_if_eq (tgt := 32) hx hb dX10_fits_10 (by decide) (fun c10 => ?_) (fun c10 => ?_)
  · skip
    have b10 := bo_f q7 c10
    refine lv_iconst (v := (-1)) hx hb dX10_fits_32 (by decide) ?_
    refine lv_goto (tgt := 50) hx hb dX10_fits_33 (by decide) ?_
    exact W.iret (v := ((-1) : Int32)) hx hb hr (fun t ht hW => ⟨⟨_, ((upd f 0 (0 : Int32)), g, r, q), rfl, ⟨rfl, rfl⟩, by unfold mB; rw [ht]; exact hP⟩, hS.F ht⟩) hS.2.2 dX10_fits_50
  · skip
    have b10 := bo_t q7 c10
    exfalso; omega
set_option maxHeartbeats 4000000 in
set_option maxRecDepth 100000 in
theorem c_X10_count_0 (l : Launch) (D : va_G) (cy : Nat → ClassId) (mo : Nat) (a : Nat → Nat) (f : Nat → Int32) (g : Nat → Int64) (r : Nat → Nat → Int32) (q : Nat → Nat → Int64) (j : Int32) (hD : DM cy mo a) (hI : MI f r) (h10 : (f 1).toInt = 0) : Mi l D cy mo a yX10_count wsX10_count ({ frames := 1, cells := 0, slots := 0, locals := 21 }) f g r q [.int j] (fun r0 u => u = ((upd f 0 (0 : Int32)), g, r, q) ∧ (r0 = -1)) := by
  refine Met.ofW (cc := cX10_count) (maxL := 3) (ret := (some .int)) (by decide) rfl ?_
  intro p e s m args below meth c s₁ B hml hv
  obtain ⟨rfl, hP, hK⟩ := hv
  have hx := B.exec
  have hb := B.bytes
  have hr := B.returns
  have hts := atoms_spec (ws := wsX10_count) B.pre
  have hin : ∀ w ∈ u_ws RX10 TX10 35, w ∈ wsX10_count := by decide +kernel
  have hown : s.vm.findClass RX10 = some m.cls := findClass_of_methodNamed B.named
  have hlocks := B.notSynchronized
  have hS : va_S (AM mo a) s.heap s.heap [] := va_S.rf
  have hl := lv_entry ([.ref mo, .int j]) (n := 3) (Nat.le_of_ble_eq_true rfl)
  rw [lg_entry_eq]
  generalize (lg_sl ([.ref mo, .int j]) ++ List.replicate (3 - (lg_sl ([.ref mo, .int j])).length) Slot.unset).toArray = ls at hl ⊢
  have hl : lv_has ls 3 [(0, .ref mo), (1, .int j)] := hl
  have k_m1 : (-1 : Int32).toInt = -1 := by decide
  have k_0 : (0 : Int32).toInt = 0 := by decide
  have hI1 := hI.1
  refine lv_aload_n hx hb dX10_count_0 rfl (lv_at hl 0 rfl) ?_
  refine lv_iconst (v := 0) hx hb dX10_count_1 (by decide) ?_
  refine m_put (v := .int (0 : Int32)) (ty := .int) hx hb hts hin hown hK hP hD hS 0 (by decide) rfl (hts (.fieldLink RX10 79 "ShadowBenchModel" "thrown" "I") (by decide +kernel)) rfl (by decide +kernel) rfl rfl (upd f 0 (0 : Int32)) g rfl dX10_count_2 (fun H locs hP hS => ?_)
  refine lv_aload_n hx hb dX10_count_5 rfl (lv_at hl 0 rfl) ?_
  refine lv_iload_n hx hb dX10_count_6 rfl (lv_at hl 1 rfl) ?_
  refine m_calli (As := [.int j]) (rest := []) ⟨hx, hb, hml, hown, hts⟩ (c_X10_isJob l D cy mo a (upd f 0 (0 : Int32)) g r q j hD) (cwV 1 hts gX10_count_X10_isJob rfl rfl rfl (by decide +kernel) ⟨Nat.le_of_ble_eq_true rfl, Nat.le_of_ble_eq_true rfl⟩) hK hP rfl hl.1 rfl (Nat.le_of_ble_eq_true rfl) dX10_count_7 ⟨Nat.le_of_ble_eq_true rfl, Nat.le_of_ble_eq_true rfl⟩ hS (fun r7 u H locs q7 hP hS => ?_)
  obtain ⟨rfl, q7⟩ := q7
  have hP : va_P D vwCl (WM cy mo a (upd f 0 (0 : Int32)) g r q) H := hP
  have q7 : Bo r7 (0 ≤ j.toInt ∧ j.toInt < ((f 1)).toInt) := q7
  refine lv_if_ne (tgt := 15) hx hb dX10_count_10 (by decide) (fun c10 => ?_) (fun c10 => ?_)
  · skip
    have b10 := bo_t q7 c10
    exfalso; omega
  · skip
    have b10 := bo_f q7 c10
    refine lv_iconst (v := (-1)) hx hb dX10_count_13 (by decide) ?_
    exact W.iret (v := ((-1) : Int32)) hx hb hr (fun t ht hW => ⟨⟨_, ((upd f 0 (0 : Int32)), g, r, q), rfl, ⟨rfl, rfl⟩, by unfold mB; rw [ht]; exact hP⟩, hS.F ht⟩) hS.2.2 dX10_count_14
set_option maxHeartbeats 4000000 in
set_option maxRecDepth 100000 in
theorem c_X10_find_0 (l : Launch) (D : va_G) (cy : Nat → ClassId) (mo : Nat) (a : Nat → Nat) (f : Nat → Int32) (g : Nat → Int64) (r : Nat → Nat → Int32) (q : Nat → Nat → Int64) (j : Int32) (i0 : Int32) (hD : DM cy mo a) (hI : MI f r) (h10 : (f 1).toInt = 0) : Ml l D cy mo a yX10_find wsX10_find ({ frames := 1, cells := 0, slots := 0, locals := 21 }) f g r q [.int j, .int i0] (fun r0 u => u = ((upd f 0 (0 : Int32)), g, r, q) ∧ (r0 = -1)) := by
  refine Met.ofW (cc := cX10_find) (maxL := 4) (ret := (some .long)) (by decide) rfl ?_
  intro p e s m args below meth c s₁ B hml hv
  obtain ⟨rfl, hP, hK⟩ := hv
  have hx := B.exec
  have hb := B.bytes
  have hr := B.returns
  have hts := atoms_spec (ws := wsX10_find) B.pre
  have hin : ∀ w ∈ u_ws RX10 TX10 35, w ∈ wsX10_find := by decide +kernel
  have hown : s.vm.findClass RX10 = some m.cls := findClass_of_methodNamed B.named
  have hlocks := B.notSynchronized
  have hS : va_S (AM mo a) s.heap s.heap [] := va_S.rf
  have hl := lv_entry ([.ref mo, .int j, .int i0]) (n := 4) (Nat.le_of_ble_eq_true rfl)
  rw [lg_entry_eq]
  generalize (lg_sl ([.ref mo, .int j, .int i0]) ++ List.replicate (4 - (lg_sl ([.ref mo, .int j, .int i0])).length) Slot.unset).toArray = ls at hl ⊢
  have hl : lv_has ls 4 [(0, .ref mo), (1, .int j), (2, .int i0)] := hl
  have k_0 : (0 : Int32).toInt = 0 := by decide
  have k_m1L : (-1 : Int64).toInt = -1 := by decide
  have hI1 := hI.1
  refine lv_aload_n hx hb dX10_find_0 rfl (lv_at hl 0 rfl) ?_
  refine lv_iconst (v := 0) hx hb dX10_find_1 (by decide) ?_
  refine m_put (v := .int (0 : Int32)) (ty := .int) hx hb hts hin hown hK hP hD hS 0 (by decide) rfl (hts (.fieldLink RX10 79 "ShadowBenchModel" "thrown" "I") (by decide +kernel)) rfl (by decide +kernel) rfl rfl (upd f 0 (0 : Int32)) g rfl dX10_find_2 (fun H locs hP hS => ?_)
  refine lv_aload_n hx hb dX10_find_5 rfl (lv_at hl 0 rfl) ?_
  refine lv_iload_n hx hb dX10_find_6 rfl (lv_at hl 1 rfl) ?_
  refine m_calli (As := [.int j]) (rest := []) ⟨hx, hb, hml, hown, hts⟩ (c_X10_isJob l D cy mo a (upd f 0 (0 : Int32)) g r q j hD) (cwV 1 hts gX10_find_X10_isJob rfl rfl rfl (by decide +kernel) ⟨Nat.le_of_ble_eq_true rfl, Nat.le_of_ble_eq_true rfl⟩) hK hP rfl hl.1 rfl (Nat.le_of_ble_eq_true rfl) dX10_find_7 ⟨Nat.le_of_ble_eq_true rfl, Nat.le_of_ble_eq_true rfl⟩ hS (fun r7 u H locs q7 hP hS => ?_)
  obtain ⟨rfl, q7⟩ := q7
  have hP : va_P D vwCl (WM cy mo a (upd f 0 (0 : Int32)) g r q) H := hP
  have q7 : Bo r7 (0 ≤ j.toInt ∧ j.toInt < ((f 1)).toInt) := q7
  refine lv_if_eq (tgt := 17) hx hb dX10_find_10 (by decide) (fun c10 => ?_) (fun c10 => ?_)
  · skip
    have b10 := bo_f q7 c10
    refine lv_ldc2 hx hb hown (hts (.constantLong RX10 185 (-1)) (by decide +kernel)) dX10_find_17 ?_
    exact W.lret (v := (-1 : Int64)) hx hb hr (fun t ht hW => ⟨⟨_, ((upd f 0 (0 : Int32)), g, r, q), rfl, ⟨rfl, rfl⟩, by unfold mB; rw [ht]; exact hP⟩, hS.F ht⟩) hS.2.2 dX10_find_20
  · skip
    have b10 := bo_t q7 c10
    exfalso; omega
set_option maxHeartbeats 4000000 in
set_option maxRecDepth 100000 in
theorem c_X10_rank_0 (l : Launch) (D : va_G) (cy : Nat → ClassId) (mo : Nat) (a : Nat → Nat) (f : Nat → Int32) (g : Nat → Int64) (r : Nat → Nat → Int32) (q : Nat → Nat → Int64) (j : Int32) (p0 : Int64) (hD : DM cy mo a) (hI : MI f r) (h10 : (f 1).toInt = 0) : Mi l D cy mo a yX10_rank wsX10_rank ({ frames := 1, cells := 0, slots := 0, locals := 21 }) f g r q [.int j, .long p0] (fun r0 u => u = ((upd f 0 (0 : Int32)), g, r, q) ∧ (r0 = -1)) := by
  refine Met.ofW (cc := cX10_rank) (maxL := 5) (ret := (some .int)) (by decide) rfl ?_
  intro p e s m args below meth c s₁ B hml hv
  obtain ⟨rfl, hP, hK⟩ := hv
  have hx := B.exec
  have hb := B.bytes
  have hr := B.returns
  have hts := atoms_spec (ws := wsX10_rank) B.pre
  have hin : ∀ w ∈ u_ws RX10 TX10 35, w ∈ wsX10_rank := by decide +kernel
  have hown : s.vm.findClass RX10 = some m.cls := findClass_of_methodNamed B.named
  have hlocks := B.notSynchronized
  have hS : va_S (AM mo a) s.heap s.heap [] := va_S.rf
  have hl := lv_entry ([.ref mo, .int j, .long p0]) (n := 5) (Nat.le_of_ble_eq_true rfl)
  rw [lg_entry_eq]
  generalize (lg_sl ([.ref mo, .int j, .long p0]) ++ List.replicate (5 - (lg_sl ([.ref mo, .int j, .long p0])).length) Slot.unset).toArray = ls at hl ⊢
  have hl : lv_has ls 5 [(0, .ref mo), (1, .int j), (2, .long p0)] := hl
  have k_m1 : (-1 : Int32).toInt = -1 := by decide
  have k_0 : (0 : Int32).toInt = 0 := by decide
  have hI1 := hI.1
  refine lv_aload_n hx hb dX10_rank_0 rfl (lv_at hl 0 rfl) ?_
  refine lv_iconst (v := 0) hx hb dX10_rank_1 (by decide) ?_
  refine m_put (v := .int (0 : Int32)) (ty := .int) hx hb hts hin hown hK hP hD hS 0 (by decide) rfl (hts (.fieldLink RX10 79 "ShadowBenchModel" "thrown" "I") (by decide +kernel)) rfl (by decide +kernel) rfl rfl (upd f 0 (0 : Int32)) g rfl dX10_rank_2 (fun H locs hP hS => ?_)
  refine lv_aload_n hx hb dX10_rank_5 rfl (lv_at hl 0 rfl) ?_
  refine lv_iload_n hx hb dX10_rank_6 rfl (lv_at hl 1 rfl) ?_
  refine m_calli (As := [.int j]) (rest := []) ⟨hx, hb, hml, hown, hts⟩ (c_X10_isJob l D cy mo a (upd f 0 (0 : Int32)) g r q j hD) (cwV 1 hts gX10_rank_X10_isJob rfl rfl rfl (by decide +kernel) ⟨Nat.le_of_ble_eq_true rfl, Nat.le_of_ble_eq_true rfl⟩) hK hP rfl hl.1 rfl (Nat.le_of_ble_eq_true rfl) dX10_rank_7 ⟨Nat.le_of_ble_eq_true rfl, Nat.le_of_ble_eq_true rfl⟩ hS (fun r7 u H locs q7 hP hS => ?_)
  obtain ⟨rfl, q7⟩ := q7
  have hP : va_P D vwCl (WM cy mo a (upd f 0 (0 : Int32)) g r q) H := hP
  have q7 : Bo r7 (0 ≤ j.toInt ∧ j.toInt < ((f 1)).toInt) := q7
  refine lv_if_eq (tgt := 32) hx hb dX10_rank_10 (by decide) (fun c10 => ?_) (fun c10 => ?_)
  · skip
    have b10 := bo_f q7 c10
    refine lv_iconst (v := (-1)) hx hb dX10_rank_32 (by decide) ?_
    exact W.iret (v := ((-1) : Int32)) hx hb hr (fun t ht hW => ⟨⟨_, ((upd f 0 (0 : Int32)), g, r, q), rfl, ⟨rfl, rfl⟩, by unfold mB; rw [ht]; exact hP⟩, hS.F ht⟩) hS.2.2 dX10_rank_33
  · skip
    have b10 := bo_t q7 c10
    exfalso; omega
set_option maxHeartbeats 4000000 in
set_option maxRecDepth 100000 in
theorem c_X10_sure_0 (l : Launch) (D : va_G) (cy : Nat → ClassId) (mo : Nat) (a : Nat → Nat) (f : Nat → Int32) (g : Nat → Int64) (r : Nat → Nat → Int32) (q : Nat → Nat → Int64) (j : Int32) (s0 : Int32) (hD : DM cy mo a) (hI : MI f r) (h10 : (f 1).toInt = 0) : Mi l D cy mo a yX10_sure wsX10_sure ({ frames := 2, cells := 0, slots := 0, locals := 43 }) f g r q [.int j, .int s0] (fun r0 u => u = ((upd f 0 (0 : Int32)), g, r, q) ∧ (r0 = -1)) := by
  refine Met.ofW (cc := cX10_sure) (maxL := 5) (ret := (some .int)) (by decide) rfl ?_
  intro p e s m args below meth c s₁ B hml hv
  obtain ⟨rfl, hP, hK⟩ := hv
  have hx := B.exec
  have hb := B.bytes
  have hr := B.returns
  have hts := atoms_spec (ws := wsX10_sure) B.pre
  have hin : ∀ w ∈ u_ws RX10 TX10 35, w ∈ wsX10_sure := by decide +kernel
  have hown : s.vm.findClass RX10 = some m.cls := findClass_of_methodNamed B.named
  have hlocks := B.notSynchronized
  have hS : va_S (AM mo a) s.heap s.heap [] := va_S.rf
  have hl := lv_entry ([.ref mo, .int j, .int s0]) (n := 5) (Nat.le_of_ble_eq_true rfl)
  rw [lg_entry_eq]
  generalize (lg_sl ([.ref mo, .int j, .int s0]) ++ List.replicate (5 - (lg_sl ([.ref mo, .int j, .int s0])).length) Slot.unset).toArray = ls at hl ⊢
  have hl : lv_has ls 5 [(0, .ref mo), (1, .int j), (2, .int s0)] := hl
  have k_m1 : (-1 : Int32).toInt = -1 := by decide
  have k_0 : (0 : Int32).toInt = 0 := by decide
  have hI1 := hI.1
  refine lv_aload_n hx hb dX10_sure_0 rfl (lv_at hl 0 rfl) ?_
  refine lv_iconst (v := 0) hx hb dX10_sure_1 (by decide) ?_
  refine m_put (v := .int (0 : Int32)) (ty := .int) hx hb hts hin hown hK hP hD hS 0 (by decide) rfl (hts (.fieldLink RX10 79 "ShadowBenchModel" "thrown" "I") (by decide +kernel)) rfl (by decide +kernel) rfl rfl (upd f 0 (0 : Int32)) g rfl dX10_sure_2 (fun H locs hP hS => ?_)
  refine lv_aload_n hx hb dX10_sure_5 rfl (lv_at hl 0 rfl) ?_
  refine lv_iload_n hx hb dX10_sure_6 rfl (lv_at hl 1 rfl) ?_
  refine lv_iload_n hx hb dX10_sure_7 rfl (lv_at hl 2 rfl) ?_
  refine m_calli (As := [.int j, .int s0]) (rest := []) ⟨hx, hb, hml, hown, hts⟩ (c_X10_isSquare l D cy mo a (upd f 0 (0 : Int32)) g r q j s0 hD hI) (cwV 2 hts gX10_sure_X10_isSquare rfl rfl rfl (by decide +kernel) ⟨Nat.le_of_ble_eq_true rfl, Nat.le_of_ble_eq_true rfl⟩) hK hP rfl hl.1 rfl (Nat.le_of_ble_eq_true rfl) dX10_sure_8 ⟨Nat.le_of_ble_eq_true rfl, Nat.le_of_ble_eq_true rfl⟩ hS (fun r8 u H locs q8 hP hS => ?_)
  obtain ⟨rfl, q8⟩ := q8
  have hP : va_P D vwCl (WM cy mo a (upd f 0 (0 : Int32)) g r q) H := hP
  have q8 : Bo r8 ((0 ≤ j.toInt ∧ j.toInt < ((f 1)).toInt) ∧ 0 ≤ s0.toInt ∧ s0.toInt < ((r 3) j.toNatClampNeg).toInt * ((r 4) j.toNatClampNeg).toInt) := q8
  refine lv_if_ne (tgt := 16) hx hb dX10_sure_11 (by decide) (fun c11 => ?_) (fun c11 => ?_)
  · skip
    have b11 := bo_t q8 c11
    exfalso; omega
  · skip
    have b11 := bo_f q8 c11
    refine lv_iconst (v := (-1)) hx hb dX10_sure_14 (by decide) ?_
    exact W.iret (v := ((-1) : Int32)) hx hb hr (fun t ht hW => ⟨⟨_, ((upd f 0 (0 : Int32)), g, r, q), rfl, ⟨rfl, rfl⟩, by unfold mB; rw [ht]; exact hP⟩, hS.F ht⟩) hS.2.2 dX10_sure_15
set_option maxHeartbeats 4000000 in
set_option maxRecDepth 100000 in
theorem c_X10_clash_0 (l : Launch) (D : va_G) (cy : Nat → ClassId) (mo : Nat) (a : Nat → Nat) (f : Nat → Int32) (g : Nat → Int64) (r : Nat → Nat → Int32) (q : Nat → Nat → Int64) (j : Int32) (hD : DM cy mo a) (hI : MI f r) (h10 : (f 1).toInt = 0) : Mi l D cy mo a yX10_clash wsX10_clash ({ frames := 1, cells := 0, slots := 0, locals := 21 }) f g r q [.int j] (fun r0 u => u = ((upd f 0 (0 : Int32)), g, r, q) ∧ (r0 = -1)) := by
  refine Met.ofW (cc := cX10_clash) (maxL := 11) (ret := (some .int)) (by decide) rfl ?_
  intro p e s m args below meth c s₁ B hml hv
  obtain ⟨rfl, hP, hK⟩ := hv
  have hx := B.exec
  have hb := B.bytes
  have hr := B.returns
  have hts := atoms_spec (ws := wsX10_clash) B.pre
  have hin : ∀ w ∈ u_ws RX10 TX10 35, w ∈ wsX10_clash := by decide +kernel
  have hown : s.vm.findClass RX10 = some m.cls := findClass_of_methodNamed B.named
  have hlocks := B.notSynchronized
  have hS : va_S (AM mo a) s.heap s.heap [] := va_S.rf
  have hl := lv_entry ([.ref mo, .int j]) (n := 11) (Nat.le_of_ble_eq_true rfl)
  rw [lg_entry_eq]
  generalize (lg_sl ([.ref mo, .int j]) ++ List.replicate (11 - (lg_sl ([.ref mo, .int j])).length) Slot.unset).toArray = ls at hl ⊢
  have hl : lv_has ls 11 [(0, .ref mo), (1, .int j)] := hl
  have k_m1 : (-1 : Int32).toInt = -1 := by decide
  have k_0 : (0 : Int32).toInt = 0 := by decide
  have hI1 := hI.1
  refine lv_aload_n hx hb dX10_clash_0 rfl (lv_at hl 0 rfl) ?_
  refine lv_iconst (v := 0) hx hb dX10_clash_1 (by decide) ?_
  refine m_put (v := .int (0 : Int32)) (ty := .int) hx hb hts hin hown hK hP hD hS 0 (by decide) rfl (hts (.fieldLink RX10 79 "ShadowBenchModel" "thrown" "I") (by decide +kernel)) rfl (by decide +kernel) rfl rfl (upd f 0 (0 : Int32)) g rfl dX10_clash_2 (fun H locs hP hS => ?_)
  refine lv_aload_n hx hb dX10_clash_5 rfl (lv_at hl 0 rfl) ?_
  refine lv_iload_n hx hb dX10_clash_6 rfl (lv_at hl 1 rfl) ?_
  refine m_calli (As := [.int j]) (rest := []) ⟨hx, hb, hml, hown, hts⟩ (c_X10_isJob l D cy mo a (upd f 0 (0 : Int32)) g r q j hD) (cwV 1 hts gX10_clash_X10_isJob rfl rfl rfl (by decide +kernel) ⟨Nat.le_of_ble_eq_true rfl, Nat.le_of_ble_eq_true rfl⟩) hK hP rfl hl.1 rfl (Nat.le_of_ble_eq_true rfl) dX10_clash_7 ⟨Nat.le_of_ble_eq_true rfl, Nat.le_of_ble_eq_true rfl⟩ hS (fun r7 u H locs q7 hP hS => ?_)
  obtain ⟨rfl, q7⟩ := q7
  have hP : va_P D vwCl (WM cy mo a (upd f 0 (0 : Int32)) g r q) H := hP
  have q7 : Bo r7 (0 ≤ j.toInt ∧ j.toInt < ((f 1)).toInt) := q7
  refine lv_if_ne (tgt := 15) hx hb dX10_clash_10 (by decide) (fun c10 => ?_) (fun c10 => ?_)
  · skip
    have b10 := bo_t q7 c10
    exfalso; omega
  · skip
    have b10 := bo_f q7 c10
    refine lv_iconst (v := (-1)) hx hb dX10_clash_13 (by decide) ?_
    exact W.iret (v := ((-1) : Int32)) hx hb hr (fun t ht hW => ⟨⟨_, ((upd f 0 (0 : Int32)), g, r, q), rfl, ⟨rfl, rfl⟩, by unfold mB; rw [ht]; exact hP⟩, hS.F ht⟩) hS.2.2 dX10_clash_14
set_option maxHeartbeats 4000000 in
set_option maxRecDepth 100000 in
theorem c_X10_seek_0 (l : Launch) (D : va_G) (cy : Nat → ClassId) (mo : Nat) (a : Nat → Nat) (f : Nat → Int32) (g : Nat → Int64) (r : Nat → Nat → Int32) (q : Nat → Nat → Int64) (j : Int32) (hD : DM cy mo a) (hI : MI f r) (h10 : (f 1).toInt = 0) : Mi l D cy mo a yX10_seek wsX10_seek ({ frames := 1, cells := 0, slots := 0, locals := 21 }) f g r q [.int j] (fun r0 u => u = (f, g, r, q) ∧ (r0 = 1)) := by
  refine Met.ofW (cc := cX10_seek) (maxL := 5) (ret := (some .int)) (by decide) rfl ?_
  intro p e s m args below meth c s₁ B hml hv
  obtain ⟨rfl, hP, hK⟩ := hv
  have hx := B.exec
  have hb := B.bytes
  have hr := B.returns
  have hts := atoms_spec (ws := wsX10_seek) B.pre
  have hin : ∀ w ∈ u_ws RX10 TX10 35, w ∈ wsX10_seek := by decide +kernel
  have hown : s.vm.findClass RX10 = some m.cls := findClass_of_methodNamed B.named
  have hlocks := B.notSynchronized
  have hS : va_S (AM mo a) s.heap s.heap [] := va_S.rf
  have hl := lv_entry ([.ref mo, .int j]) (n := 5) (Nat.le_of_ble_eq_true rfl)
  rw [lg_entry_eq]
  generalize (lg_sl ([.ref mo, .int j]) ++ List.replicate (5 - (lg_sl ([.ref mo, .int j])).length) Slot.unset).toArray = ls at hl ⊢
  have hl : lv_has ls 5 [(0, .ref mo), (1, .int j)] := hl
  have k_0 : (0 : Int32).toInt = 0 := by decide
  have k_1 : (1 : Int32).toInt = 1 := by decide
  have hI1 := hI.1
  refine lv_aload_n hx hb dX10_seek_0 rfl (lv_at hl 0 rfl) ?_
  refine lv_iload_n hx hb dX10_seek_1 rfl (lv_at hl 1 rfl) ?_
  refine m_calli (As := [.int j]) (rest := []) ⟨hx, hb, hml, hown, hts⟩ (c_X10_isJob l D cy mo a f g r q j hD) (cwV 1 hts gX10_seek_X10_isJob rfl rfl rfl (by decide +kernel) ⟨Nat.le_of_ble_eq_true rfl, Nat.le_of_ble_eq_true rfl⟩) hK hP rfl hl.1 rfl (Nat.le_of_ble_eq_true rfl) dX10_seek_2 ⟨Nat.le_of_ble_eq_true rfl, Nat.le_of_ble_eq_true rfl⟩ hS (fun r2 u H locs q2 hP hS => ?_)
  obtain ⟨rfl, q2⟩ := q2
  have hP : va_P D vwCl (WM cy mo a f g r q) H := hP
  have q2 : Bo r2 (0 ≤ j.toInt ∧ j.toInt < ((f 1)).toInt) := q2
  refine lv_if_eq (tgt := 18) hx hb dX10_seek_5 (by decide) (fun c5 => ?_) (fun c5 => ?_)
  · skip
    have b5 := bo_f q2 c5
    refine lv_iconst (v := 1) hx hb dX10_seek_18 (by decide) ?_
    exact W.iret (v := (1 : Int32)) hx hb hr (fun t ht hW => ⟨⟨_, (f, g, r, q), rfl, ⟨rfl, rfl⟩, by unfold mB; rw [ht]; exact hP⟩, hS.F ht⟩) hS.2.2 dX10_seek_19
  · skip
    have b5 := bo_t q2 c5
    exfalso; omega
set_option maxHeartbeats 4000000 in
set_option maxRecDepth 100000 in
theorem c_X10_best_0 (l : Launch) (D : va_G) (cy : Nat → ClassId) (mo : Nat) (a : Nat → Nat) (f : Nat → Int32) (g : Nat → Int64) (r : Nat → Nat → Int32) (q : Nat → Nat → Int64) (j : Int32) (hD : DM cy mo a) (hI : MI f r) (h10 : (f 1).toInt = 0) : Mi l D cy mo a yX10_best wsX10_best ({ frames := 2, cells := 0, slots := 0, locals := 45 }) f g r q [.int j] (fun r0 u => ∃ (th : Int32), u = ((upd f 0 th), g, r, q) ∧ (th = 1)) := by
  refine Met.ofW (cc := cX10_best) (maxL := 2) (ret := (some .int)) (by decide) rfl ?_
  intro p e s m args below meth c s₁ B hml hv
  obtain ⟨rfl, hP, hK⟩ := hv
  have hx := B.exec
  have hb := B.bytes
  have hr := B.returns
  have hts := atoms_spec (ws := wsX10_best) B.pre
  have hin : ∀ w ∈ u_ws RX10 TX10 35, w ∈ wsX10_best := by decide +kernel
  have hown : s.vm.findClass RX10 = some m.cls := findClass_of_methodNamed B.named
  have hlocks := B.notSynchronized
  have hS : va_S (AM mo a) s.heap s.heap [] := va_S.rf
  have hl := lv_entry ([.ref mo, .int j]) (n := 2) (Nat.le_of_ble_eq_true rfl)
  rw [lg_entry_eq]
  generalize (lg_sl ([.ref mo, .int j]) ++ List.replicate (2 - (lg_sl ([.ref mo, .int j])).length) Slot.unset).toArray = ls at hl ⊢
  have hl : lv_has ls 2 [(0, .ref mo), (1, .int j)] := hl
  have k_0 : (0 : Int32).toInt = 0 := by decide
  have hI1 := hI.1
  refine lv_aload_n hx hb dX10_best_0 rfl (lv_at hl 0 rfl) ?_
  refine lv_aload_n hx hb dX10_best_1 rfl (lv_at hl 0 rfl) ?_
  refine lv_iload_n hx hb dX10_best_2 rfl (lv_at hl 1 rfl) ?_
  refine m_calli (As := [.int j]) (rest := [.ref mo]) ⟨hx, hb, hml, hown, hts⟩ (c_X10_seek_0 l D cy mo a f g r q j hD hI h10) (cwV 1 hts gX10_best_X10_seek rfl rfl rfl (by decide +kernel) ⟨Nat.le_of_ble_eq_true rfl, Nat.le_of_ble_eq_true rfl⟩) hK hP rfl hl.1 rfl (Nat.le_of_ble_eq_true rfl) dX10_best_3 ⟨Nat.le_of_ble_eq_true rfl, Nat.le_of_ble_eq_true rfl⟩ hS (fun r3 u H locs q3 hP hS => ?_)
  obtain ⟨rfl, q3⟩ := q3
  have hP : va_P D vwCl (WM cy mo a f g r q) H := hP
  have q3 : r3 = 1 := q3
  refine m_put (v := .int r3) (ty := .int) hx hb hts hin hown hK hP hD hS 0 (by decide) rfl (hts (.fieldLink RX10 79 "ShadowBenchModel" "thrown" "I") (by decide +kernel)) rfl (by decide +kernel) rfl rfl (upd f 0 r3) g rfl dX10_best_6 (fun H locs hP hS => ?_)
  refine lv_aload_n hx hb dX10_best_9 rfl (lv_at hl 0 rfl) ?_
  refine m_get (v := .int r3) hx hb hts hin hown hK hP 0 (by decide) rfl (hts (.fieldLink RX10 79 "ShadowBenchModel" "thrown" "I") (by decide +kernel)) rfl dX10_best_10 ?_
  refine lv_if_le (tgt := 20) hx hb dX10_best_13 (by decide) (fun c13 => ?_) (fun c13 => ?_)
  · skip
    have d13 := c13
    rw [fa_le] at d13
    exfalso; (have z9 := congrArg Int32.toInt q3; have z8 : (1 : Int32).toInt = 1 := rfl; omega)
  · skip
    have d13 := c13
    rw [fa_le] at d13
    refine lv_iconst (v := 0) hx hb dX10_best_16 (by decide) ?_
    refine lv_goto (tgt := 24) hx hb dX10_best_17 (by decide) ?_
    exact W.iret (v := (0 : Int32)) hx hb hr (fun t ht hW => ⟨⟨_, ((upd f 0 r3), g, r, q), rfl, ⟨r3, rfl, q3⟩, by unfold mB; rw [ht]; exact hP⟩, hS.F ht⟩) hS.2.2 dX10_best_24
set_option maxHeartbeats 4000000 in
set_option maxRecDepth 100000 in
theorem c_X10_bestOne_0 (l : Launch) (D : va_G) (cy : Nat → ClassId) (mo : Nat) (a : Nat → Nat) (f : Nat → Int32) (g : Nat → Int64) (r : Nat → Nat → Int32) (q : Nat → Nat → Int64) (j : Int32) (hD : DM cy mo a) (hI : MI f r) (h10 : (f 1).toInt = 0) : Ml l D cy mo a yX10_bestOne wsX10_bestOne ({ frames := 2, cells := 0, slots := 0, locals := 45 }) f g r q [.int j] (fun r0 u => ∃ (th : Int32), u = ((upd f 0 th), g, r, q) ∧ (th = 1)) := by
  refine Met.ofW (cc := cX10_bestOne) (maxL := 2) (ret := (some .long)) (by decide) rfl ?_
  intro p e s m args below meth c s₁ B hml hv
  obtain ⟨rfl, hP, hK⟩ := hv
  have hx := B.exec
  have hb := B.bytes
  have hr := B.returns
  have hts := atoms_spec (ws := wsX10_bestOne) B.pre
  have hin : ∀ w ∈ u_ws RX10 TX10 35, w ∈ wsX10_bestOne := by decide +kernel
  have hown : s.vm.findClass RX10 = some m.cls := findClass_of_methodNamed B.named
  have hlocks := B.notSynchronized
  have hS : va_S (AM mo a) s.heap s.heap [] := va_S.rf
  have hl := lv_entry ([.ref mo, .int j]) (n := 2) (Nat.le_of_ble_eq_true rfl)
  rw [lg_entry_eq]
  generalize (lg_sl ([.ref mo, .int j]) ++ List.replicate (2 - (lg_sl ([.ref mo, .int j])).length) Slot.unset).toArray = ls at hl ⊢
  have hl : lv_has ls 2 [(0, .ref mo), (1, .int j)] := hl
  have k_0 : (0 : Int32).toInt = 0 := by decide
  have k_0L : (0 : Int64).toInt = 0 := by decide
  have hI1 := hI.1
  refine lv_aload_n hx hb dX10_bestOne_0 rfl (lv_at hl 0 rfl) ?_
  refine lv_aload_n hx hb dX10_bestOne_1 rfl (lv_at hl 0 rfl) ?_
  refine lv_iload_n hx hb dX10_bestOne_2 rfl (lv_at hl 1 rfl) ?_
  refine m_calli (As := [.int j]) (rest := [.ref mo]) ⟨hx, hb, hml, hown, hts⟩ (c_X10_seek_0 l D cy mo a f g r q j hD hI h10) (cwV 1 hts gX10_bestOne_X10_seek rfl rfl rfl (by decide +kernel) ⟨Nat.le_of_ble_eq_true rfl, Nat.le_of_ble_eq_true rfl⟩) hK hP rfl hl.1 rfl (Nat.le_of_ble_eq_true rfl) dX10_bestOne_3 ⟨Nat.le_of_ble_eq_true rfl, Nat.le_of_ble_eq_true rfl⟩ hS (fun r3 u H locs q3 hP hS => ?_)
  obtain ⟨rfl, q3⟩ := q3
  have hP : va_P D vwCl (WM cy mo a f g r q) H := hP
  have q3 : r3 = 1 := q3
  refine m_put (v := .int r3) (ty := .int) hx hb hts hin hown hK hP hD hS 0 (by decide) rfl (hts (.fieldLink RX10 79 "ShadowBenchModel" "thrown" "I") (by decide +kernel)) rfl (by decide +kernel) rfl rfl (upd f 0 r3) g rfl dX10_bestOne_6 (fun H locs hP hS => ?_)
  refine lv_aload_n hx hb dX10_bestOne_9 rfl (lv_at hl 0 rfl) ?_
  refine m_get (v := .int r3) hx hb hts hin hown hK hP 0 (by decide) rfl (hts (.fieldLink RX10 79 "ShadowBenchModel" "thrown" "I") (by decide +kernel)) rfl dX10_bestOne_10 ?_
  refine lv_if_le (tgt := 20) hx hb dX10_bestOne_13 (by decide) (fun c13 => ?_) (fun c13 => ?_)
  · skip
    have d13 := c13
    rw [fa_le] at d13
    exfalso; (have z9 := congrArg Int32.toInt q3; have z8 : (1 : Int32).toInt = 1 := rfl; omega)
  · skip
    have d13 := c13
    rw [fa_le] at d13
    refine lv_lconst (v := 0) hx hb dX10_bestOne_16 (by decide) ?_
    refine lv_goto (tgt := 24) hx hb dX10_bestOne_17 (by decide) ?_
    exact W.lret (v := (0 : Int64)) hx hb hr (fun t ht hW => ⟨⟨_, ((upd f 0 r3), g, r, q), rfl, ⟨r3, rfl, q3⟩, by unfold mB; rw [ht]; exact hP⟩, hS.F ht⟩) hS.2.2 dX10_bestOne_24
set_option maxHeartbeats 4000000 in
set_option maxRecDepth 100000 in
theorem c_X10_keep_0 (l : Launch) (D : va_G) (cy : Nat → ClassId) (mo : Nat) (a : Nat → Nat) (f : Nat → Int32) (g : Nat → Int64) (r : Nat → Nat → Int32) (q : Nat → Nat → Int64) (d : Int32) (what : Int32) (k0 : Int32) (p0 : Int64) (hD : DM cy mo a) (hI : MI f r) (h10 : (f 1).toInt = 0) : Mi l D cy mo a yX10_keep wsX10_keep ({ frames := 1, cells := 0, slots := 0, locals := 21 }) f g r q [.int d, .int what, .int k0, .long p0] (fun r0 u => ∃ (sh : Nat → Int32), ∃ (sz : Nat → Int32), ∃ (sw : Nat → Int32), ∃ (sf : Nat → Int32), ∃ (sr : Nat → Int64), u = ((upd f 0 (0 : Int32)), g, (va_up (va_up (va_up (va_up r 29 sh) 30 sz) 31 sw) 32 sf), (va_up q 33 sr)) ∧ (r0 = keO d what ∧ MI (upd f 0 (0 : Int32)) (va_up (va_up (va_up (va_up r 29 sh) 30 sz) 31 sw) 32 sf))) := by
  refine Met.ofW (cc := cX10_keep) (maxL := 8) (ret := (some .int)) (by decide) rfl ?_
  intro p e s m args below meth c s₁ B hml hv
  obtain ⟨rfl, hP, hK⟩ := hv
  have hx := B.exec
  have hb := B.bytes
  have hr := B.returns
  have hts := atoms_spec (ws := wsX10_keep) B.pre
  have hin : ∀ w ∈ u_ws RX10 TX10 35, w ∈ wsX10_keep := by decide +kernel
  have hown : s.vm.findClass RX10 = some m.cls := findClass_of_methodNamed B.named
  have hlocks := B.notSynchronized
  have hS : va_S (AM mo a) s.heap s.heap [] := va_S.rf
  have hl := lv_entry ([.ref mo, .int d, .int what, .int k0, .long p0]) (n := 8) (Nat.le_of_ble_eq_true rfl)
  rw [lg_entry_eq]
  generalize (lg_sl ([.ref mo, .int d, .int what, .int k0, .long p0]) ++ List.replicate (8 - (lg_sl ([.ref mo, .int d, .int what, .int k0, .long p0])).length) Slot.unset).toArray = ls at hl ⊢
  have hl : lv_has ls 8 [(0, .ref mo), (1, .int d), (2, .int what), (3, .int k0), (4, .long p0)] := hl
  have k_m1 : (-1 : Int32).toInt = -1 := by decide
  have k_0 : (0 : Int32).toInt = 0 := by decide
  have k_1 : (1 : Int32).toInt = 1 := by decide
  have k_3 : (3 : Int32).toInt = 3 := by decide
  have k_4 : (4 : Int32).toInt = 4 := by decide
  have hI1 := hI.1
  refine lv_aload_n hx hb dX10_keep_0 rfl (lv_at hl 0 rfl) ?_
  refine lv_iconst (v := 0) hx hb dX10_keep_1 (by decide) ?_
  refine m_put (v := .int (0 : Int32)) (ty := .int) hx hb hts hin hown hK hP hD hS 0 (by decide) rfl (hts (.fieldLink RX10 79 "ShadowBenchModel" "thrown" "I") (by decide +kernel)) rfl (by decide +kernel) rfl rfl (upd f 0 (0 : Int32)) g rfl dX10_keep_2 (fun H locs hP hS => ?_)
  refine lv_iload_n hx hb dX10_keep_5 rfl (lv_at hl 1 rfl) ?_
  refine m_pu (As := [.int d]) (rest := []) ⟨hx, hb, hml, hown, hts⟩ (c_X10_isShelf l d ) (va_cwS 1 hts gX10_keep_X10_isShelf rfl rfl rfl (by decide +kernel) ⟨Nat.le_of_ble_eq_true rfl, Nat.le_of_ble_eq_true rfl⟩) hP rfl hl.1 rfl (Nat.le_of_ble_eq_true rfl) dX10_keep_6 ⟨Nat.le_of_ble_eq_true rfl, Nat.le_of_ble_eq_true rfl⟩ hS (fun r6 H locs q6 hP hS => ?_)
  refine lv_if_eq (tgt := 71) hx hb dX10_keep_9 (by decide) (fun c9 => ?_) (fun c9 => ?_)
  · skip
    have b9 := bo_f q6 c9
    refine lv_iconst (v := 0) hx hb dX10_keep_71 (by decide) ?_
    refine lv_istore (lv' := [(6, .int (0 : Int32)), (0, .ref mo), (1, .int d), (2, .int what), (3, .int k0), (4, .long p0)]) hx hb dX10_keep_72 hl (by decide) rfl (fun ls hl => ?_)
    refine lv_iload hx hb dX10_keep_74 (lv_at hl 0 rfl) ?_
    refine lv_if_ne (tgt := 81) hx hb dX10_keep_76 (by decide) (fun c76 => ?_) (fun c76 => ?_)
    · first | exact absurd c76 (by decide) | exact absurd (by decide) c76
    · skip
      have d76 := c76
      rw [fa_eq] at d76
      refine lv_iconst (v := (-1)) hx hb dX10_keep_79 (by decide) ?_
      have hP := wm_eq rfl rfl (ec_r___29_30_31_32 r ) (ec_q___33 q ) hP
      exact W.iret (v := ((-1) : Int32)) hx hb hr (fun t ht hW => ⟨⟨_, ((upd f 0 (0 : Int32)), g, (va_up (va_up (va_up (va_up r 29 (r 29)) 30 (r 30)) 31 (r 31)) 32 (r 32)), (va_up q 33 (q 33))), rfl, ⟨(r 29), (r 30), (r 31), (r 32), (q 33), rfl, ⟨(by unfold keO; rw [if_neg (by omega)]), by first | exact hI | exact mi_sz (d := d) hI (v := v110) (by omega) rfl rfl rfl rfl rfl rfl rfl rfl | exact mi_sz (d := d) hI (v := v131) (by omega) rfl rfl rfl rfl rfl rfl rfl rfl | exact mi_sz (d := d) hI (v := 0) (by decide) rfl rfl rfl rfl rfl rfl rfl rfl⟩⟩, by unfold mB; rw [ht]; exact hP⟩, hS.F ht⟩) hS.2.2 dX10_keep_80
  · skip
    have b9 := bo_t q6 c9
    refine lv_iload_n hx hb dX10_keep_12 rfl (lv_at hl 2 rfl) ?_
    refine lv_if_eq (tgt := 67) hx hb dX10_keep_13 (by decide) (fun c13 => ?_) (fun c13 => ?_)
    · skip
      have d13 := c13
      rw [fa_eq] at d13
      refine lv_iconst (v := 1) hx hb dX10_keep_67 (by decide) ?_
      refine lv_goto (tgt := 72) hx hb dX10_keep_68 (by decide) ?_
      refine lv_istore (lv' := [(6, .int (1 : Int32)), (0, .ref mo), (1, .int d), (2, .int what), (3, .int k0), (4, .long p0)]) hx hb dX10_keep_72 hl (by decide) rfl (fun ls hl => ?_)
      refine lv_iload hx hb dX10_keep_74 (lv_at hl 0 rfl) ?_
      refine lv_if_ne (tgt := 81) hx hb dX10_keep_76 (by decide) (fun c76 => ?_) (fun c76 => ?_)
      · skip
        have d76 := c76
        rw [fa_eq] at d76
        refine lv_aload_n hx hb dX10_keep_81 rfl (lv_at hl 1 rfl) ?_
        refine m_get (v := .ref (a 29)) hx hb hts hin hown hK hP 29 (by decide) rfl (hts (.fieldLink RX10 61 "ShadowBenchModel" "shelf" "[I") (by decide +kernel)) rfl dX10_keep_82 ?_
        refine lv_iload_n hx hb dX10_keep_85 rfl (lv_at hl 2 rfl) ?_
        refine lv_iload_n hx hb dX10_keep_86 rfl (lv_at hl 3 rfl) ?_
        refine m_iast (w := (r 29)) hx hb hK hP hD hS 17 rfl (vp_in_iff.mpr ⟨by omega, by omega⟩) (va_up r 29 (upd (r 29) d.toNatClampNeg what)) (ms_29 cy mo a _ _ _ _ _) dX10_keep_87 (fun H locs hP hS => ?_)
        refine lv_aload_n hx hb dX10_keep_88 rfl (lv_at hl 1 rfl) ?_
        refine m_get (v := .ref (a 30)) hx hb hts hin hown hK hP 30 (by decide) rfl (hts (.fieldLink RX10 64 "ShadowBenchModel" "shelfSize" "[I") (by decide +kernel)) rfl dX10_keep_89 ?_
        refine lv_iload_n hx hb dX10_keep_92 rfl (lv_at hl 2 rfl) ?_
        refine lv_iload_n hx hb dX10_keep_93 rfl (lv_at hl 3 rfl) ?_
        refine lv_iconst (v := 3) hx hb dX10_keep_94 (by decide) ?_
        refine lv_icmp_ne (tgt := 114) hx hb dX10_keep_95 (by decide) (fun c95 => ?_) (fun c95 => ?_)
        · skip
          have d95 := c95
          rw [fa_eq] at d95
          refine lv_iload_n hx hb dX10_keep_114 rfl (lv_at hl 3 rfl) ?_
          refine lv_iconst (v := 4) hx hb dX10_keep_115 (by decide) ?_
          refine lv_icmp_ne (tgt := 135) hx hb dX10_keep_116 (by decide) (fun c116 => ?_) (fun c116 => ?_)
          · skip
            have d116 := c116
            rw [fa_eq] at d116
            refine lv_iconst (v := 0) hx hb dX10_keep_135 (by decide) ?_
            refine m_iast (w := (r 30)) hx hb hK hP hD hS 18 rfl (vp_in_iff.mpr ⟨by omega, by omega⟩) (va_up (va_up r 29 ((upd (r 29) d.toNatClampNeg what))) 30 (upd (r 30) d.toNatClampNeg (0 : Int32))) (ms_30 cy mo a _ _ _ _ _) dX10_keep_136 (fun H locs hP hS => ?_)
            refine lv_iload_n hx hb dX10_keep_137 rfl (lv_at hl 3 rfl) ?_
            refine lv_iconst (v := 1) hx hb dX10_keep_138 (by decide) ?_
            refine lv_icmp_ne (tgt := 174) hx hb dX10_keep_139 (by decide) (fun c139 => ?_) (fun c139 => ?_)
            · skip
              have d139 := c139
              rw [fa_eq] at d139
              refine lv_iconst (v := 0) hx hb dX10_keep_174 (by decide) ?_
              refine lv_istore (lv' := [(7, .int (0 : Int32)), (6, .int (1 : Int32)), (0, .ref mo), (1, .int d), (2, .int what), (3, .int k0), (4, .long p0)]) hx hb dX10_keep_175 hl (by decide) rfl (fun ls hl => ?_)
              refine lv_iload hx hb dX10_keep_177 (lv_at hl 0 rfl) ?_
              refine lv_aload_n hx hb dX10_keep_179 rfl (lv_at hl 2 rfl) ?_
              refine m_get (v := .ref (a 30)) hx hb hts hin hown hK hP 30 (by decide) rfl (hts (.fieldLink RX10 64 "ShadowBenchModel" "shelfSize" "[I") (by decide +kernel)) rfl dX10_keep_180 ?_
              refine lv_iload_n hx hb dX10_keep_183 rfl (lv_at hl 3 rfl) ?_
              refine m_iald (w := ((upd (r 30) d.toNatClampNeg (0 : Int32)))) hx hb hK hP 18 rfl (vp_in_iff.mpr ⟨by omega, by omega⟩) dX10_keep_184 ?_
              refine lv_topi (fun v184 e184 => ?_)
              have i184 : v184.toInt = (((upd (r 30) d.toNatClampNeg (0 : Int32))) d.toNatClampNeg).toInt := congrArg Int32.toInt e184
              have z184 := e184
              simp only [upd, if_true] at z184
              have y184 := congrArg Int32.toInt z184
              refine lv_icmp_ge (tgt := 272) hx hb dX10_keep_185 (by decide) (fun c185 => ?_) (fun c185 => ?_)
              · skip
                have d185 := c185
                rw [fa_le] at d185
                refine lv_iconst (v := 0) hx hb dX10_keep_272 (by decide) ?_
                have hP := wm_eq rfl rfl (ec_r_29_30__29_30_31_32 r ((upd (r 29) d.toNatClampNeg what)) ((upd (r 30) d.toNatClampNeg (0 : Int32)))) (ec_q___33 q ) hP
                exact W.iret (v := (0 : Int32)) hx hb hr (fun t ht hW => ⟨⟨_, ((upd f 0 (0 : Int32)), g, (va_up (va_up (va_up (va_up r 29 (((upd (r 29) d.toNatClampNeg what)))) 30 (((upd (r 30) d.toNatClampNeg (0 : Int32))))) 31 (r 31)) 32 (r 32)), (va_up q 33 (q 33))), rfl, ⟨((upd (r 29) d.toNatClampNeg what)), ((upd (r 30) d.toNatClampNeg (0 : Int32))), (r 31), (r 32), (q 33), rfl, ⟨(by unfold keO; rw [if_pos (by omega)]), by first | exact hI | exact mi_sz (d := d) hI (v := v110) (by omega) rfl rfl rfl rfl rfl rfl rfl rfl | exact mi_sz (d := d) hI (v := v131) (by omega) rfl rfl rfl rfl rfl rfl rfl rfl | exact mi_sz (d := d) hI (v := 0) (by decide) rfl rfl rfl rfl rfl rfl rfl rfl⟩⟩, by unfold mB; rw [ht]; exact hP⟩, hS.F ht⟩) hS.2.2 dX10_keep_273
              · skip
                have d185 := c185
                rw [fa_le] at d185
                exfalso; omega
            · skip
              have d139 := c139
              rw [fa_eq] at d139
              exfalso; omega
          · skip
            have d116 := c116
            rw [fa_eq] at d116
            exfalso; omega
        · skip
          have d95 := c95
          rw [fa_eq] at d95
          exfalso; omega
      · first | exact absurd c76 (by decide) | exact absurd (by decide) c76
    · skip
      have d13 := c13
      rw [fa_eq] at d13
      refine lv_iload_n hx hb dX10_keep_16 rfl (lv_at hl 2 rfl) ?_
      refine lv_iconst (v := 1) hx hb dX10_keep_17 (by decide) ?_
      refine lv_icmp_eq (tgt := 26) hx hb dX10_keep_18 (by decide) (fun c18 => ?_) (fun c18 => ?_)
      · skip
        have d18 := c18
        rw [fa_eq] at d18
        refine lv_aload_n hx hb dX10_keep_26 rfl (lv_at hl 0 rfl) ?_
        refine lv_iload_n hx hb dX10_keep_27 rfl (lv_at hl 3 rfl) ?_
        refine m_calli (As := [.int k0]) (rest := []) ⟨hx, hb, hml, hown, hts⟩ (c_X10_isJob l D cy mo a (upd f 0 (0 : Int32)) g r q k0 hD) (cwV 1 hts gX10_keep_X10_isJob rfl rfl rfl (by decide +kernel) ⟨Nat.le_of_ble_eq_true rfl, Nat.le_of_ble_eq_true rfl⟩) hK hP rfl hl.1 rfl (Nat.le_of_ble_eq_true rfl) dX10_keep_28 ⟨Nat.le_of_ble_eq_true rfl, Nat.le_of_ble_eq_true rfl⟩ hS (fun r28 u H locs q28 hP hS => ?_)
        obtain ⟨rfl, q28⟩ := q28
        have hP : va_P D vwCl (WM cy mo a (upd f 0 (0 : Int32)) g r q) H := hP
        have q28 : Bo r28 (0 ≤ k0.toInt ∧ k0.toInt < ((f 1)).toInt) := q28
        refine lv_if_ne (tgt := 67) hx hb dX10_keep_31 (by decide) (fun c31 => absurd (bo_t q28 c31) (by omega)) (fun c31 => ?_)
        have b31 := bo_f q28 c31
        refine lv_iload_n hx hb dX10_keep_34 rfl (lv_at hl 2 rfl) ?_
        refine lv_iconst (v := 3) hx hb dX10_keep_35 (by decide) ?_
        refine lv_icmp_ne (tgt := 71) hx hb dX10_keep_36 (by decide) (fun c36 => ?_) (fun c36 => ?_)
        · skip
          have d36 := c36
          rw [fa_eq] at d36
          refine lv_iconst (v := 0) hx hb dX10_keep_71 (by decide) ?_
          refine lv_istore (lv' := [(6, .int (0 : Int32)), (0, .ref mo), (1, .int d), (2, .int what), (3, .int k0), (4, .long p0)]) hx hb dX10_keep_72 hl (by decide) rfl (fun ls hl => ?_)
          refine lv_iload hx hb dX10_keep_74 (lv_at hl 0 rfl) ?_
          refine lv_if_ne (tgt := 81) hx hb dX10_keep_76 (by decide) (fun c76 => ?_) (fun c76 => ?_)
          · first | exact absurd c76 (by decide) | exact absurd (by decide) c76
          · skip
            have d76 := c76
            rw [fa_eq] at d76
            refine lv_iconst (v := (-1)) hx hb dX10_keep_79 (by decide) ?_
            have hP := wm_eq rfl rfl (ec_r___29_30_31_32 r ) (ec_q___33 q ) hP
            exact W.iret (v := ((-1) : Int32)) hx hb hr (fun t ht hW => ⟨⟨_, ((upd f 0 (0 : Int32)), g, (va_up (va_up (va_up (va_up r 29 (r 29)) 30 (r 30)) 31 (r 31)) 32 (r 32)), (va_up q 33 (q 33))), rfl, ⟨(r 29), (r 30), (r 31), (r 32), (q 33), rfl, ⟨(by unfold keO; rw [if_neg (by omega)]), by first | exact hI | exact mi_sz (d := d) hI (v := v110) (by omega) rfl rfl rfl rfl rfl rfl rfl rfl | exact mi_sz (d := d) hI (v := v131) (by omega) rfl rfl rfl rfl rfl rfl rfl rfl | exact mi_sz (d := d) hI (v := 0) (by decide) rfl rfl rfl rfl rfl rfl rfl rfl⟩⟩, by unfold mB; rw [ht]; exact hP⟩, hS.F ht⟩) hS.2.2 dX10_keep_80
        · skip
          have d36 := c36
          rw [fa_eq] at d36
          refine lv_aload_n hx hb dX10_keep_39 rfl (lv_at hl 0 rfl) ?_
          refine lv_iload_n hx hb dX10_keep_40 rfl (lv_at hl 3 rfl) ?_
          refine m_calli (As := [.int k0]) (rest := []) ⟨hx, hb, hml, hown, hts⟩ (c_X10_isJob l D cy mo a (upd f 0 (0 : Int32)) g r q k0 hD) (cwV 1 hts gX10_keep_X10_isJob rfl rfl rfl (by decide +kernel) ⟨Nat.le_of_ble_eq_true rfl, Nat.le_of_ble_eq_true rfl⟩) hK hP rfl hl.1 rfl (Nat.le_of_ble_eq_true rfl) dX10_keep_41 ⟨Nat.le_of_ble_eq_true rfl, Nat.le_of_ble_eq_true rfl⟩ hS (fun r41 u H locs q41 hP hS => ?_)
          obtain ⟨rfl, q41⟩ := q41
          have hP : va_P D vwCl (WM cy mo a (upd f 0 (0 : Int32)) g r q) H := hP
          have q41 : Bo r41 (0 ≤ k0.toInt ∧ k0.toInt < ((f 1)).toInt) := q41
          refine lv_if_eq (tgt := 71) hx hb dX10_keep_44 (by decide) (fun c44 => ?_) (fun c44 => ?_)
          · skip
            have b44 := bo_f q41 c44
            refine lv_iconst (v := 0) hx hb dX10_keep_71 (by decide) ?_
            refine lv_istore (lv' := [(6, .int (0 : Int32)), (0, .ref mo), (1, .int d), (2, .int what), (3, .int k0), (4, .long p0)]) hx hb dX10_keep_72 hl (by decide) rfl (fun ls hl => ?_)
            refine lv_iload hx hb dX10_keep_74 (lv_at hl 0 rfl) ?_
            refine lv_if_ne (tgt := 81) hx hb dX10_keep_76 (by decide) (fun c76 => ?_) (fun c76 => ?_)
            · first | exact absurd c76 (by decide) | exact absurd (by decide) c76
            · skip
              have d76 := c76
              rw [fa_eq] at d76
              refine lv_iconst (v := (-1)) hx hb dX10_keep_79 (by decide) ?_
              have hP := wm_eq rfl rfl (ec_r___29_30_31_32 r ) (ec_q___33 q ) hP
              exact W.iret (v := ((-1) : Int32)) hx hb hr (fun t ht hW => ⟨⟨_, ((upd f 0 (0 : Int32)), g, (va_up (va_up (va_up (va_up r 29 (r 29)) 30 (r 30)) 31 (r 31)) 32 (r 32)), (va_up q 33 (q 33))), rfl, ⟨(r 29), (r 30), (r 31), (r 32), (q 33), rfl, ⟨(by unfold keO; rw [if_neg (by omega)]), by first | exact hI | exact mi_sz (d := d) hI (v := v110) (by omega) rfl rfl rfl rfl rfl rfl rfl rfl | exact mi_sz (d := d) hI (v := v131) (by omega) rfl rfl rfl rfl rfl rfl rfl rfl | exact mi_sz (d := d) hI (v := 0) (by decide) rfl rfl rfl rfl rfl rfl rfl rfl⟩⟩, by unfold mB; rw [ht]; exact hP⟩, hS.F ht⟩) hS.2.2 dX10_keep_80
          · skip
            have b44 := bo_t q41 c44
            exfalso; omega
      · skip
        have d18 := c18
        rw [fa_eq] at d18
        refine lv_iload_n hx hb dX10_keep_21 rfl (lv_at hl 2 rfl) ?_
        refine lv_iconst (v := 4) hx hb dX10_keep_22 (by decide) ?_
        refine lv_icmp_ne (tgt := 34) hx hb dX10_keep_23 (by decide) (fun c23 => ?_) (fun c23 => ?_)
        · skip
          have d23 := c23
          rw [fa_eq] at d23
          refine lv_iload_n hx hb dX10_keep_34 rfl (lv_at hl 2 rfl) ?_
          refine lv_iconst (v := 3) hx hb dX10_keep_35 (by decide) ?_
          refine lv_icmp_ne (tgt := 71) hx hb dX10_keep_36 (by decide) (fun c36 => ?_) (fun c36 => ?_)
          · skip
            have d36 := c36
            rw [fa_eq] at d36
            refine lv_iconst (v := 0) hx hb dX10_keep_71 (by decide) ?_
            refine lv_istore (lv' := [(6, .int (0 : Int32)), (0, .ref mo), (1, .int d), (2, .int what), (3, .int k0), (4, .long p0)]) hx hb dX10_keep_72 hl (by decide) rfl (fun ls hl => ?_)
            refine lv_iload hx hb dX10_keep_74 (lv_at hl 0 rfl) ?_
            refine lv_if_ne (tgt := 81) hx hb dX10_keep_76 (by decide) (fun c76 => ?_) (fun c76 => ?_)
            · first | exact absurd c76 (by decide) | exact absurd (by decide) c76
            · skip
              have d76 := c76
              rw [fa_eq] at d76
              refine lv_iconst (v := (-1)) hx hb dX10_keep_79 (by decide) ?_
              have hP := wm_eq rfl rfl (ec_r___29_30_31_32 r ) (ec_q___33 q ) hP
              exact W.iret (v := ((-1) : Int32)) hx hb hr (fun t ht hW => ⟨⟨_, ((upd f 0 (0 : Int32)), g, (va_up (va_up (va_up (va_up r 29 (r 29)) 30 (r 30)) 31 (r 31)) 32 (r 32)), (va_up q 33 (q 33))), rfl, ⟨(r 29), (r 30), (r 31), (r 32), (q 33), rfl, ⟨(by unfold keO; rw [if_neg (by omega)]), by first | exact hI | exact mi_sz (d := d) hI (v := v110) (by omega) rfl rfl rfl rfl rfl rfl rfl rfl | exact mi_sz (d := d) hI (v := v131) (by omega) rfl rfl rfl rfl rfl rfl rfl rfl | exact mi_sz (d := d) hI (v := 0) (by decide) rfl rfl rfl rfl rfl rfl rfl rfl⟩⟩, by unfold mB; rw [ht]; exact hP⟩, hS.F ht⟩) hS.2.2 dX10_keep_80
          · skip
            have d36 := c36
            rw [fa_eq] at d36
            refine lv_aload_n hx hb dX10_keep_39 rfl (lv_at hl 0 rfl) ?_
            refine lv_iload_n hx hb dX10_keep_40 rfl (lv_at hl 3 rfl) ?_
            refine m_calli (As := [.int k0]) (rest := []) ⟨hx, hb, hml, hown, hts⟩ (c_X10_isJob l D cy mo a (upd f 0 (0 : Int32)) g r q k0 hD) (cwV 1 hts gX10_keep_X10_isJob rfl rfl rfl (by decide +kernel) ⟨Nat.le_of_ble_eq_true rfl, Nat.le_of_ble_eq_true rfl⟩) hK hP rfl hl.1 rfl (Nat.le_of_ble_eq_true rfl) dX10_keep_41 ⟨Nat.le_of_ble_eq_true rfl, Nat.le_of_ble_eq_true rfl⟩ hS (fun r41 u H locs q41 hP hS => ?_)
            obtain ⟨rfl, q41⟩ := q41
            have hP : va_P D vwCl (WM cy mo a (upd f 0 (0 : Int32)) g r q) H := hP
            have q41 : Bo r41 (0 ≤ k0.toInt ∧ k0.toInt < ((f 1)).toInt) := q41
            refine lv_if_eq (tgt := 71) hx hb dX10_keep_44 (by decide) (fun c44 => ?_) (fun c44 => ?_)
            · skip
              have b44 := bo_f q41 c44
              refine lv_iconst (v := 0) hx hb dX10_keep_71 (by decide) ?_
              refine lv_istore (lv' := [(6, .int (0 : Int32)), (0, .ref mo), (1, .int d), (2, .int what), (3, .int k0), (4, .long p0)]) hx hb dX10_keep_72 hl (by decide) rfl (fun ls hl => ?_)
              refine lv_iload hx hb dX10_keep_74 (lv_at hl 0 rfl) ?_
              refine lv_if_ne (tgt := 81) hx hb dX10_keep_76 (by decide) (fun c76 => ?_) (fun c76 => ?_)
              · first | exact absurd c76 (by decide) | exact absurd (by decide) c76
              · skip
                have d76 := c76
                rw [fa_eq] at d76
                refine lv_iconst (v := (-1)) hx hb dX10_keep_79 (by decide) ?_
                have hP := wm_eq rfl rfl (ec_r___29_30_31_32 r ) (ec_q___33 q ) hP
                exact W.iret (v := ((-1) : Int32)) hx hb hr (fun t ht hW => ⟨⟨_, ((upd f 0 (0 : Int32)), g, (va_up (va_up (va_up (va_up r 29 (r 29)) 30 (r 30)) 31 (r 31)) 32 (r 32)), (va_up q 33 (q 33))), rfl, ⟨(r 29), (r 30), (r 31), (r 32), (q 33), rfl, ⟨(by unfold keO; rw [if_neg (by omega)]), by first | exact hI | exact mi_sz (d := d) hI (v := v110) (by omega) rfl rfl rfl rfl rfl rfl rfl rfl | exact mi_sz (d := d) hI (v := v131) (by omega) rfl rfl rfl rfl rfl rfl rfl rfl | exact mi_sz (d := d) hI (v := 0) (by decide) rfl rfl rfl rfl rfl rfl rfl rfl⟩⟩, by unfold mB; rw [ht]; exact hP⟩, hS.F ht⟩) hS.2.2 dX10_keep_80
            · skip
              have b44 := bo_t q41 c44
              exfalso; omega
        · skip
          have d23 := c23
          rw [fa_eq] at d23
          refine lv_aload_n hx hb dX10_keep_26 rfl (lv_at hl 0 rfl) ?_
          refine lv_iload_n hx hb dX10_keep_27 rfl (lv_at hl 3 rfl) ?_
          refine m_calli (As := [.int k0]) (rest := []) ⟨hx, hb, hml, hown, hts⟩ (c_X10_isJob l D cy mo a (upd f 0 (0 : Int32)) g r q k0 hD) (cwV 1 hts gX10_keep_X10_isJob rfl rfl rfl (by decide +kernel) ⟨Nat.le_of_ble_eq_true rfl, Nat.le_of_ble_eq_true rfl⟩) hK hP rfl hl.1 rfl (Nat.le_of_ble_eq_true rfl) dX10_keep_28 ⟨Nat.le_of_ble_eq_true rfl, Nat.le_of_ble_eq_true rfl⟩ hS (fun r28 u H locs q28 hP hS => ?_)
          obtain ⟨rfl, q28⟩ := q28
          have hP : va_P D vwCl (WM cy mo a (upd f 0 (0 : Int32)) g r q) H := hP
          have q28 : Bo r28 (0 ≤ k0.toInt ∧ k0.toInt < ((f 1)).toInt) := q28
          refine lv_if_ne (tgt := 67) hx hb dX10_keep_31 (by decide) (fun c31 => absurd (bo_t q28 c31) (by omega)) (fun c31 => ?_)
          have b31 := bo_f q28 c31
          refine lv_iload_n hx hb dX10_keep_34 rfl (lv_at hl 2 rfl) ?_
          refine lv_iconst (v := 3) hx hb dX10_keep_35 (by decide) ?_
          refine lv_icmp_ne (tgt := 71) hx hb dX10_keep_36 (by decide) (fun c36 => ?_) (fun c36 => ?_)
          · skip
            have d36 := c36
            rw [fa_eq] at d36
            refine lv_iconst (v := 0) hx hb dX10_keep_71 (by decide) ?_
            refine lv_istore (lv' := [(6, .int (0 : Int32)), (0, .ref mo), (1, .int d), (2, .int what), (3, .int k0), (4, .long p0)]) hx hb dX10_keep_72 hl (by decide) rfl (fun ls hl => ?_)
            refine lv_iload hx hb dX10_keep_74 (lv_at hl 0 rfl) ?_
            refine lv_if_ne (tgt := 81) hx hb dX10_keep_76 (by decide) (fun c76 => ?_) (fun c76 => ?_)
            · first | exact absurd c76 (by decide) | exact absurd (by decide) c76
            · skip
              have d76 := c76
              rw [fa_eq] at d76
              refine lv_iconst (v := (-1)) hx hb dX10_keep_79 (by decide) ?_
              have hP := wm_eq rfl rfl (ec_r___29_30_31_32 r ) (ec_q___33 q ) hP
              exact W.iret (v := ((-1) : Int32)) hx hb hr (fun t ht hW => ⟨⟨_, ((upd f 0 (0 : Int32)), g, (va_up (va_up (va_up (va_up r 29 (r 29)) 30 (r 30)) 31 (r 31)) 32 (r 32)), (va_up q 33 (q 33))), rfl, ⟨(r 29), (r 30), (r 31), (r 32), (q 33), rfl, ⟨(by unfold keO; rw [if_neg (by omega)]), by first | exact hI | exact mi_sz (d := d) hI (v := v110) (by omega) rfl rfl rfl rfl rfl rfl rfl rfl | exact mi_sz (d := d) hI (v := v131) (by omega) rfl rfl rfl rfl rfl rfl rfl rfl | exact mi_sz (d := d) hI (v := 0) (by decide) rfl rfl rfl rfl rfl rfl rfl rfl⟩⟩, by unfold mB; rw [ht]; exact hP⟩, hS.F ht⟩) hS.2.2 dX10_keep_80
          · skip
            have d36 := c36
            rw [fa_eq] at d36
            refine lv_aload_n hx hb dX10_keep_39 rfl (lv_at hl 0 rfl) ?_
            refine lv_iload_n hx hb dX10_keep_40 rfl (lv_at hl 3 rfl) ?_
            refine m_calli (As := [.int k0]) (rest := []) ⟨hx, hb, hml, hown, hts⟩ (c_X10_isJob l D cy mo a (upd f 0 (0 : Int32)) g r q k0 hD) (cwV 1 hts gX10_keep_X10_isJob rfl rfl rfl (by decide +kernel) ⟨Nat.le_of_ble_eq_true rfl, Nat.le_of_ble_eq_true rfl⟩) hK hP rfl hl.1 rfl (Nat.le_of_ble_eq_true rfl) dX10_keep_41 ⟨Nat.le_of_ble_eq_true rfl, Nat.le_of_ble_eq_true rfl⟩ hS (fun r41 u H locs q41 hP hS => ?_)
            obtain ⟨rfl, q41⟩ := q41
            have hP : va_P D vwCl (WM cy mo a (upd f 0 (0 : Int32)) g r q) H := hP
            have q41 : Bo r41 (0 ≤ k0.toInt ∧ k0.toInt < ((f 1)).toInt) := q41
            refine lv_if_eq (tgt := 71) hx hb dX10_keep_44 (by decide) (fun c44 => ?_) (fun c44 => ?_)
            · skip
              have b44 := bo_f q41 c44
              refine lv_iconst (v := 0) hx hb dX10_keep_71 (by decide) ?_
              refine lv_istore (lv' := [(6, .int (0 : Int32)), (0, .ref mo), (1, .int d), (2, .int what), (3, .int k0), (4, .long p0)]) hx hb dX10_keep_72 hl (by decide) rfl (fun ls hl => ?_)
              refine lv_iload hx hb dX10_keep_74 (lv_at hl 0 rfl) ?_
              refine lv_if_ne (tgt := 81) hx hb dX10_keep_76 (by decide) (fun c76 => ?_) (fun c76 => ?_)
              · first | exact absurd c76 (by decide) | exact absurd (by decide) c76
              · skip
                have d76 := c76
                rw [fa_eq] at d76
                refine lv_iconst (v := (-1)) hx hb dX10_keep_79 (by decide) ?_
                have hP := wm_eq rfl rfl (ec_r___29_30_31_32 r ) (ec_q___33 q ) hP
                exact W.iret (v := ((-1) : Int32)) hx hb hr (fun t ht hW => ⟨⟨_, ((upd f 0 (0 : Int32)), g, (va_up (va_up (va_up (va_up r 29 (r 29)) 30 (r 30)) 31 (r 31)) 32 (r 32)), (va_up q 33 (q 33))), rfl, ⟨(r 29), (r 30), (r 31), (r 32), (q 33), rfl, ⟨(by unfold keO; rw [if_neg (by omega)]), by first | exact hI | exact mi_sz (d := d) hI (v := v110) (by omega) rfl rfl rfl rfl rfl rfl rfl rfl | exact mi_sz (d := d) hI (v := v131) (by omega) rfl rfl rfl rfl rfl rfl rfl rfl | exact mi_sz (d := d) hI (v := 0) (by decide) rfl rfl rfl rfl rfl rfl rfl rfl⟩⟩, by unfold mB; rw [ht]; exact hP⟩, hS.F ht⟩) hS.2.2 dX10_keep_80
            · skip
              have b44 := bo_t q41 c44
              exfalso; omega
set_option maxHeartbeats 4000000 in
set_option maxRecDepth 100000 in
theorem c_X10_element_0 (l : Launch) (D : va_G) (cy : Nat → ClassId) (mo : Nat) (a : Nat → Nat) (f : Nat → Int32) (g : Nat → Int64) (r : Nat → Nat → Int32) (q : Nat → Nat → Int64) (d : Int32) (i0 : Int32) (hD : DM cy mo a) (hI : MI f r) (h29 : ∀ i, r 29 i = 0) : Ml l D cy mo a yX10_element wsX10_element ({ frames := 1, cells := 0, slots := 0, locals := 20 }) f g r q [.int d, .int i0] (fun r0 u => ∃ (th : Int32), u = ((upd f 0 th), g, r, q) ∧ (exO d th)) := by
  refine Met.ofW (cc := cX10_element) (maxL := 4) (ret := (some .long)) (by decide) rfl ?_
  intro p e s m args below meth c s₁ B hml hv
  obtain ⟨rfl, hP, hK⟩ := hv
  have hx := B.exec
  have hb := B.bytes
  have hr := B.returns
  have hts := atoms_spec (ws := wsX10_element) B.pre
  have hin : ∀ w ∈ u_ws RX10 TX10 35, w ∈ wsX10_element := by decide +kernel
  have hown : s.vm.findClass RX10 = some m.cls := findClass_of_methodNamed B.named
  have hlocks := B.notSynchronized
  have hS : va_S (AM mo a) s.heap s.heap [] := va_S.rf
  have hl := lv_entry ([.ref mo, .int d, .int i0]) (n := 4) (Nat.le_of_ble_eq_true rfl)
  rw [lg_entry_eq]
  generalize (lg_sl ([.ref mo, .int d, .int i0]) ++ List.replicate (4 - (lg_sl ([.ref mo, .int d, .int i0])).length) Slot.unset).toArray = ls at hl ⊢
  have hl : lv_has ls 4 [(0, .ref mo), (1, .int d), (2, .int i0)] := hl
  have k_0 : (0 : Int32).toInt = 0 := by decide
  have k_1 : (1 : Int32).toInt = 1 := by decide
  have k_2 : (2 : Int32).toInt = 2 := by decide
  have k_0L : (0 : Int64).toInt = 0 := by decide
  refine lv_iload_n hx hb dX10_element_0 rfl (lv_at hl 1 rfl) ?_
  refine m_pu (As := [.int d]) (rest := []) ⟨hx, hb, hml, hown, hts⟩ (c_X10_isShelf l d ) (va_cwS 1 hts gX10_element_X10_isShelf rfl rfl rfl (by decide +kernel) ⟨Nat.le_of_ble_eq_true rfl, Nat.le_of_ble_eq_true rfl⟩) hP rfl hl.1 rfl (Nat.le_of_ble_eq_true rfl) dX10_element_1 ⟨Nat.le_of_ble_eq_true rfl, Nat.le_of_ble_eq_true rfl⟩ hS (fun r1 H locs q1 hP hS => ?_)
  refine lv_if_eq (tgt := 39) hx hb dX10_element_4 (by decide) (fun c4 => ?_) (fun c4 => ?_)
  · skip
    have b4 := bo_f q1 c4
    refine lv_iconst (v := 0) hx hb dX10_element_39 (by decide) ?_
    refine lv_istore_n (lv' := [(3, .int (0 : Int32)), (0, .ref mo), (1, .int d), (2, .int i0)]) hx hb dX10_element_40 rfl hl (by decide) rfl (fun ls hl => ?_)
    refine lv_aload_n hx hb dX10_element_41 rfl (lv_at hl 1 rfl) ?_
    refine lv_iload_n hx hb dX10_element_42 rfl (lv_at hl 2 rfl) ?_
    refine m_pu (As := [.int d]) (rest := [.ref mo]) ⟨hx, hb, hml, hown, hts⟩ (c_X10_isShelf l d ) (va_cwS 1 hts gX10_element_X10_isShelf rfl rfl rfl (by decide +kernel) ⟨Nat.le_of_ble_eq_true rfl, Nat.le_of_ble_eq_true rfl⟩) hP rfl hl.1 rfl (Nat.le_of_ble_eq_true rfl) dX10_element_43 ⟨Nat.le_of_ble_eq_true rfl, Nat.le_of_ble_eq_true rfl⟩ hS (fun r43 H locs q43 hP hS => ?_)
    refine lv_if_ne (tgt := 53) hx hb dX10_element_46 (by decide) (fun c46 => ?_) (fun c46 => ?_)
    · skip
      have b46 := bo_t q43 c46
      refine lv_iload_n hx hb dX10_element_53 rfl (lv_at hl 0 rfl) ?_
      refine lv_if_eq (tgt := 61) hx hb dX10_element_54 (by decide) (fun c54 => ?_) (fun c54 => ?_)
      · skip
        have d54 := c54
        rw [fa_eq] at d54
        refine lv_iconst (v := 2) hx hb dX10_element_61 (by decide) ?_
        refine m_put (v := .int (2 : Int32)) (ty := .int) hx hb hts hin hown hK hP hD hS 0 (by decide) rfl (hts (.fieldLink RX10 79 "ShadowBenchModel" "thrown" "I") (by decide +kernel)) rfl (by decide +kernel) rfl rfl (upd f 0 (2 : Int32)) g rfl dX10_element_62 (fun H locs hP hS => ?_)
        refine lv_iload_n hx hb dX10_element_65 rfl (lv_at hl 0 rfl) ?_
        refine lv_if_eq (tgt := 83) hx hb dX10_element_66 (by decide) (fun c66 => ?_) (fun c66 => ?_)
        · skip
          have d66 := c66
          rw [fa_eq] at d66
          refine lv_lconst (v := 0) hx hb dX10_element_83 (by decide) ?_
          exact W.lret (v := (0 : Int64)) hx hb hr (fun t ht hW => ⟨⟨_, ((upd f 0 (2 : Int32)), g, r, q), rfl, ⟨(2 : Int32), rfl, Or.inr ⟨rfl, by omega⟩⟩, by unfold mB; rw [ht]; exact hP⟩, hS.F ht⟩) hS.2.2 dX10_element_84
        · first | exact absurd c66 (by decide) | exact absurd (by decide) c66
      · first | exact absurd c54 (by decide) | exact absurd (by decide) c54
    · skip
      have b46 := bo_f q43 c46
      refine lv_iconst (v := 1) hx hb dX10_element_49 (by decide) ?_
      refine lv_goto (tgt := 62) hx hb dX10_element_50 (by decide) ?_
      refine m_put (v := .int (1 : Int32)) (ty := .int) hx hb hts hin hown hK hP hD hS 0 (by decide) rfl (hts (.fieldLink RX10 79 "ShadowBenchModel" "thrown" "I") (by decide +kernel)) rfl (by decide +kernel) rfl rfl (upd f 0 (1 : Int32)) g rfl dX10_element_62 (fun H locs hP hS => ?_)
      refine lv_iload_n hx hb dX10_element_65 rfl (lv_at hl 0 rfl) ?_
      refine lv_if_eq (tgt := 83) hx hb dX10_element_66 (by decide) (fun c66 => ?_) (fun c66 => ?_)
      · skip
        have d66 := c66
        rw [fa_eq] at d66
        refine lv_lconst (v := 0) hx hb dX10_element_83 (by decide) ?_
        exact W.lret (v := (0 : Int64)) hx hb hr (fun t ht hW => ⟨⟨_, ((upd f 0 (1 : Int32)), g, r, q), rfl, ⟨(1 : Int32), rfl, Or.inl ⟨rfl, by omega⟩⟩, by unfold mB; rw [ht]; exact hP⟩, hS.F ht⟩) hS.2.2 dX10_element_84
      · first | exact absurd c66 (by decide) | exact absurd (by decide) c66
  · skip
    have b4 := bo_t q1 c4
    refine lv_aload_n hx hb dX10_element_7 rfl (lv_at hl 0 rfl) ?_
    refine m_get (v := .ref (a 29)) hx hb hts hin hown hK hP 29 (by decide) rfl (hts (.fieldLink RX10 61 "ShadowBenchModel" "shelf" "[I") (by decide +kernel)) rfl dX10_element_8 ?_
    refine lv_iload_n hx hb dX10_element_11 rfl (lv_at hl 1 rfl) ?_
    refine m_iald (w := (r 29)) hx hb hK hP 17 rfl (vp_in_iff.mpr ⟨by omega, by omega⟩) dX10_element_12 ?_
    refine lv_topi (fun v12 e12 => ?_)
    have i12 : v12.toInt = ((r 29) d.toNatClampNeg).toInt := congrArg Int32.toInt e12
    have y12 : v12 = 0 := e12.trans (h29 _)
    have j12 : v12.toInt = 0 := by rw [y12]; rfl
    refine lv_iconst (v := 2) hx hb dX10_element_13 (by decide) ?_
    refine lv_icmp_le (tgt := 39) hx hb dX10_element_14 (by decide) (fun c14 => ?_) (fun c14 => ?_)
    · skip
      have d14 := c14
      rw [fa_le] at d14
      refine lv_iconst (v := 0) hx hb dX10_element_39 (by decide) ?_
      refine lv_istore_n (lv' := [(3, .int (0 : Int32)), (0, .ref mo), (1, .int d), (2, .int i0)]) hx hb dX10_element_40 rfl hl (by decide) rfl (fun ls hl => ?_)
      refine lv_aload_n hx hb dX10_element_41 rfl (lv_at hl 1 rfl) ?_
      refine lv_iload_n hx hb dX10_element_42 rfl (lv_at hl 2 rfl) ?_
      refine m_pu (As := [.int d]) (rest := [.ref mo]) ⟨hx, hb, hml, hown, hts⟩ (c_X10_isShelf l d ) (va_cwS 1 hts gX10_element_X10_isShelf rfl rfl rfl (by decide +kernel) ⟨Nat.le_of_ble_eq_true rfl, Nat.le_of_ble_eq_true rfl⟩) hP rfl hl.1 rfl (Nat.le_of_ble_eq_true rfl) dX10_element_43 ⟨Nat.le_of_ble_eq_true rfl, Nat.le_of_ble_eq_true rfl⟩ hS (fun r43 H locs q43 hP hS => ?_)
      refine lv_if_ne (tgt := 53) hx hb dX10_element_46 (by decide) (fun c46 => ?_) (fun c46 => ?_)
      · skip
        have b46 := bo_t q43 c46
        refine lv_iload_n hx hb dX10_element_53 rfl (lv_at hl 0 rfl) ?_
        refine lv_if_eq (tgt := 61) hx hb dX10_element_54 (by decide) (fun c54 => ?_) (fun c54 => ?_)
        · skip
          have d54 := c54
          rw [fa_eq] at d54
          refine lv_iconst (v := 2) hx hb dX10_element_61 (by decide) ?_
          refine m_put (v := .int (2 : Int32)) (ty := .int) hx hb hts hin hown hK hP hD hS 0 (by decide) rfl (hts (.fieldLink RX10 79 "ShadowBenchModel" "thrown" "I") (by decide +kernel)) rfl (by decide +kernel) rfl rfl (upd f 0 (2 : Int32)) g rfl dX10_element_62 (fun H locs hP hS => ?_)
          refine lv_iload_n hx hb dX10_element_65 rfl (lv_at hl 0 rfl) ?_
          refine lv_if_eq (tgt := 83) hx hb dX10_element_66 (by decide) (fun c66 => ?_) (fun c66 => ?_)
          · skip
            have d66 := c66
            rw [fa_eq] at d66
            refine lv_lconst (v := 0) hx hb dX10_element_83 (by decide) ?_
            exact W.lret (v := (0 : Int64)) hx hb hr (fun t ht hW => ⟨⟨_, ((upd f 0 (2 : Int32)), g, r, q), rfl, ⟨(2 : Int32), rfl, Or.inr ⟨rfl, by omega⟩⟩, by unfold mB; rw [ht]; exact hP⟩, hS.F ht⟩) hS.2.2 dX10_element_84
          · first | exact absurd c66 (by decide) | exact absurd (by decide) c66
        · first | exact absurd c54 (by decide) | exact absurd (by decide) c54
      · skip
        have b46 := bo_f q43 c46
        refine lv_iconst (v := 1) hx hb dX10_element_49 (by decide) ?_
        refine lv_goto (tgt := 62) hx hb dX10_element_50 (by decide) ?_
        refine m_put (v := .int (1 : Int32)) (ty := .int) hx hb hts hin hown hK hP hD hS 0 (by decide) rfl (hts (.fieldLink RX10 79 "ShadowBenchModel" "thrown" "I") (by decide +kernel)) rfl (by decide +kernel) rfl rfl (upd f 0 (1 : Int32)) g rfl dX10_element_62 (fun H locs hP hS => ?_)
        refine lv_iload_n hx hb dX10_element_65 rfl (lv_at hl 0 rfl) ?_
        refine lv_if_eq (tgt := 83) hx hb dX10_element_66 (by decide) (fun c66 => ?_) (fun c66 => ?_)
        · skip
          have d66 := c66
          rw [fa_eq] at d66
          refine lv_lconst (v := 0) hx hb dX10_element_83 (by decide) ?_
          exact W.lret (v := (0 : Int64)) hx hb hr (fun t ht hW => ⟨⟨_, ((upd f 0 (1 : Int32)), g, r, q), rfl, ⟨(1 : Int32), rfl, Or.inl ⟨rfl, by omega⟩⟩, by unfold mB; rw [ht]; exact hP⟩, hS.F ht⟩) hS.2.2 dX10_element_84
        · first | exact absurd c66 (by decide) | exact absurd (by decide) c66
    · skip
      have d14 := c14
      rw [fa_le] at d14
      exfalso; omega
set_option maxHeartbeats 4000000 in
set_option maxRecDepth 100000 in
theorem c_X10_copy_0 (l : Launch) (D : va_G) (cy : Nat → ClassId) (mo : Nat) (a : Nat → Nat) (f : Nat → Int32) (g : Nat → Int64) (r : Nat → Nat → Int32) (q : Nat → Nat → Int64) (d : Int32) (i0 : Int32) (e0 : Int32) (j0 : Int32) (n1 : Int32) (hD : DM cy mo a) (hI : MI f r) (h29 : ∀ i, r 29 i = 0) : Mi l D cy mo a yX10_copy wsX10_copy ({ frames := 1, cells := 0, slots := 0, locals := 20 }) f g r q [.int d, .int i0, .int e0, .int j0, .int n1] (fun r0 u => u = ((upd f 0 (0 : Int32)), g, r, q) ∧ (r0 = cpO d e0)) := by
  refine Met.ofW (cc := cX10_copy) (maxL := 7) (ret := (some .int)) (by decide) rfl ?_
  intro p e s m args below meth c s₁ B hml hv
  obtain ⟨rfl, hP, hK⟩ := hv
  have hx := B.exec
  have hb := B.bytes
  have hr := B.returns
  have hts := atoms_spec (ws := wsX10_copy) B.pre
  have hin : ∀ w ∈ u_ws RX10 TX10 35, w ∈ wsX10_copy := by decide +kernel
  have hown : s.vm.findClass RX10 = some m.cls := findClass_of_methodNamed B.named
  have hlocks := B.notSynchronized
  have hS : va_S (AM mo a) s.heap s.heap [] := va_S.rf
  have hl := lv_entry ([.ref mo, .int d, .int i0, .int e0, .int j0, .int n1]) (n := 7) (Nat.le_of_ble_eq_true rfl)
  rw [lg_entry_eq]
  generalize (lg_sl ([.ref mo, .int d, .int i0, .int e0, .int j0, .int n1]) ++ List.replicate (7 - (lg_sl ([.ref mo, .int d, .int i0, .int e0, .int j0, .int n1])).length) Slot.unset).toArray = ls at hl ⊢
  have hl : lv_has ls 7 [(0, .ref mo), (1, .int d), (2, .int i0), (3, .int e0), (4, .int j0), (5, .int n1)] := hl
  have k_m11 : (-11 : Int32).toInt = -11 := by decide
  have k_m1 : (-1 : Int32).toInt = -1 := by decide
  have k_0 : (0 : Int32).toInt = 0 := by decide
  refine lv_aload_n hx hb dX10_copy_0 rfl (lv_at hl 0 rfl) ?_
  refine lv_iconst (v := 0) hx hb dX10_copy_1 (by decide) ?_
  refine m_put (v := .int (0 : Int32)) (ty := .int) hx hb hts hin hown hK hP hD hS 0 (by decide) rfl (hts (.fieldLink RX10 79 "ShadowBenchModel" "thrown" "I") (by decide +kernel)) rfl (by decide +kernel) rfl rfl (upd f 0 (0 : Int32)) g rfl dX10_copy_2 (fun H locs hP hS => ?_)
  refine lv_iload_n hx hb dX10_copy_5 rfl (lv_at hl 1 rfl) ?_
  refine m_pu (As := [.int d]) (rest := []) ⟨hx, hb, hml, hown, hts⟩ (c_X10_isShelf l d ) (va_cwS 1 hts gX10_copy_X10_isShelf rfl rfl rfl (by decide +kernel) ⟨Nat.le_of_ble_eq_true rfl, Nat.le_of_ble_eq_true rfl⟩) hP rfl hl.1 rfl (Nat.le_of_ble_eq_true rfl) dX10_copy_6 ⟨Nat.le_of_ble_eq_true rfl, Nat.le_of_ble_eq_true rfl⟩ hS (fun r6 H locs q6 hP hS => ?_)
  refine lv_if_eq (tgt := 19) hx hb dX10_copy_9 (by decide) (fun c9 => ?_) (fun c9 => ?_)
  · skip
    have b9 := bo_f q6 c9
    refine lv_iconst (v := (-1)) hx hb dX10_copy_19 (by decide) ?_
    exact W.iret (v := ((-1) : Int32)) hx hb hr (fun t ht hW => ⟨⟨_, ((upd f 0 (0 : Int32)), g, r, q), rfl, ⟨rfl, (by unfold cpO; rw [if_neg (by omega)])⟩, by unfold mB; rw [ht]; exact hP⟩, hS.F ht⟩) hS.2.2 dX10_copy_20
  · skip
    have b9 := bo_t q6 c9
    refine lv_iload_n hx hb dX10_copy_12 rfl (lv_at hl 3 rfl) ?_
    refine m_pu (As := [.int e0]) (rest := []) ⟨hx, hb, hml, hown, hts⟩ (c_X10_isShelf l e0 ) (va_cwS 1 hts gX10_copy_X10_isShelf rfl rfl rfl (by decide +kernel) ⟨Nat.le_of_ble_eq_true rfl, Nat.le_of_ble_eq_true rfl⟩) hP rfl hl.1 rfl (Nat.le_of_ble_eq_true rfl) dX10_copy_13 ⟨Nat.le_of_ble_eq_true rfl, Nat.le_of_ble_eq_true rfl⟩ hS (fun r13 H locs q13 hP hS => ?_)
    refine lv_if_ne (tgt := 21) hx hb dX10_copy_16 (by decide) (fun c16 => ?_) (fun c16 => ?_)
    · skip
      have b16 := bo_t q13 c16
      refine lv_aload_n hx hb dX10_copy_21 rfl (lv_at hl 0 rfl) ?_
      refine m_get (v := .ref (a 29)) hx hb hts hin hown hK hP 29 (by decide) rfl (hts (.fieldLink RX10 61 "ShadowBenchModel" "shelf" "[I") (by decide +kernel)) rfl dX10_copy_22 ?_
      refine lv_iload_n hx hb dX10_copy_25 rfl (lv_at hl 1 rfl) ?_
      refine m_iald (w := (r 29)) hx hb hK hP 17 rfl (vp_in_iff.mpr ⟨by omega, by omega⟩) dX10_copy_26 ?_
      refine lv_topi (fun v26 e26 => ?_)
      have i26 : v26.toInt = ((r 29) d.toNatClampNeg).toInt := congrArg Int32.toInt e26
      have y26 : v26 = 0 := e26.trans (h29 _)
      have j26 : v26.toInt = 0 := by rw [y26]; rfl
      refine lv_if_eq (tgt := 39) hx hb dX10_copy_27 (by decide) (fun c27 => ?_) (fun c27 => ?_)
      · skip
        have d27 := c27
        rw [fa_eq] at d27
        refine lv_bipush (v := (-11)) hx hb dX10_copy_39 (by decide) ?_
        exact W.iret (v := ((-11) : Int32)) hx hb hr (fun t ht hW => ⟨⟨_, ((upd f 0 (0 : Int32)), g, r, q), rfl, ⟨rfl, (by unfold cpO; rw [if_pos (by omega)])⟩, by unfold mB; rw [ht]; exact hP⟩, hS.F ht⟩) hS.2.2 dX10_copy_41
      · skip
        have d27 := c27
        rw [fa_eq] at d27
        exfalso; (first | omega | exact absurd y26 c27 | exact absurd c27 (by rw [y26]; decide))
    · skip
      have b16 := bo_f q13 c16
      refine lv_iconst (v := (-1)) hx hb dX10_copy_19 (by decide) ?_
      exact W.iret (v := ((-1) : Int32)) hx hb hr (fun t ht hW => ⟨⟨_, ((upd f 0 (0 : Int32)), g, r, q), rfl, ⟨rfl, (by unfold cpO; rw [if_neg (by omega)])⟩, by unfold mB; rw [ht]; exact hP⟩, hS.F ht⟩) hS.2.2 dX10_copy_20
set_option maxHeartbeats 4000000 in
set_option maxRecDepth 100000 in
theorem c_X10_layer_0 (l : Launch) (D : va_G) (cy : Nat → ClassId) (mo : Nat) (a : Nat → Nat) (f : Nat → Int32) (g : Nat → Int64) (r : Nat → Nat → Int32) (q : Nat → Nat → Int64) (d : Int32) (k0 : Int32) (hD : DM cy mo a) (hI : MI f r) (h29 : ∀ i, r 29 i = 0) : Ml l D cy mo a yX10_layer wsX10_layer ({ frames := 1, cells := 0, slots := 0, locals := 25 }) f g r q [.int d, .int k0] (fun r0 u => u = ((upd f 0 (0 : Int32)), g, r, q) ∧ (r0 = laO d k0)) := by
  refine Met.ofW (cc := cX10_layer) (maxL := 8) (ret := (some .long)) (by decide) rfl ?_
  intro p e s m args below meth c s₁ B hml hv
  obtain ⟨rfl, hP, hK⟩ := hv
  have hx := B.exec
  have hb := B.bytes
  have hr := B.returns
  have hts := atoms_spec (ws := wsX10_layer) B.pre
  have hin : ∀ w ∈ u_ws RX10 TX10 35, w ∈ wsX10_layer := by decide +kernel
  have hown : s.vm.findClass RX10 = some m.cls := findClass_of_methodNamed B.named
  have hlocks := B.notSynchronized
  have hS : va_S (AM mo a) s.heap s.heap [] := va_S.rf
  have hl := lv_entry ([.ref mo, .int d, .int k0]) (n := 8) (Nat.le_of_ble_eq_true rfl)
  rw [lg_entry_eq]
  generalize (lg_sl ([.ref mo, .int d, .int k0]) ++ List.replicate (8 - (lg_sl ([.ref mo, .int d, .int k0])).length) Slot.unset).toArray = ls at hl ⊢
  have hl : lv_has ls 8 [(0, .ref mo), (1, .int d), (2, .int k0)] := hl
  have k_0 : (0 : Int32).toInt = 0 := by decide
  have k_3 : (3 : Int32).toInt = 3 := by decide
  have k_m11L : (-11 : Int64).toInt = -11 := by decide
  have k_m1L : (-1 : Int64).toInt = -1 := by decide
  have k_0L : (0 : Int64).toInt = 0 := by decide
  have k_8L : (8 : Int64).toInt = 8 := by decide
  refine lv_aload_n hx hb dX10_layer_0 rfl (lv_at hl 0 rfl) ?_
  refine lv_iconst (v := 0) hx hb dX10_layer_1 (by decide) ?_
  refine m_put (v := .int (0 : Int32)) (ty := .int) hx hb hts hin hown hK hP hD hS 0 (by decide) rfl (hts (.fieldLink RX10 79 "ShadowBenchModel" "thrown" "I") (by decide +kernel)) rfl (by decide +kernel) rfl rfl (upd f 0 (0 : Int32)) g rfl dX10_layer_2 (fun H locs hP hS => ?_)
  refine lv_iload_n hx hb dX10_layer_5 rfl (lv_at hl 1 rfl) ?_
  refine m_pu (As := [.int d]) (rest := []) ⟨hx, hb, hml, hown, hts⟩ (c_X10_isShelf l d ) (va_cwS 1 hts gX10_layer_X10_isShelf rfl rfl rfl (by decide +kernel) ⟨Nat.le_of_ble_eq_true rfl, Nat.le_of_ble_eq_true rfl⟩) hP rfl hl.1 rfl (Nat.le_of_ble_eq_true rfl) dX10_layer_6 ⟨Nat.le_of_ble_eq_true rfl, Nat.le_of_ble_eq_true rfl⟩ hS (fun r6 H locs q6 hP hS => ?_)
  refine lv_if_eq (tgt := 24) hx hb dX10_layer_9 (by decide) (fun c9 => ?_) (fun c9 => ?_)
  · skip
    have b9 := bo_f q6 c9
    first | (have y21 := b21; simp only [k64, show (0 : Int64).toInt = 0 from rfl, show (8 : Int64).toInt = 8 from rfl] at y21) | skip
    refine lv_ldc2 hx hb hown (hts (.constantLong RX10 185 (-1)) (by decide +kernel)) dX10_layer_24 ?_
    exact W.lret (v := (-1 : Int64)) hx hb hr (fun t ht hW => ⟨⟨_, ((upd f 0 (0 : Int32)), g, r, q), rfl, ⟨rfl, (by unfold laO; rw [if_neg (by omega)])⟩, by unfold mB; rw [ht]; exact hP⟩, hS.F ht⟩) hS.2.2 dX10_layer_27
  · skip
    have b9 := bo_t q6 c9
    refine lv_iload_n hx hb dX10_layer_12 rfl (lv_at hl 2 rfl) ?_
    refine lv_i2l (v := k0.toInt64) hx hb dX10_layer_13 rfl ?_
    refine lv_lconst (v := 0) hx hb dX10_layer_14 (by decide) ?_
    refine lv_ldc2 hx hb hown (hts (.constantLong RX10 250 (8)) (by decide +kernel)) dX10_layer_15 ?_
    refine m_pu (As := [.long (k0.toInt64), .long (0 : Int64), .long (8 : Int64)]) (rest := []) ⟨hx, hb, hml, hown, hts⟩ (c_X10_isIn l k0.toInt64 (0 : Int64) (8 : Int64) ) (va_cwS 3 hts gX10_layer_X10_isIn rfl rfl rfl (by decide +kernel) ⟨Nat.le_of_ble_eq_true rfl, Nat.le_of_ble_eq_true rfl⟩) hP rfl hl.1 rfl (Nat.le_of_ble_eq_true rfl) dX10_layer_18 ⟨Nat.le_of_ble_eq_true rfl, Nat.le_of_ble_eq_true rfl⟩ hS (fun r18 H locs q18 hP hS => ?_)
    have q18 := q18
    simp only [k64, show (0 : Int64).toInt = 0 from rfl, show (1 : Int64).toInt = 1 from rfl, show (2 : Int64).toInt = 2 from rfl, show (3 : Int64).toInt = 3 from rfl, show (6 : Int64).toInt = 6 from rfl] at q18
    refine lv_if_ne (tgt := 28) hx hb dX10_layer_21 (by decide) (fun c21 => ?_) (fun c21 => ?_)
    · skip
      have b21 := bo_t q18 c21
      first | (have y21 := b21; simp only [k64, show (0 : Int64).toInt = 0 from rfl, show (8 : Int64).toInt = 8 from rfl] at y21) | skip
      refine lv_aload_n hx hb dX10_layer_28 rfl (lv_at hl 0 rfl) ?_
      refine m_get (v := .ref (a 29)) hx hb hts hin hown hK hP 29 (by decide) rfl (hts (.fieldLink RX10 61 "ShadowBenchModel" "shelf" "[I") (by decide +kernel)) rfl dX10_layer_29 ?_
      refine lv_iload_n hx hb dX10_layer_32 rfl (lv_at hl 1 rfl) ?_
      refine m_iald (w := (r 29)) hx hb hK hP 17 rfl (vp_in_iff.mpr ⟨by omega, by omega⟩) dX10_layer_33 ?_
      refine lv_topi (fun v33 e33 => ?_)
      have i33 : v33.toInt = ((r 29) d.toNatClampNeg).toInt := congrArg Int32.toInt e33
      have y33 : v33 = 0 := e33.trans (h29 _)
      have j33 : v33.toInt = 0 := by rw [y33]; rfl
      refine lv_iconst (v := 3) hx hb dX10_layer_34 (by decide) ?_
      refine lv_icmp_eq (tgt := 57) hx hb dX10_layer_35 (by decide) (fun c35 => ?_) (fun c35 => ?_)
      · skip
        have d35 := c35
        rw [fa_eq] at d35
        exfalso; (first | omega | exact absurd y33 c35 | exact absurd c35 (by rw [y33]; decide))
      · skip
        have d35 := c35
        rw [fa_eq] at d35
        refine lv_aload_n hx hb dX10_layer_38 rfl (lv_at hl 0 rfl) ?_
        refine m_get (v := .ref (a 29)) hx hb hts hin hown hK hP 29 (by decide) rfl (hts (.fieldLink RX10 61 "ShadowBenchModel" "shelf" "[I") (by decide +kernel)) rfl dX10_layer_39 ?_
        refine lv_iload_n hx hb dX10_layer_42 rfl (lv_at hl 1 rfl) ?_
        refine m_iald (w := (r 29)) hx hb hK hP 17 rfl (vp_in_iff.mpr ⟨by omega, by omega⟩) dX10_layer_43 ?_
        refine lv_topi (fun v43 e43 => ?_)
        have i43 : v43.toInt = ((r 29) d.toNatClampNeg).toInt := congrArg Int32.toInt e43
        have y43 : v43 = 0 := e43.trans (h29 _)
        have j43 : v43.toInt = 0 := by rw [y43]; rfl
        refine lv_if_ne (tgt := 53) hx hb dX10_layer_44 (by decide) (fun c44 => ?_) (fun c44 => ?_)
        · skip
          have d44 := c44
          rw [fa_eq] at d44
          exfalso; (first | omega | exact absurd y43 c44 | exact absurd c44 (by rw [y43]; decide))
        · skip
          have d44 := c44
          rw [fa_eq] at d44
          refine lv_ldc2 hx hb hown (hts (.constantLong RX10 270 (-11)) (by decide +kernel)) dX10_layer_47 ?_
          refine lv_goto (tgt := 56) hx hb dX10_layer_50 (by decide) ?_
          exact W.lret (v := (-11 : Int64)) hx hb hr (fun t ht hW => ⟨⟨_, ((upd f 0 (0 : Int32)), g, r, q), rfl, ⟨rfl, (by unfold laO; rw [if_pos (by omega)])⟩, by unfold mB; rw [ht]; exact hP⟩, hS.F ht⟩) hS.2.2 dX10_layer_56
    · skip
      have b21 := bo_f q18 c21
      first | (have y21 := b21; simp only [k64, show (0 : Int64).toInt = 0 from rfl, show (8 : Int64).toInt = 8 from rfl] at y21) | skip
      refine lv_ldc2 hx hb hown (hts (.constantLong RX10 185 (-1)) (by decide +kernel)) dX10_layer_24 ?_
      exact W.lret (v := (-1 : Int64)) hx hb hr (fun t ht hW => ⟨⟨_, ((upd f 0 (0 : Int32)), g, r, q), rfl, ⟨rfl, (by unfold laO; rw [if_neg (by omega)])⟩, by unfold mB; rw [ht]; exact hP⟩, hS.F ht⟩) hS.2.2 dX10_layer_27
set_option maxHeartbeats 4000000 in
set_option maxRecDepth 100000 in
theorem c_X10_weight_0 (l : Launch) (D : va_G) (cy : Nat → ClassId) (mo : Nat) (a : Nat → Nat) (f : Nat → Int32) (g : Nat → Int64) (r : Nat → Nat → Int32) (q : Nat → Nat → Int64) (d : Int32) (hD : DM cy mo a) (hI : MI f r) (h29 : ∀ i, r 29 i = 0) : Mi l D cy mo a yX10_weight wsX10_weight ({ frames := 1, cells := 0, slots := 0, locals := 20 }) f g r q [.int d] (fun r0 u => ∃ (th : Int32), u = ((upd f 0 th), g, r, q) ∧ (exO d th)) := by
  refine Met.ofW (cc := cX10_weight) (maxL := 2) (ret := (some .int)) (by decide) rfl ?_
  intro p e s m args below meth c s₁ B hml hv
  obtain ⟨rfl, hP, hK⟩ := hv
  have hx := B.exec
  have hb := B.bytes
  have hr := B.returns
  have hts := atoms_spec (ws := wsX10_weight) B.pre
  have hin : ∀ w ∈ u_ws RX10 TX10 35, w ∈ wsX10_weight := by decide +kernel
  have hown : s.vm.findClass RX10 = some m.cls := findClass_of_methodNamed B.named
  have hlocks := B.notSynchronized
  have hS : va_S (AM mo a) s.heap s.heap [] := va_S.rf
  have hl := lv_entry ([.ref mo, .int d]) (n := 2) (Nat.le_of_ble_eq_true rfl)
  rw [lg_entry_eq]
  generalize (lg_sl ([.ref mo, .int d]) ++ List.replicate (2 - (lg_sl ([.ref mo, .int d])).length) Slot.unset).toArray = ls at hl ⊢
  have hl : lv_has ls 2 [(0, .ref mo), (1, .int d)] := hl
  have k_0 : (0 : Int32).toInt = 0 := by decide
  have k_1 : (1 : Int32).toInt = 1 := by decide
  have k_2 : (2 : Int32).toInt = 2 := by decide
  refine lv_aload_n hx hb dX10_weight_0 rfl (lv_at hl 0 rfl) ?_
  refine lv_iload_n hx hb dX10_weight_1 rfl (lv_at hl 1 rfl) ?_
  refine m_pu (As := [.int d]) (rest := [.ref mo]) ⟨hx, hb, hml, hown, hts⟩ (c_X10_isShelf l d ) (va_cwS 1 hts gX10_weight_X10_isShelf rfl rfl rfl (by decide +kernel) ⟨Nat.le_of_ble_eq_true rfl, Nat.le_of_ble_eq_true rfl⟩) hP rfl hl.1 rfl (Nat.le_of_ble_eq_true rfl) dX10_weight_2 ⟨Nat.le_of_ble_eq_true rfl, Nat.le_of_ble_eq_true rfl⟩ hS (fun r2 H locs q2 hP hS => ?_)
  refine lv_if_ne (tgt := 12) hx hb dX10_weight_5 (by decide) (fun c5 => ?_) (fun c5 => ?_)
  · skip
    have b5 := bo_t q2 c5
    refine lv_aload_n hx hb dX10_weight_12 rfl (lv_at hl 0 rfl) ?_
    refine m_get (v := .ref (a 29)) hx hb hts hin hown hK hP 29 (by decide) rfl (hts (.fieldLink RX10 61 "ShadowBenchModel" "shelf" "[I") (by decide +kernel)) rfl dX10_weight_13 ?_
    refine lv_iload_n hx hb dX10_weight_16 rfl (lv_at hl 1 rfl) ?_
    refine m_iald (w := (r 29)) hx hb hK hP 17 rfl (vp_in_iff.mpr ⟨by omega, by omega⟩) dX10_weight_17 ?_
    refine lv_topi (fun v17 e17 => ?_)
    have i17 : v17.toInt = ((r 29) d.toNatClampNeg).toInt := congrArg Int32.toInt e17
    have y17 : v17 = 0 := e17.trans (h29 _)
    have j17 : v17.toInt = 0 := by rw [y17]; rfl
    refine lv_iconst (v := 1) hx hb dX10_weight_18 (by decide) ?_
    refine lv_icmp_eq (tgt := 26) hx hb dX10_weight_19 (by decide) (fun c19 => ?_) (fun c19 => ?_)
    · skip
      have d19 := c19
      rw [fa_eq] at d19
      exfalso; (first | omega | exact absurd y17 c19 | exact absurd c19 (by rw [y17]; decide))
    · skip
      have d19 := c19
      rw [fa_eq] at d19
      refine lv_iconst (v := 2) hx hb dX10_weight_22 (by decide) ?_
      refine lv_goto (tgt := 27) hx hb dX10_weight_23 (by decide) ?_
      refine m_put (v := .int (2 : Int32)) (ty := .int) hx hb hts hin hown hK hP hD hS 0 (by decide) rfl (hts (.fieldLink RX10 79 "ShadowBenchModel" "thrown" "I") (by decide +kernel)) rfl (by decide +kernel) rfl rfl (upd f 0 (2 : Int32)) g rfl dX10_weight_27 (fun H locs hP hS => ?_)
      refine lv_aload_n hx hb dX10_weight_30 rfl (lv_at hl 0 rfl) ?_
      refine m_get (v := .int (2 : Int32)) hx hb hts hin hown hK hP 0 (by decide) rfl (hts (.fieldLink RX10 79 "ShadowBenchModel" "thrown" "I") (by decide +kernel)) rfl dX10_weight_31 ?_
      refine lv_if_le (tgt := 41) hx hb dX10_weight_34 (by decide) (fun c34 => ?_) (fun c34 => ?_)
      · first | exact absurd c34 (by decide) | exact absurd (by decide) c34
      · skip
        have d34 := c34
        rw [fa_le] at d34
        refine lv_iconst (v := 0) hx hb dX10_weight_37 (by decide) ?_
        refine lv_goto (tgt := 47) hx hb dX10_weight_38 (by decide) ?_
        exact W.iret (v := (0 : Int32)) hx hb hr (fun t ht hW => ⟨⟨_, ((upd f 0 (2 : Int32)), g, r, q), rfl, ⟨(2 : Int32), rfl, Or.inr ⟨rfl, by omega⟩⟩, by unfold mB; rw [ht]; exact hP⟩, hS.F ht⟩) hS.2.2 dX10_weight_47
  · skip
    have b5 := bo_f q2 c5
    refine lv_iconst (v := 1) hx hb dX10_weight_8 (by decide) ?_
    refine lv_goto (tgt := 27) hx hb dX10_weight_9 (by decide) ?_
    refine m_put (v := .int (1 : Int32)) (ty := .int) hx hb hts hin hown hK hP hD hS 0 (by decide) rfl (hts (.fieldLink RX10 79 "ShadowBenchModel" "thrown" "I") (by decide +kernel)) rfl (by decide +kernel) rfl rfl (upd f 0 (1 : Int32)) g rfl dX10_weight_27 (fun H locs hP hS => ?_)
    refine lv_aload_n hx hb dX10_weight_30 rfl (lv_at hl 0 rfl) ?_
    refine m_get (v := .int (1 : Int32)) hx hb hts hin hown hK hP 0 (by decide) rfl (hts (.fieldLink RX10 79 "ShadowBenchModel" "thrown" "I") (by decide +kernel)) rfl dX10_weight_31 ?_
    refine lv_if_le (tgt := 41) hx hb dX10_weight_34 (by decide) (fun c34 => ?_) (fun c34 => ?_)
    · first | exact absurd c34 (by decide) | exact absurd (by decide) c34
    · skip
      have d34 := c34
      rw [fa_le] at d34
      refine lv_iconst (v := 0) hx hb dX10_weight_37 (by decide) ?_
      refine lv_goto (tgt := 47) hx hb dX10_weight_38 (by decide) ?_
      exact W.iret (v := (0 : Int32)) hx hb hr (fun t ht hW => ⟨⟨_, ((upd f 0 (1 : Int32)), g, r, q), rfl, ⟨(1 : Int32), rfl, Or.inl ⟨rfl, by omega⟩⟩, by unfold mB; rw [ht]; exact hP⟩, hS.F ht⟩) hS.2.2 dX10_weight_47
set_option maxHeartbeats 4000000 in
set_option maxRecDepth 100000 in
theorem c_X10_toss_0 (l : Launch) (D : va_G) (cy : Nat → ClassId) (mo : Nat) (a : Nat → Nat) (f : Nat → Int32) (g : Nat → Int64) (r : Nat → Nat → Int32) (q : Nat → Nat → Int64) (d : Int32) (hD : DM cy mo a) (hI : MI f r) (h29 : ∀ i, r 29 i = 0) : Mi l D cy mo a yX10_toss wsX10_toss ({ frames := 1, cells := 0, slots := 0, locals := 20 }) f g r q [.int d] (fun r0 u => u = ((upd f 0 (0 : Int32)), g, r, q) ∧ (r0 = toO d)) := by
  refine Met.ofW (cc := cX10_toss) (maxL := 2) (ret := (some .int)) (by decide) rfl ?_
  intro p e s m args below meth c s₁ B hml hv
  obtain ⟨rfl, hP, hK⟩ := hv
  have hx := B.exec
  have hb := B.bytes
  have hr := B.returns
  have hts := atoms_spec (ws := wsX10_toss) B.pre
  have hin : ∀ w ∈ u_ws RX10 TX10 35, w ∈ wsX10_toss := by decide +kernel
  have hown : s.vm.findClass RX10 = some m.cls := findClass_of_methodNamed B.named
  have hlocks := B.notSynchronized
  have hS : va_S (AM mo a) s.heap s.heap [] := va_S.rf
  have hl := lv_entry ([.ref mo, .int d]) (n := 2) (Nat.le_of_ble_eq_true rfl)
  rw [lg_entry_eq]
  generalize (lg_sl ([.ref mo, .int d]) ++ List.replicate (2 - (lg_sl ([.ref mo, .int d])).length) Slot.unset).toArray = ls at hl ⊢
  have hl : lv_has ls 2 [(0, .ref mo), (1, .int d)] := hl
  have k_m11 : (-11 : Int32).toInt = -11 := by decide
  have k_m1 : (-1 : Int32).toInt = -1 := by decide
  have k_0 : (0 : Int32).toInt = 0 := by decide
  refine lv_aload_n hx hb dX10_toss_0 rfl (lv_at hl 0 rfl) ?_
  refine lv_iconst (v := 0) hx hb dX10_toss_1 (by decide) ?_
  refine m_put (v := .int (0 : Int32)) (ty := .int) hx hb hts hin hown hK hP hD hS 0 (by decide) rfl (hts (.fieldLink RX10 79 "ShadowBenchModel" "thrown" "I") (by decide +kernel)) rfl (by decide +kernel) rfl rfl (upd f 0 (0 : Int32)) g rfl dX10_toss_2 (fun H locs hP hS => ?_)
  refine lv_iload_n hx hb dX10_toss_5 rfl (lv_at hl 1 rfl) ?_
  refine m_pu (As := [.int d]) (rest := []) ⟨hx, hb, hml, hown, hts⟩ (c_X10_isShelf l d ) (va_cwS 1 hts gX10_toss_X10_isShelf rfl rfl rfl (by decide +kernel) ⟨Nat.le_of_ble_eq_true rfl, Nat.le_of_ble_eq_true rfl⟩) hP rfl hl.1 rfl (Nat.le_of_ble_eq_true rfl) dX10_toss_6 ⟨Nat.le_of_ble_eq_true rfl, Nat.le_of_ble_eq_true rfl⟩ hS (fun r6 H locs q6 hP hS => ?_)
  refine lv_if_ne (tgt := 16) hx hb dX10_toss_9 (by decide) (fun c9 => ?_) (fun c9 => ?_)
  · skip
    have b9 := bo_t q6 c9
    refine lv_aload_n hx hb dX10_toss_16 rfl (lv_at hl 0 rfl) ?_
    refine m_get (v := .ref (a 29)) hx hb hts hin hown hK hP 29 (by decide) rfl (hts (.fieldLink RX10 61 "ShadowBenchModel" "shelf" "[I") (by decide +kernel)) rfl dX10_toss_17 ?_
    refine lv_iload_n hx hb dX10_toss_20 rfl (lv_at hl 1 rfl) ?_
    refine m_iald (w := (r 29)) hx hb hK hP 17 rfl (vp_in_iff.mpr ⟨by omega, by omega⟩) dX10_toss_21 ?_
    refine lv_topi (fun v21 e21 => ?_)
    have i21 : v21.toInt = ((r 29) d.toNatClampNeg).toInt := congrArg Int32.toInt e21
    have y21 : v21 = 0 := e21.trans (h29 _)
    have j21 : v21.toInt = 0 := by rw [y21]; rfl
    refine lv_if_ne (tgt := 30) hx hb dX10_toss_22 (by decide) (fun c22 => ?_) (fun c22 => ?_)
    · skip
      have d22 := c22
      rw [fa_eq] at d22
      exfalso; (first | omega | exact absurd y21 c22 | exact absurd c22 (by rw [y21]; decide))
    · skip
      have d22 := c22
      rw [fa_eq] at d22
      refine lv_bipush (v := (-11)) hx hb dX10_toss_25 (by decide) ?_
      refine lv_goto (tgt := 51) hx hb dX10_toss_27 (by decide) ?_
      exact W.iret (v := ((-11) : Int32)) hx hb hr (fun t ht hW => ⟨⟨_, ((upd f 0 (0 : Int32)), g, r, q), rfl, ⟨rfl, (by unfold toO; rw [if_pos (by omega)])⟩, by unfold mB; rw [ht]; exact hP⟩, hS.F ht⟩) hS.2.2 dX10_toss_51
  · skip
    have b9 := bo_f q6 c9
    refine lv_iconst (v := (-1)) hx hb dX10_toss_12 (by decide) ?_
    refine lv_goto (tgt := 51) hx hb dX10_toss_13 (by decide) ?_
    exact W.iret (v := ((-1) : Int32)) hx hb hr (fun t ht hW => ⟨⟨_, ((upd f 0 (0 : Int32)), g, r, q), rfl, ⟨rfl, (by unfold toO; rw [if_neg (by omega)])⟩, by unfold mB; rw [ht]; exact hP⟩, hS.F ht⟩) hS.2.2 dX10_toss_51
/-- both objects as they were made: no job, nothing listed, bare shelves -/
def FR (cy : Nat → ClassId) (xo : Nat) (W : va_W) (f : Nat → Int32) (r : Nat → Nat → Int32) : Prop := (∀ k, f k = 0) ∧ (∀ i, r 29 i = 0) ∧ ∃ (bs js sh wk ll : Nat) (mo : Option Nat) (fl : Nat → Int64), cIn W xo (.inr (8, [.ref bs, .ref js, .int (f 1), .ref sh, .ref wk, va_rf mo, .ref ll, .int (f 23), va_rf none])) ∧ cIn W sh (.inl (cy 5, cqa 8 (fun _ => none))) ∧ cIn W ll (.inl (cy 1, 12, .inr (.inl fl)))
theorem FR.at {cy : Nat → ClassId} {A : Nat → Prop} {xo : Nat} {W : va_W} {f : Nat → Int32} {r : Nat → Nat → Int32} (h : FR cy xo W f r) (hD : va_D A W) {bs js sh wk ll : Nat} {jc lc : Int32} {mo lb : Option Nat} (hM : cIn W xo (.inr (8, [.ref bs, .ref js, .int jc, .ref sh, .ref wk, va_rf mo, .ref ll, .int lc, va_rf lb]))) : jc = f 1 ∧ lc = f 23 ∧ lb = none ∧ cIn W sh (.inl (cy 5, cqa 8 (fun _ => none))) ∧ ∃ fl, cIn W ll (.inl (cy 1, 12, .inr (.inl fl))) := by
  obtain ⟨-, -, bs', js', sh', wk', ll', mo', fl, h1, h2, h3⟩ := h
  have z := cIn.eq hD hM h1
  simp only [Sum.inr.injEq, Prod.mk.injEq, List.cons.injEq, Value.int.injEq, Value.ref.injEq, and_true, true_and] at z
  obtain ⟨-, -, e3, e4, -, -, e6, e7, e8⟩ := z
  have e8 := va_rf_inj e8
  subst e4
  subst e6
  exact ⟨e3, e7, e8, h2, fl, h3⟩
section LWR
variable {p : Program} {l : Launch} {e : Env} {R : Room} {s : State} {m : MethodId} {args : Array Value} {below : List Frame} {meth : Method} {c : Code} {H : Heap} {locs : List Loc} {cells slots : Nat} {Q : State → Prop}
variable {y : MethodName} {bytes cc : ByteArray} {maxL nL n index mc ms : Nat} {ret : Option FieldType} {wc Ts : List Cond} {rm : Room} {own C : String} {As rest st0 av : List Value} {pc : Nat} {ls : Array Slot} {D : va_G} {cy : Nat → ClassId} {xo mo ou : Nat} {a : Nat → Nat} {M : Option Nat} {G : cG} {W' : va_W} {f : Nat → Int32} {g : Nat → Int64} {r : Nat → Nat → Int32} {q : Nat → Nat → Int64} {a9 : Array Value}
theorem lk3_i {ch : List Nat} {post : Int32 → cS → Prop} (I : LI D cy s xo mo ou a M G W' f g r q H locs) (hr : va_Run p l e R s m args below meth c H locs cells slots mc ms (F0 m pc ls st0) rest (va_Qi (fun r0 u => cX none (chs ch) G W' u.1 u.2 ∧ post r0 u) (cB D cy (AC s mo a)) (AC s mo a) a9) (AC s mo a)) (h7 : chs ch 7 = false)
    (kk : ∀ (r0 : Int32) (u : cS) (H1 : Heap) (locs1 : List Loc), post r0 u → cX none (chs ch) G W' u.1 u.2 → LI D cy s xo mo ou a M u.1 u.2 f g r q H1 locs1 → W p l e R s m args below meth c H1 locs1 (cells + mc) (slots + ms) Q (F0 m (pc + 3) ls (.int r0 :: rest))) : W p l e R s m args below meth c H locs cells slots Q (F0 m pc ls st0) :=
  va_calli hr I.2.2.2.2.2.2.2.2.1 (fun _ _ h => h.1) (fun _ h => h.1) (fun r0 u t H1 locs1 ht hvm hp hB hz hk hS => by
    obtain ⟨h1, h2, h3⟩ := hB
    rw [ht] at h1
    obtain ⟨bs, js, sh, wk, ll, jc, lc, lb, hM⟩ := I.2.2.2.2.2.2.2.1
    exact kk r0 u H1 locs1 hp.2 hp.1 (I.cla h1 h2 h3 hp.1.1 ⟨bs, js, sh, wk, ll, jc, lc, lb, hp.1.2.1 _ _ (cP.no I.2.2.2.2.1 h7) hM⟩ hz hk hS))
theorem lk3_l {ch : List Nat} {post : Int64 → cS → Prop} (I : LI D cy s xo mo ou a M G W' f g r q H locs) (hr : va_Run p l e R s m args below meth c H locs cells slots mc ms (F0 m pc ls st0) rest (va_Ql (fun r0 u => cX none (chs ch) G W' u.1 u.2 ∧ post r0 u) (cB D cy (AC s mo a)) (AC s mo a) a9) (AC s mo a)) (h7 : chs ch 7 = false)
    (kk : ∀ (r0 : Int64) (u : cS) (H1 : Heap) (locs1 : List Loc), post r0 u → cX none (chs ch) G W' u.1 u.2 → LI D cy s xo mo ou a M u.1 u.2 f g r q H1 locs1 → W p l e R s m args below meth c H1 locs1 (cells + mc) (slots + ms) Q (F0 m (pc + 3) ls (.long r0 :: rest))) : W p l e R s m args below meth c H locs cells slots Q (F0 m pc ls st0) :=
  va_calll hr I.2.2.2.2.2.2.2.2.1 (fun _ _ h => h.1) (fun _ h => h.1) (fun r0 u t H1 locs1 ht hvm hp hB hz hk hS => by
    obtain ⟨h1, h2, h3⟩ := hB
    rw [ht] at h1
    obtain ⟨bs, js, sh, wk, ll, jc, lc, lb, hM⟩ := I.2.2.2.2.2.2.2.1
    exact kk r0 u H1 locs1 hp.2 hp.1 (I.cla h1 h2 h3 hp.1.1 ⟨bs, js, sh, wk, ll, jc, lc, lb, hp.1.2.1 _ _ (cP.no I.2.2.2.2.1 h7) hM⟩ hz hk hS))
theorem lk3_ri {post : Int32 → cS → Prop} (I : LI D cy s xo mo ou a M G W' f g r q H locs) (hr : va_Run p l e R s m args below meth c H locs cells slots mc ms (F0 m pc ls st0) rest (va_Qi (fun r0 u => u = (G, W') ∧ post r0 u) (cB D cy (AC s mo a)) (AC s mo a) a9) (AC s mo a))
    (kk : ∀ (r0 : Int32) (u : cS) (H1 : Heap) (locs1 : List Loc), post r0 u → cX none (chs []) G W' u.1 u.2 → LI D cy s xo mo ou a M u.1 u.2 f g r q H1 locs1 → W p l e R s m args below meth c H1 locs1 (cells + mc) (slots + ms) Q (F0 m (pc + 3) ls (.int r0 :: rest))) : W p l e R s m args below meth c H locs cells slots Q (F0 m pc ls st0) :=
  va_calli hr I.2.2.2.2.2.2.2.2.1 (fun _ _ h => h.1) (fun _ h => h.1) (fun r0 u t H1 locs1 ht hvm hp hB hz hk hS => by
    obtain ⟨h1, h2, h3⟩ := hB
    obtain ⟨rfl, hp⟩ := hp
    rw [ht] at h1
    exact kk r0 _ H1 locs1 hp cX.rf (I.cla h1 h2 h3 cE.rf I.2.2.2.2.2.2.2.1 hz hk hS))
theorem lk3_rl {post : Int64 → cS → Prop} (I : LI D cy s xo mo ou a M G W' f g r q H locs) (hr : va_Run p l e R s m args below meth c H locs cells slots mc ms (F0 m pc ls st0) rest (va_Ql (fun r0 u => u = (G, W') ∧ post r0 u) (cB D cy (AC s mo a)) (AC s mo a) a9) (AC s mo a))
    (kk : ∀ (r0 : Int64) (u : cS) (H1 : Heap) (locs1 : List Loc), post r0 u → cX none (chs []) G W' u.1 u.2 → LI D cy s xo mo ou a M u.1 u.2 f g r q H1 locs1 → W p l e R s m args below meth c H1 locs1 (cells + mc) (slots + ms) Q (F0 m (pc + 3) ls (.long r0 :: rest))) : W p l e R s m args below meth c H locs cells slots Q (F0 m pc ls st0) :=
  va_calll hr I.2.2.2.2.2.2.2.2.1 (fun _ _ h => h.1) (fun _ h => h.1) (fun r0 u t H1 locs1 ht hvm hp hB hz hk hS => by
    obtain ⟨h1, h2, h3⟩ := hB
    obtain ⟨rfl, hp⟩ := hp
    rw [ht] at h1
    exact kk r0 _ H1 locs1 hp cX.rf (I.cla h1 h2 h3 cE.rf I.2.2.2.2.2.2.2.1 hz hk hS))
theorem lk3_s {ch : List Nat} {post : Int32 → cS → Prop} (I : LI D cy s xo mo ou a M G W' f g r q H locs) (hr : va_Run p l e R s m args below meth c H locs cells slots mc ms (F0 m pc ls st0) rest (va_Qi (fun r0 u => cX none (chs ch) G W' u.1 u.2 ∧ post r0 u) (cB D cy (AC s mo a)) (AC s mo a) a9) (AC s mo a))
    (hsh : ∀ r0 u, post r0 u → ∃ (bs js sh wk ll : Nat) (jc lc : Int32) (lb : Option Nat), cIn u.2 xo (.inr (8, [.ref bs, .ref js, .int jc, .ref sh, .ref wk, va_rf M, .ref ll, .int lc, va_rf lb])))
    (kk : ∀ (r0 : Int32) (u : cS) (H1 : Heap) (locs1 : List Loc), post r0 u → cX none (chs ch) G W' u.1 u.2 → LI D cy s xo mo ou a M u.1 u.2 f g r q H1 locs1 → W p l e R s m args below meth c H1 locs1 (cells + mc) (slots + ms) Q (F0 m (pc + 3) ls (.int r0 :: rest))) : W p l e R s m args below meth c H locs cells slots Q (F0 m pc ls st0) :=
  va_calli hr I.2.2.2.2.2.2.2.2.1 (fun _ _ h => h.1) (fun _ h => h.1) (fun r0 u t H1 locs1 ht hvm hp hB hz hk hS => by
    obtain ⟨h1, h2, h3⟩ := hB
    obtain ⟨hX, hp⟩ := hp
    rw [ht] at h1
    exact kk r0 _ H1 locs1 hp hX (I.cla h1 h2 h3 hX.1 (hsh r0 u hp) hz hk hS))
end LWR


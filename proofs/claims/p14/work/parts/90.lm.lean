def nrm (mo : Nat) (a : Nat → Nat) : Nat → Nat := fun k => match k with | 2 => a 2 | 3 => a 3 | 4 => a 4 | 5 => a 5 | 6 => a 6 | 7 => a 7 | 8 => a 8 | 9 => a 9 | 10 => a 10 | 15 => a 15 | 19 => a 19 | 20 => a 20 | 21 => a 21 | 26 => a 26 | 27 => a 27 | 28 => a 28 | 29 => a 29 | 30 => a 30 | 31 => a 31 | 32 => a 32 | 33 => a 33 | 34 => a 34 | _ => mo
theorem am_nrm {cy : Nat → ClassId} {mo : Nat} {a : Nat → Nat} {f : Nat → Int32} {g : Nat → Int64} {r : Nat → Nat → Int32} {q : Nat → Nat → Int64} {P : Nat → Prop} (h : ∀ (k : Nat) (z : Nat × va_E), (WM cy mo (nrm mo a) f g r q)[k]? = some z → P z.1) : ∀ x, AM mo (nrm mo a) x → P x := by
  rintro x (rfl | ⟨k, rfl⟩)
  · exact h 0 _ rfl
  · unfold nrm
    split
    · exact h 1 _ rfl
    · exact h 2 _ rfl
    · exact h 3 _ rfl
    · exact h 4 _ rfl
    · exact h 5 _ rfl
    · exact h 6 _ rfl
    · exact h 7 _ rfl
    · exact h 8 _ rfl
    · exact h 9 _ rfl
    · exact h 10 _ rfl
    · exact h 11 _ rfl
    · exact h 12 _ rfl
    · exact h 13 _ rfl
    · exact h 14 _ rfl
    · exact h 15 _ rfl
    · exact h 16 _ rfl
    · exact h 17 _ rfl
    · exact h 18 _ rfl
    · exact h 19 _ rfl
    · exact h 20 _ rfl
    · exact h 21 _ rfl
    · exact h 22 _ rfl
    · exact h 0 _ rfl
theorem i_blind {D : va_G} {cy : Nat → ClassId} {A : Nat → Prop} {ws : va_W} {av : List Value} : FrameBlind (iPc D cy A ws av) := fun a' U g' mk h => ⟨h.1, ⟨h.2.1.1, va_K.moved (u := U) (U := U.calling g' mk a') (Vm.Alike.refl U.vm) h.2.1.2.1, h.2.1.2.2.1, h.2.1.2.2.2⟩, va_AO.moved (u := U) (U := U.calling g' mk a') (Vm.Alike.refl U.vm) h.2.2.1, va_AO.moved (u := U) (U := U.calling g' mk a') (Vm.Alike.refl U.vm) h.2.2.2.1, va_AO.moved (u := U) (U := U.calling g' mk a') (Vm.Alike.refl U.vm) h.2.2.2.2⟩
theorem i_preS {D : va_G} {cy : Nat → ClassId} {A : Nat → Prop} {ws : va_W} {av : List Value} {s : State} {H : Heap} {locs : List Loc} (hP : va_P D vwCl ws H) (hK : va_K D vwCl (cTy cy) s) (hA : ∀ q, s.heap.size ≤ q → A q) (hS : va_S A s.heap H locs) (hV : cV s) (h1 : va_AO RX0 s) (h2 : va_AO RX3 s) (h3 : va_AO RX2 s) : PreS s H (iPc D cy A ws av) av := ⟨i_blind, fun U hU hW => ⟨rfl, ⟨by rw [hU]; exact hP, va_K.moved hW.alike hK, fun q h => hA q (Nat.le_trans hS.1 (by rw [← hU]; exact h)), hV.warm hW⟩, h1.moved hW.alike, h2.moved hW.alike, h3.moved hW.alike⟩⟩
theorem n_blind {D : va_G} {cy : Nat → ClassId} {A : Nat → Prop} {mo : Nat} : FrameBlind (nPc D cy A mo) := fun a' U g' mk h => ⟨h.1, h.2.1, h.2.2.1, va_K.moved (u := U) (U := U.calling g' mk a') (Vm.Alike.refl U.vm) h.2.2.2.1, h.2.2.2.2⟩
theorem va_D_addr {B : Nat → Prop} {w1 w2 : va_W} (hm : w1.map (·.1) = w2.map (·.1)) (h : ∀ (i j : Nat) (p q : Nat × va_E), w1[i]? = some p → w1[j]? = some q → p.1 = q.1 → i = j) (hB : ∀ (k : Nat) (z : Nat × va_E), w2[k]? = some z → B z.1) : va_D B w2 := by
  have key : ∀ (i : Nat) (p : Nat × va_E), w2[i]? = some p → ∃ p', w1[i]? = some p' ∧ p'.1 = p.1 := by
    intro i p hp
    have h1 : (w2.map (·.1))[i]? = some p.1 := by rw [List.getElem?_map, hp]; rfl
    rw [← hm, List.getElem?_map] at h1
    cases hw : w1[i]? with
    | none => rw [hw] at h1; cases h1
    | some p' => rw [hw] at h1; exact ⟨p', rfl, Option.some.inj h1⟩
  refine ⟨fun i j p q hp hq he => ?_, hB⟩
  obtain ⟨p', hp', e1⟩ := key i p hp
  obtain ⟨q', hq', e2⟩ := key j q hq
  exact h i j p' q' hp' hq' (by rw [e1, e2]; exact he)
theorem mi_0 : MI (fun _ => 0) (fun _ _ => 0) := ⟨by decide, fun x h0 h1 => absurd (show x.toInt < 0 from h1) (by omega), by decide, fun h => absurd h (by decide), fun x h0 h1 => (by decide : 0 ≤ (0 : Int32).toInt ∧ (0 : Int32).toInt ≤ 60)⟩
def eM (M : Option Nat) : Nat := match M with | none => 0 | some _ => 52685
set_option maxHeartbeats 4000000 in
set_option maxRecDepth 100000 in
theorem l_loop {p : Program} {l : Launch} {e : Env} {s : State} {m : MethodId} {below : List Frame} {meth : Method} {c : Code} {b L : Nat} {xs : Nat → Int32} {D : va_G} {cy : Nat → ClassId} {xo mo ou : Nat} {a : Nat → Nat} {C0 S0 : Nat} (hL : L ≤ 4096) (hr : meth.sig.returnType = ret) (hlocks : meth.locks = false) (X : LX p l s m c b L xs D cy mo a) (hC0 : C0 ≤ 1000) (hS0 : S0 ≤ 1000000) :
    ∀ (n k : Nat) (x4 : Int32) (M : Option Nat) (G : cG) (W' : va_W) (f : Nat → Int32) (g : Nat → Int64) (r : Nat → Nat → Int32) (q : Nat → Nat → Int64) (H : Heap) (locs : List Loc) (ls : Array Slot), 1000 - k < n → x4.toInt = 8 * (k : Int) → k ≤ 512 → LI D cy s xo mo ou a M G W' f g r q H locs → RlJ cy xo G W' f r → lv_has ls 8 [(0, .ref b), (1, .ref xo), (2, .ref mo), (3, .ref ou), (4, .int x4)] → W p l e room_1 s m #[Value.ref b] below meth c H locs (C0 + k * 7) (S0 + k * 588 + eM M) (lw_Z below #[Value.ref b] s) (F0 m 23 ls []) := by
  obtain ⟨⟨hx, hb, hml, hown, hts⟩, ⟨hXs, hbl⟩, ⟨hK, hV, hZ, hXT⟩, hst, hDM, hAM⟩ := id X
  have hbA : ¬ AL s b := Nat.not_le.mpr hbl
  have hRc : room_1.cells = 601024 := rfl
  have hRs : room_1.slots = 7293034 := rfl
  intro n
  induction n with
  | zero => intro k x4 M G W' f g r q H locs ls hn; exact absurd hn (Nat.not_lt_zero _)
  | succ n ih =>
    intro k x4 M G W' f g r q H locs ls hn hk hk2 I hR hl
    have k8 : (8 : Int32).toInt = 8 := rfl
    have eM1 : eM M ≤ 52685 := by unfold eM; split <;> omega
    have hS := I.2.2.2.2.2.2.2.2.1
    refine lv_iload hx hb dL_law_23 (lv_at hl 4 rfl) ?_
    refine lv_aload_n hx hb dL_law_25 rfl (lv_at hl 0 rfl) ?_
    refine va_slen hx hb hXs hbl hbA hS dL_law_26 ?_
    refine lv_bipush (v := 8) hx hb dL_law_27 (by decide) ?_
    refine lv_isub hx hb dL_law_29 ?_
    refine lv_topi (fun v29 e29 => ?_)
    have iL : (Int32.ofNat L).toInt = (L : Int) := nI_toInt (n := L) (by omega)
    have i29 : v29.toInt = (L : Int) - 8 := by rw [e29, ← iL, ← k8]; exact fb_subI (by omega) (by omega)
    refine lv_icmp_gt (tgt := 2333) hx hb dL_law_30 (by decide) (fun c30 => ?_) (fun c30 => ?_)
    · refine lv_iconst (v := 1) hx hb dL_law_2333 (by decide) ?_
      refine va_forget (fun z hz => hS.2.2 z hz) ?_
      refine W.widen (k := 601024) (n := 7293034) (by omega) (by omega) ?_
      exact lw_ret hx hb hr hlocks dL_law_2334
    · rw [fa_lt] at c30
      have h4 : 0 ≤ x4.toInt ∧ x4.toInt + 8 ≤ (L : Int) ∧ L ≤ 4096 := by omega
      have hn0 : vp_in x4 L := vp_in_iff.mpr ⟨by omega, by omega⟩
      have K2 : ∀ (M1 : Option Nat) (G : cG) (W' : va_W) (f : Nat → Int32) (g : Nat → Int64) (r : Nat → Nat → Int32) (q : Nat → Nat → Int64) (H : Heap) (locs : List Loc) (ls : Array Slot), LI D cy s xo mo ou a M1 G W' f g r q H locs → RlJ cy xo G W' f r → lv_has ls 8 [(0, .ref b), (1, .ref xo), (2, .ref mo), (3, .ref ou), (4, .int x4)] → W p l e room_1 s m #[Value.ref b] below meth c H locs (C0 + (k + 1) * 7) (S0 + (k + 1) * 588 + eM M1) (lw_Z below #[Value.ref b] s) (F0 m 2327 ls []) := by
        intro M1 G W' f g r q H locs ls I hR hl
        obtain ⟨y4, e4⟩ : ∃ z : Int32, z = x4 + 8 := ⟨_, rfl⟩
        have i4 : y4.toInt = x4.toInt + 8 := by rw [e4, ← k8]; exact fb_addI (by omega) (by omega)
        refine lv_iinc (v := y4) (lv' := [(4, .int y4), (0, .ref b), (1, .ref xo), (2, .ref mo), (3, .ref ou)]) hx hb dL_law_2327 hl (k := 4) rfl (by rw [e4]; rfl) (by decide) rfl (fun ls hl => ?_)
        refine lv_goto (tgt := 23) hx hb dL_law_2330 (by decide) ?_
        exact ih (k + 1) y4 M1 G W' f g r q H locs ls (by omega) (by omega) (by omega) I hR (lv_sub hl [1, 2, 3, 4, 0] rfl)
      have K1 : ∀ (G : cG) (W' : va_W) (f : Nat → Int32) (g : Nat → Int64) (r : Nat → Nat → Int32) (q : Nat → Nat → Int64) (H : Heap) (locs : List Loc) (ls : Array Slot), LI D cy s xo mo ou a M G W' f g r q H locs → RlJ cy xo G W' f r → lv_has ls 8 [(0, .ref b), (1, .ref xo), (2, .ref mo), (3, .ref ou), (4, .int x4)] → W p l e room_1 s m #[Value.ref b] below meth c H locs (C0 + k * 7 + 7) (S0 + k * 588 + eM M + 588) (lw_Z below #[Value.ref b] s) (F0 m 2327 ls []) := by
        intro G W' f g r q H locs ls I hR hl
        have e1 : C0 + k * 7 + 7 = C0 + (k + 1) * 7 := by omega
        have e2 : S0 + k * 588 + eM M + 588 = S0 + (k + 1) * 588 + eM M := by omega
        rw [e1, e2]
        exact K2 M G W' f g r q H locs ls I hR hl
      refine lv_aload_n hx hb dL_law_33 rfl (lv_at hl 0 rfl) ?_
      refine lv_iload hx hb dL_law_34 (lv_at hl 4 rfl) ?_
      refine va_sld hx hb hXs hbl hbA hS hn0 dL_law_36 ?_
      refine lv_bipush (v := 63) hx hb dL_law_37 (by decide) ?_
      refine lv_iand hx hb dL_law_39 ?_
      refine lv_topi (fun v39 e39 => ?_)
      have hC : C0 + k * 7 + 7 ≤ 601024 := by omega
      have hSl : S0 + k * 588 + eM M + 53273 ≤ 7293034 := by omega
      by_cases s0 : v39.toInt = 0
      · exact lv_tableIn (off := 160) (tgt := 200) hx hb dL_law_40 (by omega) (by omega) (by rw [s0]; rfl) (by decide) (lcase_0 X I hR h4 hC hSl hl K1)
      by_cases s1 : v39.toInt = 1
      · exact lv_tableIn (off := 209) (tgt := 249) hx hb dL_law_40 (by omega) (by omega) (by rw [s1]; rfl) (by decide) (lcase_1 X I hR h4 hC hSl hl K1)
      by_cases s2 : v39.toInt = 2
      · exact lv_tableIn (off := 270) (tgt := 310) hx hb dL_law_40 (by omega) (by omega) (by rw [s2]; rfl) (by decide) (lcase_2 X I hR h4 hC hSl hl K1)
      by_cases s3 : v39.toInt = 3
      · exact lv_tableIn (off := 351) (tgt := 391) hx hb dL_law_40 (by omega) (by omega) (by rw [s3]; rfl) (by decide) (lcase_3 X I hR h4 hC hSl hl K1)
      by_cases s4 : v39.toInt = 4
      · exact lv_tableIn (off := 388) (tgt := 428) hx hb dL_law_40 (by omega) (by omega) (by rw [s4]; rfl) (by decide) (lcase_4 X I hR h4 hC hSl hl K1)
      by_cases s5 : v39.toInt = 5
      · exact lv_tableIn (off := 437) (tgt := 477) hx hb dL_law_40 (by omega) (by omega) (by rw [s5]; rfl) (by decide) (lcase_5 X I hR h4 hC hSl hl K1)
      by_cases s6 : v39.toInt = 6
      · exact lv_tableIn (off := 486) (tgt := 526) hx hb dL_law_40 (by omega) (by omega) (by rw [s6]; rfl) (by decide) (lcase_6 X I hR h4 hC hSl hl K1)
      by_cases s7 : v39.toInt = 7
      · exact lv_tableIn (off := 535) (tgt := 575) hx hb dL_law_40 (by omega) (by omega) (by rw [s7]; rfl) (by decide) (lcase_7 X I hR h4 hC hSl hl K1)
      by_cases s8 : v39.toInt = 8
      · exact lv_tableIn (off := 642) (tgt := 682) hx hb dL_law_40 (by omega) (by omega) (by rw [s8]; rfl) (by decide) (lcase_8 X I hR h4 hC hSl hl K1)
      by_cases s9 : v39.toInt = 9
      · exact lv_tableIn (off := 711) (tgt := 751) hx hb dL_law_40 (by omega) (by omega) (by rw [s9]; rfl) (by decide) (lcase_9 X I hR h4 hC hSl hl K1)
      by_cases s10 : v39.toInt = 10
      · exact lv_tableIn (off := 736) (tgt := 776) hx hb dL_law_40 (by omega) (by omega) (by rw [s10]; rfl) (by decide) (lcase_10 X I hR h4 hC hSl hl K1)
      by_cases s11 : v39.toInt = 11
      · exact lv_tableIn (off := 773) (tgt := 813) hx hb dL_law_40 (by omega) (by omega) (by rw [s11]; rfl) (by decide) (lcase_11 X I hR h4 hC hSl hl K1)
      by_cases s12 : v39.toInt = 12
      · exact lv_tableIn (off := 842) (tgt := 882) hx hb dL_law_40 (by omega) (by omega) (by rw [s12]; rfl) (by decide) (lcase_12 X I hR h4 hC hSl hl K1)
      by_cases s13 : v39.toInt = 13
      · exact lv_tableIn (off := 879) (tgt := 919) hx hb dL_law_40 (by omega) (by omega) (by rw [s13]; rfl) (by decide) (lcase_13 X I hR h4 hC hSl hl K1)
      by_cases s14 : v39.toInt = 14
      · exact lv_tableIn (off := 904) (tgt := 944) hx hb dL_law_40 (by omega) (by omega) (by rw [s14]; rfl) (by decide) (lcase_14 X I hR h4 hC hSl hl K1)
      by_cases s15 : v39.toInt = 15
      · exact lv_tableIn (off := 932) (tgt := 972) hx hb dL_law_40 (by omega) (by omega) (by rw [s15]; rfl) (by decide) (lcase_15 X I hR h4 hC hSl hl K1)
      by_cases s16 : v39.toInt = 16
      · exact lv_tableIn (off := 960) (tgt := 1000) hx hb dL_law_40 (by omega) (by omega) (by rw [s16]; rfl) (by decide) (lcase_16 X I hR h4 hC hSl hl K1)
      by_cases s17 : v39.toInt = 17
      · exact lv_tableIn (off := 1041) (tgt := 1081) hx hb dL_law_40 (by omega) (by omega) (by rw [s17]; rfl) (by decide) (lcase_17 X I hR h4 hC hSl hl K1)
      by_cases s18 : v39.toInt = 18
      · exact lv_tableIn (off := 1134) (tgt := 1174) hx hb dL_law_40 (by omega) (by omega) (by rw [s18]; rfl) (by decide) (lcase_18 X I hR h4 hC hSl hl K1 (fun hM0 x9 G1 W1 f1 g1 r1 q1 H1 locs1 ls1 I1 hR9 hl1 => by have e1 : C0 + k * 7 + 7 = C0 + (k + 1) * 7 := (by omega); have e2 : S0 + k * 588 + eM M + 53273 = S0 + (k + 1) * 588 + eM (some x9) := (by rw [hM0]; simp only [eM]; omega); rw [e1, e2]; exact K2 (some x9) G1 W1 f1 g1 r1 q1 H1 locs1 ls1 I1 hR9 hl1))
      by_cases s19 : v39.toInt = 19
      · exact lv_tableIn (off := 1261) (tgt := 1301) hx hb dL_law_40 (by omega) (by omega) (by rw [s19]; rfl) (by decide) (lcase_19 X I hR h4 hC hSl hl K1)
      by_cases s20 : v39.toInt = 20
      · exact lv_tableIn (off := 1342) (tgt := 1382) hx hb dL_law_40 (by omega) (by omega) (by rw [s20]; rfl) (by decide) (lcase_20 X I hR h4 hC hSl hl K1)
      by_cases s21 : v39.toInt = 21
      · exact lv_tableIn (off := 1451) (tgt := 1491) hx hb dL_law_40 (by omega) (by omega) (by rw [s21]; rfl) (by decide) (lcase_21 X I hR h4 hC hSl hl K1)
      by_cases s22 : v39.toInt = 22
      · exact lv_tableIn (off := 1544) (tgt := 1584) hx hb dL_law_40 (by omega) (by omega) (by rw [s22]; rfl) (by decide) (lcase_22 X I hR h4 hC hSl hl K1)
      by_cases s23 : v39.toInt = 23
      · exact lv_tableIn (off := 1685) (tgt := 1725) hx hb dL_law_40 (by omega) (by omega) (by rw [s23]; rfl) (by decide) (lcase_23 X I hR h4 hC hSl hl K1)
      by_cases s24 : v39.toInt = 24
      · exact lv_tableIn (off := 1766) (tgt := 1806) hx hb dL_law_40 (by omega) (by omega) (by rw [s24]; rfl) (by decide) (lcase_24 X I hR h4 hC hSl hl K1)
      by_cases s25 : v39.toInt = 25
      · exact lv_tableIn (off := 1779) (tgt := 1819) hx hb dL_law_40 (by omega) (by omega) (by rw [s25]; rfl) (by decide) (lcase_25 X I hR h4 hC hSl hl K1)
      by_cases s26 : v39.toInt = 26
      · exact lv_tableIn (off := 1792) (tgt := 1832) hx hb dL_law_40 (by omega) (by omega) (by rw [s26]; rfl) (by decide) (lcase_26 X I hR h4 hC hSl hl K1)
      by_cases s27 : v39.toInt = 27
      · exact lv_tableIn (off := 1844) (tgt := 1884) hx hb dL_law_40 (by omega) (by omega) (by rw [s27]; rfl) (by decide) (lcase_27 X I hR h4 hC hSl hl K1)
      by_cases s28 : v39.toInt = 28
      · exact lv_tableIn (off := 1893) (tgt := 1933) hx hb dL_law_40 (by omega) (by omega) (by rw [s28]; rfl) (by decide) (lcase_28 X I hR h4 hC hSl hl K1)
      by_cases s29 : v39.toInt = 29
      · exact lv_tableIn (off := 1942) (tgt := 1982) hx hb dL_law_40 (by omega) (by omega) (by rw [s29]; rfl) (by decide) (lcase_29 X I hR h4 hC hSl hl K1)
      by_cases s30 : v39.toInt = 30
      · exact lv_tableIn (off := 2035) (tgt := 2075) hx hb dL_law_40 (by omega) (by omega) (by rw [s30]; rfl) (by decide) (lcase_30 X I hR h4 hC hSl hl K1)
      by_cases s31 : v39.toInt = 31
      · exact lv_tableIn (off := 2084) (tgt := 2124) hx hb dL_law_40 (by omega) (by omega) (by rw [s31]; rfl) (by decide) (lcase_31 X I hR h4 hC hSl hl K1)
      by_cases s32 : v39.toInt = 32
      · exact lv_tableIn (off := 2124) (tgt := 2164) hx hb dL_law_40 (by omega) (by omega) (by rw [s32]; rfl) (by decide) (lcase_32 X I hR h4 hC hSl hl K1)
      by_cases s33 : v39.toInt = 33
      · exact lv_tableIn (off := 2197) (tgt := 2237) hx hb dL_law_40 (by omega) (by omega) (by rw [s33]; rfl) (by decide) (lcase_33 X I hR h4 hC hSl hl K1)
      by_cases s34 : v39.toInt = 34
      · exact lv_tableIn (off := 2234) (tgt := 2274) hx hb dL_law_40 (by omega) (by omega) (by rw [s34]; rfl) (by decide) (lcase_34 X I hR h4 hC hSl hl K1)
      by_cases s35 : v39.toInt = 35
      · exact lv_tableIn (off := 2262) (tgt := 2302) hx hb dL_law_40 (by omega) (by omega) (by rw [s35]; rfl) (by decide) (lcase_35 X I hR h4 hC hSl hl K1)
      refine lv_tableOut (tgt := 2327) hx hb dL_law_40 (by omega) (by decide) ?_
      exact W.widen (k := C0 + k * 7 + 7) (n := S0 + k * 588 + eM M + 588) (by omega) (by omega) (K1 G W' f g r q H locs ls I hR hl)


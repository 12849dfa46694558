
theorem pr_all : ∀ n, n < 7 → ∀ i, i < n * (n - 1) / 2 → prA n i < prB n i ∧ prB n i < n := by decide +kernel
theorem dne {i a b : Nat} (h : a ≠ b) : (decide (i = a) && decide (i = b)) = false := by
  by_cases e : i = a
  · rw [decide_eq_false (fun z => h (e.symm.trans z)), Bool.and_false]
  · rw [decide_eq_false e, Bool.false_and]
theorem b4 (P A B C D : Bool) (h1 : (A && B) = false) (h2 : (A && C) = false) (h3 : (A && D) = false) (h4 : (B && C) = false) (h5 : (B && D) = false) (h6 : (C && D) = false) : (P ^^ ((A || B) || (C || D))) = ((((P ^^ A) ^^ B) ^^ C) ^^ D) := by
  revert h1 h2 h3 h4 h5 h6
  cases P <;> cases A <;> cases B <;> cases C <;> cases D <;> decide
section FOUR
variable {p : Int64} {a b c d : Nat}
theorem x4 (ha : a < 64) (hb : b < 64) (hc : c < 64) (hd : d < 64) (hab : a ≠ b) (hac : a ≠ c) (had : a ≠ d) (hbc : b ≠ c) (hbd : b ≠ d) (hcd : c ≠ d) : p ^^^ ((l1 a ||| l1 b) ||| (l1 c ||| l1 d)) = p ^^^ l1 a ^^^ l1 b ^^^ l1 c ^^^ l1 d := by
  apply lb_ext
  intro i hi
  simp only [lb_xor, lb_or, lb_l1 ha hi, lb_l1 hb hi, lb_l1 hc hi, lb_l1 hd hi]
  exact b4 _ _ _ _ _ (dne hab) (dne hac) (dne had) (dne hbc) (dne hbd) (dne hcd)
theorem or_cm (x y : Int64) : x ||| y = y ||| x := lb_ext (fun i _ => by rw [lb_or, lb_or, Bool.or_comm])
theorem s4 (ha : a < 64) (hb : b < 64) (hc : c < 64) (hd : d < 64) (hac : a ≠ c) (had : a ≠ d) (hbc : b ≠ c) (hbd : b ≠ d) : p &&& ((l1 a ||| l1 b) ||| (l1 c ||| l1 d)) = l1 a ||| l1 b ↔ (lb p a = true ∧ lb p b = true ∧ lb p c = false ∧ lb p d = false) := by
  constructor
  · intro h
    have z : ∀ i, i < 64 → (lb p i && ((decide (i = a) || decide (i = b)) || (decide (i = c) || decide (i = d)))) = (decide (i = a) || decide (i = b)) := fun i hi => by
      have y := congrArg (fun t => lb t i) h
      simp only [lb_and, lb_or, lb_l1 ha hi, lb_l1 hb hi, lb_l1 hc hi, lb_l1 hd hi] at y
      exact y
    have za := z a ha
    have zb := z b hb
    have zc := z c hc
    have zd := z d hd
    rw [decide_eq_true (rfl : a = a), Bool.true_or, Bool.true_or, Bool.and_true] at za
    rw [decide_eq_true (rfl : b = b), Bool.or_true, Bool.true_or, Bool.and_true] at zb
    rw [decide_eq_true (rfl : c = c), decide_eq_false (Ne.symm hac), decide_eq_false (Ne.symm hbc), Bool.true_or, Bool.or_true, Bool.and_true, Bool.or_false] at zc
    rw [decide_eq_true (rfl : d = d), decide_eq_false (Ne.symm had), decide_eq_false (Ne.symm hbd), Bool.or_true, Bool.or_true, Bool.and_true, Bool.or_false] at zd
    exact ⟨za, zb, zc, zd⟩
  · rintro ⟨h1, h2, h3, h4⟩
    apply lb_ext
    intro i hi
    simp only [lb_and, lb_or, lb_l1 ha hi, lb_l1 hb hi, lb_l1 hc hi, lb_l1 hd hi]
    by_cases e1 : i = a
    · rw [decide_eq_true e1, e1, h1]; rfl
    · by_cases e2 : i = b
      · rw [decide_eq_true e2, e2, h2, Bool.or_true, Bool.true_or]; rfl
      · rw [decide_eq_false e1, decide_eq_false e2]
        by_cases e3 : i = c
        · rw [e3, h3]; rfl
        · by_cases e4 : i = d
          · rw [e4, h4]; rfl
          · rw [decide_eq_false e3, decide_eq_false e4]; cases lb p i <;> rfl
theorem sw_is (ha : a < 64) (hb : b < 64) (hc : c < 64) (hd : d < 64) (hac : a ≠ c) (had : a ≠ d) (hbc : b ≠ c) (hbd : b ≠ d) : (p &&& ((l1 a ||| l1 b) ||| (l1 c ||| l1 d)) = l1 a ||| l1 b ∨ p &&& ((l1 a ||| l1 b) ||| (l1 c ||| l1 d)) = l1 c ||| l1 d) ↔ ((lb p a == lb p b) && (lb p c == lb p d) && (lb p a != lb p c)) = true := by
  rw [s4 ha hb hc hd hac had hbc hbd, or_cm (l1 a ||| l1 b) (l1 c ||| l1 d), s4 hc hd ha hb (Ne.symm hac) (Ne.symm hbc) (Ne.symm had) (Ne.symm hbd)]
  cases lb p a <;> cases lb p b <;> cases lb p c <;> cases lb p d <;> decide
theorem x4_ne (ha : a < 64) (hb : b < 64) (hc : c < 64) (hd : d < 64) (hab : a ≠ b) (hac : a ≠ c) (had : a ≠ d) : p ^^^ l1 a ^^^ l1 b ^^^ l1 c ^^^ l1 d ≠ p := fun h => by
  have y := congrArg (fun t => lb t a) h
  simp only [lb_xor, lb_l1 ha ha, lb_l1 hb ha, lb_l1 hc ha, lb_l1 hd ha] at y
  rw [decide_eq_false hab, decide_eq_false hac, decide_eq_false had] at y
  revert y
  cases lb p a <;> decide
end FOUR
/-- a switch of rows y, v and columns x, u, and the picture behind it -/
def swB (w : Nat) (p : Int64) (y v x u : Nat) : Bool := (lb p (y * w + x) == lb p (v * w + u)) && (lb p (y * w + u) == lb p (v * w + x)) && (lb p (y * w + x) != lb p (y * w + u))
def swX (w : Nat) (p : Int64) (y v x u : Nat) : Int64 := p ^^^ l1 (y * w + x) ^^^ l1 (v * w + u) ^^^ l1 (y * w + u) ^^^ l1 (v * w + x)
def swq (w h : Nat) (p : Int64) (q : Nat) : Bool := swB w p (prA h (q / (w * (w - 1) / 2))) (prB h (q / (w * (w - 1) / 2))) (prA w (q % (w * (w - 1) / 2))) (prB w (q % (w * (w - 1) / 2)))
def swx (w h : Nat) (p : Int64) (q : Nat) : Int64 := swX w p (prA h (q / (w * (w - 1) / 2))) (prB h (q / (w * (w - 1) / 2))) (prA w (q % (w * (w - 1) / 2))) (prB w (q % (w * (w - 1) / 2)))
theorem fo_ok {w h q : Nat} (hb : 1 ≤ w ∧ w ≤ 6 ∧ 1 ≤ h ∧ h ≤ 6) (hq : q < cfo w h) : (prA h (q / (w * (w - 1) / 2)) < prB h (q / (w * (w - 1) / 2)) ∧ prB h (q / (w * (w - 1) / 2)) < h) ∧ prA w (q % (w * (w - 1) / 2)) < prB w (q % (w * (w - 1) / 2)) ∧ prB w (q % (w * (w - 1) / 2)) < w := by
  have h0 : 0 < (w * (w - 1) / 2) := by
    rcases Nat.eq_zero_or_pos (w * (w - 1) / 2) with z | z
    · unfold cfo at hq; rw [z, Nat.zero_mul] at hq; exact absurd hq (Nat.not_lt_zero _)
    · exact z
  exact ⟨pr_all h (by omega) _ (Nat.div_lt_of_lt_mul hq), pr_all w (by omega) _ (Nat.mod_lt _ h0)⟩
theorem sw_pl {w h y v x u : Nat} (hw : w ≤ 6) (hh : h ≤ 6) (hyv : y < v) (hv : v < h) (hxu : x < u) (hu : u < w) : (y * w + x < 64 ∧ v * w + u < 64 ∧ y * w + u < 64 ∧ v * w + x < 64) ∧ y * w + x ≠ v * w + u ∧ y * w + x ≠ y * w + u ∧ y * w + x ≠ v * w + x ∧ v * w + u ≠ y * w + u ∧ v * w + u ≠ v * w + x ∧ y * w + u ≠ v * w + x := by
  have a := kw_b (k := v) (i := u) hw hh hu hv
  have m := Nat.mul_le_mul_right w (show y + 1 ≤ v from hyv)
  rw [Nat.succ_mul] at m
  omega
theorem beh_is {w h q : Nat} {p v19 v25 v26 v32 : Int64} (hb : 1 ≤ w ∧ w ≤ 6 ∧ 1 ≤ h ∧ h ≤ 6) (hq : q < cfo w h) (e19 : v19 = bFN w h (cfo w h) q) (e25 : v25 = bRN w h (cfo w h) q) (e26 : v26 = v19 ||| v25) (e32 : v32 = p &&& v26) : ((v32 = v19 ∨ v32 = v25) ↔ swq w h p q = true) ∧ p ^^^ v26 = swx w h p q := by
  obtain ⟨⟨o1, o2⟩, o3, o4⟩ := fo_ok hb hq
  obtain ⟨⟨l1', l2, l3, l4⟩, n1, n2, n3, n4, n5, n6⟩ := sw_pl hb.2.1 hb.2.2.2 o1 o2 o3 o4
  unfold bFN at e19
  unfold bRN at e25
  rw [if_pos hq] at e19 e25
  subst e19
  subst e25
  subst e26
  subst e32
  exact ⟨sw_is l1' l2 l3 l4 n2 n3 n4 n5, x4 l1' l2 l3 l4 n1 n2 n3 n4 n5 n6⟩
theorem beh_eq {w h q : Nat} {p r : Int64} (hb : 1 ≤ w ∧ w ≤ 6 ∧ 1 ≤ h ∧ h ≤ 6) (hq : q < cfo w h) (e : r = if swq w h p q then swx w h p q else p) : r = p ↔ swq w h p q = false := by
  obtain ⟨⟨o1, o2⟩, o3, o4⟩ := fo_ok hb hq
  obtain ⟨⟨l1', l2, l3, l4⟩, n1, n2, n3, -⟩ := sw_pl hb.2.1 hb.2.2.2 o1 o2 o3 o4
  cases hs : swq w h p q
  · rw [hs] at e
    exact ⟨fun _ => rfl, fun _ => e⟩
  · rw [hs] at e
    exact ⟨fun z => absurd (e.symm.trans z) (x4_ne l1' l2 l3 l4 n1 n2 n3), fun z => by cases z⟩
theorem swq_at {w h y v x u : Nat} {p : Int64} (hw : w < 7) (hh : h < 7) (hyv : y < v) (hv : v < h) (hxu : x < u) (hu : u < w) : swq w h p (prI h y v * (w * (w - 1) / 2) + prI w x u) = swB w p y v x u ∧ swx w h p (prI h y v * (w * (w - 1) / 2) + prI w x u) = swX w p y v x u := by
  obtain ⟨-, a2, a3⟩ := prI_0 h hh y (by omega) v hv hyv
  obtain ⟨b1, b2, b3⟩ := prI_0 w hw x (by omega) u hu hxu
  obtain ⟨c1, c2⟩ := prQ (a := prI h y v) b1
  unfold swq swx
  rw [c1, c2, a2, a3, b2, b3]
  exact ⟨rfl, rfl⟩
theorem bs_t {f : Nat → Bool} {n : Nat} (h : f n = true) : bs f (n + 1) = bs f n + 1 := by simp only [bs, h, Bool.toNat_true]
theorem bs_f {f : Nat → Bool} {n : Nat} (h : f n = false) : bs f (n + 1) = bs f n := by simp only [bs, h, Bool.toNat_false, Nat.add_zero]
theorem bs_inc (f : Nat → Bool) {a b : Nat} (h : a ≤ b) : bs f a ≤ bs f b := by
  obtain ⟨k, rfl⟩ : ∃ k, b = a + k := ⟨b - a, by omega⟩
  rw [bs_add]
  exact Nat.le_add_right _ _
theorem bs_inj {f : Nat → Bool} {a b : Nat} (ha : f a = true) (hb : f b = true) (e : bs f a = bs f b) : a = b := by
  rcases Nat.lt_trichotomy a b with z | z | z
  · have := bs_inc f (show a + 1 ≤ b from z); rw [bs_t ha] at this; omega
  · exact z
  · have := bs_inc f (show b + 1 ≤ a from z); rw [bs_t hb] at this; omega
def swA (w h : Int32) (p : Int64) (x : Int32) : Prop := (goodP w h p ∧ x = nI (bs (swq w.toNatClampNeg h.toNatClampNeg p) (cfo w.toNatClampNeg h.toNatClampNeg))) ∨ (¬ goodP w h p ∧ x = -1)
theorem swA_eq {w h : Int32} {p : Int64} {x y : Int32} (hx : swA w h p x) (hy : swA w h p y) : x = y := by
  rcases hx with ⟨a, b⟩ | ⟨a, b⟩ <;> rcases hy with ⟨c, d⟩ | ⟨c, d⟩
  · rw [b, d]
  · exact absurd a c
  · exact absurd c a
  · rw [b, d]
/-- the i-th picture behind a switch, or none -/
def swR (w h : Nat) (p : Int64) (i : Int) (x : Int64) : Prop := (∃ q, q < cfo w h ∧ swq w h p q = true ∧ (bs (swq w h p) q : Int) = i ∧ x = swx w h p q) ∨ ((bs (swq w h p) (cfo w h) : Int) ≤ i ∧ x = -2)
def swS (w h : Int32) (p : Int64) (i : Int32) (x : Int64) : Prop := ((goodP w h p ∧ 0 ≤ i.toInt) ∧ swR w.toNatClampNeg h.toNatClampNeg p i.toInt x) ∨ (¬ (goodP w h p ∧ 0 ≤ i.toInt) ∧ x = -1)
theorem swS_eq {w h : Int32} {p : Int64} {i : Int32} {x y : Int64} (hx : swS w h p i x) (hy : swS w h p i y) : x = y := by
  rcases hx with ⟨a, b⟩ | ⟨a, b⟩ <;> rcases hy with ⟨c, d⟩ | ⟨c, d⟩
  · rcases b with ⟨q, b1, b2, b3, b4⟩ | ⟨b1, b2⟩ <;> rcases d with ⟨q', d1, d2, d3, d4⟩ | ⟨d1, d2⟩
    · rw [b4, d4, bs_inj b2 d2 (by omega)]
    · have := bs_inc (swq w.toNatClampNeg h.toNatClampNeg p) (show q + 1 ≤ _ from b1); rw [bs_t b2] at this; omega
    · have := bs_inc (swq w.toNatClampNeg h.toNatClampNeg p) (show q' + 1 ≤ _ from d1); rw [bs_t d2] at this; omega
    · rw [b2, d2]
  · exact absurd a c
  · exact absurd c a
  · rw [b, d]
/-- what the reference holds behind n fours -/
def swI (w h : Nat) (p : Int64) (i : Int) (n : Nat) (bh : Int64) : Prop := 0 ≤ i → i < (bs (swq w h p) n : Int) → ∃ q, q < n ∧ swq w h p q = true ∧ (bs (swq w h p) q : Int) = i ∧ bh = swx w h p q
theorem swI_0 {w h : Nat} {p : Int64} {i : Int} {bh : Int64} : swI w h p i 0 bh := fun h1 h2 => by
  have : bs (swq w h p) 0 = 0 := rfl
  omega
theorem swI_f {w h : Nat} {p : Int64} {i : Int} {n : Nat} {bh : Int64} (h0 : swI w h p i n bh) (hf : swq w h p n = false) : swI w h p i (n + 1) bh := fun h1 h2 => by
  rw [bs_f hf] at h2
  obtain ⟨q, q1, q2⟩ := h0 h1 h2
  exact ⟨q, by omega, q2⟩
theorem swI_t {w h : Nat} {p : Int64} {i : Int} {n : Nat} {bh : Int64} (h0 : swI w h p i n bh) (hf : swq w h p n = true) (hn : ¬ (bs (swq w h p) n : Int) = i) : swI w h p i (n + 1) bh := fun h1 h2 => by
  rw [bs_t hf] at h2
  obtain ⟨q, q1, q2⟩ := h0 h1 (by omega)
  exact ⟨q, by omega, q2⟩
theorem swI_n {w h : Nat} {p : Int64} {i : Int} {n : Nat} {bh : Int64} (hf : swq w h p n = true) (hn : (bs (swq w h p) n : Int) = i) (hb : bh = swx w h p n) : swI w h p i (n + 1) bh := fun _ _ => ⟨n, Nat.lt_succ_self _, hf, hn, hb⟩
theorem sw_yes {a b c d : Bool} {ra rb rc rd : Int32} (fa : ra = if a then 1 else 0) (fb : rb = if b then 1 else 0) (fc : rc = if c then 1 else 0) (fd : rd = if d then 1 else 0) : (ra = rb ∧ rc = rd ∧ ¬ ra = rc) ↔ ((a == b) && (c == d) && (a != c)) = true := by
  subst fa
  subst fb
  subst fc
  subst fd
  cases a <;> cases b <;> cases c <;> cases d <;> decide
theorem b_not {x : Bool} (h : ¬ x = true) : x = false := by cases x; rfl; exact absurd rfl h

theorem b_not2 {x : Bool} (h : ¬ x = false) : x = true := by cases x; exact absurd rfl h; rfl
set_option maxHeartbeats 4000000 in
set_option maxRecDepth 100000 in
theorem c_X0_behindFour_x (l : Launch) (D : va_G) (cy : Nat → ClassId) (A : Nat → Prop) (G : cG) (ws : va_W) (o : Nat) (four : Nat) (p0 : Int64) {w h : Nat} (hD : va_D A ws) (hT : cT cy G ws) (hG_o : G o = some (2, w, h)) (hq1 : four < cfo w h) : Cl l D cy A yX0_behindFour wsX0_behindFour ({ frames := 0, cells := 0, slots := 0, locals := 0 }) 0 0 ws [.ref o, .int (nI four), .long p0] (fun r0 u => u = (G, ws) ∧ (r0 = if swq w h p0 four then swx w h p0 four else p0)) := by
  refine Met.ofW (cc := cX0_behindFour) (maxL := 9) (ret := (some .long)) (by decide) rfl ?_
  intro p e s m args below meth c s₁ B hml hv
  obtain ⟨rfl, hP, hK, hA, hV⟩ := hv
  have hx := B.exec
  have hb := B.bytes
  have hr := B.returns
  have hts := atoms_spec (ws := wsX0_behindFour) B.pre
  have hown : s.vm.findClass RX0 = some m.cls := findClass_of_methodNamed B.named
  have hlocks := B.notSynchronized
  have hS : va_S A s.heap s.heap [] := va_S.rf
  have hl := lv_entry ([.ref o, .int (nI four), .long p0]) (n := 9) (Nat.le_of_ble_eq_true rfl)
  rw [lg_entry_eq]
  generalize (lg_sl ([.ref o, .int (nI four), .long p0]) ++ List.replicate (9 - (lg_sl ([.ref o, .int (nI four), .long p0])).length) Slot.unset).toArray = ls at hl ⊢
  have hl : lv_has ls 9 [(0, .ref o), (1, .int (nI four)), (2, .long p0)] := hl
  have k_0 : (0 : Int32).toInt = 0 := by decide
  have k_1 : (1 : Int32).toInt = 1 := by decide
  have hb9 := c_hb hT hG_o
  have cf9 := cb_fo hb9
  have ifour : (nI four).toInt = (four : Int) := nI_toInt (by omega)
  have icf : (nI (cfo w h)).toInt = (cfo w h : Int) := nI_toInt (by omega)
  have cq9 : (nI four).toNatClampNeg = four := nI_clamp (by omega)
  refine lv_iload_n hx hb dX0_behindFour_0 rfl (lv_at hl 1 rfl) ?_
  refine lv_if_lt (tgt := 12) hx hb dX0_behindFour_1 (by decide) (fun c1 => ?_) (fun c1 => ?_)
  · skip
    have d1 := c1
    rw [fa_lt] at d1
    refine lv_lload_n hx hb dX0_behindFour_12 rfl (lv_at hl 2 rfl) ?_
    exact W.lret (v := p0) hx hb hr (fun t ht hW => ⟨⟨_, (G, ws), rfl, ⟨rfl, (by exfalso; omega)⟩, by show va_P D vwCl ws t.heap; rw [ht]; exact hP, hD, hT⟩, hS.F ht⟩) hS.2.2 dX0_behindFour_13
  · skip
    have d1 := c1
    rw [fa_lt] at d1
    refine lv_iload_n hx hb dX0_behindFour_4 rfl (lv_at hl 1 rfl) ?_
    refine lv_aload_n hx hb dX0_behindFour_5 rfl (lv_at hl 0 rfl) ?_
    obtain ⟨_, hM_o, hb_o, l_o, f_o, r_o, rfl, hG_l_o, hG_f_o, hG_r_o⟩ := hT _ _ hG_o
    refine t_get (v := .int (nI (cfo w h))) (C := RX0) (T := TX0) (N := 8) hx hb hts (by decide +kernel) hown hK hP hM_o rfl 4 (by decide) (hts (.fieldLink RX0 30 "ShadowBench$Board" "fours" "I") (by decide +kernel)) (fun _ h9 => h9) rfl dX0_behindFour_6 ?_
    have m_fo_o := cb_fo hb_o
    have i_fo_o : (nI (cfo w h)).toInt = _ := nI_toInt (by omega)
    refine lv_icmp_lt (tgt := 14) hx hb dX0_behindFour_9 (by decide) (fun c9 => ?_) (fun c9 => ?_)
    · skip
      have d9 := c9
      rw [fa_lt] at d9
      refine lv_aload_n hx hb dX0_behindFour_14 rfl (lv_at hl 0 rfl) ?_
      refine t_get (v := .ref f_o) (C := RX0) (T := TX0) (N := 8) hx hb hts (by decide +kernel) hown hK hP hM_o rfl 6 (by decide) (hts (.fieldLink RX0 33 "ShadowBench$Board" "falling" "[J") (by decide +kernel)) (fun _ h9 => h9) rfl dX0_behindFour_15 ?_
      refine lv_iload_n hx hb dX0_behindFour_18 rfl (lv_at hl 1 rfl) ?_
      refine t_lald12 hx hb hK hP hT hG_f_o (vp_in_iff.mpr ⟨by omega, by omega⟩) dX0_behindFour_19 ?_
      refine lv_topl (fun v19 e19 => ?_)
      rw [cq9] at e19
      refine lv_aload_n hx hb dX0_behindFour_20 rfl (lv_at hl 0 rfl) ?_
      refine t_get (v := .ref r_o) (C := RX0) (T := TX0) (N := 8) hx hb hts (by decide +kernel) hown hK hP hM_o rfl 7 (by decide) (hts (.fieldLink RX0 36 "ShadowBench$Board" "rising" "[J") (by decide +kernel)) (fun _ h9 => h9) rfl dX0_behindFour_21 ?_
      refine lv_iload_n hx hb dX0_behindFour_24 rfl (lv_at hl 1 rfl) ?_
      refine t_lald13 hx hb hK hP hT hG_r_o (vp_in_iff.mpr ⟨by omega, by omega⟩) dX0_behindFour_25 ?_
      refine lv_topl (fun v25 e25 => ?_)
      rw [cq9] at e25
      refine lv_lor hx hb dX0_behindFour_26 ?_
      refine lv_topl (fun v26 e26 => ?_)
      refine lv_lstore (lv' := [(4, .long v26), (0, .ref o), (1, .int (nI four)), (2, .long p0)]) hx hb dX0_behindFour_27 hl (by decide) rfl (fun ls hl => ?_)
      refine lv_lload_n hx hb dX0_behindFour_29 rfl (lv_at hl 3 rfl) ?_
      refine lv_lload hx hb dX0_behindFour_30 (lv_at hl 0 rfl) ?_
      refine lv_land hx hb dX0_behindFour_32 ?_
      refine lv_topl (fun v32 e32 => ?_)
      have hbh := beh_is (p := p0) hb9 hq1 e19 e25 e26 e32
      refine lv_lstore (lv' := [(6, .long v32), (4, .long v26), (0, .ref o), (1, .int (nI four)), (2, .long p0)]) hx hb dX0_behindFour_33 hl (by decide) rfl (fun ls hl => ?_)
      refine lv_lload hx hb dX0_behindFour_35 (lv_at hl 0 rfl) ?_
      refine lv_aload_n hx hb dX0_behindFour_37 rfl (lv_at hl 2 rfl) ?_
      refine t_get (v := .ref f_o) (C := RX0) (T := TX0) (N := 8) hx hb hts (by decide +kernel) hown hK hP hM_o rfl 6 (by decide) (hts (.fieldLink RX0 33 "ShadowBench$Board" "falling" "[J") (by decide +kernel)) (fun _ h9 => h9) rfl dX0_behindFour_38 ?_
      refine lv_iload_n hx hb dX0_behindFour_41 rfl (lv_at hl 3 rfl) ?_
      refine t_lald12 hx hb hK hP hT hG_f_o (vp_in_iff.mpr ⟨by omega, by omega⟩) dX0_behindFour_42 ?_
      refine lv_topl (fun v42 e42 => ?_)
      rw [cq9] at e42
      refine W.lcmp hx hb dX0_behindFour_43 ?_
      refine lv_if_eq (tgt := 59) hx hb dX0_behindFour_44 (by decide) (fun c44 => ?_) (fun c44 => ?_)
      · skip
        have d44 := c44
        rw [lg_cmp_eq, fa_eq64] at d44
        refine lv_iconst (v := 1) hx hb dX0_behindFour_59 (by decide) ?_
        refine lv_goto (tgt := 64) hx hb dX0_behindFour_60 (by decide) ?_
        refine lv_istore (lv' := [(8, .int (1 : Int32)), (6, .long v32), (4, .long v26), (0, .ref o), (1, .int (nI four)), (2, .long p0)]) hx hb dX0_behindFour_64 hl (by decide) rfl (fun ls hl => ?_)
        refine lv_iload hx hb dX0_behindFour_66 (lv_at hl 0 rfl) ?_
        refine lv_if_eq (tgt := 78) hx hb dX0_behindFour_68 (by decide) (fun c68 => ?_) (fun c68 => ?_)
        · first | exact absurd c68 (by decide) | exact absurd (by decide) c68
        · skip
          have d68 := c68
          rw [fa_eq] at d68
          refine lv_lload_n hx hb dX0_behindFour_71 rfl (lv_at hl 5 rfl) ?_
          refine lv_lload hx hb dX0_behindFour_72 (lv_at hl 2 rfl) ?_
          refine lv_lxor hx hb dX0_behindFour_74 ?_
          refine lv_topl (fun v74 e74 => ?_)
          refine lv_goto (tgt := 79) hx hb dX0_behindFour_75 (by decide) ?_
          exact W.lret (v := v74) hx hb hr (fun t ht hW => ⟨⟨_, (G, ws), rfl, ⟨rfl, (by first | (rw [if_pos (hbh.1.mp (Or.inl (((lg_cmp_eq _ _).mp c44).trans (e42.trans e19.symm)))), e74]; exact hbh.2) | (rw [if_pos (hbh.1.mp (Or.inr (((lg_cmp_eq _ _).mp c56).trans (e54.trans e25.symm)))), e74]; exact hbh.2) | (rw [if_neg (fun z9 => (hbh.1.mpr z9).elim (fun y9 => c44 ((lg_cmp_eq _ _).mpr (y9.trans (e19.trans e42.symm)))) (fun y9 => c56 ((lg_cmp_eq _ _).mpr (y9.trans (e25.trans e54.symm)))))]))⟩, by show va_P D vwCl ws t.heap; rw [ht]; exact hP, hD, hT⟩, hS.F ht⟩) hS.2.2 dX0_behindFour_79
      · skip
        have d44 := c44
        rw [lg_cmp_eq, fa_eq64] at d44
        refine lv_lload hx hb dX0_behindFour_47 (lv_at hl 0 rfl) ?_
        refine lv_aload_n hx hb dX0_behindFour_49 rfl (lv_at hl 2 rfl) ?_
        refine t_get (v := .ref r_o) (C := RX0) (T := TX0) (N := 8) hx hb hts (by decide +kernel) hown hK hP hM_o rfl 7 (by decide) (hts (.fieldLink RX0 36 "ShadowBench$Board" "rising" "[J") (by decide +kernel)) (fun _ h9 => h9) rfl dX0_behindFour_50 ?_
        refine lv_iload_n hx hb dX0_behindFour_53 rfl (lv_at hl 3 rfl) ?_
        refine t_lald13 hx hb hK hP hT hG_r_o (vp_in_iff.mpr ⟨by omega, by omega⟩) dX0_behindFour_54 ?_
        refine lv_topl (fun v54 e54 => ?_)
        rw [cq9] at e54
        refine W.lcmp hx hb dX0_behindFour_55 ?_
        refine lv_if_ne (tgt := 63) hx hb dX0_behindFour_56 (by decide) (fun c56 => ?_) (fun c56 => ?_)
        · skip
          have d56 := c56
          rw [lg_cmp_eq, fa_eq64] at d56
          refine lv_iconst (v := 0) hx hb dX0_behindFour_63 (by decide) ?_
          refine lv_istore (lv' := [(8, .int (0 : Int32)), (6, .long v32), (4, .long v26), (0, .ref o), (1, .int (nI four)), (2, .long p0)]) hx hb dX0_behindFour_64 hl (by decide) rfl (fun ls hl => ?_)
          refine lv_iload hx hb dX0_behindFour_66 (lv_at hl 0 rfl) ?_
          refine lv_if_eq (tgt := 78) hx hb dX0_behindFour_68 (by decide) (fun c68 => ?_) (fun c68 => ?_)
          · skip
            have d68 := c68
            rw [fa_eq] at d68
            refine lv_lload_n hx hb dX0_behindFour_78 rfl (lv_at hl 5 rfl) ?_
            exact W.lret (v := p0) hx hb hr (fun t ht hW => ⟨⟨_, (G, ws), rfl, ⟨rfl, (by first | (rw [if_pos (hbh.1.mp (Or.inl (((lg_cmp_eq _ _).mp c44).trans (e42.trans e19.symm)))), e74]; exact hbh.2) | (rw [if_pos (hbh.1.mp (Or.inr (((lg_cmp_eq _ _).mp c56).trans (e54.trans e25.symm)))), e74]; exact hbh.2) | (rw [if_neg (fun z9 => (hbh.1.mpr z9).elim (fun y9 => c44 ((lg_cmp_eq _ _).mpr (y9.trans (e19.trans e42.symm)))) (fun y9 => c56 ((lg_cmp_eq _ _).mpr (y9.trans (e25.trans e54.symm)))))]))⟩, by show va_P D vwCl ws t.heap; rw [ht]; exact hP, hD, hT⟩, hS.F ht⟩) hS.2.2 dX0_behindFour_79
          · first | exact absurd c68 (by decide) | exact absurd (by decide) c68
        · skip
          have d56 := c56
          rw [lg_cmp_eq, fa_eq64] at d56
          refine lv_iconst (v := 1) hx hb dX0_behindFour_59 (by decide) ?_
          refine lv_goto (tgt := 64) hx hb dX0_behindFour_60 (by decide) ?_
          refine lv_istore (lv' := [(8, .int (1 : Int32)), (6, .long v32), (4, .long v26), (0, .ref o), (1, .int (nI four)), (2, .long p0)]) hx hb dX0_behindFour_64 hl (by decide) rfl (fun ls hl => ?_)
          refine lv_iload hx hb dX0_behindFour_66 (lv_at hl 0 rfl) ?_
          refine lv_if_eq (tgt := 78) hx hb dX0_behindFour_68 (by decide) (fun c68 => ?_) (fun c68 => ?_)
          · first | exact absurd c68 (by decide) | exact absurd (by decide) c68
          · skip
            have d68 := c68
            rw [fa_eq] at d68
            refine lv_lload_n hx hb dX0_behindFour_71 rfl (lv_at hl 5 rfl) ?_
            refine lv_lload hx hb dX0_behindFour_72 (lv_at hl 2 rfl) ?_
            refine lv_lxor hx hb dX0_behindFour_74 ?_
            refine lv_topl (fun v74 e74 => ?_)
            refine lv_goto (tgt := 79) hx hb dX0_behindFour_75 (by decide) ?_
            exact W.lret (v := v74) hx hb hr (fun t ht hW => ⟨⟨_, (G, ws), rfl, ⟨rfl, (by first | (rw [if_pos (hbh.1.mp (Or.inl (((lg_cmp_eq _ _).mp c44).trans (e42.trans e19.symm)))), e74]; exact hbh.2) | (rw [if_pos (hbh.1.mp (Or.inr (((lg_cmp_eq _ _).mp c56).trans (e54.trans e25.symm)))), e74]; exact hbh.2) | (rw [if_neg (fun z9 => (hbh.1.mpr z9).elim (fun y9 => c44 ((lg_cmp_eq _ _).mpr (y9.trans (e19.trans e42.symm)))) (fun y9 => c56 ((lg_cmp_eq _ _).mpr (y9.trans (e25.trans e54.symm)))))]))⟩, by show va_P D vwCl ws t.heap; rw [ht]; exact hP, hD, hT⟩, hS.F ht⟩) hS.2.2 dX0_behindFour_79
    · skip
      have d9 := c9
      rw [fa_lt] at d9
      refine lv_lload_n hx hb dX0_behindFour_12 rfl (lv_at hl 2 rfl) ?_
      exact W.lret (v := p0) hx hb hr (fun t ht hW => ⟨⟨_, (G, ws), rfl, ⟨rfl, (by exfalso; omega)⟩, by show va_P D vwCl ws t.heap; rw [ht]; exact hP, hD, hT⟩, hS.F ht⟩) hS.2.2 dX0_behindFour_13
set_option maxHeartbeats 4000000 in
set_option maxRecDepth 100000 in
theorem c_X9_switches_x (l : Launch) (D : va_G) (cy : Nat → ClassId) (A : Nat → Prop) (G : cG) (ws : va_W) (o : Nat) (wide : Int32) (high : Int32) (p0 : Int64)  (hD : va_D A ws) (hT : cT cy G ws) (hG_o : G o = some (7, 0, 0))  : Ci l D cy A yX9_switches wsX9_switches ({ frames := 5, cells := 4, slots := 502, locals := 116 }) 4 502 ws [.ref o, .int wide, .int high, .long p0] (fun r0 u => cX none (chs [1, 8]) G ws u.1 u.2 ∧ (swA wide high p0 r0)) := by
  refine Met.ofW (cc := cX9_switches) (maxL := 8) (ret := (some .int)) (by decide) rfl ?_
  intro p e s m args below meth c s₁ B hml hv
  obtain ⟨rfl, hP, hK, hA, hV⟩ := hv
  have hx := B.exec
  have hb := B.bytes
  have hr := B.returns
  have hts := atoms_spec (ws := wsX9_switches) B.pre
  have hown : s.vm.findClass RX9 = some m.cls := findClass_of_methodNamed B.named
  have hlocks := B.notSynchronized
  have hS : va_S A s.heap s.heap [] := va_S.rf
  have hX : cX none (chs [1, 8]) G ws G ws := cX.rf
  have hl := lv_entry ([.ref o, .int wide, .int high, .long p0]) (n := 8) (Nat.le_of_ble_eq_true rfl)
  rw [lg_entry_eq]
  generalize (lg_sl ([.ref o, .int wide, .int high, .long p0]) ++ List.replicate (8 - (lg_sl ([.ref o, .int wide, .int high, .long p0])).length) Slot.unset).toArray = ls at hl ⊢
  have hl : lv_has ls 8 [(0, .ref o), (1, .int wide), (2, .int high), (3, .long p0)] := hl
  have k_m1 : (-1 : Int32).toInt = -1 := by decide
  have k_0 : (0 : Int32).toInt = 0 := by decide
  refine lv_aload_n hx hb dX9_switches_0 rfl (lv_at hl 0 rfl) ?_
  refine lv_iload_n hx hb dX9_switches_1 rfl (lv_at hl 1 rfl) ?_
  refine lv_iload_n hx hb dX9_switches_2 rfl (lv_at hl 2 rfl) ?_
  obtain ⟨_, hM_o, bs_o, js_o, sh_o, wk_o, ll_o, jc_o, lc_o, mo_o, lb_o, rfl, hjc_o, hlc_o, hG_bs_o, hG_js_o, hG_sh_o, hG_wk_o, hmo_o, hG_ll_o, hlb_o⟩ := hT _ _ hG_o
  refine t_calla (va_runV (g := F0 m 3 ls ([.int high, .int wide, .ref o])) (As := [.int wide, .int high]) (rest := []) ⟨hx, hb, hml, hown, hts⟩ (c_X9_boardOf_x l D cy A G ws o wide high hD hT hG_o ) (cwV 2 hts gX9_switches_X9_boardOf rfl rfl rfl (by decide +kernel) ⟨Nat.le_of_ble_eq_true rfl, Nat.le_of_ble_eq_true rfl⟩) (c_preV hM_o rfl hP hK hA hS hV) rfl rfl hl.1 rfl (lv_room (Nat.le_of_ble_eq_true rfl)) dX9_switches_3 ⟨Nat.le_of_ble_eq_true rfl, Nat.le_of_ble_eq_true rfl⟩) hS (fun r3 u H locs q3 hP9 hD9 hT9 hS => ?_)
  obtain ⟨G3, w3⟩ := u
  obtain ⟨hX9, q3⟩ := q3
  have hX9 : cX none (chs [1, 8]) G ws G3 w3 := hX9
  have hP : va_P D vwCl w3 H := hP9
  have hD : va_D A w3 := hD9
  have hT : cT cy G3 w3 := hT9
  have hM_o := hX9.2.1 _ _ (cP.no hG_o rfl) hM_o
  have hG_o := hX9.1 _ _ hG_o
  have hG_bs_o := hX9.1 _ _ hG_bs_o
  have hG_js_o := hX9.1 _ _ hG_js_o
  have hG_sh_o := hX9.1 _ _ hG_sh_o
  have hG_wk_o := hX9.1 _ _ hG_wk_o
  have hG_ll_o := hX9.1 _ _ hG_ll_o
  have hX := hX.tr hX9
  rcases r3 with _ | x3
  · skip
    have vn3 := q3.2.1 rfl
    refine lv_astoreN (lv' := [(5, .null), (0, .ref o), (1, .int wide), (2, .int high), (3, .long p0)]) hx hb dX9_switches_6 hl (by decide) rfl (fun ls hl => ?_)
    refine lv_aloadN hx hb dX9_switches_8 (lv_at hl 0 rfl) ?_
    refine lv_ifnullN (tgt := 22) hx hb dX9_switches_10 (by decide) ?_
    refine lv_iconst (v := (-1)) hx hb dX9_switches_22 (by decide) ?_
    refine W.widen (k := 4) (n := 502) (Nat.le_of_ble_eq_true rfl) (Nat.le_of_ble_eq_true rfl) ?_
    exact W.iret (v := ((-1) : Int32)) hx hb hr (fun t ht hW => ⟨⟨_, (G3, w3), rfl, ⟨hX, (Or.inr ⟨(fun z9 => by first | exact vn3 z9.1 | exact b19 z9.2), rfl⟩)⟩, by show va_P D vwCl w3 t.heap; rw [ht]; exact hP, hD, hT⟩, hS.F ht⟩) hS.2.2 dX9_switches_23
  · skip
    have hG_x3 := q3.1 x3 rfl
    have vb3 := q3.2.2 x3 rfl
    refine lv_astore (lv' := [(5, .ref x3), (0, .ref o), (1, .int wide), (2, .int high), (3, .long p0)]) hx hb dX9_switches_6 hl (by decide) rfl (fun ls hl => ?_)
    refine lv_aload hx hb dX9_switches_8 (lv_at hl 0 rfl) ?_
    refine lv_ifnull hx hb dX9_switches_10 ?_
    refine lv_aload hx hb dX9_switches_13 (lv_at hl 0 rfl) ?_
    refine lv_lload_n hx hb dX9_switches_15 rfl (lv_at hl 4 rfl) ?_
    obtain ⟨_, hM_x3, hb_x3, l_x3, f_x3, r_x3, rfl, hG_l_x3, hG_f_x3, hG_r_x3⟩ := hT _ _ hG_x3
    refine t_calli (va_runV (g := F0 m 16 ls ([.long p0, .ref x3])) (As := [.long p0]) (rest := []) ⟨hx, hb, hml, hown, hts⟩ (c_X0_isPicture_x l D cy A G3 w3 x3 p0 hD hT hG_x3 ) (cwV 1 hts gX9_switches_X0_isPicture rfl rfl rfl (by decide +kernel) ⟨Nat.le_of_ble_eq_true rfl, Nat.le_of_ble_eq_true rfl⟩) (c_preV hM_x3 rfl hP hK hA hS hV) rfl rfl hl.1 rfl (lv_room (Nat.le_of_ble_eq_true rfl)) dX9_switches_16 ⟨Nat.le_of_ble_eq_true rfl, Nat.le_of_ble_eq_true rfl⟩) hS (fun r16 u H locs q16 hP9 hD9 hT9 hS => ?_)
    obtain ⟨rfl, q16⟩ := q16
    have hP : va_P D vwCl w3 H := hP9
    refine lv_if_ne (tgt := 24) hx hb dX9_switches_19 (by decide) (fun c19 => ?_) (fun c19 => ?_)
    · skip
      have b19 := bo_t q16 c19
      have hb9 := c_hb hT hG_x3
      have cf9 := cb_fo hb9
      have icf : (nI (cfo wide.toNatClampNeg high.toNatClampNeg)).toInt = ((cfo wide.toNatClampNeg high.toNatClampNeg) : Int) := nI_toInt (by omega)
      refine lv_iconst (v := 0) hx hb dX9_switches_24 (by decide) ?_
      refine lv_istore (lv' := [(6, .int (0 : Int32)), (5, .ref x3), (0, .ref o), (1, .int wide), (2, .int high), (3, .long p0)]) hx hb dX9_switches_25 hl (by decide) rfl (fun ls hl => ?_)
      refine lv_iconst (v := 0) hx hb dX9_switches_27 (by decide) ?_
      refine lv_istore (lv' := [(7, .int (0 : Int32)), (6, .int (0 : Int32)), (5, .ref x3), (0, .ref o), (1, .int wide), (2, .int high), (3, .long p0)]) hx hb dX9_switches_28 hl (by decide) rfl (fun ls hl => ?_)
      have loop_30 : ∀ (n : Nat) (i : Nat) (c6 : Nat), (i ≤ (cfo wide.toNatClampNeg high.toNatClampNeg)) → (c6 = bs (swq wide.toNatClampNeg high.toNatClampNeg p0) i) → (cfo wide.toNatClampNeg high.toNatClampNeg) - i < n → ∀ (H : Heap) (locs : List Loc), va_P D vwCl w3 H → va_S A s.heap H locs → ∀ (ls : Array Slot), lv_has ls 8 [(7, .int (nI i)), (6, .int (nI c6)), (5, .ref x3), (0, .ref o), (1, .int wide), (2, .int high), (3, .long p0)] → W p l e (headSpec wsX9_switches ({ frames := 5, cells := 4, slots := 502, locals := 116 })).room s m #[Value.ref o, Value.int wide, Value.int high, Value.long p0] below meth c H locs 4 502 (MQ below (va_Qi (fun r0 u => cX none (chs [1, 8]) G ws u.1 u.2 ∧ (swA wide high p0 r0)) (cB D cy A) A) #[Value.ref o, Value.int wide, Value.int high, Value.long p0] s 4 502 A) (F0 m 30 ls []) := by
        intro n
        induction n with
        | zero => intro i c6 j30_0 j30_1 hn; exact absurd hn (Nat.not_lt_zero _)
        | succ n ih_30 =>
          intro i c6 j30_0 j30_1 hn_30 H locs hP hS  ls hl
          have ii : (nI i).toInt = (i : Int) := nI_toInt (by omega)
          refine lv_iload hx hb dX9_switches_30 (lv_at hl 0 rfl) ?_
          refine lv_aload hx hb dX9_switches_32 (lv_at hl 2 rfl) ?_
          refine t_get (v := .int (nI (cfo wide.toNatClampNeg high.toNatClampNeg))) (C := RX0) (T := TX0) (N := 8) hx hb hts (by decide +kernel) hown hK hP hM_x3 rfl 4 (by decide) (hts (.fieldLink RX9 176 "ShadowBench$Board" "fours" "I") (by decide +kernel)) (fun _ h9 => h9) rfl dX9_switches_34 ?_
          have m_fo_x3 := cb_fo hb_x3
          have i_fo_x3 : (nI (cfo wide.toNatClampNeg high.toNatClampNeg)).toInt = _ := nI_toInt (by omega)
          refine lv_icmp_ge (tgt := 62) hx hb dX9_switches_37 (by decide) (fun c37 => ?_) (fun c37 => ?_)
          · skip
            have d37 := c37
            rw [fa_le] at d37
            refine lv_iload hx hb dX9_switches_62 (lv_at hl 1 rfl) ?_
            refine W.widen (k := 4) (n := 502) (Nat.le_of_ble_eq_true rfl) (Nat.le_of_ble_eq_true rfl) ?_
            exact W.iret (v := (nI c6)) hx hb hr (fun t ht hW => ⟨⟨_, (G3, w3), rfl, ⟨hX, (Or.inl ⟨⟨vb3, b19⟩, (by rw [j30_1, show i = (cfo wide.toNatClampNeg high.toNatClampNeg) by omega])⟩)⟩, by show va_P D vwCl w3 t.heap; rw [ht]; exact hP, hD, hT⟩, hS.F ht⟩) hS.2.2 dX9_switches_64
          · skip
            have d37 := c37
            rw [fa_le] at d37
            refine lv_aload hx hb dX9_switches_40 (lv_at hl 2 rfl) ?_
            refine lv_iload hx hb dX9_switches_42 (lv_at hl 0 rfl) ?_
            refine lv_lload_n hx hb dX9_switches_44 rfl (lv_at hl 6 rfl) ?_
            refine t_calll (va_runV (g := F0 m 45 ls ([.long p0, .int (nI i), .ref x3])) (As := [.int (nI i), .long p0]) (rest := []) ⟨hx, hb, hml, hown, hts⟩ (c_X0_behindFour_x l D cy A G3 w3 x3 i p0 hD hT hG_x3 (by omega)) (cwV 2 hts gX9_switches_X0_behindFour rfl rfl rfl (by decide +kernel) ⟨Nat.le_of_ble_eq_true rfl, Nat.le_of_ble_eq_true rfl⟩) (c_preV hM_x3 rfl hP hK hA hS hV) rfl rfl hl.1 rfl (lv_room (Nat.le_of_ble_eq_true rfl)) dX9_switches_45 ⟨Nat.le_of_ble_eq_true rfl, Nat.le_of_ble_eq_true rfl⟩) hS (fun r45 u H locs q45 hP9 hD9 hT9 hS => ?_)
            obtain ⟨rfl, q45⟩ := q45
            have hP : va_P D vwCl w3 H := hP9
            refine lv_lload_n hx hb dX9_switches_48 rfl (lv_at hl 6 rfl) ?_
            refine W.lcmp hx hb dX9_switches_49 ?_
            have be9 := beh_eq hb9 (show i < (cfo wide.toNatClampNeg high.toNatClampNeg) by omega) q45
            refine lv_if_eq (tgt := 56) hx hb dX9_switches_50 (by decide) (fun c50 => ?_) (fun c50 => ?_)
            · skip
              have d50 := c50
              rw [lg_cmp_eq, fa_eq64] at d50
              refine lv_iinc (v := (nI (i + 1))) (lv' := [(7, .int (nI (i + 1))), (6, .int (nI c6)), (5, .ref x3), (0, .ref o), (1, .int wide), (2, .int high), (3, .long p0)]) hx hb dX9_switches_56 hl (k := 0) rfl (nI_1 _) (by decide) rfl (fun ls hl => ?_)
              refine lv_goto (tgt := 30) hx hb dX9_switches_59 (by decide) ?_
              exact ih_30 (i + 1) c6 (by omega) (by first | (rw [bs_f (be9.mp ((lg_cmp_eq _ _).mp c50))]; exact j30_1) | (rw [bs_t (b_not2 (fun z9 => c50 ((lg_cmp_eq _ _).mpr (be9.mpr z9))))]; omega)) (by omega) _ _ hP hS  ls (lv_sub hl [0, 1, 2, 3, 4, 5, 6] rfl)
            · skip
              have d50 := c50
              rw [lg_cmp_eq, fa_eq64] at d50
              refine lv_iinc (v := (nI (c6 + 1))) (lv' := [(6, .int (nI (c6 + 1))), (7, .int (nI i)), (5, .ref x3), (0, .ref o), (1, .int wide), (2, .int high), (3, .long p0)]) hx hb dX9_switches_53 hl (k := 1) rfl (nI_1 _) (by decide) rfl (fun ls hl => ?_)
              refine lv_iinc (v := (nI (i + 1))) (lv' := [(7, .int (nI (i + 1))), (6, .int (nI (c6 + 1))), (5, .ref x3), (0, .ref o), (1, .int wide), (2, .int high), (3, .long p0)]) hx hb dX9_switches_56 hl (k := 1) rfl (nI_1 _) (by decide) rfl (fun ls hl => ?_)
              refine lv_goto (tgt := 30) hx hb dX9_switches_59 (by decide) ?_
              exact ih_30 (i + 1) (c6 + 1) (by omega) (by first | (rw [bs_f (be9.mp ((lg_cmp_eq _ _).mp c50))]; exact j30_1) | (rw [bs_t (b_not2 (fun z9 => c50 ((lg_cmp_eq _ _).mpr (be9.mpr z9))))]; omega)) (by omega) _ _ hP hS  ls (lv_sub hl [0, 1, 2, 3, 4, 5, 6] rfl)
      exact loop_30 ((cfo wide.toNatClampNeg high.toNatClampNeg) + 1) 0 0 (by omega) (rfl) (by omega) _ _ hP hS  ls (lv_sub hl [0, 1, 2, 3, 4, 5, 6] rfl)
    · skip
      have b19 := bo_f q16 c19
      refine lv_iconst (v := (-1)) hx hb dX9_switches_22 (by decide) ?_
      refine W.widen (k := 4) (n := 502) (Nat.le_of_ble_eq_true rfl) (Nat.le_of_ble_eq_true rfl) ?_
      exact W.iret (v := ((-1) : Int32)) hx hb hr (fun t ht hW => ⟨⟨_, (G3, w3), rfl, ⟨hX, (Or.inr ⟨(fun z9 => by first | exact vn3 z9.1 | exact b19 z9.2), rfl⟩)⟩, by show va_P D vwCl w3 t.heap; rw [ht]; exact hP, hD, hT⟩, hS.F ht⟩) hS.2.2 dX9_switches_23
set_option maxHeartbeats 4000000 in
set_option maxRecDepth 100000 in
theorem c_X9_switched_x (l : Launch) (D : va_G) (cy : Nat → ClassId) (A : Nat → Prop) (G : cG) (ws : va_W) (o : Nat) (wide : Int32) (high : Int32) (p0 : Int64) (i0 : Int32)  (hD : va_D A ws) (hT : cT cy G ws) (hG_o : G o = some (7, 0, 0))  : Cl l D cy A yX9_switched wsX9_switched ({ frames := 5, cells := 4, slots := 502, locals := 116 }) 4 502 ws [.ref o, .int wide, .int high, .long p0, .int i0] (fun r0 u => cX none (chs [1, 8]) G ws u.1 u.2 ∧ (swS wide high p0 i0 r0)) := by
  refine Met.ofW (cc := cX9_switched) (maxL := 11) (ret := (some .long)) (by decide) rfl ?_
  intro p e s m args below meth c s₁ B hml hv
  obtain ⟨rfl, hP, hK, hA, hV⟩ := hv
  have hx := B.exec
  have hb := B.bytes
  have hr := B.returns
  have hts := atoms_spec (ws := wsX9_switched) B.pre
  have hown : s.vm.findClass RX9 = some m.cls := findClass_of_methodNamed B.named
  have hlocks := B.notSynchronized
  have hS : va_S A s.heap s.heap [] := va_S.rf
  have hX : cX none (chs [1, 8]) G ws G ws := cX.rf
  have hl := lv_entry ([.ref o, .int wide, .int high, .long p0, .int i0]) (n := 11) (Nat.le_of_ble_eq_true rfl)
  rw [lg_entry_eq]
  generalize (lg_sl ([.ref o, .int wide, .int high, .long p0, .int i0]) ++ List.replicate (11 - (lg_sl ([.ref o, .int wide, .int high, .long p0, .int i0])).length) Slot.unset).toArray = ls at hl ⊢
  have hl : lv_has ls 11 [(0, .ref o), (1, .int wide), (2, .int high), (3, .long p0), (5, .int i0)] := hl
  have k_0 : (0 : Int32).toInt = 0 := by decide
  have k_m2L : (-2 : Int64).toInt = -2 := by decide
  have k_m1L : (-1 : Int64).toInt = -1 := by decide
  refine lv_aload_n hx hb dX9_switched_0 rfl (lv_at hl 0 rfl) ?_
  refine lv_iload_n hx hb dX9_switched_1 rfl (lv_at hl 1 rfl) ?_
  refine lv_iload_n hx hb dX9_switched_2 rfl (lv_at hl 2 rfl) ?_
  obtain ⟨_, hM_o, bs_o, js_o, sh_o, wk_o, ll_o, jc_o, lc_o, mo_o, lb_o, rfl, hjc_o, hlc_o, hG_bs_o, hG_js_o, hG_sh_o, hG_wk_o, hmo_o, hG_ll_o, hlb_o⟩ := hT _ _ hG_o
  refine t_calla (va_runV (g := F0 m 3 ls ([.int high, .int wide, .ref o])) (As := [.int wide, .int high]) (rest := []) ⟨hx, hb, hml, hown, hts⟩ (c_X9_boardOf_x l D cy A G ws o wide high hD hT hG_o ) (cwV 2 hts gX9_switched_X9_boardOf rfl rfl rfl (by decide +kernel) ⟨Nat.le_of_ble_eq_true rfl, Nat.le_of_ble_eq_true rfl⟩) (c_preV hM_o rfl hP hK hA hS hV) rfl rfl hl.1 rfl (lv_room (Nat.le_of_ble_eq_true rfl)) dX9_switched_3 ⟨Nat.le_of_ble_eq_true rfl, Nat.le_of_ble_eq_true rfl⟩) hS (fun r3 u H locs q3 hP9 hD9 hT9 hS => ?_)
  obtain ⟨G3, w3⟩ := u
  obtain ⟨hX9, q3⟩ := q3
  have hX9 : cX none (chs [1, 8]) G ws G3 w3 := hX9
  have hP : va_P D vwCl w3 H := hP9
  have hD : va_D A w3 := hD9
  have hT : cT cy G3 w3 := hT9
  have hM_o := hX9.2.1 _ _ (cP.no hG_o rfl) hM_o
  have hG_o := hX9.1 _ _ hG_o
  have hG_bs_o := hX9.1 _ _ hG_bs_o
  have hG_js_o := hX9.1 _ _ hG_js_o
  have hG_sh_o := hX9.1 _ _ hG_sh_o
  have hG_wk_o := hX9.1 _ _ hG_wk_o
  have hG_ll_o := hX9.1 _ _ hG_ll_o
  have hX := hX.tr hX9
  rcases r3 with _ | x3
  · skip
    have vn3 := q3.2.1 rfl
    refine lv_astoreN (lv' := [(6, .null), (0, .ref o), (1, .int wide), (2, .int high), (3, .long p0), (5, .int i0)]) hx hb dX9_switched_6 hl (by decide) rfl (fun ls hl => ?_)
    refine lv_aloadN hx hb dX9_switched_8 (lv_at hl 0 rfl) ?_
    refine lv_ifnullN (tgt := 27) hx hb dX9_switched_10 (by decide) ?_
    refine lv_ldc2 hx hb hown (hts (.constantLong RX9 143 (-1)) (by decide +kernel)) dX9_switched_27 ?_
    refine W.widen (k := 4) (n := 502) (Nat.le_of_ble_eq_true rfl) (Nat.le_of_ble_eq_true rfl) ?_
    exact W.lret (v := (-1 : Int64)) hx hb hr (fun t ht hW => ⟨⟨_, (G3, w3), rfl, ⟨hX, (Or.inr ⟨(fun z9 => by first | exact vn3 z9.1.1 | exact b19 z9.1.2 | omega), rfl⟩)⟩, by show va_P D vwCl w3 t.heap; rw [ht]; exact hP, hD, hT⟩, hS.F ht⟩) hS.2.2 dX9_switched_30
  · skip
    have hG_x3 := q3.1 x3 rfl
    have vb3 := q3.2.2 x3 rfl
    refine lv_astore (lv' := [(6, .ref x3), (0, .ref o), (1, .int wide), (2, .int high), (3, .long p0), (5, .int i0)]) hx hb dX9_switched_6 hl (by decide) rfl (fun ls hl => ?_)
    refine lv_aload hx hb dX9_switched_8 (lv_at hl 0 rfl) ?_
    refine lv_ifnull hx hb dX9_switched_10 ?_
    refine lv_aload hx hb dX9_switched_13 (lv_at hl 0 rfl) ?_
    refine lv_lload_n hx hb dX9_switched_15 rfl (lv_at hl 4 rfl) ?_
    obtain ⟨_, hM_x3, hb_x3, l_x3, f_x3, r_x3, rfl, hG_l_x3, hG_f_x3, hG_r_x3⟩ := hT _ _ hG_x3
    refine t_calli (va_runV (g := F0 m 16 ls ([.long p0, .ref x3])) (As := [.long p0]) (rest := []) ⟨hx, hb, hml, hown, hts⟩ (c_X0_isPicture_x l D cy A G3 w3 x3 p0 hD hT hG_x3 ) (cwV 1 hts gX9_switched_X0_isPicture rfl rfl rfl (by decide +kernel) ⟨Nat.le_of_ble_eq_true rfl, Nat.le_of_ble_eq_true rfl⟩) (c_preV hM_x3 rfl hP hK hA hS hV) rfl rfl hl.1 rfl (lv_room (Nat.le_of_ble_eq_true rfl)) dX9_switched_16 ⟨Nat.le_of_ble_eq_true rfl, Nat.le_of_ble_eq_true rfl⟩) hS (fun r16 u H locs q16 hP9 hD9 hT9 hS => ?_)
    obtain ⟨rfl, q16⟩ := q16
    have hP : va_P D vwCl w3 H := hP9
    refine lv_if_eq (tgt := 27) hx hb dX9_switched_19 (by decide) (fun c19 => ?_) (fun c19 => ?_)
    · skip
      have b19 := bo_f q16 c19
      refine lv_ldc2 hx hb hown (hts (.constantLong RX9 143 (-1)) (by decide +kernel)) dX9_switched_27 ?_
      refine W.widen (k := 4) (n := 502) (Nat.le_of_ble_eq_true rfl) (Nat.le_of_ble_eq_true rfl) ?_
      exact W.lret (v := (-1 : Int64)) hx hb hr (fun t ht hW => ⟨⟨_, (G3, w3), rfl, ⟨hX, (Or.inr ⟨(fun z9 => by first | exact vn3 z9.1.1 | exact b19 z9.1.2 | omega), rfl⟩)⟩, by show va_P D vwCl w3 t.heap; rw [ht]; exact hP, hD, hT⟩, hS.F ht⟩) hS.2.2 dX9_switched_30
    · skip
      have b19 := bo_t q16 c19
      refine lv_iload hx hb dX9_switched_22 (lv_at hl 5 rfl) ?_
      refine lv_if_ge (tgt := 31) hx hb dX9_switched_24 (by decide) (fun c24 => ?_) (fun c24 => ?_)
      · skip
        have d24 := c24
        rw [fa_le] at d24
        have hb9 := c_hb hT hG_x3
        have cf9 := cb_fo hb9
        have icf : (nI (cfo wide.toNatClampNeg high.toNatClampNeg)).toInt = ((cfo wide.toNatClampNeg high.toNatClampNeg) : Int) := nI_toInt (by omega)
        refine lv_iconst (v := 0) hx hb dX9_switched_31 (by decide) ?_
        refine lv_istore (lv' := [(7, .int (0 : Int32)), (6, .ref x3), (0, .ref o), (1, .int wide), (2, .int high), (3, .long p0), (5, .int i0)]) hx hb dX9_switched_32 hl (by decide) rfl (fun ls hl => ?_)
        refine lv_iconst (v := 0) hx hb dX9_switched_34 (by decide) ?_
        refine lv_istore (lv' := [(8, .int (0 : Int32)), (7, .int (0 : Int32)), (6, .ref x3), (0, .ref o), (1, .int wide), (2, .int high), (3, .long p0), (5, .int i0)]) hx hb dX9_switched_35 hl (by decide) rfl (fun ls hl => ?_)
        have loop_37 : ∀ (n : Nat) (i : Nat) (c7 : Nat), (i ≤ (cfo wide.toNatClampNeg high.toNatClampNeg)) → (c7 = bs (swq wide.toNatClampNeg high.toNatClampNeg p0) i) → ((c7 : Int) ≤ i0.toInt) → (cfo wide.toNatClampNeg high.toNatClampNeg) - i < n → ∀ (H : Heap) (locs : List Loc), va_P D vwCl w3 H → va_S A s.heap H locs → ∀ (ls : Array Slot), lv_has ls 11 [(8, .int (nI i)), (7, .int (nI c7)), (6, .ref x3), (0, .ref o), (1, .int wide), (2, .int high), (3, .long p0), (5, .int i0)] → W p l e (headSpec wsX9_switched ({ frames := 5, cells := 4, slots := 502, locals := 116 })).room s m #[Value.ref o, Value.int wide, Value.int high, Value.long p0, Value.int i0] below meth c H locs 4 502 (MQ below (va_Ql (fun r0 u => cX none (chs [1, 8]) G ws u.1 u.2 ∧ (swS wide high p0 i0 r0)) (cB D cy A) A) #[Value.ref o, Value.int wide, Value.int high, Value.long p0, Value.int i0] s 4 502 A) (F0 m 37 ls []) := by
          intro n
          induction n with
          | zero => intro i c7 j37_0 j37_1 j37_2 hn; exact absurd hn (Nat.not_lt_zero _)
          | succ n ih_37 =>
            intro i c7 j37_0 j37_1 j37_2 hn_37 H locs hP hS  ls hl
            have ii : (nI i).toInt = (i : Int) := nI_toInt (by omega)
            refine lv_iload hx hb dX9_switched_37 (lv_at hl 0 rfl) ?_
            refine lv_aload hx hb dX9_switched_39 (lv_at hl 2 rfl) ?_
            refine t_get (v := .int (nI (cfo wide.toNatClampNeg high.toNatClampNeg))) (C := RX0) (T := TX0) (N := 8) hx hb hts (by decide +kernel) hown hK hP hM_x3 rfl 4 (by decide) (hts (.fieldLink RX9 176 "ShadowBench$Board" "fours" "I") (by decide +kernel)) (fun _ h9 => h9) rfl dX9_switched_41 ?_
            have m_fo_x3 := cb_fo hb_x3
            have i_fo_x3 : (nI (cfo wide.toNatClampNeg high.toNatClampNeg)).toInt = _ := nI_toInt (by omega)
            refine lv_icmp_ge (tgt := 83) hx hb dX9_switched_44 (by decide) (fun c44 => ?_) (fun c44 => ?_)
            · skip
              have d44 := c44
              rw [fa_le] at d44
              refine lv_ldc2 hx hb hown (hts (.constantLong RX9 151 (-2)) (by decide +kernel)) dX9_switched_83 ?_
              refine W.widen (k := 4) (n := 502) (Nat.le_of_ble_eq_true rfl) (Nat.le_of_ble_eq_true rfl) ?_
              exact W.lret (v := (-2 : Int64)) hx hb hr (fun t ht hW => ⟨⟨_, (G3, w3), rfl, ⟨hX, (Or.inl ⟨⟨⟨vb3, b19⟩, by omega⟩, Or.inr ⟨(by rw [← show i = (cfo wide.toNatClampNeg high.toNatClampNeg) by omega]; omega), rfl⟩⟩)⟩, by show va_P D vwCl w3 t.heap; rw [ht]; exact hP, hD, hT⟩, hS.F ht⟩) hS.2.2 dX9_switched_86
            · skip
              have d44 := c44
              rw [fa_le] at d44
              refine lv_aload hx hb dX9_switched_47 (lv_at hl 2 rfl) ?_
              refine lv_iload hx hb dX9_switched_49 (lv_at hl 0 rfl) ?_
              refine lv_lload_n hx hb dX9_switched_51 rfl (lv_at hl 6 rfl) ?_
              refine t_calll (va_runV (g := F0 m 52 ls ([.long p0, .int (nI i), .ref x3])) (As := [.int (nI i), .long p0]) (rest := []) ⟨hx, hb, hml, hown, hts⟩ (c_X0_behindFour_x l D cy A G3 w3 x3 i p0 hD hT hG_x3 (by omega)) (cwV 2 hts gX9_switched_X0_behindFour rfl rfl rfl (by decide +kernel) ⟨Nat.le_of_ble_eq_true rfl, Nat.le_of_ble_eq_true rfl⟩) (c_preV hM_x3 rfl hP hK hA hS hV) rfl rfl hl.1 rfl (lv_room (Nat.le_of_ble_eq_true rfl)) dX9_switched_52 ⟨Nat.le_of_ble_eq_true rfl, Nat.le_of_ble_eq_true rfl⟩) hS (fun r52 u H locs q52 hP9 hD9 hT9 hS => ?_)
              obtain ⟨rfl, q52⟩ := q52
              have hP : va_P D vwCl w3 H := hP9
              refine lv_lstore (lv' := [(9, .long r52), (8, .int (nI i)), (7, .int (nI c7)), (6, .ref x3), (0, .ref o), (1, .int wide), (2, .int high), (3, .long p0), (5, .int i0)]) hx hb dX9_switched_55 hl (by decide) rfl (fun ls hl => ?_)
              refine lv_lload hx hb dX9_switched_57 (lv_at hl 0 rfl) ?_
              refine lv_lload_n hx hb dX9_switched_59 rfl (lv_at hl 7 rfl) ?_
              refine W.lcmp hx hb dX9_switched_60 ?_
              have be9 := beh_eq hb9 (show i < (cfo wide.toNatClampNeg high.toNatClampNeg) by omega) q52
              refine lv_if_eq (tgt := 77) hx hb dX9_switched_61 (by decide) (fun c61 => ?_) (fun c61 => ?_)
              · skip
                have d61 := c61
                rw [lg_cmp_eq, fa_eq64] at d61
                refine lv_iinc (v := (nI (i + 1))) (lv' := [(8, .int (nI (i + 1))), (9, .long r52), (7, .int (nI c7)), (6, .ref x3), (0, .ref o), (1, .int wide), (2, .int high), (3, .long p0), (5, .int i0)]) hx hb dX9_switched_77 hl (k := 1) rfl (nI_1 _) (by decide) rfl (fun ls hl => ?_)
                refine lv_goto (tgt := 37) hx hb dX9_switched_80 (by decide) ?_
                exact ih_37 (i + 1) c7 (by omega) (by first | (rw [bs_f (be9.mp ((lg_cmp_eq _ _).mp c61))]; exact j37_1) | (rw [bs_t st9]; omega)) (by first | exact j37_2 | (have z9 : ¬ (nI c7).toInt = i0.toInt := (fun y9 => c68 (Int32.toInt_inj.mp y9)); omega)) (by omega) _ _ hP hS  ls (lv_sub hl [0, 2, 3, 4, 5, 6, 7, 8] rfl)
              · skip
                have d61 := c61
                rw [lg_cmp_eq, fa_eq64] at d61
                have st9 : swq wide.toNatClampNeg high.toNatClampNeg p0 i = true := b_not2 (fun z9 => c61 ((lg_cmp_eq _ _).mpr (be9.mpr z9)))
                have ic7 : (nI c7).toInt = (c7 : Int) := nI_toInt (by have := bs_le (swq wide.toNatClampNeg high.toNatClampNeg p0) i; omega)
                refine lv_iload hx hb dX9_switched_64 (lv_at hl 2 rfl) ?_
                refine lv_iload hx hb dX9_switched_66 (lv_at hl 8 rfl) ?_
                refine lv_icmp_ne (tgt := 74) hx hb dX9_switched_68 (by decide) (fun c68 => ?_) (fun c68 => ?_)
                · skip
                  have d68 := c68
                  rw [fa_eq] at d68
                  refine lv_iinc (v := (nI (c7 + 1))) (lv' := [(7, .int (nI (c7 + 1))), (9, .long r52), (8, .int (nI i)), (6, .ref x3), (0, .ref o), (1, .int wide), (2, .int high), (3, .long p0), (5, .int i0)]) hx hb dX9_switched_74 hl (k := 2) rfl (nI_1 _) (by decide) rfl (fun ls hl => ?_)
                  refine lv_iinc (v := (nI (i + 1))) (lv' := [(8, .int (nI (i + 1))), (7, .int (nI (c7 + 1))), (9, .long r52), (6, .ref x3), (0, .ref o), (1, .int wide), (2, .int high), (3, .long p0), (5, .int i0)]) hx hb dX9_switched_77 hl (k := 2) rfl (nI_1 _) (by decide) rfl (fun ls hl => ?_)
                  refine lv_goto (tgt := 37) hx hb dX9_switched_80 (by decide) ?_
                  exact ih_37 (i + 1) (c7 + 1) (by omega) (by first | (rw [bs_f (be9.mp ((lg_cmp_eq _ _).mp c61))]; exact j37_1) | (rw [bs_t st9]; omega)) (by first | exact j37_2 | (have z9 : ¬ (nI c7).toInt = i0.toInt := (fun y9 => c68 (Int32.toInt_inj.mp y9)); omega)) (by omega) _ _ hP hS  ls (lv_sub hl [0, 1, 3, 4, 5, 6, 7, 8] rfl)
                · skip
                  have d68 := c68
                  rw [fa_eq] at d68
                  have d71 := congrArg Int32.toInt c68
                  refine lv_lload hx hb dX9_switched_71 (lv_at hl 0 rfl) ?_
                  refine W.widen (k := 4) (n := 502) (Nat.le_of_ble_eq_true rfl) (Nat.le_of_ble_eq_true rfl) ?_
                  exact W.lret (v := r52) hx hb hr (fun t ht hW => ⟨⟨_, (G3, w3), rfl, ⟨hX, (Or.inl ⟨⟨⟨vb3, b19⟩, by omega⟩, Or.inl ⟨i, by omega, st9, by omega, (by rw [q52, if_pos st9])⟩⟩)⟩, by show va_P D vwCl w3 t.heap; rw [ht]; exact hP, hD, hT⟩, hS.F ht⟩) hS.2.2 dX9_switched_73
        exact loop_37 ((cfo wide.toNatClampNeg high.toNatClampNeg) + 1) 0 0 (by omega) (rfl) (by omega) (by omega) _ _ hP hS  ls (lv_sub hl [0, 1, 2, 3, 4, 5, 6, 7] rfl)
      · skip
        have d24 := c24
        rw [fa_le] at d24
        refine lv_ldc2 hx hb hown (hts (.constantLong RX9 143 (-1)) (by decide +kernel)) dX9_switched_27 ?_
        refine W.widen (k := 4) (n := 502) (Nat.le_of_ble_eq_true rfl) (Nat.le_of_ble_eq_true rfl) ?_
        exact W.lret (v := (-1 : Int64)) hx hb hr (fun t ht hW => ⟨⟨_, (G3, w3), rfl, ⟨hX, (Or.inr ⟨(fun z9 => by first | exact vn3 z9.1.1 | exact b19 z9.1.2 | omega), rfl⟩)⟩, by show va_P D vwCl w3 t.heap; rw [ht]; exact hP, hD, hT⟩, hS.F ht⟩) hS.2.2 dX9_switched_30

set_option maxHeartbeats 4000000 in
set_option maxRecDepth 100000 in
theorem c_X10_goSwitches_x (l : Launch) (D : va_G) (cy : Nat → ClassId) (mo : Nat) (a : Nat → Nat) (f : Nat → Int32) (g : Nat → Int64) (r : Nat → Nat → Int32) (q : Nat → Nat → Int64) (w : Int32) (h : Int32) (p0 : Int64) (at0 : Int32) (hD : DM cy mo a) (hw : 1 ≤ w.toInt ∧ w.toInt ≤ 6) (hh : 1 ≤ h.toInt ∧ h.toInt ≤ 6) : Mi l D cy mo a yX10_goSwitches wsX10_goSwitches ({ frames := 1, cells := 0, slots := 0, locals := 22 }) f g r q [.int w, .int h, .long p0, .int at0] (fun r0 u => ∃ (bh : Int64), u = (f, (vp_updL g 18 bh), r, q) ∧ (r0 = nI (bs (swq w.toNatClampNeg h.toNatClampNeg p0) (cfo w.toNatClampNeg h.toNatClampNeg)) ∧ swI w.toNatClampNeg h.toNatClampNeg p0 at0.toInt (cfo w.toNatClampNeg h.toNatClampNeg) bh)) := by
  refine Met.ofW (cc := cX10_goSwitches) (maxL := 15) (ret := (some .int)) (by decide) rfl ?_
  intro p e s m args below meth c s₁ B hml hv
  obtain ⟨rfl, hP, hK⟩ := hv
  have hx := B.exec
  have hb := B.bytes
  have hr := B.returns
  have hts := atoms_spec (ws := wsX10_goSwitches) B.pre
  have hin : ∀ w ∈ u_ws RX10 TX10 35, w ∈ wsX10_goSwitches := by decide +kernel
  have hown : s.vm.findClass RX10 = some m.cls := findClass_of_methodNamed B.named
  have hlocks := B.notSynchronized
  have hS : va_S (AM mo a) s.heap s.heap [] := va_S.rf
  have hl := lv_entry ([.ref mo, .int w, .int h, .long p0, .int at0]) (n := 15) (Nat.le_of_ble_eq_true rfl)
  rw [lg_entry_eq]
  generalize (lg_sl ([.ref mo, .int w, .int h, .long p0, .int at0]) ++ List.replicate (15 - (lg_sl ([.ref mo, .int w, .int h, .long p0, .int at0])).length) Slot.unset).toArray = ls at hl ⊢
  have hl : lv_has ls 15 [(0, .ref mo), (1, .int w), (2, .int h), (3, .long p0), (5, .int at0)] := hl
  have k_0 : (0 : Int32).toInt = 0 := by decide
  have k_1 : (1 : Int32).toInt = 1 := by decide
  have k_1L : (1 : Int64).toInt = 1 := by decide
  obtain ⟨ha, hb9, h36, hwn⟩ := wh36 hw hh
  have ew := cl_nI (w := w) (by omega)
  have eh := cl_nI (w := h) (by omega)
  obtain ⟨A9, hA9⟩ : ∃ z, z = w.toNatClampNeg := ⟨_, rfl⟩
  obtain ⟨B9, hB9⟩ : ∃ z, z = h.toNatClampNeg := ⟨_, rfl⟩
  rw [← hA9] at ha h36 hwn ew
  rw [← hB9] at hb9 h36 hwn eh
  have aw : w.toInt = (A9 : Int) := by rw [← ew]; exact nI_toInt (by omega)
  have ah : h.toInt = (B9 : Int) := by rw [← eh]; exact nI_toInt (by omega)
  refine lv_iconst (v := 0) hx hb dX10_goSwitches_0 (by decide) ?_
  refine lv_istore (lv' := [(6, .int (0 : Int32)), (0, .ref mo), (1, .int w), (2, .int h), (3, .long p0), (5, .int at0)]) hx hb dX10_goSwitches_1 hl (by decide) rfl (fun ls hl => ?_)
  refine lv_iconst (v := 0) hx hb dX10_goSwitches_3 (by decide) ?_
  refine lv_istore (lv' := [(7, .int (0 : Int32)), (6, .int (0 : Int32)), (0, .ref mo), (1, .int w), (2, .int h), (3, .long p0), (5, .int at0)]) hx hb dX10_goSwitches_4 hl (by decide) rfl (fun ls hl => ?_)
  have loop_6 : ∀ (n : Nat) (k : Nat) (x6 : Nat) (bh1 : Int64), (k ≤ B9) → (x6 = bs (swq A9 B9 p0) (prS B9 k * (A9 * (A9 - 1) / 2))) → (swI A9 B9 p0 at0.toInt (prS B9 k * (A9 * (A9 - 1) / 2)) bh1) → 6 - k < n → ∀ (H : Heap) (locs : List Loc), va_P D vwCl (WM cy mo a f (vp_updL g 18 bh1) r q) H → va_S (AM mo a) s.heap H locs → ∀ (ls : Array Slot), lv_has ls 15 [(7, .int (nI k)), (6, .int (nI x6)), (0, .ref mo), (1, .int w), (2, .int h), (3, .long p0), (5, .int at0)] → W p l e (headSpec wsX10_goSwitches ({ frames := 1, cells := 0, slots := 0, locals := 22 })).room s m #[Value.ref mo, Value.int w, Value.int h, Value.long p0, Value.int at0] below meth c H locs 0 0 (MQ below (va_Qi (fun r0 u => ∃ (bh : Int64), u = (f, (vp_updL g 18 bh), r, q) ∧ (r0 = nI (bs (swq w.toNatClampNeg h.toNatClampNeg p0) (cfo w.toNatClampNeg h.toNatClampNeg)) ∧ swI w.toNatClampNeg h.toNatClampNeg p0 at0.toInt (cfo w.toNatClampNeg h.toNatClampNeg) bh)) (mB D cy mo a) (AM mo a)) #[Value.ref mo, Value.int w, Value.int h, Value.long p0, Value.int at0] s 0 0 (AM mo a)) (F0 m 6 ls []) := by
    intro n
    induction n with
    | zero => intro k x6 bh1 j6_0 j6_1 j6_2 hn; exact absurd hn (Nat.not_lt_zero _)
    | succ n ih_6 =>
      intro k x6 bh1 j6_0 j6_1 j6_2 hn_6 H locs hP hS ls hl
      have ik : (nI k).toInt = (k : Int) := nI_toInt (by omega)
      refine lv_iload hx hb dX10_goSwitches_6 (lv_at hl 0 rfl) ?_
      refine lv_iload_n hx hb dX10_goSwitches_8 rfl (lv_at hl 4 rfl) ?_
      refine lv_icmp_ge (tgt := 204) hx hb dX10_goSwitches_9 (by decide) (fun c9 => ?_) (fun c9 => ?_)
      · skip
        have d9 := c9
        rw [fa_le] at d9
        refine lv_iload hx hb dX10_goSwitches_204 (lv_at hl 1 rfl) ?_
        exact W.iret (v := (nI x6)) hx hb hr (fun t ht hW => ⟨⟨_, (f, (vp_updL g 18 bh1), r, q), rfl, ⟨bh1, rfl, (by have z9 : (prS B9 k * (A9 * (A9 - 1) / 2)) = cfo A9 B9 := (by have z8 := (prS_0 B9 (by omega) 0 (by omega)).2.2; rw [show k = B9 by omega, z8]; unfold cfo; rw [Nat.mul_comm]); rw [z9] at j6_1 j6_2; rw [← hA9, ← hB9, j6_1]; exact ⟨rfl, j6_2⟩)⟩, by unfold mB; rw [ht]; exact hP⟩, hS.F ht⟩) hS.2.2 dX10_goSwitches_206
      · skip
        have d9 := c9
        rw [fa_le] at d9
        refine lv_iload hx hb dX10_goSwitches_12 (lv_at hl 0 rfl) ?_
        refine lv_iconst (v := 1) hx hb dX10_goSwitches_14 (by decide) ?_
        refine lv_iadd hx hb dX10_goSwitches_15 ?_
        refine lv_topi (fun v15 e15 => ?_)
        obtain rfl : v15 = nI (k + 1) := e15.trans (nI_1 _)
        refine lv_istore (lv' := [(8, .int (nI (k + 1))), (7, .int (nI k)), (6, .int (nI x6)), (0, .ref mo), (1, .int w), (2, .int h), (3, .long p0), (5, .int at0)]) hx hb dX10_goSwitches_16 hl (by decide) rfl (fun ls hl => ?_)
        have loop_18 : ∀ (n : Nat) (k2 : Nat) (y6 : Nat) (bh2 : Int64), (k + 1 ≤ k2 ∧ k2 ≤ B9) → (y6 = bs (swq A9 B9 p0) ((prS B9 k + (k2 - (k + 1))) * (A9 * (A9 - 1) / 2))) → (swI A9 B9 p0 at0.toInt ((prS B9 k + (k2 - (k + 1))) * (A9 * (A9 - 1) / 2)) bh2) → 6 - k2 < n → ∀ (H : Heap) (locs : List Loc), va_P D vwCl (WM cy mo a f (vp_updL g 18 bh2) r q) H → va_S (AM mo a) s.heap H locs → ∀ (ls : Array Slot), lv_has ls 15 [(8, .int (nI k2)), (7, .int (nI k)), (6, .int (nI y6)), (0, .ref mo), (1, .int w), (2, .int h), (3, .long p0), (5, .int at0)] → W p l e (headSpec wsX10_goSwitches ({ frames := 1, cells := 0, slots := 0, locals := 22 })).room s m #[Value.ref mo, Value.int w, Value.int h, Value.long p0, Value.int at0] below meth c H locs 0 0 (MQ below (va_Qi (fun r0 u => ∃ (bh : Int64), u = (f, (vp_updL g 18 bh), r, q) ∧ (r0 = nI (bs (swq w.toNatClampNeg h.toNatClampNeg p0) (cfo w.toNatClampNeg h.toNatClampNeg)) ∧ swI w.toNatClampNeg h.toNatClampNeg p0 at0.toInt (cfo w.toNatClampNeg h.toNatClampNeg) bh)) (mB D cy mo a) (AM mo a)) #[Value.ref mo, Value.int w, Value.int h, Value.long p0, Value.int at0] s 0 0 (AM mo a)) (F0 m 18 ls []) := by
          intro n
          induction n with
          | zero => intro k2 y6 bh2 j18_0 j18_1 j18_2 hn; exact absurd hn (Nat.not_lt_zero _)
          | succ n ih_18 =>
            intro k2 y6 bh2 j18_0 j18_1 j18_2 hn_18 H locs hP hS ls hl
            have ik2 : (nI k2).toInt = (k2 : Int) := nI_toInt (by omega)
            refine lv_iload hx hb dX10_goSwitches_18 (lv_at hl 0 rfl) ?_
            refine lv_iload_n hx hb dX10_goSwitches_20 rfl (lv_at hl 5 rfl) ?_
            refine lv_icmp_ge (tgt := 198) hx hb dX10_goSwitches_21 (by decide) (fun c21 => ?_) (fun c21 => ?_)
            · skip
              have d21 := c21
              rw [fa_le] at d21
              refine lv_iinc (v := (nI (k + 1))) (lv' := [(7, .int (nI (k + 1))), (8, .int (nI k2)), (6, .int (nI y6)), (0, .ref mo), (1, .int w), (2, .int h), (3, .long p0), (5, .int at0)]) hx hb dX10_goSwitches_198 hl (k := 1) rfl (nI_1 _) (by decide) rfl (fun ls hl => ?_)
              refine lv_goto (tgt := 6) hx hb dX10_goSwitches_201 (by decide) ?_
              exact ih_6 (k + 1) y6 bh2 (by omega) (by rw [(prS_0 B9 (by omega) k (by omega)).1, show B9 - (k + 1) = k2 - (k + 1) by omega]; exact j18_1) (by rw [(prS_0 B9 (by omega) k (by omega)).1, show B9 - (k + 1) = k2 - (k + 1) by omega]; exact j18_2) (by omega) _ _ hP hS ls (lv_sub hl [0, 2, 3, 4, 5, 6, 7] rfl)
            · skip
              have d21 := c21
              rw [fa_le] at d21
              refine lv_iconst (v := 0) hx hb dX10_goSwitches_24 (by decide) ?_
              refine lv_istore (lv' := [(9, .int (0 : Int32)), (8, .int (nI k2)), (7, .int (nI k)), (6, .int (nI y6)), (0, .ref mo), (1, .int w), (2, .int h), (3, .long p0), (5, .int at0)]) hx hb dX10_goSwitches_25 hl (by decide) rfl (fun ls hl => ?_)
              have loop_27 : ∀ (n : Nat) (k3 : Nat) (z6 : Nat) (bh3 : Int64), (k3 ≤ A9) → (z6 = bs (swq A9 B9 p0) (prI B9 k k2 * (A9 * (A9 - 1) / 2) + prS A9 k3)) → (swI A9 B9 p0 at0.toInt (prI B9 k k2 * (A9 * (A9 - 1) / 2) + prS A9 k3) bh3) → 6 - k3 < n → ∀ (H : Heap) (locs : List Loc), va_P D vwCl (WM cy mo a f (vp_updL g 18 bh3) r q) H → va_S (AM mo a) s.heap H locs → ∀ (ls : Array Slot), lv_has ls 15 [(9, .int (nI k3)), (8, .int (nI k2)), (7, .int (nI k)), (6, .int (nI z6)), (0, .ref mo), (1, .int w), (2, .int h), (3, .long p0), (5, .int at0)] → W p l e (headSpec wsX10_goSwitches ({ frames := 1, cells := 0, slots := 0, locals := 22 })).room s m #[Value.ref mo, Value.int w, Value.int h, Value.long p0, Value.int at0] below meth c H locs 0 0 (MQ below (va_Qi (fun r0 u => ∃ (bh : Int64), u = (f, (vp_updL g 18 bh), r, q) ∧ (r0 = nI (bs (swq w.toNatClampNeg h.toNatClampNeg p0) (cfo w.toNatClampNeg h.toNatClampNeg)) ∧ swI w.toNatClampNeg h.toNatClampNeg p0 at0.toInt (cfo w.toNatClampNeg h.toNatClampNeg) bh)) (mB D cy mo a) (AM mo a)) #[Value.ref mo, Value.int w, Value.int h, Value.long p0, Value.int at0] s 0 0 (AM mo a)) (F0 m 27 ls []) := by
                intro n
                induction n with
                | zero => intro k3 z6 bh3 j27_0 j27_1 j27_2 hn; exact absurd hn (Nat.not_lt_zero _)
                | succ n ih_27 =>
                  intro k3 z6 bh3 j27_0 j27_1 j27_2 hn_27 H locs hP hS ls hl
                  have ik3 : (nI k3).toInt = (k3 : Int) := nI_toInt (by omega)
                  refine lv_iload hx hb dX10_goSwitches_27 (lv_at hl 0 rfl) ?_
                  refine lv_iload_n hx hb dX10_goSwitches_29 rfl (lv_at hl 5 rfl) ?_
                  refine lv_icmp_ge (tgt := 192) hx hb dX10_goSwitches_30 (by decide) (fun c30 => ?_) (fun c30 => ?_)
                  · skip
                    have d30 := c30
                    rw [fa_le] at d30
                    refine lv_iinc (v := (nI (k2 + 1))) (lv' := [(8, .int (nI (k2 + 1))), (9, .int (nI k3)), (7, .int (nI k)), (6, .int (nI z6)), (0, .ref mo), (1, .int w), (2, .int h), (3, .long p0), (5, .int at0)]) hx hb dX10_goSwitches_192 hl (k := 1) rfl (nI_1 _) (by decide) rfl (fun ls hl => ?_)
                    refine lv_goto (tgt := 18) hx hb dX10_goSwitches_195 (by decide) ?_
                    exact ih_18 (k2 + 1) z6 bh3 (by omega) (by rw [show (prS B9 k + (k2 + 1 - (k + 1))) * (A9 * (A9 - 1) / 2) = prI B9 k k2 * (A9 * (A9 - 1) / 2) + prS A9 k3 by have z8 := (prS_0 A9 (by omega) 0 (by omega)).2.2; rw [show k3 = A9 by omega, z8, ← Nat.succ_mul, show k2 + 1 - (k + 1) = k2 - (k + 1) + 1 by omega]; rfl]; exact j27_1) (by rw [show (prS B9 k + (k2 + 1 - (k + 1))) * (A9 * (A9 - 1) / 2) = prI B9 k k2 * (A9 * (A9 - 1) / 2) + prS A9 k3 by have z8 := (prS_0 A9 (by omega) 0 (by omega)).2.2; rw [show k3 = A9 by omega, z8, ← Nat.succ_mul, show k2 + 1 - (k + 1) = k2 - (k + 1) + 1 by omega]; rfl]; exact j27_2) (by omega) _ _ hP hS ls (lv_sub hl [0, 2, 3, 4, 5, 6, 7, 8] rfl)
                  · skip
                    have d30 := c30
                    rw [fa_le] at d30
                    refine lv_iload hx hb dX10_goSwitches_33 (lv_at hl 0 rfl) ?_
                    refine lv_iconst (v := 1) hx hb dX10_goSwitches_35 (by decide) ?_
                    refine lv_iadd hx hb dX10_goSwitches_36 ?_
                    refine lv_topi (fun v36 e36 => ?_)
                    obtain rfl : v36 = nI (k3 + 1) := e36.trans (nI_1 _)
                    refine lv_istore (lv' := [(10, .int (nI (k3 + 1))), (9, .int (nI k3)), (8, .int (nI k2)), (7, .int (nI k)), (6, .int (nI z6)), (0, .ref mo), (1, .int w), (2, .int h), (3, .long p0), (5, .int at0)]) hx hb dX10_goSwitches_37 hl (by decide) rfl (fun ls hl => ?_)
                    have loop_39 : ∀ (n : Nat) (k4 : Nat) (u6 : Nat) (bh4 : Int64), (k3 + 1 ≤ k4 ∧ k4 ≤ A9) → (u6 = bs (swq A9 B9 p0) (prI B9 k k2 * (A9 * (A9 - 1) / 2) + prS A9 k3 + (k4 - (k3 + 1)))) → (swI A9 B9 p0 at0.toInt (prI B9 k k2 * (A9 * (A9 - 1) / 2) + prS A9 k3 + (k4 - (k3 + 1))) bh4) → 6 - k4 < n → ∀ (H : Heap) (locs : List Loc), va_P D vwCl (WM cy mo a f (vp_updL g 18 bh4) r q) H → va_S (AM mo a) s.heap H locs → ∀ (ls : Array Slot), lv_has ls 15 [(10, .int (nI k4)), (9, .int (nI k3)), (8, .int (nI k2)), (7, .int (nI k)), (6, .int (nI u6)), (0, .ref mo), (1, .int w), (2, .int h), (3, .long p0), (5, .int at0)] → W p l e (headSpec wsX10_goSwitches ({ frames := 1, cells := 0, slots := 0, locals := 22 })).room s m #[Value.ref mo, Value.int w, Value.int h, Value.long p0, Value.int at0] below meth c H locs 0 0 (MQ below (va_Qi (fun r0 u => ∃ (bh : Int64), u = (f, (vp_updL g 18 bh), r, q) ∧ (r0 = nI (bs (swq w.toNatClampNeg h.toNatClampNeg p0) (cfo w.toNatClampNeg h.toNatClampNeg)) ∧ swI w.toNatClampNeg h.toNatClampNeg p0 at0.toInt (cfo w.toNatClampNeg h.toNatClampNeg) bh)) (mB D cy mo a) (AM mo a)) #[Value.ref mo, Value.int w, Value.int h, Value.long p0, Value.int at0] s 0 0 (AM mo a)) (F0 m 39 ls []) := by
                      intro n
                      induction n with
                      | zero => intro k4 u6 bh4 j39_0 j39_1 j39_2 hn; exact absurd hn (Nat.not_lt_zero _)
                      | succ n ih_39 =>
                        intro k4 u6 bh4 j39_0 j39_1 j39_2 hn_39 H locs hP hS ls hl
                        have ik4 : (nI k4).toInt = (k4 : Int) := nI_toInt (by omega)
                        refine lv_iload hx hb dX10_goSwitches_39 (lv_at hl 0 rfl) ?_
                        refine lv_iload_n hx hb dX10_goSwitches_41 rfl (lv_at hl 6 rfl) ?_
                        refine lv_icmp_ge (tgt := 186) hx hb dX10_goSwitches_42 (by decide) (fun c42 => ?_) (fun c42 => ?_)
                        · skip
                          have d42 := c42
                          rw [fa_le] at d42
                          refine lv_iinc (v := (nI (k3 + 1))) (lv' := [(9, .int (nI (k3 + 1))), (10, .int (nI k4)), (8, .int (nI k2)), (7, .int (nI k)), (6, .int (nI u6)), (0, .ref mo), (1, .int w), (2, .int h), (3, .long p0), (5, .int at0)]) hx hb dX10_goSwitches_186 hl (k := 1) rfl (nI_1 _) (by decide) rfl (fun ls hl => ?_)
                          refine lv_goto (tgt := 27) hx hb dX10_goSwitches_189 (by decide) ?_
                          exact ih_27 (k3 + 1) u6 bh4 (by omega) (by rw [(prS_0 A9 (by omega) k3 (by omega)).1, show A9 - (k3 + 1) = k4 - (k3 + 1) by omega, ← Nat.add_assoc]; exact j39_1) (by rw [(prS_0 A9 (by omega) k3 (by omega)).1, show A9 - (k3 + 1) = k4 - (k3 + 1) by omega, ← Nat.add_assoc]; exact j39_2) (by omega) _ _ hP hS ls (lv_sub hl [0, 2, 3, 4, 5, 6, 7, 8, 9] rfl)
                        · skip
                          have d42 := c42
                          rw [fa_le] at d42
                          have ei9 : (prI B9 k k2 * (A9 * (A9 - 1) / 2) + prS A9 k3 + (k4 - (k3 + 1))) = (prI B9 k k2 * (A9 * (A9 - 1) / 2) + prI A9 k3 k4) := by unfold prI; omega
                          have at9 := swq_at (w := A9) (h := B9) (p := p0) (y := k) (v := k2) (x := k3) (u := k4) (by omega) (by omega) (by omega) (by omega) (by omega) (by omega)
                          have cf9 := cb_fo (w := A9) (h := B9) (by omega)
                          have lt9 := fo_lt (w := A9) (h := B9) (y := k) (v := k2) (x := k3) (u := k4) (by omega) (by omega) (by omega) (by omega) (by omega) (by omega)
                          have bl9 := bs_le (swq A9 B9 p0) (prI B9 k k2 * (A9 * (A9 - 1) / 2) + prS A9 k3 + (k4 - (k3 + 1)))
                          have ic6 : (nI u6).toInt = (u6 : Int) := nI_toInt (by rw [← j39_1] at bl9; omega)
                          refine lv_lload_n hx hb dX10_goSwitches_45 rfl (lv_at hl 8 rfl) ?_
                          refine lv_iload hx hb dX10_goSwitches_46 (lv_at hl 3 rfl) ?_
                          refine lv_iload_n hx hb dX10_goSwitches_48 rfl (lv_at hl 6 rfl) ?_
                          refine lv_imul hx hb dX10_goSwitches_49 ?_
                          refine lv_topi (fun v49 e49 => ?_)
                          refine lv_iload hx hb dX10_goSwitches_50 (lv_at hl 1 rfl) ?_
                          refine lv_iadd hx hb dX10_goSwitches_52 ?_
                          refine lv_topi (fun v52 e52 => ?_)
                          refine m_pu (As := [.long p0, .int v52]) (rest := []) ⟨hx, hb, hml, hown, hts⟩ (c_X10_one l p0 v52 ) (va_cwS 2 hts gX10_goSwitches_X10_one rfl rfl rfl (by decide +kernel) ⟨Nat.le_of_ble_eq_true rfl, Nat.le_of_ble_eq_true rfl⟩) hP rfl hl.1 rfl (Nat.le_of_ble_eq_true rfl) dX10_goSwitches_53 ⟨Nat.le_of_ble_eq_true rfl, Nat.le_of_ble_eq_true rfl⟩ hS (fun r53 H locs q53 hP hS => ?_)
                          have i53 : r53.toInt = (r_one p0 v52).toInt := congrArg Int32.toInt q53
                          refine lv_istore (lv' := [(11, .int r53), (10, .int (nI k4)), (9, .int (nI k3)), (8, .int (nI k2)), (7, .int (nI k)), (6, .int (nI u6)), (0, .ref mo), (1, .int w), (2, .int h), (3, .long p0), (5, .int at0)]) hx hb dX10_goSwitches_56 hl (by decide) rfl (fun ls hl => ?_)
                          refine lv_lload_n hx hb dX10_goSwitches_58 rfl (lv_at hl 9 rfl) ?_
                          refine lv_iload hx hb dX10_goSwitches_59 (lv_at hl 3 rfl) ?_
                          refine lv_iload_n hx hb dX10_goSwitches_61 rfl (lv_at hl 7 rfl) ?_
                          refine lv_imul hx hb dX10_goSwitches_62 ?_
                          refine lv_topi (fun v62 e62 => ?_)
                          refine lv_iload hx hb dX10_goSwitches_63 (lv_at hl 1 rfl) ?_
                          refine lv_iadd hx hb dX10_goSwitches_65 ?_
                          refine lv_topi (fun v65 e65 => ?_)
                          refine m_pu (As := [.long p0, .int v65]) (rest := []) ⟨hx, hb, hml, hown, hts⟩ (c_X10_one l p0 v65 ) (va_cwS 2 hts gX10_goSwitches_X10_one rfl rfl rfl (by decide +kernel) ⟨Nat.le_of_ble_eq_true rfl, Nat.le_of_ble_eq_true rfl⟩) hP rfl hl.1 rfl (Nat.le_of_ble_eq_true rfl) dX10_goSwitches_66 ⟨Nat.le_of_ble_eq_true rfl, Nat.le_of_ble_eq_true rfl⟩ hS (fun r66 H locs q66 hP hS => ?_)
                          have i66 : r66.toInt = (r_one p0 v65).toInt := congrArg Int32.toInt q66
                          refine lv_istore (lv' := [(12, .int r66), (11, .int r53), (10, .int (nI k4)), (9, .int (nI k3)), (8, .int (nI k2)), (7, .int (nI k)), (6, .int (nI u6)), (0, .ref mo), (1, .int w), (2, .int h), (3, .long p0), (5, .int at0)]) hx hb dX10_goSwitches_69 hl (by decide) rfl (fun ls hl => ?_)
                          refine lv_lload_n hx hb dX10_goSwitches_71 rfl (lv_at hl 10 rfl) ?_
                          refine lv_iload hx hb dX10_goSwitches_72 (lv_at hl 5 rfl) ?_
                          refine lv_iload_n hx hb dX10_goSwitches_74 rfl (lv_at hl 8 rfl) ?_
                          refine lv_imul hx hb dX10_goSwitches_75 ?_
                          refine lv_topi (fun v75 e75 => ?_)
                          refine lv_iload hx hb dX10_goSwitches_76 (lv_at hl 2 rfl) ?_
                          refine lv_iadd hx hb dX10_goSwitches_78 ?_
                          refine lv_topi (fun v78 e78 => ?_)
                          refine m_pu (As := [.long p0, .int v78]) (rest := []) ⟨hx, hb, hml, hown, hts⟩ (c_X10_one l p0 v78 ) (va_cwS 2 hts gX10_goSwitches_X10_one rfl rfl rfl (by decide +kernel) ⟨Nat.le_of_ble_eq_true rfl, Nat.le_of_ble_eq_true rfl⟩) hP rfl hl.1 rfl (Nat.le_of_ble_eq_true rfl) dX10_goSwitches_79 ⟨Nat.le_of_ble_eq_true rfl, Nat.le_of_ble_eq_true rfl⟩ hS (fun r79 H locs q79 hP hS => ?_)
                          have i79 : r79.toInt = (r_one p0 v78).toInt := congrArg Int32.toInt q79
                          refine lv_istore (lv' := [(13, .int r79), (12, .int r66), (11, .int r53), (10, .int (nI k4)), (9, .int (nI k3)), (8, .int (nI k2)), (7, .int (nI k)), (6, .int (nI u6)), (0, .ref mo), (1, .int w), (2, .int h), (3, .long p0), (5, .int at0)]) hx hb dX10_goSwitches_82 hl (by decide) rfl (fun ls hl => ?_)
                          refine lv_lload_n hx hb dX10_goSwitches_84 rfl (lv_at hl 11 rfl) ?_
                          refine lv_iload hx hb dX10_goSwitches_85 (lv_at hl 5 rfl) ?_
                          refine lv_iload_n hx hb dX10_goSwitches_87 rfl (lv_at hl 9 rfl) ?_
                          refine lv_imul hx hb dX10_goSwitches_88 ?_
                          refine lv_topi (fun v88 e88 => ?_)
                          refine lv_iload hx hb dX10_goSwitches_89 (lv_at hl 4 rfl) ?_
                          refine lv_iadd hx hb dX10_goSwitches_91 ?_
                          refine lv_topi (fun v91 e91 => ?_)
                          refine m_pu (As := [.long p0, .int v91]) (rest := []) ⟨hx, hb, hml, hown, hts⟩ (c_X10_one l p0 v91 ) (va_cwS 2 hts gX10_goSwitches_X10_one rfl rfl rfl (by decide +kernel) ⟨Nat.le_of_ble_eq_true rfl, Nat.le_of_ble_eq_true rfl⟩) hP rfl hl.1 rfl (Nat.le_of_ble_eq_true rfl) dX10_goSwitches_92 ⟨Nat.le_of_ble_eq_true rfl, Nat.le_of_ble_eq_true rfl⟩ hS (fun r92 H locs q92 hP hS => ?_)
                          have i92 : r92.toInt = (r_one p0 v91).toInt := congrArg Int32.toInt q92
                          refine lv_istore (lv' := [(14, .int r92), (13, .int r79), (12, .int r66), (11, .int r53), (10, .int (nI k4)), (9, .int (nI k3)), (8, .int (nI k2)), (7, .int (nI k)), (6, .int (nI u6)), (0, .ref mo), (1, .int w), (2, .int h), (3, .long p0), (5, .int at0)]) hx hb dX10_goSwitches_95 hl (by decide) rfl (fun ls hl => ?_)
                          have f53 : r53 = if lb p0 (k * A9 + k3) then 1 else 0 := by
                            have hkm : k * A9 ≤ 6 * 6 := Nat.mul_le_mul (by omega) (by omega)
                            rw [q53, e52, e49, ← ew, pk_mul, nI_add]
                            exact one_lb p0 (by omega)
                          have f66 : r66 = if lb p0 (k2 * A9 + k4) then 1 else 0 := by
                            have hkm : k2 * A9 ≤ 6 * 6 := Nat.mul_le_mul (by omega) (by omega)
                            rw [q66, e65, e62, ← ew, pk_mul, nI_add]
                            exact one_lb p0 (by omega)
                          have f79 : r79 = if lb p0 (k * A9 + k4) then 1 else 0 := by
                            have hkm : k * A9 ≤ 6 * 6 := Nat.mul_le_mul (by omega) (by omega)
                            rw [q79, e78, e75, ← ew, pk_mul, nI_add]
                            exact one_lb p0 (by omega)
                          have f92 : r92 = if lb p0 (k2 * A9 + k3) then 1 else 0 := by
                            have hkm : k2 * A9 ≤ 6 * 6 := Nat.mul_le_mul (by omega) (by omega)
                            rw [q92, e91, e88, ← ew, pk_mul, nI_add]
                            exact one_lb p0 (by omega)
                          have sy9 := sw_yes f53 f66 f79 f92
                          refine lv_iload hx hb dX10_goSwitches_97 (lv_at hl 3 rfl) ?_
                          refine lv_iload hx hb dX10_goSwitches_99 (lv_at hl 2 rfl) ?_
                          refine lv_icmp_ne (tgt := 180) hx hb dX10_goSwitches_101 (by decide) (fun c101 => ?_) (fun c101 => ?_)
                          · skip
                            have d101 := c101
                            rw [fa_eq] at d101
                            first | have st9 : swq A9 B9 p0 (prI B9 k k2 * (A9 * (A9 - 1) / 2) + prS A9 k3 + (k4 - (k3 + 1))) = true := st9 | have st9 : swq A9 B9 p0 (prI B9 k k2 * (A9 * (A9 - 1) / 2) + prS A9 k3 + (k4 - (k3 + 1))) = false := b_not (by rw [ei9, at9.1]; exact fun z9 => c101 (sy9.mpr z9).1) | have st9 : swq A9 B9 p0 (prI B9 k k2 * (A9 * (A9 - 1) / 2) + prS A9 k3 + (k4 - (k3 + 1))) = false := b_not (by rw [ei9, at9.1]; exact fun z9 => c108 (sy9.mpr z9).2.1) | have st9 : swq A9 B9 p0 (prI B9 k k2 * (A9 * (A9 - 1) / 2) + prS A9 k3 + (k4 - (k3 + 1))) = false := b_not (by rw [ei9, at9.1]; exact fun z9 => (sy9.mpr z9).2.2 c115)
                            refine lv_iinc (v := (nI (k4 + 1))) (lv' := [(10, .int (nI (k4 + 1))), (14, .int r92), (13, .int r79), (12, .int r66), (11, .int r53), (9, .int (nI k3)), (8, .int (nI k2)), (7, .int (nI k)), (6, .int (nI u6)), (0, .ref mo), (1, .int w), (2, .int h), (3, .long p0), (5, .int at0)]) hx hb dX10_goSwitches_180 hl (k := 4) rfl (nI_1 _) (by decide) rfl (fun ls hl => ?_)
                            refine lv_goto (tgt := 39) hx hb dX10_goSwitches_183 (by decide) ?_
                            exact ih_39 (k4 + 1) u6 bh4 (by omega) (by rw [show k4 + 1 - (k3 + 1) = k4 - (k3 + 1) + 1 by omega, ← Nat.add_assoc]; first | (rw [bs_t st9]; omega) | (rw [bs_f st9]; exact j39_1)) (by rw [show k4 + 1 - (k3 + 1) = k4 - (k3 + 1) + 1 by omega, ← Nat.add_assoc]; first | exact swI_f j39_2 st9 | exact swI_n st9 (by rw [← j39_1, ← ic6, c123]) f166 | exact swI_t j39_2 st9 (by rw [← j39_1, ← ic6]; exact fun z9 => c123 (Int32.toInt_inj.mp z9))) (by omega) _ _ hP hS ls (lv_sub hl [0, 5, 6, 7, 8, 9, 10, 11, 12, 13] rfl)
                          · skip
                            have d101 := c101
                            rw [fa_eq] at d101
                            refine lv_iload hx hb dX10_goSwitches_104 (lv_at hl 1 rfl) ?_
                            refine lv_iload hx hb dX10_goSwitches_106 (lv_at hl 0 rfl) ?_
                            refine lv_icmp_ne (tgt := 180) hx hb dX10_goSwitches_108 (by decide) (fun c108 => ?_) (fun c108 => ?_)
                            · skip
                              have d108 := c108
                              rw [fa_eq] at d108
                              first | have st9 : swq A9 B9 p0 (prI B9 k k2 * (A9 * (A9 - 1) / 2) + prS A9 k3 + (k4 - (k3 + 1))) = true := st9 | have st9 : swq A9 B9 p0 (prI B9 k k2 * (A9 * (A9 - 1) / 2) + prS A9 k3 + (k4 - (k3 + 1))) = false := b_not (by rw [ei9, at9.1]; exact fun z9 => c101 (sy9.mpr z9).1) | have st9 : swq A9 B9 p0 (prI B9 k k2 * (A9 * (A9 - 1) / 2) + prS A9 k3 + (k4 - (k3 + 1))) = false := b_not (by rw [ei9, at9.1]; exact fun z9 => c108 (sy9.mpr z9).2.1) | have st9 : swq A9 B9 p0 (prI B9 k k2 * (A9 * (A9 - 1) / 2) + prS A9 k3 + (k4 - (k3 + 1))) = false := b_not (by rw [ei9, at9.1]; exact fun z9 => (sy9.mpr z9).2.2 c115)
                              refine lv_iinc (v := (nI (k4 + 1))) (lv' := [(10, .int (nI (k4 + 1))), (14, .int r92), (13, .int r79), (12, .int r66), (11, .int r53), (9, .int (nI k3)), (8, .int (nI k2)), (7, .int (nI k)), (6, .int (nI u6)), (0, .ref mo), (1, .int w), (2, .int h), (3, .long p0), (5, .int at0)]) hx hb dX10_goSwitches_180 hl (k := 4) rfl (nI_1 _) (by decide) rfl (fun ls hl => ?_)
                              refine lv_goto (tgt := 39) hx hb dX10_goSwitches_183 (by decide) ?_
                              exact ih_39 (k4 + 1) u6 bh4 (by omega) (by rw [show k4 + 1 - (k3 + 1) = k4 - (k3 + 1) + 1 by omega, ← Nat.add_assoc]; first | (rw [bs_t st9]; omega) | (rw [bs_f st9]; exact j39_1)) (by rw [show k4 + 1 - (k3 + 1) = k4 - (k3 + 1) + 1 by omega, ← Nat.add_assoc]; first | exact swI_f j39_2 st9 | exact swI_n st9 (by rw [← j39_1, ← ic6, c123]) f166 | exact swI_t j39_2 st9 (by rw [← j39_1, ← ic6]; exact fun z9 => c123 (Int32.toInt_inj.mp z9))) (by omega) _ _ hP hS ls (lv_sub hl [0, 5, 6, 7, 8, 9, 10, 11, 12, 13] rfl)
                            · skip
                              have d108 := c108
                              rw [fa_eq] at d108
                              refine lv_iload hx hb dX10_goSwitches_111 (lv_at hl 3 rfl) ?_
                              refine lv_iload hx hb dX10_goSwitches_113 (lv_at hl 1 rfl) ?_
                              refine lv_icmp_eq (tgt := 180) hx hb dX10_goSwitches_115 (by decide) (fun c115 => ?_) (fun c115 => ?_)
                              · skip
                                have d115 := c115
                                rw [fa_eq] at d115
                                first | have st9 : swq A9 B9 p0 (prI B9 k k2 * (A9 * (A9 - 1) / 2) + prS A9 k3 + (k4 - (k3 + 1))) = true := st9 | have st9 : swq A9 B9 p0 (prI B9 k k2 * (A9 * (A9 - 1) / 2) + prS A9 k3 + (k4 - (k3 + 1))) = false := b_not (by rw [ei9, at9.1]; exact fun z9 => c101 (sy9.mpr z9).1) | have st9 : swq A9 B9 p0 (prI B9 k k2 * (A9 * (A9 - 1) / 2) + prS A9 k3 + (k4 - (k3 + 1))) = false := b_not (by rw [ei9, at9.1]; exact fun z9 => c108 (sy9.mpr z9).2.1) | have st9 : swq A9 B9 p0 (prI B9 k k2 * (A9 * (A9 - 1) / 2) + prS A9 k3 + (k4 - (k3 + 1))) = false := b_not (by rw [ei9, at9.1]; exact fun z9 => (sy9.mpr z9).2.2 c115)
                                refine lv_iinc (v := (nI (k4 + 1))) (lv' := [(10, .int (nI (k4 + 1))), (14, .int r92), (13, .int r79), (12, .int r66), (11, .int r53), (9, .int (nI k3)), (8, .int (nI k2)), (7, .int (nI k)), (6, .int (nI u6)), (0, .ref mo), (1, .int w), (2, .int h), (3, .long p0), (5, .int at0)]) hx hb dX10_goSwitches_180 hl (k := 4) rfl (nI_1 _) (by decide) rfl (fun ls hl => ?_)
                                refine lv_goto (tgt := 39) hx hb dX10_goSwitches_183 (by decide) ?_
                                exact ih_39 (k4 + 1) u6 bh4 (by omega) (by rw [show k4 + 1 - (k3 + 1) = k4 - (k3 + 1) + 1 by omega, ← Nat.add_assoc]; first | (rw [bs_t st9]; omega) | (rw [bs_f st9]; exact j39_1)) (by rw [show k4 + 1 - (k3 + 1) = k4 - (k3 + 1) + 1 by omega, ← Nat.add_assoc]; first | exact swI_f j39_2 st9 | exact swI_n st9 (by rw [← j39_1, ← ic6, c123]) f166 | exact swI_t j39_2 st9 (by rw [← j39_1, ← ic6]; exact fun z9 => c123 (Int32.toInt_inj.mp z9))) (by omega) _ _ hP hS ls (lv_sub hl [0, 5, 6, 7, 8, 9, 10, 11, 12, 13] rfl)
                              · skip
                                have d115 := c115
                                rw [fa_eq] at d115
                                have st9 : swq A9 B9 p0 (prI B9 k k2 * (A9 * (A9 - 1) / 2) + prS A9 k3 + (k4 - (k3 + 1))) = true := by rw [ei9, at9.1]; exact sy9.mp ⟨c101, c108, c115⟩
                                refine lv_aload_n hx hb dX10_goSwitches_118 rfl (lv_at hl 9 rfl) ?_
                                refine lv_iload hx hb dX10_goSwitches_119 (lv_at hl 8 rfl) ?_
                                refine lv_iload hx hb dX10_goSwitches_121 (lv_at hl 13 rfl) ?_
                                refine lv_icmp_ne (tgt := 170) hx hb dX10_goSwitches_123 (by decide) (fun c123 => ?_) (fun c123 => ?_)
                                · skip
                                  have d123 := c123
                                  rw [fa_eq] at d123
                                  refine lv_aload_n hx hb dX10_goSwitches_170 rfl (lv_at hl 9 rfl) ?_
                                  refine m_get (v := .long bh4) hx hb hts hin hown hK hP 18 (by decide) rfl (hts (.fieldLink RX10 201 "ShadowBenchModel" "behind" "J") (by decide +kernel)) rfl dX10_goSwitches_171 ?_
                                  refine m_put (v := .long bh4) (ty := .long) hx hb hts hin hown hK hP hD hS 18 (by decide) rfl (hts (.fieldLink RX10 201 "ShadowBenchModel" "behind" "J") (by decide +kernel)) rfl (by decide +kernel) rfl rfl f (vp_updL g 18 bh4) rfl dX10_goSwitches_174 (fun H locs hP hS => ?_)
                                  refine lv_iinc (v := (nI (u6 + 1))) (lv' := [(6, .int (nI (u6 + 1))), (14, .int r92), (13, .int r79), (12, .int r66), (11, .int r53), (10, .int (nI k4)), (9, .int (nI k3)), (8, .int (nI k2)), (7, .int (nI k)), (0, .ref mo), (1, .int w), (2, .int h), (3, .long p0), (5, .int at0)]) hx hb dX10_goSwitches_177 hl (k := 8) rfl (nI_1 _) (by decide) rfl (fun ls hl => ?_)
                                  first | have st9 : swq A9 B9 p0 (prI B9 k k2 * (A9 * (A9 - 1) / 2) + prS A9 k3 + (k4 - (k3 + 1))) = true := st9 | have st9 : swq A9 B9 p0 (prI B9 k k2 * (A9 * (A9 - 1) / 2) + prS A9 k3 + (k4 - (k3 + 1))) = false := b_not (by rw [ei9, at9.1]; exact fun z9 => c101 (sy9.mpr z9).1) | have st9 : swq A9 B9 p0 (prI B9 k k2 * (A9 * (A9 - 1) / 2) + prS A9 k3 + (k4 - (k3 + 1))) = false := b_not (by rw [ei9, at9.1]; exact fun z9 => c108 (sy9.mpr z9).2.1) | have st9 : swq A9 B9 p0 (prI B9 k k2 * (A9 * (A9 - 1) / 2) + prS A9 k3 + (k4 - (k3 + 1))) = false := b_not (by rw [ei9, at9.1]; exact fun z9 => (sy9.mpr z9).2.2 c115)
                                  refine lv_iinc (v := (nI (k4 + 1))) (lv' := [(10, .int (nI (k4 + 1))), (6, .int (nI (u6 + 1))), (14, .int r92), (13, .int r79), (12, .int r66), (11, .int r53), (9, .int (nI k3)), (8, .int (nI k2)), (7, .int (nI k)), (0, .ref mo), (1, .int w), (2, .int h), (3, .long p0), (5, .int at0)]) hx hb dX10_goSwitches_180 hl (k := 5) rfl (nI_1 _) (by decide) rfl (fun ls hl => ?_)
                                  refine lv_goto (tgt := 39) hx hb dX10_goSwitches_183 (by decide) ?_
                                  exact ih_39 (k4 + 1) (u6 + 1) bh4 (by omega) (by rw [show k4 + 1 - (k3 + 1) = k4 - (k3 + 1) + 1 by omega, ← Nat.add_assoc]; first | (rw [bs_t st9]; omega) | (rw [bs_f st9]; exact j39_1)) (by rw [show k4 + 1 - (k3 + 1) = k4 - (k3 + 1) + 1 by omega, ← Nat.add_assoc]; first | exact swI_f j39_2 st9 | exact swI_n st9 (by rw [← j39_1, ← ic6, c123]) f166 | exact swI_t j39_2 st9 (by rw [← j39_1, ← ic6]; exact fun z9 => c123 (Int32.toInt_inj.mp z9))) (by omega) _ _ hP hS ls (lv_sub hl [0, 6, 7, 8, 1, 9, 10, 11, 12, 13] rfl)
                                · skip
                                  have d123 := c123
                                  rw [fa_eq] at d123
                                  refine lv_lload_n hx hb dX10_goSwitches_126 rfl (lv_at hl 12 rfl) ?_
                                  refine lv_lconst (v := 1) hx hb dX10_goSwitches_127 (by decide) ?_
                                  refine lv_iload hx hb dX10_goSwitches_128 (lv_at hl 7 rfl) ?_
                                  refine lv_iload_n hx hb dX10_goSwitches_130 rfl (lv_at hl 10 rfl) ?_
                                  refine lv_imul hx hb dX10_goSwitches_131 ?_
                                  refine lv_topi (fun v131 e131 => ?_)
                                  refine lv_iload hx hb dX10_goSwitches_132 (lv_at hl 5 rfl) ?_
                                  refine lv_iadd hx hb dX10_goSwitches_134 ?_
                                  refine lv_topi (fun v134 e134 => ?_)
                                  refine lv_lshl (v := (1 : Int64) <<< (v134.toInt64 &&& 63)) hx hb dX10_goSwitches_135 rfl ?_
                                  refine lv_lxor hx hb dX10_goSwitches_136 ?_
                                  refine lv_topl (fun v136 e136 => ?_)
                                  refine lv_lconst (v := 1) hx hb dX10_goSwitches_137 (by decide) ?_
                                  refine lv_iload hx hb dX10_goSwitches_138 (lv_at hl 6 rfl) ?_
                                  refine lv_iload_n hx hb dX10_goSwitches_140 rfl (lv_at hl 10 rfl) ?_
                                  refine lv_imul hx hb dX10_goSwitches_141 ?_
                                  refine lv_topi (fun v141 e141 => ?_)
                                  refine lv_iload hx hb dX10_goSwitches_142 (lv_at hl 4 rfl) ?_
                                  refine lv_iadd hx hb dX10_goSwitches_144 ?_
                                  refine lv_topi (fun v144 e144 => ?_)
                                  refine lv_lshl (v := (1 : Int64) <<< (v144.toInt64 &&& 63)) hx hb dX10_goSwitches_145 rfl ?_
                                  refine lv_lxor hx hb dX10_goSwitches_146 ?_
                                  refine lv_topl (fun v146 e146 => ?_)
                                  refine lv_lconst (v := 1) hx hb dX10_goSwitches_147 (by decide) ?_
                                  refine lv_iload hx hb dX10_goSwitches_148 (lv_at hl 7 rfl) ?_
                                  refine lv_iload_n hx hb dX10_goSwitches_150 rfl (lv_at hl 10 rfl) ?_
                                  refine lv_imul hx hb dX10_goSwitches_151 ?_
                                  refine lv_topi (fun v151 e151 => ?_)
                                  refine lv_iload hx hb dX10_goSwitches_152 (lv_at hl 4 rfl) ?_
                                  refine lv_iadd hx hb dX10_goSwitches_154 ?_
                                  refine lv_topi (fun v154 e154 => ?_)
                                  refine lv_lshl (v := (1 : Int64) <<< (v154.toInt64 &&& 63)) hx hb dX10_goSwitches_155 rfl ?_
                                  refine lv_lxor hx hb dX10_goSwitches_156 ?_
                                  refine lv_topl (fun v156 e156 => ?_)
                                  refine lv_lconst (v := 1) hx hb dX10_goSwitches_157 (by decide) ?_
                                  refine lv_iload hx hb dX10_goSwitches_158 (lv_at hl 6 rfl) ?_
                                  refine lv_iload_n hx hb dX10_goSwitches_160 rfl (lv_at hl 10 rfl) ?_
                                  refine lv_imul hx hb dX10_goSwitches_161 ?_
                                  refine lv_topi (fun v161 e161 => ?_)
                                  refine lv_iload hx hb dX10_goSwitches_162 (lv_at hl 5 rfl) ?_
                                  refine lv_iadd hx hb dX10_goSwitches_164 ?_
                                  refine lv_topi (fun v164 e164 => ?_)
                                  refine lv_lshl (v := (1 : Int64) <<< (v164.toInt64 &&& 63)) hx hb dX10_goSwitches_165 rfl ?_
                                  refine lv_lxor hx hb dX10_goSwitches_166 ?_
                                  refine lv_topl (fun v166 e166 => ?_)
                                  have f166 : v166 = swx A9 B9 p0 (prI B9 k k2 * (A9 * (A9 - 1) / 2) + prS A9 k3 + (k4 - (k3 + 1))) := by
                                    rw [ei9, at9.2, e166, e164, e161, e156, e154, e151, e146, e144, e141, e136, e134, e131, ← ew]
                                    simp only [pk_mul, nI_add]
                                    rfl
                                  refine lv_goto (tgt := 174) hx hb dX10_goSwitches_167 (by decide) ?_
                                  refine m_put (v := .long v166) (ty := .long) hx hb hts hin hown hK hP hD hS 18 (by decide) rfl (hts (.fieldLink RX10 201 "ShadowBenchModel" "behind" "J") (by decide +kernel)) rfl (by decide +kernel) rfl rfl f (vp_updL g 18 v166) rfl dX10_goSwitches_174 (fun H locs hP hS => ?_)
                                  refine lv_iinc (v := (nI (u6 + 1))) (lv' := [(6, .int (nI (u6 + 1))), (14, .int r92), (13, .int r79), (12, .int r66), (11, .int r53), (10, .int (nI k4)), (9, .int (nI k3)), (8, .int (nI k2)), (7, .int (nI k)), (0, .ref mo), (1, .int w), (2, .int h), (3, .long p0), (5, .int at0)]) hx hb dX10_goSwitches_177 hl (k := 8) rfl (nI_1 _) (by decide) rfl (fun ls hl => ?_)
                                  first | have st9 : swq A9 B9 p0 (prI B9 k k2 * (A9 * (A9 - 1) / 2) + prS A9 k3 + (k4 - (k3 + 1))) = true := st9 | have st9 : swq A9 B9 p0 (prI B9 k k2 * (A9 * (A9 - 1) / 2) + prS A9 k3 + (k4 - (k3 + 1))) = false := b_not (by rw [ei9, at9.1]; exact fun z9 => c101 (sy9.mpr z9).1) | have st9 : swq A9 B9 p0 (prI B9 k k2 * (A9 * (A9 - 1) / 2) + prS A9 k3 + (k4 - (k3 + 1))) = false := b_not (by rw [ei9, at9.1]; exact fun z9 => c108 (sy9.mpr z9).2.1) | have st9 : swq A9 B9 p0 (prI B9 k k2 * (A9 * (A9 - 1) / 2) + prS A9 k3 + (k4 - (k3 + 1))) = false := b_not (by rw [ei9, at9.1]; exact fun z9 => (sy9.mpr z9).2.2 c115)
                                  refine lv_iinc (v := (nI (k4 + 1))) (lv' := [(10, .int (nI (k4 + 1))), (6, .int (nI (u6 + 1))), (14, .int r92), (13, .int r79), (12, .int r66), (11, .int r53), (9, .int (nI k3)), (8, .int (nI k2)), (7, .int (nI k)), (0, .ref mo), (1, .int w), (2, .int h), (3, .long p0), (5, .int at0)]) hx hb dX10_goSwitches_180 hl (k := 5) rfl (nI_1 _) (by decide) rfl (fun ls hl => ?_)
                                  refine lv_goto (tgt := 39) hx hb dX10_goSwitches_183 (by decide) ?_
                                  exact ih_39 (k4 + 1) (u6 + 1) v166 (by omega) (by rw [show k4 + 1 - (k3 + 1) = k4 - (k3 + 1) + 1 by omega, ← Nat.add_assoc]; first | (rw [bs_t st9]; omega) | (rw [bs_f st9]; exact j39_1)) (by rw [show k4 + 1 - (k3 + 1) = k4 - (k3 + 1) + 1 by omega, ← Nat.add_assoc]; first | exact swI_f j39_2 st9 | exact swI_n st9 (by rw [← j39_1, ← ic6, c123]) f166 | exact swI_t j39_2 st9 (by rw [← j39_1, ← ic6]; exact fun z9 => c123 (Int32.toInt_inj.mp z9))) (by omega) _ _ hP hS ls (lv_sub hl [0, 6, 7, 8, 1, 9, 10, 11, 12, 13] rfl)
                    exact loop_39 (6 + 1) (k3 + 1) z6 bh3 (by omega) (by rw [Nat.sub_self, Nat.add_zero]; exact j27_1) (by rw [Nat.sub_self, Nat.add_zero]; exact j27_2) (by omega) _ _ hP hS ls (lv_sub hl [0, 1, 2, 3, 4, 5, 6, 7, 8, 9] rfl)
              exact loop_27 (6 + 1) 0 y6 bh2 (by omega) (by rw [(prS_0 A9 (by omega) 0 (by omega)).2.1, Nat.add_zero]; exact j18_1) (by rw [(prS_0 A9 (by omega) 0 (by omega)).2.1, Nat.add_zero]; exact j18_2) (by omega) _ _ hP hS ls (lv_sub hl [0, 1, 2, 3, 4, 5, 6, 7, 8] rfl)
        exact loop_18 (6 + 1) (k + 1) x6 bh1 (by omega) (by rw [Nat.sub_self, Nat.add_zero]; exact j6_1) (by rw [Nat.sub_self, Nat.add_zero]; exact j6_2) (by omega) _ _ hP hS ls (lv_sub hl [0, 1, 2, 3, 4, 5, 6, 7] rfl)
  have hP := wm_eq rfl (ec_g___18 g ) rfl rfl hP
  exact loop_6 (6 + 1) 0 0 (g 18) (by omega) (by rw [(prS_0 B9 (by omega) 0 (by omega)).2.1, Nat.zero_mul]; rfl) (by rw [(prS_0 B9 (by omega) 0 (by omega)).2.1, Nat.zero_mul]; exact swI_0) (by omega) _ _ hP hS ls (lv_sub hl [0, 1, 2, 3, 4, 5, 6] rfl)
set_option maxHeartbeats 4000000 in
set_option maxRecDepth 100000 in
theorem c_X10_switches_x (l : Launch) (D : va_G) (cy : Nat → ClassId) (mo : Nat) (a : Nat → Nat) (f : Nat → Int32) (g : Nat → Int64) (r : Nat → Nat → Int32) (q : Nat → Nat → Int64) (w : Int32) (h : Int32) (p0 : Int64) (hD : DM cy mo a)  : Mi l D cy mo a yX10_switches wsX10_switches ({ frames := 3, cells := 0, slots := 0, locals := 69 }) f g r q [.int w, .int h, .long p0] (fun r0 u => ∃ (bh : Int64), u = ((upd f 0 (0 : Int32)), (vp_updL g 18 bh), r, q) ∧ (swA w h p0 r0)) := by
  refine Met.ofW (cc := cX10_switches) (maxL := 5) (ret := (some .int)) (by decide) rfl ?_
  intro p e s m args below meth c s₁ B hml hv
  obtain ⟨rfl, hP, hK⟩ := hv
  have hx := B.exec
  have hb := B.bytes
  have hr := B.returns
  have hts := atoms_spec (ws := wsX10_switches) B.pre
  have hin : ∀ w ∈ u_ws RX10 TX10 35, w ∈ wsX10_switches := by decide +kernel
  have hown : s.vm.findClass RX10 = some m.cls := findClass_of_methodNamed B.named
  have hlocks := B.notSynchronized
  have hS : va_S (AM mo a) s.heap s.heap [] := va_S.rf
  have hl := lv_entry ([.ref mo, .int w, .int h, .long p0]) (n := 5) (Nat.le_of_ble_eq_true rfl)
  rw [lg_entry_eq]
  generalize (lg_sl ([.ref mo, .int w, .int h, .long p0]) ++ List.replicate (5 - (lg_sl ([.ref mo, .int w, .int h, .long p0])).length) Slot.unset).toArray = ls at hl ⊢
  have hl : lv_has ls 5 [(0, .ref mo), (1, .int w), (2, .int h), (3, .long p0)] := hl
  have k_m1 : (-1 : Int32).toInt = -1 := by decide
  have k_0 : (0 : Int32).toInt = 0 := by decide
  refine lv_aload_n hx hb dX10_switches_0 rfl (lv_at hl 0 rfl) ?_
  refine lv_iconst (v := 0) hx hb dX10_switches_1 (by decide) ?_
  refine m_put (v := .int (0 : Int32)) (ty := .int) hx hb hts hin hown hK hP hD hS 0 (by decide) rfl (hts (.fieldLink RX10 79 "ShadowBenchModel" "thrown" "I") (by decide +kernel)) rfl (by decide +kernel) rfl rfl (upd f 0 (0 : Int32)) g rfl dX10_switches_2 (fun H locs hP hS => ?_)
  refine lv_iload_n hx hb dX10_switches_5 rfl (lv_at hl 1 rfl) ?_
  refine lv_iload_n hx hb dX10_switches_6 rfl (lv_at hl 2 rfl) ?_
  refine lv_lload_n hx hb dX10_switches_7 rfl (lv_at hl 3 rfl) ?_
  refine m_pu (As := [.int w, .int h, .long p0]) (rest := []) ⟨hx, hb, hml, hown, hts⟩ (c_X10_isPicture l w h p0 ) (va_cwS 3 hts gX10_switches_X10_isPicture rfl rfl rfl (by decide +kernel) ⟨Nat.le_of_ble_eq_true rfl, Nat.le_of_ble_eq_true rfl⟩) hP rfl hl.1 rfl (Nat.le_of_ble_eq_true rfl) dX10_switches_8 ⟨Nat.le_of_ble_eq_true rfl, Nat.le_of_ble_eq_true rfl⟩ hS (fun r8 H locs q8 hP hS => ?_)
  refine lv_if_eq (tgt := 25) hx hb dX10_switches_11 (by decide) (fun c11 => ?_) (fun c11 => ?_)
  · skip
    have b11 := bo_f q8 c11
    refine lv_iconst (v := (-1)) hx hb dX10_switches_25 (by decide) ?_
    have hP := wm_eq rfl (ec_g___18 g ) rfl rfl hP
    exact W.iret (v := ((-1) : Int32)) hx hb hr (fun t ht hW => ⟨⟨_, ((upd f 0 (0 : Int32)), (vp_updL g 18 (g 18)), r, q), rfl, ⟨(g 18), rfl, (Or.inr ⟨goodP_no b11, rfl⟩)⟩, by unfold mB; rw [ht]; exact hP⟩, hS.F ht⟩) hS.2.2 dX10_switches_26
  · skip
    have b11 := bo_t q8 c11
    refine lv_aload_n hx hb dX10_switches_14 rfl (lv_at hl 0 rfl) ?_
    refine lv_iload_n hx hb dX10_switches_15 rfl (lv_at hl 1 rfl) ?_
    refine lv_iload_n hx hb dX10_switches_16 rfl (lv_at hl 2 rfl) ?_
    refine lv_lload_n hx hb dX10_switches_17 rfl (lv_at hl 3 rfl) ?_
    refine lv_iconst (v := (-1)) hx hb dX10_switches_18 (by decide) ?_
    refine m_calli (As := [.int w, .int h, .long p0, .int ((-1) : Int32)]) (rest := []) ⟨hx, hb, hml, hown, hts⟩ (c_X10_goSwitches_x l D cy mo a (upd f 0 (0 : Int32)) g r q w h p0 (((-1) : Int32)) hD b11.1.1 b11.1.2) (cwV 4 hts gX10_switches_X10_goSwitches rfl rfl rfl (by decide +kernel) ⟨Nat.le_of_ble_eq_true rfl, Nat.le_of_ble_eq_true rfl⟩) hK hP rfl hl.1 rfl (Nat.le_of_ble_eq_true rfl) dX10_switches_19 ⟨Nat.le_of_ble_eq_true rfl, Nat.le_of_ble_eq_true rfl⟩ hS (fun r19 u H locs q19 hP hS => ?_)
    obtain ⟨bh_19, rfl, q19⟩ := q19
    have hP : va_P D vwCl (WM cy mo a (upd f 0 (0 : Int32)) (vp_updL g 18 bh_19) r q) H := hP
    have q19 : r19 = nI (bs (swq w.toNatClampNeg h.toNatClampNeg p0) (cfo w.toNatClampNeg h.toNatClampNeg)) ∧ swI w.toNatClampNeg h.toNatClampNeg p0 (((-1) : Int32)).toInt (cfo w.toNatClampNeg h.toNatClampNeg) bh_19 := q19
    refine lv_goto (tgt := 26) hx hb dX10_switches_22 (by decide) ?_
    exact W.iret (v := r19) hx hb hr (fun t ht hW => ⟨⟨_, ((upd f 0 (0 : Int32)), (vp_updL g 18 bh_19), r, q), rfl, ⟨bh_19, rfl, (Or.inl ⟨goodP_of b11, q19.1⟩)⟩, by unfold mB; rw [ht]; exact hP⟩, hS.F ht⟩) hS.2.2 dX10_switches_26
set_option maxHeartbeats 4000000 in
set_option maxRecDepth 100000 in
theorem c_X10_switched_x (l : Launch) (D : va_G) (cy : Nat → ClassId) (mo : Nat) (a : Nat → Nat) (f : Nat → Int32) (g : Nat → Int64) (r : Nat → Nat → Int32) (q : Nat → Nat → Int64) (w : Int32) (h : Int32) (p0 : Int64) (i0 : Int32) (hD : DM cy mo a)  : Ml l D cy mo a yX10_switched wsX10_switched ({ frames := 3, cells := 0, slots := 0, locals := 69 }) f g r q [.int w, .int h, .long p0, .int i0] (fun r0 u => ∃ (bh : Int64), u = ((upd f 0 (0 : Int32)), (vp_updL g 18 bh), r, q) ∧ (swS w h p0 i0 r0)) := by
  refine Met.ofW (cc := cX10_switched) (maxL := 6) (ret := (some .long)) (by decide) rfl ?_
  intro p e s m args below meth c s₁ B hml hv
  obtain ⟨rfl, hP, hK⟩ := hv
  have hx := B.exec
  have hb := B.bytes
  have hr := B.returns
  have hts := atoms_spec (ws := wsX10_switched) B.pre
  have hin : ∀ w ∈ u_ws RX10 TX10 35, w ∈ wsX10_switched := by decide +kernel
  have hown : s.vm.findClass RX10 = some m.cls := findClass_of_methodNamed B.named
  have hlocks := B.notSynchronized
  have hS : va_S (AM mo a) s.heap s.heap [] := va_S.rf
  have hl := lv_entry ([.ref mo, .int w, .int h, .long p0, .int i0]) (n := 6) (Nat.le_of_ble_eq_true rfl)
  rw [lg_entry_eq]
  generalize (lg_sl ([.ref mo, .int w, .int h, .long p0, .int i0]) ++ List.replicate (6 - (lg_sl ([.ref mo, .int w, .int h, .long p0, .int i0])).length) Slot.unset).toArray = ls at hl ⊢
  have hl : lv_has ls 6 [(0, .ref mo), (1, .int w), (2, .int h), (3, .long p0), (5, .int i0)] := hl
  have k_0 : (0 : Int32).toInt = 0 := by decide
  have k_m2L : (-2 : Int64).toInt = -2 := by decide
  have k_m1L : (-1 : Int64).toInt = -1 := by decide
  refine lv_aload_n hx hb dX10_switched_0 rfl (lv_at hl 0 rfl) ?_
  refine lv_iconst (v := 0) hx hb dX10_switched_1 (by decide) ?_
  refine m_put (v := .int (0 : Int32)) (ty := .int) hx hb hts hin hown hK hP hD hS 0 (by decide) rfl (hts (.fieldLink RX10 79 "ShadowBenchModel" "thrown" "I") (by decide +kernel)) rfl (by decide +kernel) rfl rfl (upd f 0 (0 : Int32)) g rfl dX10_switched_2 (fun H locs hP hS => ?_)
  refine lv_iload_n hx hb dX10_switched_5 rfl (lv_at hl 1 rfl) ?_
  refine lv_iload_n hx hb dX10_switched_6 rfl (lv_at hl 2 rfl) ?_
  refine lv_lload_n hx hb dX10_switched_7 rfl (lv_at hl 3 rfl) ?_
  refine m_pu (As := [.int w, .int h, .long p0]) (rest := []) ⟨hx, hb, hml, hown, hts⟩ (c_X10_isPicture l w h p0 ) (va_cwS 3 hts gX10_switched_X10_isPicture rfl rfl rfl (by decide +kernel) ⟨Nat.le_of_ble_eq_true rfl, Nat.le_of_ble_eq_true rfl⟩) hP rfl hl.1 rfl (Nat.le_of_ble_eq_true rfl) dX10_switched_8 ⟨Nat.le_of_ble_eq_true rfl, Nat.le_of_ble_eq_true rfl⟩ hS (fun r8 H locs q8 hP hS => ?_)
  refine lv_if_eq (tgt := 19) hx hb dX10_switched_11 (by decide) (fun c11 => ?_) (fun c11 => ?_)
  · skip
    have b11 := bo_f q8 c11
    refine lv_ldc2 hx hb hown (hts (.constantLong RX10 185 (-1)) (by decide +kernel)) dX10_switched_19 ?_
    have hP := wm_eq rfl (ec_g___18 g ) rfl rfl hP
    exact W.lret (v := (-1 : Int64)) hx hb hr (fun t ht hW => ⟨⟨_, ((upd f 0 (0 : Int32)), (vp_updL g 18 (g 18)), r, q), rfl, ⟨(g 18), rfl, (Or.inr ⟨(fun z9 => by first | exact goodP_no b11 z9.1 | (have := z9.2; omega)), rfl⟩)⟩, by unfold mB; rw [ht]; exact hP⟩, hS.F ht⟩) hS.2.2 dX10_switched_22
  · skip
    have b11 := bo_t q8 c11
    refine lv_iload hx hb dX10_switched_14 (lv_at hl 4 rfl) ?_
    refine lv_if_ge (tgt := 23) hx hb dX10_switched_16 (by decide) (fun c16 => ?_) (fun c16 => ?_)
    · skip
      have d16 := c16
      rw [fa_le] at d16
      refine lv_iload hx hb dX10_switched_23 (lv_at hl 4 rfl) ?_
      refine lv_aload_n hx hb dX10_switched_25 rfl (lv_at hl 0 rfl) ?_
      refine lv_iload_n hx hb dX10_switched_26 rfl (lv_at hl 1 rfl) ?_
      refine lv_iload_n hx hb dX10_switched_27 rfl (lv_at hl 2 rfl) ?_
      refine lv_lload_n hx hb dX10_switched_28 rfl (lv_at hl 3 rfl) ?_
      refine lv_iload hx hb dX10_switched_29 (lv_at hl 4 rfl) ?_
      refine m_calli (As := [.int w, .int h, .long p0, .int i0]) (rest := [.int i0]) ⟨hx, hb, hml, hown, hts⟩ (c_X10_goSwitches_x l D cy mo a (upd f 0 (0 : Int32)) g r q w h p0 i0 hD b11.1.1 b11.1.2) (cwV 4 hts gX10_switched_X10_goSwitches rfl rfl rfl (by decide +kernel) ⟨Nat.le_of_ble_eq_true rfl, Nat.le_of_ble_eq_true rfl⟩) hK hP rfl hl.1 rfl (Nat.le_of_ble_eq_true rfl) dX10_switched_31 ⟨Nat.le_of_ble_eq_true rfl, Nat.le_of_ble_eq_true rfl⟩ hS (fun r31 u H locs q31 hP hS => ?_)
      obtain ⟨bh_31, rfl, q31⟩ := q31
      have hP : va_P D vwCl (WM cy mo a (upd f 0 (0 : Int32)) (vp_updL g 18 bh_31) r q) H := hP
      have q31 : r31 = nI (bs (swq w.toNatClampNeg h.toNatClampNeg p0) (cfo w.toNatClampNeg h.toNatClampNeg)) ∧ swI w.toNatClampNeg h.toNatClampNeg p0 i0.toInt (cfo w.toNatClampNeg h.toNatClampNeg) bh_31 := q31
      obtain ⟨ha, hb9, h36, hwn⟩ := wh36 b11.1.1 b11.1.2
      have cf9 := cb_fo (w := w.toNatClampNeg) (h := h.toNatClampNeg) (by omega)
      have bl9 := bs_le (swq w.toNatClampNeg h.toNatClampNeg p0) (cfo w.toNatClampNeg h.toNatClampNeg)
      have i31 : r31.toInt = _ := (congrArg Int32.toInt q31.1).trans (nI_toInt (by omega))
      refine lv_icmp_ge (tgt := 44) hx hb dX10_switched_34 (by decide) (fun c34 => ?_) (fun c34 => ?_)
      · skip
        have d34 := c34
        rw [fa_le] at d34
        refine lv_ldc2 hx hb hown (hts (.constantLong RX10 189 (-2)) (by decide +kernel)) dX10_switched_44 ?_
        exact W.lret (v := (-2 : Int64)) hx hb hr (fun t ht hW => ⟨⟨_, ((upd f 0 (0 : Int32)), (vp_updL g 18 bh_31), r, q), rfl, ⟨bh_31, rfl, (Or.inl ⟨⟨goodP_of b11, by omega⟩, (by first | exact Or.inl (q31.2 (by omega) (by omega)) | exact Or.inr ⟨by omega, rfl⟩)⟩)⟩, by unfold mB; rw [ht]; exact hP⟩, hS.F ht⟩) hS.2.2 dX10_switched_47
      · skip
        have d34 := c34
        rw [fa_le] at d34
        refine lv_aload_n hx hb dX10_switched_37 rfl (lv_at hl 0 rfl) ?_
        refine m_get (v := .long bh_31) hx hb hts hin hown hK hP 18 (by decide) rfl (hts (.fieldLink RX10 201 "ShadowBenchModel" "behind" "J") (by decide +kernel)) rfl dX10_switched_38 ?_
        refine lv_goto (tgt := 47) hx hb dX10_switched_41 (by decide) ?_
        exact W.lret (v := bh_31) hx hb hr (fun t ht hW => ⟨⟨_, ((upd f 0 (0 : Int32)), (vp_updL g 18 bh_31), r, q), rfl, ⟨bh_31, rfl, (Or.inl ⟨⟨goodP_of b11, by omega⟩, (by first | exact Or.inl (q31.2 (by omega) (by omega)) | exact Or.inr ⟨by omega, rfl⟩)⟩)⟩, by unfold mB; rw [ht]; exact hP⟩, hS.F ht⟩) hS.2.2 dX10_switched_47
    · skip
      have d16 := c16
      rw [fa_le] at d16
      refine lv_ldc2 hx hb hown (hts (.constantLong RX10 185 (-1)) (by decide +kernel)) dX10_switched_19 ?_
      have hP := wm_eq rfl (ec_g___18 g ) rfl rfl hP
      exact W.lret (v := (-1 : Int64)) hx hb hr (fun t ht hW => ⟨⟨_, ((upd f 0 (0 : Int32)), (vp_updL g 18 (g 18)), r, q), rfl, ⟨(g 18), rfl, (Or.inr ⟨(fun z9 => by first | exact goodP_no b11 z9.1 | (have := z9.2; omega)), rfl⟩)⟩, by unfold mB; rw [ht]; exact hP⟩, hS.F ht⟩) hS.2.2 dX10_switched_22

section RYS
theorem ry_le {f g : Nat → Bool} : ∀ n, (∀ i, i < n → f i = true → g i = true) → bs f n ≤ bs g n := by
  intro n
  induction n with
  | zero => intro _; exact Nat.le_refl _
  | succ n ih =>
    intro h
    have h1 := ih (fun i hi => h i (by omega))
    have h2 := h n (by omega)
    simp only [bs]
    cases hf : f n
    · simp only [Bool.toNat_false]; omega
    · rw [h2 hf]; simp only [Bool.toNat_true]; omega
theorem ry_eq {f g : Nat → Bool} : ∀ n, (∀ i, i < n → f i = g i) → bs f n = bs g n := by
  intro n
  induction n with
  | zero => intro _; rfl
  | succ n ih => intro h; simp only [bs]; rw [ih (fun i hi => h i (by omega)), h n (by omega)]
theorem ry_lt {f g : Nat → Bool} : ∀ n, (∀ i, i < n → f i = true → g i = true) → (∃ i, i < n ∧ f i = false ∧ g i = true) → bs f n < bs g n := by
  intro n
  induction n with
  | zero => intro _ h; obtain ⟨i, hi, -⟩ := h; exact absurd hi (Nat.not_lt_zero _)
  | succ n ih =>
    intro h h2
    obtain ⟨i, hi, a, b⟩ := h2
    have l := ry_le n (fun i hi => h i (by omega))
    have h3 := h n (by omega)
    simp only [bs]
    by_cases z : i = n
    · subst z
      rw [a, b]
      simp only [Bool.toNat_false, Bool.toNat_true]
      omega
    · have l2 := ih (fun i hi => h i (by omega)) ⟨i, by omega, a, b⟩
      cases hf : f n
      · simp only [Bool.toNat_false]; omega
      · rw [h3 hf]; simp only [Bool.toNat_true]; omega
/-- one place changed -/
theorem ry_up {f g : Nat → Bool} {x : Nat} : ∀ n, x < n → (∀ i, i ≠ x → g i = f i) → bs g n + (f x).toNat = bs f n + (g x).toNat := by
  intro n
  induction n with
  | zero => intro h; exact absurd h (Nat.not_lt_zero _)
  | succ n ih =>
    intro h hg
    simp only [bs]
    by_cases z : x = n
    · subst z
      rw [ry_eq x (fun i hi => hg i (by omega))]
      omega
    · have := ih (by omega) hg
      rw [hg n (fun y => z y.symm)]
      omega
/-- two unlike places change -/
theorem ry_sw {f g : Nat → Bool} {x u n : Nat} (hx : x < n) (hu : u < n) (hxu : x ≠ u) (hf : f x ≠ f u) (h1 : g x = !(f x)) (h2 : g u = !(f u)) (ho : ∀ i, i ≠ x → i ≠ u → g i = f i) : bs g n = bs f n := by
  have a : bs (fun i => if i = x then !(f x) else f i) n + (f x).toNat = bs f n + (if x = x then !(f x) else f x).toNat := ry_up n hx (fun i hi => if_neg hi)
  rw [if_pos rfl] at a
  have b : bs g n + (if u = x then !(f x) else f u).toNat = bs (fun i => if i = x then !(f x) else f i) n + (g u).toNat := ry_up (f := fun i => if i = x then !(f x) else f i) n hu (fun i hi => by
    show g i = if i = x then !(f x) else f i
    by_cases z : i = x
    · rw [if_pos z, z, h1]
    · rw [if_neg z, ho i z hi])
  rw [if_neg (fun y => hxu y.symm), h2] at b
  have e1 : (!(f x)).toNat + (f x).toNat = 1 := by cases f x <;> rfl
  have e2 : (!(f u)).toNat + (f u).toNat = 1 := by cases f u <;> rfl
  have e3 : (f x).toNat + (f u).toNat = 1 := by
    revert hf
    cases f x <;> cases f u <;> intro q <;> first | rfl | exact absurd rfl q
  omega
/-- a picture of bits, row and column -/
def swP (C : Nat → Nat → Bool) (y v x u : Nat) : Nat → Nat → Bool := fun a b => if (a = y ∨ a = v) ∧ (b = x ∨ b = u) then !(C a b) else C a b
def swOk (C : Nat → Nat → Bool) (y v x u : Nat) : Prop := C y x = C v u ∧ C y u = C v x ∧ C y x ≠ C y u
def swCl (w h : Nat) (P : (Nat → Nat → Bool) → Prop) : Prop := ∀ C y v x u, y < v → v < h → x < u → u < w → swOk C y v x u → P C → P (swP C y v x u)
theorem swP_xu (C : Nat → Nat → Bool) (y v x u : Nat) : swP C y v x u = swP C y v u x := by
  funext a b
  unfold swP
  by_cases z : (a = y ∨ a = v) ∧ (b = x ∨ b = u)
  · rw [if_pos z, if_pos ⟨z.1, z.2.symm⟩]
  · rw [if_neg z, if_neg (fun q => z ⟨q.1, q.2.symm⟩)]
theorem swP_2 (C : Nat → Nat → Bool) (y v x u : Nat) : swP (swP C y v x u) y v x u = C := by
  funext a b
  unfold swP
  by_cases z : (a = y ∨ a = v) ∧ (b = x ∨ b = u)
  · rw [if_pos z, if_pos z, Bool.not_not]
  · rw [if_neg z, if_neg z]
theorem swP_in {C : Nat → Nat → Bool} {y v x u a b : Nat} (h : (a = y ∨ a = v) ∧ (b = x ∨ b = u)) : swP C y v x u a b = !(C a b) := if_pos h
theorem swP_out {C : Nat → Nat → Bool} {y v x u a b : Nat} (h : ¬ ((a = y ∨ a = v) ∧ (b = x ∨ b = u))) : swP C y v x u a b = C a b := if_neg h
theorem swOk_2 {C : Nat → Nat → Bool} {y v x u : Nat} (h : swOk C y v x u) : swOk (swP C y v x u) y v x u := by
  unfold swOk
  rw [swP_in (a := y) (b := x) ⟨Or.inl rfl, Or.inl rfl⟩, swP_in (a := v) (b := u) ⟨Or.inr rfl, Or.inr rfl⟩, swP_in (a := y) (b := u) ⟨Or.inl rfl, Or.inr rfl⟩, swP_in (a := v) (b := x) ⟨Or.inr rfl, Or.inl rfl⟩]
  refine ⟨by rw [h.1], by rw [h.2.1], fun z => h.2.2 ?_⟩
  revert z
  cases C y x <;> cases C y u <;> intro z <;> first | rfl | cases z
theorem swOk_xu {C : Nat → Nat → Bool} {y v x u : Nat} (h : swOk C y v x u) : swOk C y v u x := ⟨h.2.1, h.1, fun z => h.2.2 z.symm⟩
/-- a switch goes both ways, whatever the order of its columns -/
theorem swCl.iff {w h : Nat} {P : (Nat → Nat → Bool) → Prop} (hP : swCl w h P) {C : Nat → Nat → Bool} {y v x u : Nat} (h1 : y < v) (h2 : v < h) (h3 : x ≠ u) (hx : x < w) (hu : u < w) (ok : swOk C y v x u) : P C ↔ P (swP C y v x u) := by
  by_cases z : x < u
  · exact ⟨fun p => hP C y v x u h1 h2 z hu ok p, fun p => by have := hP _ y v x u h1 h2 z hu (swOk_2 ok) p; rwa [swP_2] at this⟩
  · have z2 : u < x := by omega
    rw [swP_xu]
    exact ⟨fun p => hP C y v u x h1 h2 z2 hx (swOk_xu ok) p, fun p => by have := hP _ y v u x h1 h2 z2 hx (swOk_2 (swOk_xu ok)) p; rwa [swP_2] at this⟩
/-- rows and columns have the same sums -/
def sums (w h : Nat) (C B : Nat → Nat → Bool) : Prop := (∀ y, y < h → bs (C y) w = bs (B y) w) ∧ ∀ x, x < w → bs (fun y => C y x) h = bs (fun y => B y x) h
theorem sums.sw {w h : Nat} {C B : Nat → Nat → Bool} (hs : sums w h C B) {y v x u : Nat} (h1 : y < v) (h2 : v < h) (h3 : x ≠ u) (hx : x < w) (hu : u < w) (ok : swOk C y v x u) : sums w h (swP C y v x u) B := by
  obtain ⟨o1, o2, o3⟩ := ok
  refine ⟨fun a ha => ?_, fun b hb => ?_⟩
  · rw [← hs.1 a ha]
    by_cases z : a = y ∨ a = v
    · refine ry_sw hx hu h3 ?_ (swP_in ⟨z, Or.inl rfl⟩) (swP_in ⟨z, Or.inr rfl⟩) (fun i i1 i2 => swP_out (fun q => q.2.elim i1 i2))
      rcases z with z | z
      · rw [z]; exact o3
      · rw [z, ← o1, ← o2]; exact fun q => o3 q.symm
    · exact ry_eq w (fun i _ => swP_out (fun q => z q.1))
  · rw [← hs.2 b hb]
    by_cases z : b = x ∨ b = u
    · refine ry_sw (f := fun y => C y b) (x := y) (u := v) (by omega) h2 (by omega) ?_ (swP_in ⟨Or.inl rfl, z⟩) (swP_in ⟨Or.inr rfl, z⟩) (fun i i1 i2 => swP_out (fun q => q.1.elim i1 i2))
      show C y b ≠ C v b
      rcases z with z | z
      · rw [z, ← o2]; exact o3
      · rw [z, ← o1]; exact fun q => o3 q.symm
    · exact ry_eq h (fun i _ => swP_out (fun q => z q.2))
theorem sums.sym {w h : Nat} {C B : Nat → Nat → Bool} (hs : sums w h C B) : sums w h B C := ⟨fun y hy => (hs.1 y hy).symm, fun x hx => (hs.2 x hx).symm⟩
/-- two rows with as many ones differ both ways, or nowhere -/
theorem ry_two {f g : Nat → Bool} {n : Nat} (h : bs f n = bs g n) {x : Nat} (hx : x < n) (hne : f x ≠ g x) : ∃ a b, a < n ∧ b < n ∧ f a = true ∧ g a = false ∧ f b = false ∧ g b = true := by
  have p1 : ∃ a, a < n ∧ f a = true ∧ g a = false := by
    refine Classical.byContradiction fun hn => ?_
    have le : ∀ i, i < n → f i = true → g i = true := fun i hi hf => by
      cases hg : g i
      · exact absurd ⟨i, hi, hf, hg⟩ hn
      · rfl
    have := ry_lt n le ⟨x, hx, by
      cases hf : f x
      · refine ⟨rfl, ?_⟩
        cases hg : g x
        · exact absurd (hf.trans hg.symm) hne
        · rfl
      · exact absurd (hf.trans (le x hx hf).symm) hne⟩
    omega
  have p2 : ∃ b, b < n ∧ f b = false ∧ g b = true := by
    refine Classical.byContradiction fun hn => ?_
    have le : ∀ i, i < n → g i = true → f i = true := fun i hi hg => by
      cases hf : f i
      · exact absurd ⟨i, hi, hf, hg⟩ hn
      · rfl
    have := ry_lt n le ⟨x, hx, by
      cases hg : g x
      · refine ⟨rfl, ?_⟩
        cases hf : f x
        · exact absurd (hf.trans hg.symm) hne
        · rfl
      · exact absurd ((le x hx hg).trans hg.symm) hne⟩
    omega
  obtain ⟨a, a1, a2, a3⟩ := p1
  obtain ⟨b, b1, b2, b3⟩ := p2
  exact ⟨a, b, a1, b1, a2, a3, b2, b3⟩
/-- a column from a row on -/
def colF (C : Nat → Nat → Bool) (r h x : Nat) : Nat := bs (fun y => decide (r ≤ y) && C y x) h
theorem colF_eq {w h r : Nat} {C B : Nat → Nat → Bool} (hs : sums w h C B) (he : ∀ y, y < r → ∀ x, x < w → C y x = B y x) {x : Nat} (hx : x < w) : colF C r h x = colF B r h x := by
  have sp : ∀ (D : Nat → Nat → Bool) (n : Nat), bs (fun y => D y x) n = bs (fun y => decide (r ≤ y) && D y x) n + bs (fun y => decide (y < r) && D y x) n := by
    intro D n
    induction n with
    | zero => rfl
    | succ n ih =>
      simp only [bs]
      rw [ih]
      by_cases c : r ≤ n
      · rw [decide_eq_true c, decide_eq_false (show ¬ n < r by omega), Bool.true_and, Bool.false_and, Bool.toNat_false]; omega
      · rw [decide_eq_false c, decide_eq_true (show n < r by omega), Bool.true_and, Bool.false_and, Bool.toNat_false]; omega
  have a := hs.2 x hx
  rw [sp C h, sp B h] at a
  have e : bs (fun y => decide (y < r) && C y x) h = bs (fun y => decide (y < r) && B y x) h := ry_eq h (fun y _ => by
    by_cases c : y < r
    · rw [he y c x hx]
    · rw [decide_eq_false c, Bool.false_and, Bool.false_and])
  unfold colF
  omega
/-- a row below with the one at u and not at x -/
theorem colF_ex {h r : Nat} {C : Nat → Nat → Bool} {x u : Nat} (hr : r < h) (hx : C r x = true) (hu : C r u = false) (hc : colF C r h x ≤ colF C r h u) : ∃ v, r < v ∧ v < h ∧ C v u = true ∧ C v x = false := by
  refine Classical.byContradiction fun hn => ?_
  have := ry_lt (f := fun y => decide (r ≤ y) && C y u) (g := fun y => decide (r ≤ y) && C y x) h (fun i hi hf => by
    have c : r ≤ i := by
      refine Classical.byContradiction fun q => ?_
      rw [decide_eq_false q, Bool.false_and] at hf
      cases hf
    rw [decide_eq_true c, Bool.true_and] at hf ⊢
    cases hg : C i x
    · have q9 : r < i := by
        rcases Nat.lt_or_ge r i with q | q
        · exact q
        · exfalso
          rw [show i = r by omega] at hf
          rw [hu] at hf
          cases hf
      exact absurd ⟨i, q9, hi, hf, hg⟩ hn
    · rfl) ⟨r, hr, by rw [decide_eq_true (Nat.le_refl r), Bool.true_and]; exact hu, by rw [decide_eq_true (Nat.le_refl r), Bool.true_and]; exact hx⟩
  unfold colF at hc
  omega
theorem ry_row {w h : Nat} {P : (Nat → Nat → Bool) → Prop} (hP : swCl w h P) {r : Nat} (hr : r < h) : ∀ d C B, bs (fun x => decide (C r x ≠ B r x)) w < d → sums w h C B → (∀ y, y < r → ∀ x, x < w → C y x = B y x) → ∃ C' B', (P C ↔ P C') ∧ (P B ↔ P B') ∧ sums w h C' B' ∧ ∀ y, y < r + 1 → ∀ x, x < w → C' y x = B' y x := by
  intro d
  induction d with
  | zero => intro C B h1; exact absurd h1 (Nat.not_lt_zero _)
  | succ d ih =>
    intro C B hd hs he
    by_cases hq : ∃ x, x < w ∧ C r x ≠ B r x
    · obtain ⟨x0, hx0, hne⟩ := hq
      obtain ⟨x, u, hx, hu, f1, f2, f3, f4⟩ := ry_two (hs.1 r hr) hx0 hne
      have hxu : x ≠ u := fun z => by rw [z, f3] at f1; cases f1
      have ce := colF_eq hs he hx
      have ce2 := colF_eq hs he hu
      by_cases hc : colF C r h x ≤ colF C r h u
      · obtain ⟨v, v1, v2, v3, v4⟩ := colF_ex hr f1 f3 hc
        have ok : swOk C r v x u := ⟨f1.trans v3.symm, f3.trans v4.symm, by rw [f1, f3]; decide⟩
        have q := hP.iff v1 v2 hxu hx hu ok
        obtain ⟨C', B', k1, k2, k3, k4⟩ := ih (swP C r v x u) B (by
          have := ry_lt (f := fun b => decide (swP C r v x u r b ≠ B r b)) (g := fun b => decide (C r b ≠ B r b)) w (fun i hi hf => by
            by_cases z : i = x ∨ i = u
            · exfalso
              have hf' := of_decide_eq_true hf
              rw [swP_in ⟨Or.inl rfl, z⟩] at hf'
              rcases z with z | z
              · rw [z, f1, f2] at hf'; exact hf' rfl
              · rw [z, f3, f4] at hf'; exact hf' rfl
            · rw [swP_out (fun q => z q.2)] at hf
              exact hf) ⟨x, hx, by rw [swP_in ⟨Or.inl rfl, Or.inl rfl⟩, f1, f2]; rfl, by rw [f1, f2]; rfl⟩
          omega) (hs.sw v1 v2 hxu hx hu ok) (fun y hy b hb => by rw [swP_out (by omega)]; exact he y hy b hb)
        exact ⟨C', B', q.trans k1, k2, k3, k4⟩
      · obtain ⟨v, v1, v2, v3, v4⟩ := colF_ex (C := B) (x := u) (u := x) hr f4 f2 (by omega)
        have ok : swOk B r v u x := ⟨f4.trans v3.symm, f2.trans v4.symm, by rw [f4, f2]; decide⟩
        have q := hP.iff v1 v2 (Ne.symm hxu) hu hx ok
        obtain ⟨C', B', k1, k2, k3, k4⟩ := ih C (swP B r v u x) (by
          have := ry_lt (f := fun b => decide (C r b ≠ swP B r v u x r b)) (g := fun b => decide (C r b ≠ B r b)) w (fun i hi hf => by
            by_cases z : i = u ∨ i = x
            · exfalso
              have hf' := of_decide_eq_true hf
              rw [swP_in ⟨Or.inl rfl, z⟩] at hf'
              rcases z with z | z
              · rw [z, f3, f4] at hf'; exact hf' rfl
              · rw [z, f1, f2] at hf'; exact hf' rfl
            · rw [swP_out (fun q => z q.2)] at hf
              exact hf) ⟨x, hx, by rw [swP_in ⟨Or.inl rfl, Or.inr rfl⟩, f1, f2]; rfl, by rw [f1, f2]; rfl⟩
          omega) ((hs.sym.sw v1 v2 (Ne.symm hxu) hu hx ok).sym) (fun y hy b hb => by rw [swP_out (by omega)]; exact he y hy b hb)
        exact ⟨C', B', k1, q.trans k2, k3, k4⟩
    · refine ⟨C, B, Iff.rfl, Iff.rfl, hs, fun y hy x hx => ?_⟩
      by_cases z : y = r
      · rw [z]
        exact Classical.byContradiction fun q => hq ⟨x, hx, q⟩
      · exact he y (by omega) x hx
theorem ry_all {w h : Nat} {P : (Nat → Nat → Bool) → Prop} (hP : swCl w h P) : ∀ r, r ≤ h → ∀ C B, sums w h C B → ∃ C' B', (P C ↔ P C') ∧ (P B ↔ P B') ∧ sums w h C' B' ∧ ∀ y, y < r → ∀ x, x < w → C' y x = B' y x := by
  intro r
  induction r with
  | zero => intro _ C B hs; exact ⟨C, B, Iff.rfl, Iff.rfl, hs, fun y hy => absurd hy (Nat.not_lt_zero _)⟩
  | succ r ih =>
    intro hr C B hs
    obtain ⟨C1, B1, a1, a2, a3, a4⟩ := ih (by omega) C B hs
    obtain ⟨C2, B2, b1, b2, b3, b4⟩ := ry_row hP (show r < h by omega) _ C1 B1 (Nat.lt_succ_self _) a3 a4
    exact ⟨C2, B2, a1.trans b1, a2.trans b2, b3, b4⟩
/-- who has one picture and all switches has every picture with its sums -/
theorem ryser {w h : Nat} {P : (Nat → Nat → Bool) → Prop} (hP : swCl w h P) (hx : ∀ C C', (∀ y, y < h → ∀ x, x < w → C y x = C' y x) → P C → P C') {C B : Nat → Nat → Bool} (hs : sums w h C B) (hC : P C) : P B := by
  obtain ⟨C', B', a1, a2, -, a4⟩ := ry_all hP h (Nat.le_refl _) C B hs
  exact a2.mpr (hx C' B' a4 (a1.mp hC))
end RYS

section TAB
/-- a table with free places: oc k = some i, the i-th picture stands at place k; ha: where a picture is looked for first -/
def tabOk (S : Nat) (ha : Int64 → Nat) (oc : Nat → Option Nat) (m : Nat → Int64) (n : Nat) : Prop :=
  (∀ k i, k < S → oc k = some i → i < n) ∧
  (∀ i, i < n → ∃ t, t < S ∧ oc ((ha (m i) + t) % S) = some i ∧ ∀ t', t' < t → oc ((ha (m i) + t') % S) ≠ none) ∧
  (∀ i j, i < n → j < n → m i = m j → i = j) ∧ bs (fun k => (oc k).isSome) S ≤ n
/-- what a search comes to: the picture's place, or the free place where it would stand -/
def tabF (S : Nat) (ha : Int64 → Nat) (oc : Nat → Option Nat) (m : Nat → Int64) (n : Nat) (p : Int64) (k : Nat) : Prop :=
  (∃ i, i < n ∧ m i = p ∧ oc k = some i) ∨ (oc k = none ∧ (∀ i, i < n → m i ≠ p) ∧ ∃ t, t < S ∧ k = (ha p + t) % S ∧ ∀ t', t' < t → oc ((ha p + t') % S) ≠ none)
variable {S : Nat} {ha : Int64 → Nat} {oc : Nat → Option Nat} {m : Nat → Int64} {n : Nat} {p : Int64}
theorem tab_srch (h : tabOk S ha oc m n) {t k : Nat} (ht : t < S) (hk : k = (ha p + t) % S) (hp : ∀ t', t' < t → ∃ i, oc ((ha p + t') % S) = some i ∧ m i ≠ p) (he : oc k = none ∨ ∃ i, oc k = some i ∧ m i = p) : tabF S ha oc m n p k := by
  have kS : k < S := by rw [hk]; exact Nat.mod_lt _ (by omega)
  rcases he with he | ⟨i, h1, h2⟩
  · refine Or.inr ⟨he, fun i hi e => ?_, t, ht, hk, fun t' h' => ?_⟩
    · obtain ⟨t0, a1, a2, a3⟩ := h.2.1 i hi
      rw [e] at a2 a3
      rcases Nat.lt_trichotomy t0 t with z | z | z
      · obtain ⟨i', b1, b2⟩ := hp t0 z
        rw [a2] at b1
        cases b1
        exact b2 e
      · rw [z, ← hk, he] at a2
        cases a2
      · exact a3 t z (by rw [← hk]; exact he)
    · obtain ⟨i, b1, -⟩ := hp t' h'
      rw [b1]
      exact fun z => nomatch z
  · exact Or.inl ⟨i, h.1 k i kS h1, h2, h1⟩
theorem tab_free (h : tabOk S ha oc m n) (hn : n < S) : ∃ e, e < S ∧ oc e = none := by
  refine Classical.byContradiction fun hc => ?_
  have : bs (fun _ => true) S ≤ bs (fun k => (oc k).isSome) S := ry_le S (fun k hk _ => by
    cases ho : oc k
    · exact absurd ⟨k, hk, ho⟩ hc
    · rfl)
  have e : ∀ n, bs (fun _ => true) n = n := by
    intro n
    induction n with
    | zero => rfl
    | succ n ih => simp only [bs]; rw [ih]; rfl
  rw [e] at this
  have := h.2.2.2
  omega
theorem tab_add (h : tabOk S ha oc m n) {k : Nat} {m1 : Nat → Int64} {oc1 : Nat → Option Nat} (ho : oc k = none) (hno : ∀ i, i < n → m i ≠ p) (hp : ∃ t, t < S ∧ k = (ha p + t) % S ∧ ∀ t', t' < t → oc ((ha p + t') % S) ≠ none) (hm : ∀ i, i < n → m1 i = m i) (hm1 : m1 n = p) (h1 : oc1 k = some n) (h2 : ∀ e, e < S → e ≠ k → oc1 e = oc e) : tabOk S ha oc1 m1 (n + 1) := by
  obtain ⟨t, ht, hk, hpt⟩ := hp
  have S0 : 0 < S := by omega
  have kS : k < S := by rw [hk]; exact Nat.mod_lt _ S0
  have nn : ∀ e, e < S → oc e ≠ none → oc1 e ≠ none := fun e he q => by
    by_cases z : e = k
    · rw [z, h1]; exact fun y => nomatch y
    · rw [h2 e he z]; exact q
  refine ⟨fun e i he q => ?_, fun i hi => ?_, fun i j hi hj e => ?_, ?_⟩
  · by_cases z : e = k
    · rw [z, h1] at q
      cases q
      omega
    · rw [h2 e he z] at q
      have := h.1 e i he q
      omega
  · by_cases z : i = n
    · subst z
      rw [hm1]
      exact ⟨t, ht, by rw [← hk]; exact h1, fun t' h' => nn _ (Nat.mod_lt _ S0) (hpt t' h')⟩
    · obtain ⟨t0, a1, a2, a3⟩ := h.2.1 i (by omega)
      rw [hm i (by omega)]
      refine ⟨t0, a1, ?_, fun t' h' => nn _ (Nat.mod_lt _ S0) (a3 t' h')⟩
      rw [h2 _ (Nat.mod_lt _ S0) (fun y => by rw [y, ho] at a2; cases a2)]
      exact a2
  · by_cases z : i = n <;> by_cases y : j = n
    · rw [z, y]
    · rw [z, hm1, hm j (by omega)] at e
      exact absurd e.symm (hno j (by omega))
    · rw [y, hm1, hm i (by omega)] at e
      exact absurd e (hno i (by omega))
    · rw [hm i (by omega), hm j (by omega)] at e
      exact h.2.2.1 i j (by omega) (by omega) e
  · have a := ry_up (f := fun e => (oc e).isSome) (g := fun e => if e = k then true else (oc e).isSome) (x := k) S kS (fun i hi => if_neg hi)
    have b : bs (fun e => (oc1 e).isSome) S = bs (fun e => if e = k then true else (oc e).isSome) S := ry_eq S (fun e he => by
      show (oc1 e).isSome = if e = k then true else (oc e).isSome
      by_cases z : e = k
      · rw [if_pos z, z, h1]; rfl
      · rw [if_neg z, h2 e he z])
    have c := h.2.2.2
    rw [b]
    have d : (oc k).isSome.toNat = 0 := by rw [ho]; rfl
    have a2 : bs (fun e => if e = k then true else (oc e).isSome) S + (oc k).isSome.toNat = bs (fun e => (oc e).isSome) S + (if k = k then true else (oc k).isSome).toNat := a
    rw [if_pos rfl, d] at a2
    have : Bool.toNat true = 1 := rfl
    omega
theorem tab_0 (ho : ∀ e, e < S → oc e = none) : tabOk S ha oc m 0 := by
  refine ⟨fun k i hk q => (by rw [ho k hk] at q; cases q), fun i hi => absurd hi (Nat.not_lt_zero _), fun i j hi => absurd hi (Nat.not_lt_zero _), ?_⟩
  have : bs (fun k => (oc k).isSome) S = bs (fun _ => false) S := ry_eq S (fun k hk => by rw [ho k hk]; rfl)
  rw [this]
  have e : ∀ n, bs (fun _ => false) n = 0 := by
    intro n
    induction n with
    | zero => rfl
    | succ n ih => simp only [bs]; rw [ih]; rfl
  rw [e]
  exact Nat.le_refl _
/-- going round comes everywhere -/
theorem rnd_ex {S a e : Nat} (ha : a < S) (he : e < S) : ∃ t, t < S ∧ (a + t) % S = e := by
  by_cases z : a ≤ e
  · exact ⟨e - a, by omega, by rw [show a + (e - a) = e by omega]; exact Nat.mod_eq_of_lt he⟩
  · exact ⟨e + S - a, by omega, by rw [show a + (e + S - a) = e + S by omega, Nat.add_mod_right]; exact Nat.mod_eq_of_lt he⟩
end TAB

section BFS
/-- what is met: pictures in their order, the steps to each, how many, and whether one more would have been met -/
abbrev mtS := (Nat → Int64) × (Nat → Nat) × Nat × Bool
noncomputable def mtA (d : Nat) (s : mtS) (q : Int64) : mtS :=
  if s.2.2.2 = true then s else @ite _ (∃ i, i < s.2.2.1 ∧ s.1 i = q) (Classical.propDecidable _) s (if s.2.2.1 = 20000 then (s.1, s.2.1, s.2.2.1, true) else ((fun i => if i = s.2.2.1 then q else s.1 i), (fun i => if i = s.2.2.1 then d else s.2.1 i), s.2.2.1 + 1, false))
/-- the pictures behind the first k fours of p are met -/
noncomputable def nbA (w h : Nat) (p : Int64) (d : Nat) (s : mtS) : Nat → mtS
  | 0 => s
  | k + 1 => if swq w h p k = true then mtA d (nbA w h p d s k) (swx w h p k) else nbA w h p d s k
/-- the first k that were met have met their neighbours -/
noncomputable def bfA (w h : Nat) (s : mtS) : Nat → mtS
  | 0 => s
  | k + 1 => nbA w h ((bfA w h s k).1 k) ((bfA w h s k).2.1 k + 1) (bfA w h s k) (cfo w h)
theorem mtA_o {d : Nat} {s : mtS} {q : Int64} (h : s.2.2.2 = true) : mtA d s q = s := by unfold mtA; rw [if_pos h]
theorem mtA_k {d : Nat} {s : mtS} {q : Int64} (h : ¬ s.2.2.2 = true) (hk : ∃ i, i < s.2.2.1 ∧ s.1 i = q) : mtA d s q = s := by unfold mtA; rw [if_neg h, if_pos hk]
theorem mtA_f {d : Nat} {s : mtS} {q : Int64} (h : ¬ s.2.2.2 = true) (hk : ¬ ∃ i, i < s.2.2.1 ∧ s.1 i = q) (hn : s.2.2.1 = 20000) : mtA d s q = (s.1, s.2.1, s.2.2.1, true) := by unfold mtA; rw [if_neg h, if_neg hk, if_pos hn]
theorem mtA_n {d : Nat} {s : mtS} {q : Int64} (h : ¬ s.2.2.2 = true) (hk : ¬ ∃ i, i < s.2.2.1 ∧ s.1 i = q) (hn : ¬ s.2.2.1 = 20000) : mtA d s q = ((fun i => if i = s.2.2.1 then q else s.1 i), (fun i => if i = s.2.2.1 then d else s.2.1 i), s.2.2.1 + 1, false) := by unfold mtA; rw [if_neg h, if_neg hk, if_neg hn]
def isIn9 (s : mtS) (q : Int64) : Prop := ∃ i, i < s.2.2.1 ∧ s.1 i = q
/-- what is met stays; more may come -/
def mtLe (s u : mtS) : Prop := s.2.2.1 ≤ u.2.2.1 ∧ (∀ i, i < s.2.2.1 → u.1 i = s.1 i ∧ u.2.1 i = s.2.1 i)
theorem mtLe.rf {s : mtS} : mtLe s s := ⟨Nat.le_refl _, fun _ _ => ⟨rfl, rfl⟩⟩
theorem mtLe.tr {s u v : mtS} (h1 : mtLe s u) (h2 : mtLe u v) : mtLe s v := ⟨Nat.le_trans h1.1 h2.1, fun i hi => by
  have a := h1.2 i hi
  have b := h2.2 i (Nat.lt_of_lt_of_le hi h1.1)
  exact ⟨b.1.trans a.1, b.2.trans a.2⟩⟩
theorem mtA_le {d : Nat} {s : mtS} {q : Int64} : mtLe s (mtA d s q) := by
  by_cases h : s.2.2.2 = true
  · rw [mtA_o h]; exact mtLe.rf
  · by_cases hk : ∃ i, i < s.2.2.1 ∧ s.1 i = q
    · rw [mtA_k h hk]; exact mtLe.rf
    · by_cases hn : s.2.2.1 = 20000
      · rw [mtA_f h hk hn]; exact ⟨Nat.le_refl _, fun _ _ => ⟨rfl, rfl⟩⟩
      · rw [mtA_n h hk hn]
        refine ⟨Nat.le_succ _, fun i hi => ?_⟩
        show (if i = s.2.2.1 then q else s.1 i) = s.1 i ∧ (if i = s.2.2.1 then d else s.2.1 i) = s.2.1 i
        rw [if_neg (by omega), if_neg (by omega)]
        exact ⟨rfl, rfl⟩
theorem nbA_le {w h : Nat} {p : Int64} {d : Nat} {s : mtS} : ∀ k, mtLe s (nbA w h p d s k) := by
  intro k
  induction k with
  | zero => exact mtLe.rf
  | succ k ih =>
    simp only [nbA]
    by_cases c : swq w h p k = true
    · rw [if_pos c]; exact ih.tr mtA_le
    · rw [if_neg c]; exact ih
theorem isIn9.le {s u : mtS} {q : Int64} (h : isIn9 s q) (hl : mtLe s u) : isIn9 u q := by
  obtain ⟨i, a, b⟩ := h
  exact ⟨i, Nat.lt_of_lt_of_le a hl.1, (hl.2 i a).1.trans b⟩
/-- where nothing was spent, all neighbours are met -/
theorem nbA_in {w h : Nat} {p : Int64} {d : Nat} {s : mtS} : ∀ k, (nbA w h p d s k).2.2.2 = false → ∀ j, j < k → swq w h p j = true → isIn9 (nbA w h p d s k) (swx w h p j) := by
  intro k
  induction k with
  | zero => intro _ j hj; exact absurd hj (Nat.not_lt_zero _)
  | succ k ih =>
    intro ho j hj hs
    simp only [nbA] at ho ⊢
    by_cases c : swq w h p k = true
    · rw [if_pos c] at ho ⊢
      have no : ¬ (nbA w h p d s k).2.2.2 = true := fun z => by rw [mtA_o z, z] at ho; cases ho
      have no' : (nbA w h p d s k).2.2.2 = false := by
        cases hq : (nbA w h p d s k).2.2.2
        · rfl
        · exact absurd hq no
      by_cases z : j = k
      · subst z
        by_cases hk : ∃ i, i < (nbA w h p d s j).2.2.1 ∧ (nbA w h p d s j).1 i = swx w h p j
        · rw [mtA_k no hk]; exact hk
        · by_cases hn : (nbA w h p d s j).2.2.1 = 20000
          · rw [mtA_f no hk hn] at ho; cases ho
          · rw [mtA_n no hk hn]
            exact ⟨(nbA w h p d s j).2.2.1, Nat.lt_succ_self _, if_pos rfl⟩
      · exact (ih no' j (by omega) hs).le mtA_le
    · rw [if_neg c] at ho ⊢
      by_cases z : j = k
      · subst z; exact absurd hs c
      · exact ih ho j (by omega) hs
theorem nbA_o {w h : Nat} {p : Int64} {d : Nat} {s : mtS} (ho : s.2.2.2 = true) : ∀ k, nbA w h p d s k = s := by
  intro k
  induction k with
  | zero => rfl
  | succ k ih =>
    simp only [nbA]
    rw [ih, mtA_o ho]
    split <;> rfl
end BFS


section CAR17
variable {p : Program} {l : Launch} {e : Env} {R : Room} {s : State} {m : MethodId} {args : Array Value} {below : List Frame} {meth : Method} {c : Code} {H : Heap} {locs : List Loc} {cells slots : Nat} {Q : State → Prop}
variable {cc : ByteArray} {pc : Nat} {ls : Array Slot} {rest : List Value} {D : va_G} {cy : Nat → ClassId} {A : Nat → Prop} {ws : va_W} {G : cG} {H0 : Heap}
/-- a row of longs whose content is told, and that has a kind -/
theorem t_lastK (hx : p.tables.exec = Jvm.exec) (hb : c.code = cc) (hK : va_K D vwCl (cTy cy) s) (hP : va_P D vwCl ws H) (hD : va_D A ws) (hS : va_S A H0 H locs) (hT : cT cy G ws) {k9 a n z : Nat} {f : Nat → Int64} (hk9 : k9 = 1 ∨ k9 = 16 ∨ k9 = 17) (hg : G a = some (k9, n, z)) (hM : cIn ws a (.inl (cy 1, n, .inr (.inl f)))) {i : Int32} {x : Int64} (hin : vp_in i n) (hdg : decode cc pc = .ok (.lastore, 1))
    (kk : ∀ (H1 : Heap) (locs1 : List Loc) (ws1 : va_W), cUp ws a (.inl (cy 1, n, .inr (.inl (vp_updL f i.toNatClampNeg x)))) ws1 → va_P D vwCl ws1 H1 → va_D A ws1 → cT cy G ws1 → va_S A H0 H1 locs1 → W p l e R s m args below meth c H1 locs1 cells slots Q (F0 m (pc + 1) ls rest)) : W p l e R s m args below meth c H locs cells slots Q (F0 m pc ls (.long x :: .int i :: .ref a :: rest)) := by
  obtain ⟨q0, hq⟩ := hM
  exact va_last hx hb hK hP hD hS q0 1 hq rfl hin hdg (fun H1 locs1 h1 h2 h3 => kk H1 locs1 _ (cUp.set hq) h1 h2 (hT.up (cUp.set hq) hg (cLo hk9)) h3)
theorem t_ialdM (hx : p.tables.exec = Jvm.exec) (hb : c.code = cc) (hK : va_K D vwCl (cTy cy) s) (hP : va_P D vwCl ws H) {a n : Nat} {f : Nat → Int32} (hM : cIn ws a (.inl (cy 0, n, .inl f))) {i : Int32} (hin : vp_in i n) (hdg : decode cc pc = .ok (.iaload, 1))
    (kk : W p l e R s m args below meth c H locs cells slots Q (F0 m (pc + 1) ls (.int (f i.toNatClampNeg) :: rest))) : W p l e R s m args below meth c H locs cells slots Q (F0 m pc ls (.int i :: .ref a :: rest)) := by
  obtain ⟨q0, hq⟩ := hM
  exact va_iald hx hb hK hP q0 0 hq rfl hin hdg kk
theorem t_iastK (hx : p.tables.exec = Jvm.exec) (hb : c.code = cc) (hK : va_K D vwCl (cTy cy) s) (hP : va_P D vwCl ws H) (hD : va_D A ws) (hS : va_S A H0 H locs) (hT : cT cy G ws) {k9 a n z : Nat} {f : Nat → Int32} (hk9 : k9 = 0 ∨ k9 = 14 ∨ k9 = 20 ∨ k9 = 21 ∨ k9 = 22 ∨ k9 = 23) (hg : G a = some (k9, n, z)) (hM : cIn ws a (.inl (cy 0, n, .inl f))) {i x : Int32} (hin : vp_in i n) (hdg : decode cc pc = .ok (.iastore, 1))
    (kk : ∀ (H1 : Heap) (locs1 : List Loc) (ws1 : va_W), cUp ws a (.inl (cy 0, n, .inl (upd f i.toNatClampNeg x))) ws1 → va_P D vwCl ws1 H1 → va_D A ws1 → cT cy G ws1 → va_S A H0 H1 locs1 → W p l e R s m args below meth c H1 locs1 cells slots Q (F0 m (pc + 1) ls rest)) : W p l e R s m args below meth c H locs cells slots Q (F0 m pc ls (.int x :: .int i :: .ref a :: rest)) := by
  obtain ⟨q0, hq⟩ := hM
  exact va_iast hx hb hK hP hD hS q0 0 hq rfl hin hdg (fun H1 locs1 h1 h2 h3 => kk H1 locs1 _ (cUp.set hq) h1 h2 (hT.up (cUp.set hq) hg (cIo hk9)) h3)
end CAR17


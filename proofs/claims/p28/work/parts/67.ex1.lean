
def gdz (k : Nat) : Int := if k = 0 then 0 else if k = 3 then -1 else 1
theorem gdz_b (k : Nat) : -1 ≤ gdz k ∧ gdz k ≤ 1 := by unfold gdz; split <;> (try split) <;> omega
def gN (set : Int32) : Nat → Int → Int → Int
  | 0, x, y => if x = 0 ∧ y = 0 then 1 else 0
  | k + 1, x, y => if gB set k = 1 then gN set k x y - gN set k (x - gdx k) (y - gdz k) else gN set k x y
theorem gN_1 {set : Int32} {k : Nat} {x y : Int} (h : gB set k = 1) : gN set (k + 1) x y = gN set k x y - gN set k (x - gdx k) (y - gdz k) := by simp only [gN]; rw [if_pos h]
theorem gN_0 {set : Int32} {k : Nat} {x y : Int} (h : ¬ gB set k = 1) : gN set (k + 1) x y = gN set k x y := by simp only [gN]; rw [if_neg h]
theorem gN_b (set : Int32) (k : Nat) : ∀ x y : Int, -(2 ^ k : Nat) ≤ gN set k x y ∧ gN set k x y ≤ (2 ^ k : Nat) := by
  induction k with
  | zero => intro x y; simp only [gN]; split <;> decide
  | succ k ih =>
    intro x y
    have h1 := ih x y
    have h2 := ih (x - gdx k) (y - gdz k)
    have h3 : (2 ^ (k + 1) : Nat) = 2 * 2 ^ k := by rw [Nat.pow_succ]; omega
    by_cases h : gB set k = 1
    · rw [gN_1 h, h3]; omega
    · rw [gN_0 h, h3]; omega
/-- outside its few places a ghost is nought -/
theorem gN_z (set : Int32) (k : Nat) (hk : k ≤ 3) : ∀ x y : Int, (x < 0 ∨ (k : Int) < x ∨ y < 0 ∨ (k : Int) < y) → gN set k x y = 0 := by
  induction k with
  | zero => intro x y h; simp only [gN]; rw [if_neg (by omega)]
  | succ k ih =>
    intro x y h
    have hx := gdx_b k
    have hz : 0 ≤ gdz k ∧ gdz k ≤ 1 := by unfold gdz; split <;> (try split) <;> omega
    have h1 := ih (by omega) x y (by omega)
    have h2 := ih (by omega) (x - gdx k) (y - gdz k) (by omega)
    by_cases hb : gB set k = 1
    · rw [gN_1 hb, h1, h2]; rfl
    · rw [gN_0 hb, h1]
theorem gB_01 (set : Int32) (k : Nat) : gB set k = 0 ∨ gB set k = 1 := by
  have h := pk_andIn (set >>> (nI k &&& 31)) (m := 1) 1 (by decide) (by decide)
  have h1 := vp_in_iff.mp h
  unfold gB
  generalize (set >>> (nI k &&& 31)) &&& 1 = z at h1
  have e0 : (0 : Int32).toInt = 0 := rfl
  have e1 : (1 : Int32).toInt = 1 := rfl
  have h2 : z.toInt = 0 ∨ z.toInt = 1 := by omega
  rcases h2 with h2 | h2
  · exact Or.inl (Int32.toInt_inj.mp (h2.trans e0.symm))
  · exact Or.inr (Int32.toInt_inj.mp (h2.trans e1.symm))
theorem g_sx {x : Nat → Int32} {k : Nat} {v w : Int32} (hk : k < 4) (hx : x 0 = 1 ∧ x 1 = 0 ∧ x 2 = 1 ∧ x 3 = 1) (ew : w = nI k) (e1 : v = x w.toNatClampNeg) : v.toInt = gdx k := by
  rw [ew, nI_clamp (by omega)] at e1
  obtain ⟨h0, h1, h2, h3⟩ := hx
  have h : k = 0 ∨ k = 1 ∨ k = 2 ∨ k = 3 := by omega
  rcases h with rfl | rfl | rfl | rfl
  · rw [h0] at e1; subst e1; decide
  · rw [h1] at e1; subst e1; decide
  · rw [h2] at e1; subst e1; decide
  · rw [h3] at e1; subst e1; decide
theorem g_sy {x : Nat → Int32} {k : Nat} {v w : Int32} (hk : k < 4) (hx : x 0 = 0 ∧ x 1 = 1 ∧ x 2 = 1 ∧ x 3 = -1) (ew : w = nI k) (e1 : v = x w.toNatClampNeg) : v.toInt = gdz k := by
  rw [ew, nI_clamp (by omega)] at e1
  obtain ⟨h0, h1, h2, h3⟩ := hx
  have h : k = 0 ∨ k = 1 ∨ k = 2 ∨ k = 3 := by omega
  rcases h with rfl | rfl | rfl | rfl
  · rw [h0] at e1; subst e1; decide
  · rw [h1] at e1; subst e1; decide
  · rw [h2] at e1; subst e1; decide
  · rw [h3] at e1; subst e1; decide
theorem g_way {w : Int32} {k : Nat} (hk : k < 4) (h : w.toInt = (k : Int)) : w = nI k := Int32.toInt_inj.mp (by rw [h, nI_toInt (by omega)])
/-- the number at x, y of the whole ghost, told from the corner of its square -/
def gF (set : Int32) : Int := (gB set 3).toInt
def gV (set x y : Int32) : Int := gN set 4 x.toInt (y.toInt - gF set)
def gOk (set x y : Int32) : Prop := (1 ≤ set.toInt ∧ set.toInt ≤ 15) ∧ (0 ≤ x.toInt ∧ x.toInt ≤ 8) ∧ (0 ≤ y.toInt ∧ y.toInt ≤ 8)

theorem t_lastf {p : Program} {l : Launch} {e : Env} {R : Room} {s : State} {m : MethodId} {args : Array Value} {below : List Frame} {meth : Method} {c : Code} {H : Heap} {locs : List Loc} {cells slots : Nat} {Q : State → Prop} {cc : ByteArray} {pc : Nat} {ls : Array Slot} {rest : List Value} {D : va_G} {cy : Nat → ClassId} {A : Nat → Prop} {ws : va_W} {G : cG} {H0 : Heap} (hx : p.tables.exec = Jvm.exec) (hb : c.code = cc) (hK : va_K D vwCl (cTy cy) s) (hP : va_P D vwCl ws H) (hD : va_D A ws) (hS : va_S A H0 H locs) (hT : cT cy G ws) {a n z : Nat} (hg : G a = some (1, n, z)) {i : Int32} {x : Int64} (hin : vp_in i n) (hdg : decode cc pc = .ok (.lastore, 1))
    (kk : ∀ (H1 : Heap) (locs1 : List Loc) (ws1 : va_W), cF (fun b => b = a) ws ws1 → (∃ w : Nat → Int64, cIn ws1 a (.inl (cy 1, n, .inr (.inl w))) ∧ w i.toNatClampNeg = x) → va_P D vwCl ws1 H1 → va_D A ws1 → cT cy G ws1 → va_S A H0 H1 locs1 → W p l e R s m args below meth c H1 locs1 cells slots Q (F0 m (pc + 1) ls rest)) : W p l e R s m args below meth c H locs cells slots Q (F0 m pc ls (.long x :: .int i :: .ref a :: rest)) := by
  obtain ⟨_, ⟨q0, hq⟩, w, rfl⟩ := hT _ _ hg
  exact va_last hx hb hK hP hD hS q0 1 hq rfl hin hdg (fun H1 locs1 h1 h2 h3 => kk H1 locs1 _ (cF.up (cUp.set hq) rfl) ⟨_, (cUp.set hq).1, by simp [vp_updL]⟩ h1 h2 (hT.up (cUp.set hq) hg ⟨_, rfl⟩) h3)
set_option maxHeartbeats 4000000 in
set_option maxRecDepth 100000 in
theorem c_X9_ghostNumber_x0 (l : Launch) (D : va_G) (cy : Nat → ClassId) (A : Nat → Prop) (G : cG) (ws : va_W) (set : Int32) (way : Int32) (x : Int32) (y : Int32)  (hD : va_D A ws) (hT : cT cy G ws)  (hw0 : way.toInt = -1) (hx0 : -20 ≤ x.toInt ∧ x.toInt ≤ 20) (hy0 : -20 ≤ y.toInt ∧ y.toInt ≤ 20) : Ei l D cy A yX9_ghostNumber wsX9_ghostNumber ({ frames := 0, cells := 0, slots := 0, locals := 0 }) 0 0 ws [.int set, .int way, .int x, .int y] (fun r0 u => u = (G, ws) ∧ (r0.toInt = gN set 0 x.toInt y.toInt)) := by
  refine Met.ofW (cc := cX9_ghostNumber) (maxL := 5) (ret := (some .int)) (by decide) rfl ?_
  intro p e s m args below meth c s₁ B hml hv
  obtain ⟨rfl, ⟨hP, hK, hA, hV⟩, hZ⟩ := hv
  obtain ⟨tX, tY, xX, xY, ⟨zX1, zX2, zX5⟩, ⟨zY1, zY2, zY5⟩⟩ := id hZ
  have hx := B.exec
  have hb := B.bytes
  have hr := B.returns
  have hts := atoms_spec (ws := wsX9_ghostNumber) B.pre
  have hown : s.vm.findClass RX9 = some m.cls := findClass_of_methodNamed B.named
  have hlocks := B.notSynchronized
  have hS : va_S A s.heap s.heap [] := va_S.rf
  have hl := lv_entry ([.int set, .int way, .int x, .int y]) (n := 5) (Nat.le_of_ble_eq_true rfl)
  rw [lg_entry_eq]
  generalize (lg_sl ([.int set, .int way, .int x, .int y]) ++ List.replicate (5 - (lg_sl ([.int set, .int way, .int x, .int y])).length) Slot.unset).toArray = ls at hl ⊢
  have hl : lv_has ls 5 [(0, .int set), (1, .int way), (2, .int x), (3, .int y)] := hl
  have k_0 : (0 : Int32).toInt = 0 := by decide
  have k_1 : (1 : Int32).toInt = 1 := by decide
  have k_4 : (4 : Int32).toInt = 4 := by decide
  refine lv_iload_n hx hb dX9_ghostNumber_0 rfl (lv_at hl 1 rfl) ?_
  refine lv_if_lt (tgt := 9) hx hb dX9_ghostNumber_1 (by decide) (fun c1 => ?_) (fun c1 => ?_)
  · skip
    have d1 := c1
    rw [fa_lt] at d1
    refine lv_iload_n hx hb dX9_ghostNumber_9 rfl (lv_at hl 2 rfl) ?_
    refine lv_if_ne (tgt := 21) hx hb dX9_ghostNumber_10 (by decide) (fun c10 => ?_) (fun c10 => ?_)
    · skip
      have d10 := c10
      rw [fa_eq] at d10
      refine lv_iconst (v := 0) hx hb dX9_ghostNumber_21 (by decide) ?_
      exact W.iret (v := (0 : Int32)) hx hb hr (fun t ht hW => ⟨⟨_, (G, ws), rfl, ⟨rfl, (by first | (exfalso; omega) | (simp only [gN]; rw [if_pos (by omega)]; rfl) | (simp only [gN]; rw [if_neg (by omega)]; rfl))⟩, by show va_P D vwCl ws t.heap; rw [ht]; exact hP, hD, hT⟩, hS.F ht⟩) hS.2.2 dX9_ghostNumber_22
    · skip
      have d10 := c10
      rw [fa_eq] at d10
      refine lv_iload_n hx hb dX9_ghostNumber_13 rfl (lv_at hl 3 rfl) ?_
      refine lv_if_ne (tgt := 21) hx hb dX9_ghostNumber_14 (by decide) (fun c14 => ?_) (fun c14 => ?_)
      · skip
        have d14 := c14
        rw [fa_eq] at d14
        refine lv_iconst (v := 0) hx hb dX9_ghostNumber_21 (by decide) ?_
        exact W.iret (v := (0 : Int32)) hx hb hr (fun t ht hW => ⟨⟨_, (G, ws), rfl, ⟨rfl, (by first | (exfalso; omega) | (simp only [gN]; rw [if_pos (by omega)]; rfl) | (simp only [gN]; rw [if_neg (by omega)]; rfl))⟩, by show va_P D vwCl ws t.heap; rw [ht]; exact hP, hD, hT⟩, hS.F ht⟩) hS.2.2 dX9_ghostNumber_22
      · skip
        have d14 := c14
        rw [fa_eq] at d14
        refine lv_iconst (v := 1) hx hb dX9_ghostNumber_17 (by decide) ?_
        refine lv_goto (tgt := 22) hx hb dX9_ghostNumber_18 (by decide) ?_
        exact W.iret (v := (1 : Int32)) hx hb hr (fun t ht hW => ⟨⟨_, (G, ws), rfl, ⟨rfl, (by first | (exfalso; omega) | (simp only [gN]; rw [if_pos (by omega)]; rfl) | (simp only [gN]; rw [if_neg (by omega)]; rfl))⟩, by show va_P D vwCl ws t.heap; rw [ht]; exact hP, hD, hT⟩, hS.F ht⟩) hS.2.2 dX9_ghostNumber_22
  · skip
    have d1 := c1
    rw [fa_lt] at d1
    refine lv_iload_n hx hb dX9_ghostNumber_4 rfl (lv_at hl 1 rfl) ?_
    refine lv_iconst (v := 4) hx hb dX9_ghostNumber_5 (by decide) ?_
    refine lv_icmp_lt (tgt := 23) hx hb dX9_ghostNumber_6 (by decide) (fun c6 => ?_) (fun c6 => ?_)
    · skip
      have d6 := c6
      rw [fa_lt] at d6
      exfalso; omega
    · skip
      have d6 := c6
      rw [fa_lt] at d6
      refine lv_iload_n hx hb dX9_ghostNumber_9 rfl (lv_at hl 2 rfl) ?_
      refine lv_if_ne (tgt := 21) hx hb dX9_ghostNumber_10 (by decide) (fun c10 => ?_) (fun c10 => ?_)
      · skip
        have d10 := c10
        rw [fa_eq] at d10
        refine lv_iconst (v := 0) hx hb dX9_ghostNumber_21 (by decide) ?_
        exact W.iret (v := (0 : Int32)) hx hb hr (fun t ht hW => ⟨⟨_, (G, ws), rfl, ⟨rfl, (by first | (exfalso; omega) | (simp only [gN]; rw [if_pos (by omega)]; rfl) | (simp only [gN]; rw [if_neg (by omega)]; rfl))⟩, by show va_P D vwCl ws t.heap; rw [ht]; exact hP, hD, hT⟩, hS.F ht⟩) hS.2.2 dX9_ghostNumber_22
      · skip
        have d10 := c10
        rw [fa_eq] at d10
        refine lv_iload_n hx hb dX9_ghostNumber_13 rfl (lv_at hl 3 rfl) ?_
        refine lv_if_ne (tgt := 21) hx hb dX9_ghostNumber_14 (by decide) (fun c14 => ?_) (fun c14 => ?_)
        · skip
          have d14 := c14
          rw [fa_eq] at d14
          refine lv_iconst (v := 0) hx hb dX9_ghostNumber_21 (by decide) ?_
          exact W.iret (v := (0 : Int32)) hx hb hr (fun t ht hW => ⟨⟨_, (G, ws), rfl, ⟨rfl, (by first | (exfalso; omega) | (simp only [gN]; rw [if_pos (by omega)]; rfl) | (simp only [gN]; rw [if_neg (by omega)]; rfl))⟩, by show va_P D vwCl ws t.heap; rw [ht]; exact hP, hD, hT⟩, hS.F ht⟩) hS.2.2 dX9_ghostNumber_22
        · skip
          have d14 := c14
          rw [fa_eq] at d14
          refine lv_iconst (v := 1) hx hb dX9_ghostNumber_17 (by decide) ?_
          refine lv_goto (tgt := 22) hx hb dX9_ghostNumber_18 (by decide) ?_
          exact W.iret (v := (1 : Int32)) hx hb hr (fun t ht hW => ⟨⟨_, (G, ws), rfl, ⟨rfl, (by first | (exfalso; omega) | (simp only [gN]; rw [if_pos (by omega)]; rfl) | (simp only [gN]; rw [if_neg (by omega)]; rfl))⟩, by show va_P D vwCl ws t.heap; rw [ht]; exact hP, hD, hT⟩, hS.F ht⟩) hS.2.2 dX9_ghostNumber_22
set_option maxHeartbeats 4000000 in
set_option maxRecDepth 100000 in
theorem c_X9_ghostNumber_x1 (l : Launch) (D : va_G) (cy : Nat → ClassId) (A : Nat → Prop) (G : cG) (ws : va_W) (set : Int32) (way : Int32) (x : Int32) (y : Int32)  (hD : va_D A ws) (hT : cT cy G ws)  (hw0 : way.toInt = 0) (hx0 : -19 ≤ x.toInt ∧ x.toInt ≤ 19) (hy0 : -19 ≤ y.toInt ∧ y.toInt ≤ 19) : Ei l D cy A yX9_ghostNumber wsX9_ghostNumber ({ frames := 1, cells := 0, slots := 0, locals := 24 }) 0 0 ws [.int set, .int way, .int x, .int y] (fun r0 u => u = (G, ws) ∧ (r0.toInt = gN set 1 x.toInt y.toInt)) := by
  refine Met.ofW (cc := cX9_ghostNumber) (maxL := 5) (ret := (some .int)) (by decide) rfl ?_
  intro p e s m args below meth c s₁ B hml hv
  obtain ⟨rfl, ⟨hP, hK, hA, hV⟩, hZ⟩ := hv
  obtain ⟨tX, tY, xX, xY, ⟨zX1, zX2, zX5⟩, ⟨zY1, zY2, zY5⟩⟩ := id hZ
  have hx := B.exec
  have hb := B.bytes
  have hr := B.returns
  have hts := atoms_spec (ws := wsX9_ghostNumber) B.pre
  have hown : s.vm.findClass RX9 = some m.cls := findClass_of_methodNamed B.named
  have hlocks := B.notSynchronized
  have hS : va_S A s.heap s.heap [] := va_S.rf
  have hl := lv_entry ([.int set, .int way, .int x, .int y]) (n := 5) (Nat.le_of_ble_eq_true rfl)
  rw [lg_entry_eq]
  generalize (lg_sl ([.int set, .int way, .int x, .int y]) ++ List.replicate (5 - (lg_sl ([.int set, .int way, .int x, .int y])).length) Slot.unset).toArray = ls at hl ⊢
  have hl : lv_has ls 5 [(0, .int set), (1, .int way), (2, .int x), (3, .int y)] := hl
  have k_0 : (0 : Int32).toInt = 0 := by decide
  have k_1 : (1 : Int32).toInt = 1 := by decide
  have k_4 : (4 : Int32).toInt = 4 := by decide
  have ew : way = nI 0 := g_way (by decide) hw0
  have dxb := gdx_b 0
  have dzb := gdz_b 0
  have g01 := gB_01 set 0
  refine lv_iload_n hx hb dX9_ghostNumber_0 rfl (lv_at hl 1 rfl) ?_
  refine lv_if_lt (tgt := 9) hx hb dX9_ghostNumber_1 (by decide) (fun c1 => ?_) (fun c1 => ?_)
  · skip
    have d1 := c1
    rw [fa_lt] at d1
    refine lv_iload_n hx hb dX9_ghostNumber_9 rfl (lv_at hl 2 rfl) ?_
    refine lv_if_ne (tgt := 21) hx hb dX9_ghostNumber_10 (by decide) (fun c10 => ?_) (fun c10 => ?_)
    · skip
      have d10 := c10
      rw [fa_eq] at d10
      refine lv_iconst (v := 0) hx hb dX9_ghostNumber_21 (by decide) ?_
      exact W.iret (v := (0 : Int32)) hx hb hr (fun t ht hW => ⟨⟨_, (G, ws), rfl, ⟨rfl, (by first | (exfalso; omega) | (simp only [gN]; rw [if_pos (by omega)]; rfl) | (simp only [gN]; rw [if_neg (by omega)]; rfl))⟩, by show va_P D vwCl ws t.heap; rw [ht]; exact hP, hD, hT⟩, hS.F ht⟩) hS.2.2 dX9_ghostNumber_22
    · skip
      have d10 := c10
      rw [fa_eq] at d10
      refine lv_iload_n hx hb dX9_ghostNumber_13 rfl (lv_at hl 3 rfl) ?_
      refine lv_if_ne (tgt := 21) hx hb dX9_ghostNumber_14 (by decide) (fun c14 => ?_) (fun c14 => ?_)
      · skip
        have d14 := c14
        rw [fa_eq] at d14
        refine lv_iconst (v := 0) hx hb dX9_ghostNumber_21 (by decide) ?_
        exact W.iret (v := (0 : Int32)) hx hb hr (fun t ht hW => ⟨⟨_, (G, ws), rfl, ⟨rfl, (by first | (exfalso; omega) | (simp only [gN]; rw [if_pos (by omega)]; rfl) | (simp only [gN]; rw [if_neg (by omega)]; rfl))⟩, by show va_P D vwCl ws t.heap; rw [ht]; exact hP, hD, hT⟩, hS.F ht⟩) hS.2.2 dX9_ghostNumber_22
      · skip
        have d14 := c14
        rw [fa_eq] at d14
        refine lv_iconst (v := 1) hx hb dX9_ghostNumber_17 (by decide) ?_
        refine lv_goto (tgt := 22) hx hb dX9_ghostNumber_18 (by decide) ?_
        exact W.iret (v := (1 : Int32)) hx hb hr (fun t ht hW => ⟨⟨_, (G, ws), rfl, ⟨rfl, (by first | (exfalso; omega) | (simp only [gN]; rw [if_pos (by omega)]; rfl) | (simp only [gN]; rw [if_neg (by omega)]; rfl))⟩, by show va_P D vwCl ws t.heap; rw [ht]; exact hP, hD, hT⟩, hS.F ht⟩) hS.2.2 dX9_ghostNumber_22
  · skip
    have d1 := c1
    rw [fa_lt] at d1
    refine lv_iload_n hx hb dX9_ghostNumber_4 rfl (lv_at hl 1 rfl) ?_
    refine lv_iconst (v := 4) hx hb dX9_ghostNumber_5 (by decide) ?_
    refine lv_icmp_lt (tgt := 23) hx hb dX9_ghostNumber_6 (by decide) (fun c6 => ?_) (fun c6 => ?_)
    · skip
      have d6 := c6
      rw [fa_lt] at d6
      refine lv_iload_n hx hb dX9_ghostNumber_23 rfl (lv_at hl 0 rfl) ?_
      refine lv_iload_n hx hb dX9_ghostNumber_24 rfl (lv_at hl 1 rfl) ?_
      refine lv_iconst (v := 1) hx hb dX9_ghostNumber_25 (by decide) ?_
      refine lv_isub hx hb dX9_ghostNumber_26 ?_
      refine lv_topi (fun v26 e26 => ?_)
      have i26 : v26.toInt = way.toInt - (1 : Int32).toInt := by rw [e26]; exact fb_subI (by omega) (by omega)
      refine lv_iload_n hx hb dX9_ghostNumber_27 rfl (lv_at hl 2 rfl) ?_
      refine lv_iload_n hx hb dX9_ghostNumber_28 rfl (lv_at hl 3 rfl) ?_
      refine t_calli (va_runS (g := F0 m 29 ls ([.int y, .int x, .int v26, .int set])) (As := [.int set, .int v26, .int x, .int y]) (rest := []) ⟨hx, hb, hml, hown, hts⟩ (c_X9_ghostNumber_x0 l D cy A G ws set v26 x y hD hT (by omega) (by omega) (by omega)) (va_cwS 4 hts gX9_ghostNumber_X9_ghostNumber rfl rfl rfl (by decide +kernel) ⟨Nat.le_of_ble_eq_true rfl, Nat.le_of_ble_eq_true rfl⟩) (e_preS hP hK hA hS hV hZ) rfl rfl hl.1 rfl (lv_room (Nat.le_of_ble_eq_true rfl)) dX9_ghostNumber_29 ⟨Nat.le_of_ble_eq_true rfl, Nat.le_of_ble_eq_true rfl⟩) hS (fun r29 u H locs q29 hP9 hD9 hT9 hS => ?_)
      obtain ⟨rfl, q29⟩ := q29
      have hP : va_P D vwCl ws H := hP9
      refine lv_istore (lv' := [(4, .int r29), (0, .int set), (1, .int way), (2, .int x), (3, .int y)]) hx hb dX9_ghostNumber_32 hl (by decide) rfl (fun ls hl => ?_)
      refine lv_iload_n hx hb dX9_ghostNumber_34 rfl (lv_at hl 1 rfl) ?_
      refine lv_iload_n hx hb dX9_ghostNumber_35 rfl (lv_at hl 2 rfl) ?_
      refine lv_ishr hx hb dX9_ghostNumber_36 ?_
      refine lv_topi (fun v36 e36 => ?_)
      refine lv_iconst (v := 1) hx hb dX9_ghostNumber_37 (by decide) ?_
      refine lv_iand hx hb dX9_ghostNumber_38 ?_
      refine lv_topi (fun v38 e38 => ?_)
      have hB : gB set 0 = v38 := by rw [e38, e36, ew]; rfl
      refine lv_if_ne (tgt := 45) hx hb dX9_ghostNumber_39 (by decide) (fun c39 => ?_) (fun c39 => ?_)
      · skip
        have d39 := c39
        rw [fa_eq] at d39
        refine lv_iload hx hb dX9_ghostNumber_45 (lv_at hl 0 rfl) ?_
        refine lv_iload_n hx hb dX9_ghostNumber_47 rfl (lv_at hl 1 rfl) ?_
        refine lv_iload_n hx hb dX9_ghostNumber_48 rfl (lv_at hl 2 rfl) ?_
        refine lv_iconst (v := 1) hx hb dX9_ghostNumber_49 (by decide) ?_
        refine lv_isub hx hb dX9_ghostNumber_50 ?_
        refine lv_topi (fun v50 e50 => ?_)
        have i50 : v50.toInt = way.toInt - (1 : Int32).toInt := by rw [e50]; exact fb_subI (by omega) (by omega)
        refine lv_iload_n hx hb dX9_ghostNumber_51 rfl (lv_at hl 3 rfl) ?_
        refine va_gets hx hb zX1 hS hown (hts (.fieldLink RX9 309 "ShadowBench$Board" "STEP_X" "[I") (by decide +kernel)) (fun _ h9 => h9) dX9_ghostNumber_52 ?_
        refine lv_iload_n hx hb dX9_ghostNumber_55 rfl (lv_at hl 2 rfl) ?_
        refine va_ti hx hb zX2 hS (i := way) (vp_in_iff.mpr ⟨by omega, by omega⟩) (v := .int (xX way.toNatClampNeg)) rfl dX9_ghostNumber_56 ?_
        refine lv_topi (fun v56 e56 => ?_)
        have a56 := g_sx (k := 0) (by decide) zX5 ew e56
        refine lv_isub hx hb dX9_ghostNumber_57 ?_
        refine lv_topi (fun v57 e57 => ?_)
        have i57 : v57.toInt = x.toInt - v56.toInt := by rw [e57]; exact fb_subI (by omega) (by omega)
        refine lv_iload_n hx hb dX9_ghostNumber_58 rfl (lv_at hl 4 rfl) ?_
        refine va_gets hx hb zY1 hS hown (hts (.fieldLink RX9 313 "ShadowBench$Board" "STEP_Y" "[I") (by decide +kernel)) (fun _ h9 => h9) dX9_ghostNumber_59 ?_
        refine lv_iload_n hx hb dX9_ghostNumber_62 rfl (lv_at hl 2 rfl) ?_
        refine va_ti hx hb zY2 hS (i := way) (vp_in_iff.mpr ⟨by omega, by omega⟩) (v := .int (xY way.toNatClampNeg)) rfl dX9_ghostNumber_63 ?_
        refine lv_topi (fun v63 e63 => ?_)
        have a63 := g_sy (k := 0) (by decide) zY5 ew e63
        refine lv_isub hx hb dX9_ghostNumber_64 ?_
        refine lv_topi (fun v64 e64 => ?_)
        have i64 : v64.toInt = y.toInt - v63.toInt := by rw [e64]; exact fb_subI (by omega) (by omega)
        refine t_calli (va_runS (g := F0 m 65 ls ([.int v64, .int v57, .int v50, .int set, .int r29])) (As := [.int set, .int v50, .int v57, .int v64]) (rest := [.int r29]) ⟨hx, hb, hml, hown, hts⟩ (c_X9_ghostNumber_x0 l D cy A G ws set v50 v57 v64 hD hT (by omega) (by omega) (by omega)) (va_cwS 4 hts gX9_ghostNumber_X9_ghostNumber rfl rfl rfl (by decide +kernel) ⟨Nat.le_of_ble_eq_true rfl, Nat.le_of_ble_eq_true rfl⟩) (e_preS hP hK hA hS hV hZ) rfl rfl hl.1 rfl (lv_room (Nat.le_of_ble_eq_true rfl)) dX9_ghostNumber_65 ⟨Nat.le_of_ble_eq_true rfl, Nat.le_of_ble_eq_true rfl⟩) hS (fun r65 u H locs q65 hP9 hD9 hT9 hS => ?_)
        obtain ⟨rfl, q65⟩ := q65
        have hP : va_P D vwCl ws H := hP9
        have p1 := gN_b set 0 x.toInt y.toInt
        have p2 := gN_b set 0 v57.toInt v64.toInt
        simp only [show (2 ^ 0 : Nat) = 1 from by decide] at p1 p2
        refine lv_isub hx hb dX9_ghostNumber_68 ?_
        refine lv_topi (fun v68 e68 => ?_)
        have i68 : v68.toInt = r29.toInt - r65.toInt := by rw [e68]; exact fb_subI (by omega) (by omega)
        exact W.iret (v := v68) hx hb hr (fun t ht hW => ⟨⟨_, (G, ws), rfl, ⟨rfl, (by have hb1 : gB set 0 = 1 := g01.resolve_left (fun z => c39 (hB.symm.trans z)); show _ = gN set (0 + 1) _ _; rw [gN_1 hb1, ← a56, ← a63, ← i57, ← i64, ← q29, ← q65]; exact i68)⟩, by show va_P D vwCl ws t.heap; rw [ht]; exact hP, hD, hT⟩, hS.F ht⟩) hS.2.2 dX9_ghostNumber_69
      · skip
        have d39 := c39
        rw [fa_eq] at d39
        refine lv_iload hx hb dX9_ghostNumber_42 (lv_at hl 0 rfl) ?_
        exact W.iret (v := r29) hx hb hr (fun t ht hW => ⟨⟨_, (G, ws), rfl, ⟨rfl, (by show _ = gN set (0 + 1) _ _; rw [gN_0 (fun z => absurd (c39.symm.trans (hB.symm.trans z)) (by decide))]; exact q29)⟩, by show va_P D vwCl ws t.heap; rw [ht]; exact hP, hD, hT⟩, hS.F ht⟩) hS.2.2 dX9_ghostNumber_44
    · skip
      have d6 := c6
      rw [fa_lt] at d6
      refine lv_iload_n hx hb dX9_ghostNumber_9 rfl (lv_at hl 2 rfl) ?_
      refine lv_if_ne (tgt := 21) hx hb dX9_ghostNumber_10 (by decide) (fun c10 => ?_) (fun c10 => ?_)
      · skip
        have d10 := c10
        rw [fa_eq] at d10
        refine lv_iconst (v := 0) hx hb dX9_ghostNumber_21 (by decide) ?_
        exact W.iret (v := (0 : Int32)) hx hb hr (fun t ht hW => ⟨⟨_, (G, ws), rfl, ⟨rfl, (by first | (exfalso; omega) | (simp only [gN]; rw [if_pos (by omega)]; rfl) | (simp only [gN]; rw [if_neg (by omega)]; rfl))⟩, by show va_P D vwCl ws t.heap; rw [ht]; exact hP, hD, hT⟩, hS.F ht⟩) hS.2.2 dX9_ghostNumber_22
      · skip
        have d10 := c10
        rw [fa_eq] at d10
        refine lv_iload_n hx hb dX9_ghostNumber_13 rfl (lv_at hl 3 rfl) ?_
        refine lv_if_ne (tgt := 21) hx hb dX9_ghostNumber_14 (by decide) (fun c14 => ?_) (fun c14 => ?_)
        · skip
          have d14 := c14
          rw [fa_eq] at d14
          refine lv_iconst (v := 0) hx hb dX9_ghostNumber_21 (by decide) ?_
          exact W.iret (v := (0 : Int32)) hx hb hr (fun t ht hW => ⟨⟨_, (G, ws), rfl, ⟨rfl, (by first | (exfalso; omega) | (simp only [gN]; rw [if_pos (by omega)]; rfl) | (simp only [gN]; rw [if_neg (by omega)]; rfl))⟩, by show va_P D vwCl ws t.heap; rw [ht]; exact hP, hD, hT⟩, hS.F ht⟩) hS.2.2 dX9_ghostNumber_22
        · skip
          have d14 := c14
          rw [fa_eq] at d14
          refine lv_iconst (v := 1) hx hb dX9_ghostNumber_17 (by decide) ?_
          refine lv_goto (tgt := 22) hx hb dX9_ghostNumber_18 (by decide) ?_
          exact W.iret (v := (1 : Int32)) hx hb hr (fun t ht hW => ⟨⟨_, (G, ws), rfl, ⟨rfl, (by first | (exfalso; omega) | (simp only [gN]; rw [if_pos (by omega)]; rfl) | (simp only [gN]; rw [if_neg (by omega)]; rfl))⟩, by show va_P D vwCl ws t.heap; rw [ht]; exact hP, hD, hT⟩, hS.F ht⟩) hS.2.2 dX9_ghostNumber_22
set_option maxHeartbeats 4000000 in
set_option maxRecDepth 100000 in
theorem c_X9_ghostNumber_x2 (l : Launch) (D : va_G) (cy : Nat → ClassId) (A : Nat → Prop) (G : cG) (ws : va_W) (set : Int32) (way : Int32) (x : Int32) (y : Int32)  (hD : va_D A ws) (hT : cT cy G ws)  (hw0 : way.toInt = 1) (hx0 : -18 ≤ x.toInt ∧ x.toInt ≤ 18) (hy0 : -18 ≤ y.toInt ∧ y.toInt ≤ 18) : Ei l D cy A yX9_ghostNumber wsX9_ghostNumber ({ frames := 2, cells := 0, slots := 0, locals := 48 }) 0 0 ws [.int set, .int way, .int x, .int y] (fun r0 u => u = (G, ws) ∧ (r0.toInt = gN set 2 x.toInt y.toInt)) := by
  refine Met.ofW (cc := cX9_ghostNumber) (maxL := 5) (ret := (some .int)) (by decide) rfl ?_
  intro p e s m args below meth c s₁ B hml hv
  obtain ⟨rfl, ⟨hP, hK, hA, hV⟩, hZ⟩ := hv
  obtain ⟨tX, tY, xX, xY, ⟨zX1, zX2, zX5⟩, ⟨zY1, zY2, zY5⟩⟩ := id hZ
  have hx := B.exec
  have hb := B.bytes
  have hr := B.returns
  have hts := atoms_spec (ws := wsX9_ghostNumber) B.pre
  have hown : s.vm.findClass RX9 = some m.cls := findClass_of_methodNamed B.named
  have hlocks := B.notSynchronized
  have hS : va_S A s.heap s.heap [] := va_S.rf
  have hl := lv_entry ([.int set, .int way, .int x, .int y]) (n := 5) (Nat.le_of_ble_eq_true rfl)
  rw [lg_entry_eq]
  generalize (lg_sl ([.int set, .int way, .int x, .int y]) ++ List.replicate (5 - (lg_sl ([.int set, .int way, .int x, .int y])).length) Slot.unset).toArray = ls at hl ⊢
  have hl : lv_has ls 5 [(0, .int set), (1, .int way), (2, .int x), (3, .int y)] := hl
  have k_0 : (0 : Int32).toInt = 0 := by decide
  have k_1 : (1 : Int32).toInt = 1 := by decide
  have k_4 : (4 : Int32).toInt = 4 := by decide
  have ew : way = nI 1 := g_way (by decide) hw0
  have dxb := gdx_b 1
  have dzb := gdz_b 1
  have g01 := gB_01 set 1
  refine lv_iload_n hx hb dX9_ghostNumber_0 rfl (lv_at hl 1 rfl) ?_
  refine lv_if_lt (tgt := 9) hx hb dX9_ghostNumber_1 (by decide) (fun c1 => ?_) (fun c1 => ?_)
  · skip
    have d1 := c1
    rw [fa_lt] at d1
    refine lv_iload_n hx hb dX9_ghostNumber_9 rfl (lv_at hl 2 rfl) ?_
    refine lv_if_ne (tgt := 21) hx hb dX9_ghostNumber_10 (by decide) (fun c10 => ?_) (fun c10 => ?_)
    · skip
      have d10 := c10
      rw [fa_eq] at d10
      refine lv_iconst (v := 0) hx hb dX9_ghostNumber_21 (by decide) ?_
      exact W.iret (v := (0 : Int32)) hx hb hr (fun t ht hW => ⟨⟨_, (G, ws), rfl, ⟨rfl, (by first | (exfalso; omega) | (simp only [gN]; rw [if_pos (by omega)]; rfl) | (simp only [gN]; rw [if_neg (by omega)]; rfl))⟩, by show va_P D vwCl ws t.heap; rw [ht]; exact hP, hD, hT⟩, hS.F ht⟩) hS.2.2 dX9_ghostNumber_22
    · skip
      have d10 := c10
      rw [fa_eq] at d10
      refine lv_iload_n hx hb dX9_ghostNumber_13 rfl (lv_at hl 3 rfl) ?_
      refine lv_if_ne (tgt := 21) hx hb dX9_ghostNumber_14 (by decide) (fun c14 => ?_) (fun c14 => ?_)
      · skip
        have d14 := c14
        rw [fa_eq] at d14
        refine lv_iconst (v := 0) hx hb dX9_ghostNumber_21 (by decide) ?_
        exact W.iret (v := (0 : Int32)) hx hb hr (fun t ht hW => ⟨⟨_, (G, ws), rfl, ⟨rfl, (by first | (exfalso; omega) | (simp only [gN]; rw [if_pos (by omega)]; rfl) | (simp only [gN]; rw [if_neg (by omega)]; rfl))⟩, by show va_P D vwCl ws t.heap; rw [ht]; exact hP, hD, hT⟩, hS.F ht⟩) hS.2.2 dX9_ghostNumber_22
      · skip
        have d14 := c14
        rw [fa_eq] at d14
        refine lv_iconst (v := 1) hx hb dX9_ghostNumber_17 (by decide) ?_
        refine lv_goto (tgt := 22) hx hb dX9_ghostNumber_18 (by decide) ?_
        exact W.iret (v := (1 : Int32)) hx hb hr (fun t ht hW => ⟨⟨_, (G, ws), rfl, ⟨rfl, (by first | (exfalso; omega) | (simp only [gN]; rw [if_pos (by omega)]; rfl) | (simp only [gN]; rw [if_neg (by omega)]; rfl))⟩, by show va_P D vwCl ws t.heap; rw [ht]; exact hP, hD, hT⟩, hS.F ht⟩) hS.2.2 dX9_ghostNumber_22
  · skip
    have d1 := c1
    rw [fa_lt] at d1
    refine lv_iload_n hx hb dX9_ghostNumber_4 rfl (lv_at hl 1 rfl) ?_
    refine lv_iconst (v := 4) hx hb dX9_ghostNumber_5 (by decide) ?_
    refine lv_icmp_lt (tgt := 23) hx hb dX9_ghostNumber_6 (by decide) (fun c6 => ?_) (fun c6 => ?_)
    · skip
      have d6 := c6
      rw [fa_lt] at d6
      refine lv_iload_n hx hb dX9_ghostNumber_23 rfl (lv_at hl 0 rfl) ?_
      refine lv_iload_n hx hb dX9_ghostNumber_24 rfl (lv_at hl 1 rfl) ?_
      refine lv_iconst (v := 1) hx hb dX9_ghostNumber_25 (by decide) ?_
      refine lv_isub hx hb dX9_ghostNumber_26 ?_
      refine lv_topi (fun v26 e26 => ?_)
      have i26 : v26.toInt = way.toInt - (1 : Int32).toInt := by rw [e26]; exact fb_subI (by omega) (by omega)
      refine lv_iload_n hx hb dX9_ghostNumber_27 rfl (lv_at hl 2 rfl) ?_
      refine lv_iload_n hx hb dX9_ghostNumber_28 rfl (lv_at hl 3 rfl) ?_
      refine t_calli (va_runS (g := F0 m 29 ls ([.int y, .int x, .int v26, .int set])) (As := [.int set, .int v26, .int x, .int y]) (rest := []) ⟨hx, hb, hml, hown, hts⟩ (c_X9_ghostNumber_x1 l D cy A G ws set v26 x y hD hT (by omega) (by omega) (by omega)) (va_cwS 4 hts gX9_ghostNumber_X9_ghostNumber rfl rfl rfl (by decide +kernel) ⟨Nat.le_of_ble_eq_true rfl, Nat.le_of_ble_eq_true rfl⟩) (e_preS hP hK hA hS hV hZ) rfl rfl hl.1 rfl (lv_room (Nat.le_of_ble_eq_true rfl)) dX9_ghostNumber_29 ⟨Nat.le_of_ble_eq_true rfl, Nat.le_of_ble_eq_true rfl⟩) hS (fun r29 u H locs q29 hP9 hD9 hT9 hS => ?_)
      obtain ⟨rfl, q29⟩ := q29
      have hP : va_P D vwCl ws H := hP9
      refine lv_istore (lv' := [(4, .int r29), (0, .int set), (1, .int way), (2, .int x), (3, .int y)]) hx hb dX9_ghostNumber_32 hl (by decide) rfl (fun ls hl => ?_)
      refine lv_iload_n hx hb dX9_ghostNumber_34 rfl (lv_at hl 1 rfl) ?_
      refine lv_iload_n hx hb dX9_ghostNumber_35 rfl (lv_at hl 2 rfl) ?_
      refine lv_ishr hx hb dX9_ghostNumber_36 ?_
      refine lv_topi (fun v36 e36 => ?_)
      refine lv_iconst (v := 1) hx hb dX9_ghostNumber_37 (by decide) ?_
      refine lv_iand hx hb dX9_ghostNumber_38 ?_
      refine lv_topi (fun v38 e38 => ?_)
      have hB : gB set 1 = v38 := by rw [e38, e36, ew]; rfl
      refine lv_if_ne (tgt := 45) hx hb dX9_ghostNumber_39 (by decide) (fun c39 => ?_) (fun c39 => ?_)
      · skip
        have d39 := c39
        rw [fa_eq] at d39
        refine lv_iload hx hb dX9_ghostNumber_45 (lv_at hl 0 rfl) ?_
        refine lv_iload_n hx hb dX9_ghostNumber_47 rfl (lv_at hl 1 rfl) ?_
        refine lv_iload_n hx hb dX9_ghostNumber_48 rfl (lv_at hl 2 rfl) ?_
        refine lv_iconst (v := 1) hx hb dX9_ghostNumber_49 (by decide) ?_
        refine lv_isub hx hb dX9_ghostNumber_50 ?_
        refine lv_topi (fun v50 e50 => ?_)
        have i50 : v50.toInt = way.toInt - (1 : Int32).toInt := by rw [e50]; exact fb_subI (by omega) (by omega)
        refine lv_iload_n hx hb dX9_ghostNumber_51 rfl (lv_at hl 3 rfl) ?_
        refine va_gets hx hb zX1 hS hown (hts (.fieldLink RX9 309 "ShadowBench$Board" "STEP_X" "[I") (by decide +kernel)) (fun _ h9 => h9) dX9_ghostNumber_52 ?_
        refine lv_iload_n hx hb dX9_ghostNumber_55 rfl (lv_at hl 2 rfl) ?_
        refine va_ti hx hb zX2 hS (i := way) (vp_in_iff.mpr ⟨by omega, by omega⟩) (v := .int (xX way.toNatClampNeg)) rfl dX9_ghostNumber_56 ?_
        refine lv_topi (fun v56 e56 => ?_)
        have a56 := g_sx (k := 1) (by decide) zX5 ew e56
        refine lv_isub hx hb dX9_ghostNumber_57 ?_
        refine lv_topi (fun v57 e57 => ?_)
        have i57 : v57.toInt = x.toInt - v56.toInt := by rw [e57]; exact fb_subI (by omega) (by omega)
        refine lv_iload_n hx hb dX9_ghostNumber_58 rfl (lv_at hl 4 rfl) ?_
        refine va_gets hx hb zY1 hS hown (hts (.fieldLink RX9 313 "ShadowBench$Board" "STEP_Y" "[I") (by decide +kernel)) (fun _ h9 => h9) dX9_ghostNumber_59 ?_
        refine lv_iload_n hx hb dX9_ghostNumber_62 rfl (lv_at hl 2 rfl) ?_
        refine va_ti hx hb zY2 hS (i := way) (vp_in_iff.mpr ⟨by omega, by omega⟩) (v := .int (xY way.toNatClampNeg)) rfl dX9_ghostNumber_63 ?_
        refine lv_topi (fun v63 e63 => ?_)
        have a63 := g_sy (k := 1) (by decide) zY5 ew e63
        refine lv_isub hx hb dX9_ghostNumber_64 ?_
        refine lv_topi (fun v64 e64 => ?_)
        have i64 : v64.toInt = y.toInt - v63.toInt := by rw [e64]; exact fb_subI (by omega) (by omega)
        refine t_calli (va_runS (g := F0 m 65 ls ([.int v64, .int v57, .int v50, .int set, .int r29])) (As := [.int set, .int v50, .int v57, .int v64]) (rest := [.int r29]) ⟨hx, hb, hml, hown, hts⟩ (c_X9_ghostNumber_x1 l D cy A G ws set v50 v57 v64 hD hT (by omega) (by omega) (by omega)) (va_cwS 4 hts gX9_ghostNumber_X9_ghostNumber rfl rfl rfl (by decide +kernel) ⟨Nat.le_of_ble_eq_true rfl, Nat.le_of_ble_eq_true rfl⟩) (e_preS hP hK hA hS hV hZ) rfl rfl hl.1 rfl (lv_room (Nat.le_of_ble_eq_true rfl)) dX9_ghostNumber_65 ⟨Nat.le_of_ble_eq_true rfl, Nat.le_of_ble_eq_true rfl⟩) hS (fun r65 u H locs q65 hP9 hD9 hT9 hS => ?_)
        obtain ⟨rfl, q65⟩ := q65
        have hP : va_P D vwCl ws H := hP9
        have p1 := gN_b set 1 x.toInt y.toInt
        have p2 := gN_b set 1 v57.toInt v64.toInt
        simp only [show (2 ^ 1 : Nat) = 2 from by decide] at p1 p2
        refine lv_isub hx hb dX9_ghostNumber_68 ?_
        refine lv_topi (fun v68 e68 => ?_)
        have i68 : v68.toInt = r29.toInt - r65.toInt := by rw [e68]; exact fb_subI (by omega) (by omega)
        exact W.iret (v := v68) hx hb hr (fun t ht hW => ⟨⟨_, (G, ws), rfl, ⟨rfl, (by have hb1 : gB set 1 = 1 := g01.resolve_left (fun z => c39 (hB.symm.trans z)); show _ = gN set (1 + 1) _ _; rw [gN_1 hb1, ← a56, ← a63, ← i57, ← i64, ← q29, ← q65]; exact i68)⟩, by show va_P D vwCl ws t.heap; rw [ht]; exact hP, hD, hT⟩, hS.F ht⟩) hS.2.2 dX9_ghostNumber_69
      · skip
        have d39 := c39
        rw [fa_eq] at d39
        refine lv_iload hx hb dX9_ghostNumber_42 (lv_at hl 0 rfl) ?_
        exact W.iret (v := r29) hx hb hr (fun t ht hW => ⟨⟨_, (G, ws), rfl, ⟨rfl, (by show _ = gN set (1 + 1) _ _; rw [gN_0 (fun z => absurd (c39.symm.trans (hB.symm.trans z)) (by decide))]; exact q29)⟩, by show va_P D vwCl ws t.heap; rw [ht]; exact hP, hD, hT⟩, hS.F ht⟩) hS.2.2 dX9_ghostNumber_44
    · skip
      have d6 := c6
      rw [fa_lt] at d6
      refine lv_iload_n hx hb dX9_ghostNumber_9 rfl (lv_at hl 2 rfl) ?_
      refine lv_if_ne (tgt := 21) hx hb dX9_ghostNumber_10 (by decide) (fun c10 => ?_) (fun c10 => ?_)
      · skip
        have d10 := c10
        rw [fa_eq] at d10
        refine lv_iconst (v := 0) hx hb dX9_ghostNumber_21 (by decide) ?_
        exact W.iret (v := (0 : Int32)) hx hb hr (fun t ht hW => ⟨⟨_, (G, ws), rfl, ⟨rfl, (by first | (exfalso; omega) | (simp only [gN]; rw [if_pos (by omega)]; rfl) | (simp only [gN]; rw [if_neg (by omega)]; rfl))⟩, by show va_P D vwCl ws t.heap; rw [ht]; exact hP, hD, hT⟩, hS.F ht⟩) hS.2.2 dX9_ghostNumber_22
      · skip
        have d10 := c10
        rw [fa_eq] at d10
        refine lv_iload_n hx hb dX9_ghostNumber_13 rfl (lv_at hl 3 rfl) ?_
        refine lv_if_ne (tgt := 21) hx hb dX9_ghostNumber_14 (by decide) (fun c14 => ?_) (fun c14 => ?_)
        · skip
          have d14 := c14
          rw [fa_eq] at d14
          refine lv_iconst (v := 0) hx hb dX9_ghostNumber_21 (by decide) ?_
          exact W.iret (v := (0 : Int32)) hx hb hr (fun t ht hW => ⟨⟨_, (G, ws), rfl, ⟨rfl, (by first | (exfalso; omega) | (simp only [gN]; rw [if_pos (by omega)]; rfl) | (simp only [gN]; rw [if_neg (by omega)]; rfl))⟩, by show va_P D vwCl ws t.heap; rw [ht]; exact hP, hD, hT⟩, hS.F ht⟩) hS.2.2 dX9_ghostNumber_22
        · skip
          have d14 := c14
          rw [fa_eq] at d14
          refine lv_iconst (v := 1) hx hb dX9_ghostNumber_17 (by decide) ?_
          refine lv_goto (tgt := 22) hx hb dX9_ghostNumber_18 (by decide) ?_
          exact W.iret (v := (1 : Int32)) hx hb hr (fun t ht hW => ⟨⟨_, (G, ws), rfl, ⟨rfl, (by first | (exfalso; omega) | (simp only [gN]; rw [if_pos (by omega)]; rfl) | (simp only [gN]; rw [if_neg (by omega)]; rfl))⟩, by show va_P D vwCl ws t.heap; rw [ht]; exact hP, hD, hT⟩, hS.F ht⟩) hS.2.2 dX9_ghostNumber_22
set_option maxHeartbeats 4000000 in
set_option maxRecDepth 100000 in
theorem c_X9_ghostNumber_x3 (l : Launch) (D : va_G) (cy : Nat → ClassId) (A : Nat → Prop) (G : cG) (ws : va_W) (set : Int32) (way : Int32) (x : Int32) (y : Int32)  (hD : va_D A ws) (hT : cT cy G ws)  (hw0 : way.toInt = 2) (hx0 : -17 ≤ x.toInt ∧ x.toInt ≤ 17) (hy0 : -17 ≤ y.toInt ∧ y.toInt ≤ 17) : Ei l D cy A yX9_ghostNumber wsX9_ghostNumber ({ frames := 3, cells := 0, slots := 0, locals := 72 }) 0 0 ws [.int set, .int way, .int x, .int y] (fun r0 u => u = (G, ws) ∧ (r0.toInt = gN set 3 x.toInt y.toInt)) := by
  refine Met.ofW (cc := cX9_ghostNumber) (maxL := 5) (ret := (some .int)) (by decide) rfl ?_
  intro p e s m args below meth c s₁ B hml hv
  obtain ⟨rfl, ⟨hP, hK, hA, hV⟩, hZ⟩ := hv
  obtain ⟨tX, tY, xX, xY, ⟨zX1, zX2, zX5⟩, ⟨zY1, zY2, zY5⟩⟩ := id hZ
  have hx := B.exec
  have hb := B.bytes
  have hr := B.returns
  have hts := atoms_spec (ws := wsX9_ghostNumber) B.pre
  have hown : s.vm.findClass RX9 = some m.cls := findClass_of_methodNamed B.named
  have hlocks := B.notSynchronized
  have hS : va_S A s.heap s.heap [] := va_S.rf
  have hl := lv_entry ([.int set, .int way, .int x, .int y]) (n := 5) (Nat.le_of_ble_eq_true rfl)
  rw [lg_entry_eq]
  generalize (lg_sl ([.int set, .int way, .int x, .int y]) ++ List.replicate (5 - (lg_sl ([.int set, .int way, .int x, .int y])).length) Slot.unset).toArray = ls at hl ⊢
  have hl : lv_has ls 5 [(0, .int set), (1, .int way), (2, .int x), (3, .int y)] := hl
  have k_0 : (0 : Int32).toInt = 0 := by decide
  have k_1 : (1 : Int32).toInt = 1 := by decide
  have k_4 : (4 : Int32).toInt = 4 := by decide
  have ew : way = nI 2 := g_way (by decide) hw0
  have dxb := gdx_b 2
  have dzb := gdz_b 2
  have g01 := gB_01 set 2
  refine lv_iload_n hx hb dX9_ghostNumber_0 rfl (lv_at hl 1 rfl) ?_
  refine lv_if_lt (tgt := 9) hx hb dX9_ghostNumber_1 (by decide) (fun c1 => ?_) (fun c1 => ?_)
  · skip
    have d1 := c1
    rw [fa_lt] at d1
    refine lv_iload_n hx hb dX9_ghostNumber_9 rfl (lv_at hl 2 rfl) ?_
    refine lv_if_ne (tgt := 21) hx hb dX9_ghostNumber_10 (by decide) (fun c10 => ?_) (fun c10 => ?_)
    · skip
      have d10 := c10
      rw [fa_eq] at d10
      refine lv_iconst (v := 0) hx hb dX9_ghostNumber_21 (by decide) ?_
      exact W.iret (v := (0 : Int32)) hx hb hr (fun t ht hW => ⟨⟨_, (G, ws), rfl, ⟨rfl, (by first | (exfalso; omega) | (simp only [gN]; rw [if_pos (by omega)]; rfl) | (simp only [gN]; rw [if_neg (by omega)]; rfl))⟩, by show va_P D vwCl ws t.heap; rw [ht]; exact hP, hD, hT⟩, hS.F ht⟩) hS.2.2 dX9_ghostNumber_22
    · skip
      have d10 := c10
      rw [fa_eq] at d10
      refine lv_iload_n hx hb dX9_ghostNumber_13 rfl (lv_at hl 3 rfl) ?_
      refine lv_if_ne (tgt := 21) hx hb dX9_ghostNumber_14 (by decide) (fun c14 => ?_) (fun c14 => ?_)
      · skip
        have d14 := c14
        rw [fa_eq] at d14
        refine lv_iconst (v := 0) hx hb dX9_ghostNumber_21 (by decide) ?_
        exact W.iret (v := (0 : Int32)) hx hb hr (fun t ht hW => ⟨⟨_, (G, ws), rfl, ⟨rfl, (by first | (exfalso; omega) | (simp only [gN]; rw [if_pos (by omega)]; rfl) | (simp only [gN]; rw [if_neg (by omega)]; rfl))⟩, by show va_P D vwCl ws t.heap; rw [ht]; exact hP, hD, hT⟩, hS.F ht⟩) hS.2.2 dX9_ghostNumber_22
      · skip
        have d14 := c14
        rw [fa_eq] at d14
        refine lv_iconst (v := 1) hx hb dX9_ghostNumber_17 (by decide) ?_
        refine lv_goto (tgt := 22) hx hb dX9_ghostNumber_18 (by decide) ?_
        exact W.iret (v := (1 : Int32)) hx hb hr (fun t ht hW => ⟨⟨_, (G, ws), rfl, ⟨rfl, (by first | (exfalso; omega) | (simp only [gN]; rw [if_pos (by omega)]; rfl) | (simp only [gN]; rw [if_neg (by omega)]; rfl))⟩, by show va_P D vwCl ws t.heap; rw [ht]; exact hP, hD, hT⟩, hS.F ht⟩) hS.2.2 dX9_ghostNumber_22
  · skip
    have d1 := c1
    rw [fa_lt] at d1
    refine lv_iload_n hx hb dX9_ghostNumber_4 rfl (lv_at hl 1 rfl) ?_
    refine lv_iconst (v := 4) hx hb dX9_ghostNumber_5 (by decide) ?_
    refine lv_icmp_lt (tgt := 23) hx hb dX9_ghostNumber_6 (by decide) (fun c6 => ?_) (fun c6 => ?_)
    · skip
      have d6 := c6
      rw [fa_lt] at d6
      refine lv_iload_n hx hb dX9_ghostNumber_23 rfl (lv_at hl 0 rfl) ?_
      refine lv_iload_n hx hb dX9_ghostNumber_24 rfl (lv_at hl 1 rfl) ?_
      refine lv_iconst (v := 1) hx hb dX9_ghostNumber_25 (by decide) ?_
      refine lv_isub hx hb dX9_ghostNumber_26 ?_
      refine lv_topi (fun v26 e26 => ?_)
      have i26 : v26.toInt = way.toInt - (1 : Int32).toInt := by rw [e26]; exact fb_subI (by omega) (by omega)
      refine lv_iload_n hx hb dX9_ghostNumber_27 rfl (lv_at hl 2 rfl) ?_
      refine lv_iload_n hx hb dX9_ghostNumber_28 rfl (lv_at hl 3 rfl) ?_
      refine t_calli (va_runS (g := F0 m 29 ls ([.int y, .int x, .int v26, .int set])) (As := [.int set, .int v26, .int x, .int y]) (rest := []) ⟨hx, hb, hml, hown, hts⟩ (c_X9_ghostNumber_x2 l D cy A G ws set v26 x y hD hT (by omega) (by omega) (by omega)) (va_cwS 4 hts gX9_ghostNumber_X9_ghostNumber rfl rfl rfl (by decide +kernel) ⟨Nat.le_of_ble_eq_true rfl, Nat.le_of_ble_eq_true rfl⟩) (e_preS hP hK hA hS hV hZ) rfl rfl hl.1 rfl (lv_room (Nat.le_of_ble_eq_true rfl)) dX9_ghostNumber_29 ⟨Nat.le_of_ble_eq_true rfl, Nat.le_of_ble_eq_true rfl⟩) hS (fun r29 u H locs q29 hP9 hD9 hT9 hS => ?_)
      obtain ⟨rfl, q29⟩ := q29
      have hP : va_P D vwCl ws H := hP9
      refine lv_istore (lv' := [(4, .int r29), (0, .int set), (1, .int way), (2, .int x), (3, .int y)]) hx hb dX9_ghostNumber_32 hl (by decide) rfl (fun ls hl => ?_)
      refine lv_iload_n hx hb dX9_ghostNumber_34 rfl (lv_at hl 1 rfl) ?_
      refine lv_iload_n hx hb dX9_ghostNumber_35 rfl (lv_at hl 2 rfl) ?_
      refine lv_ishr hx hb dX9_ghostNumber_36 ?_
      refine lv_topi (fun v36 e36 => ?_)
      refine lv_iconst (v := 1) hx hb dX9_ghostNumber_37 (by decide) ?_
      refine lv_iand hx hb dX9_ghostNumber_38 ?_
      refine lv_topi (fun v38 e38 => ?_)
      have hB : gB set 2 = v38 := by rw [e38, e36, ew]; rfl
      refine lv_if_ne (tgt := 45) hx hb dX9_ghostNumber_39 (by decide) (fun c39 => ?_) (fun c39 => ?_)
      · skip
        have d39 := c39
        rw [fa_eq] at d39
        refine lv_iload hx hb dX9_ghostNumber_45 (lv_at hl 0 rfl) ?_
        refine lv_iload_n hx hb dX9_ghostNumber_47 rfl (lv_at hl 1 rfl) ?_
        refine lv_iload_n hx hb dX9_ghostNumber_48 rfl (lv_at hl 2 rfl) ?_
        refine lv_iconst (v := 1) hx hb dX9_ghostNumber_49 (by decide) ?_
        refine lv_isub hx hb dX9_ghostNumber_50 ?_
        refine lv_topi (fun v50 e50 => ?_)
        have i50 : v50.toInt = way.toInt - (1 : Int32).toInt := by rw [e50]; exact fb_subI (by omega) (by omega)
        refine lv_iload_n hx hb dX9_ghostNumber_51 rfl (lv_at hl 3 rfl) ?_
        refine va_gets hx hb zX1 hS hown (hts (.fieldLink RX9 309 "ShadowBench$Board" "STEP_X" "[I") (by decide +kernel)) (fun _ h9 => h9) dX9_ghostNumber_52 ?_
        refine lv_iload_n hx hb dX9_ghostNumber_55 rfl (lv_at hl 2 rfl) ?_
        refine va_ti hx hb zX2 hS (i := way) (vp_in_iff.mpr ⟨by omega, by omega⟩) (v := .int (xX way.toNatClampNeg)) rfl dX9_ghostNumber_56 ?_
        refine lv_topi (fun v56 e56 => ?_)
        have a56 := g_sx (k := 2) (by decide) zX5 ew e56
        refine lv_isub hx hb dX9_ghostNumber_57 ?_
        refine lv_topi (fun v57 e57 => ?_)
        have i57 : v57.toInt = x.toInt - v56.toInt := by rw [e57]; exact fb_subI (by omega) (by omega)
        refine lv_iload_n hx hb dX9_ghostNumber_58 rfl (lv_at hl 4 rfl) ?_
        refine va_gets hx hb zY1 hS hown (hts (.fieldLink RX9 313 "ShadowBench$Board" "STEP_Y" "[I") (by decide +kernel)) (fun _ h9 => h9) dX9_ghostNumber_59 ?_
        refine lv_iload_n hx hb dX9_ghostNumber_62 rfl (lv_at hl 2 rfl) ?_
        refine va_ti hx hb zY2 hS (i := way) (vp_in_iff.mpr ⟨by omega, by omega⟩) (v := .int (xY way.toNatClampNeg)) rfl dX9_ghostNumber_63 ?_
        refine lv_topi (fun v63 e63 => ?_)
        have a63 := g_sy (k := 2) (by decide) zY5 ew e63
        refine lv_isub hx hb dX9_ghostNumber_64 ?_
        refine lv_topi (fun v64 e64 => ?_)
        have i64 : v64.toInt = y.toInt - v63.toInt := by rw [e64]; exact fb_subI (by omega) (by omega)
        refine t_calli (va_runS (g := F0 m 65 ls ([.int v64, .int v57, .int v50, .int set, .int r29])) (As := [.int set, .int v50, .int v57, .int v64]) (rest := [.int r29]) ⟨hx, hb, hml, hown, hts⟩ (c_X9_ghostNumber_x2 l D cy A G ws set v50 v57 v64 hD hT (by omega) (by omega) (by omega)) (va_cwS 4 hts gX9_ghostNumber_X9_ghostNumber rfl rfl rfl (by decide +kernel) ⟨Nat.le_of_ble_eq_true rfl, Nat.le_of_ble_eq_true rfl⟩) (e_preS hP hK hA hS hV hZ) rfl rfl hl.1 rfl (lv_room (Nat.le_of_ble_eq_true rfl)) dX9_ghostNumber_65 ⟨Nat.le_of_ble_eq_true rfl, Nat.le_of_ble_eq_true rfl⟩) hS (fun r65 u H locs q65 hP9 hD9 hT9 hS => ?_)
        obtain ⟨rfl, q65⟩ := q65
        have hP : va_P D vwCl ws H := hP9
        have p1 := gN_b set 2 x.toInt y.toInt
        have p2 := gN_b set 2 v57.toInt v64.toInt
        simp only [show (2 ^ 2 : Nat) = 4 from by decide] at p1 p2
        refine lv_isub hx hb dX9_ghostNumber_68 ?_
        refine lv_topi (fun v68 e68 => ?_)
        have i68 : v68.toInt = r29.toInt - r65.toInt := by rw [e68]; exact fb_subI (by omega) (by omega)
        exact W.iret (v := v68) hx hb hr (fun t ht hW => ⟨⟨_, (G, ws), rfl, ⟨rfl, (by have hb1 : gB set 2 = 1 := g01.resolve_left (fun z => c39 (hB.symm.trans z)); show _ = gN set (2 + 1) _ _; rw [gN_1 hb1, ← a56, ← a63, ← i57, ← i64, ← q29, ← q65]; exact i68)⟩, by show va_P D vwCl ws t.heap; rw [ht]; exact hP, hD, hT⟩, hS.F ht⟩) hS.2.2 dX9_ghostNumber_69
      · skip
        have d39 := c39
        rw [fa_eq] at d39
        refine lv_iload hx hb dX9_ghostNumber_42 (lv_at hl 0 rfl) ?_
        exact W.iret (v := r29) hx hb hr (fun t ht hW => ⟨⟨_, (G, ws), rfl, ⟨rfl, (by show _ = gN set (2 + 1) _ _; rw [gN_0 (fun z => absurd (c39.symm.trans (hB.symm.trans z)) (by decide))]; exact q29)⟩, by show va_P D vwCl ws t.heap; rw [ht]; exact hP, hD, hT⟩, hS.F ht⟩) hS.2.2 dX9_ghostNumber_44
    · skip
      have d6 := c6
      rw [fa_lt] at d6
      refine lv_iload_n hx hb dX9_ghostNumber_9 rfl (lv_at hl 2 rfl) ?_
      refine lv_if_ne (tgt := 21) hx hb dX9_ghostNumber_10 (by decide) (fun c10 => ?_) (fun c10 => ?_)
      · skip
        have d10 := c10
        rw [fa_eq] at d10
        refine lv_iconst (v := 0) hx hb dX9_ghostNumber_21 (by decide) ?_
        exact W.iret (v := (0 : Int32)) hx hb hr (fun t ht hW => ⟨⟨_, (G, ws), rfl, ⟨rfl, (by first | (exfalso; omega) | (simp only [gN]; rw [if_pos (by omega)]; rfl) | (simp only [gN]; rw [if_neg (by omega)]; rfl))⟩, by show va_P D vwCl ws t.heap; rw [ht]; exact hP, hD, hT⟩, hS.F ht⟩) hS.2.2 dX9_ghostNumber_22
      · skip
        have d10 := c10
        rw [fa_eq] at d10
        refine lv_iload_n hx hb dX9_ghostNumber_13 rfl (lv_at hl 3 rfl) ?_
        refine lv_if_ne (tgt := 21) hx hb dX9_ghostNumber_14 (by decide) (fun c14 => ?_) (fun c14 => ?_)
        · skip
          have d14 := c14
          rw [fa_eq] at d14
          refine lv_iconst (v := 0) hx hb dX9_ghostNumber_21 (by decide) ?_
          exact W.iret (v := (0 : Int32)) hx hb hr (fun t ht hW => ⟨⟨_, (G, ws), rfl, ⟨rfl, (by first | (exfalso; omega) | (simp only [gN]; rw [if_pos (by omega)]; rfl) | (simp only [gN]; rw [if_neg (by omega)]; rfl))⟩, by show va_P D vwCl ws t.heap; rw [ht]; exact hP, hD, hT⟩, hS.F ht⟩) hS.2.2 dX9_ghostNumber_22
        · skip
          have d14 := c14
          rw [fa_eq] at d14
          refine lv_iconst (v := 1) hx hb dX9_ghostNumber_17 (by decide) ?_
          refine lv_goto (tgt := 22) hx hb dX9_ghostNumber_18 (by decide) ?_
          exact W.iret (v := (1 : Int32)) hx hb hr (fun t ht hW => ⟨⟨_, (G, ws), rfl, ⟨rfl, (by first | (exfalso; omega) | (simp only [gN]; rw [if_pos (by omega)]; rfl) | (simp only [gN]; rw [if_neg (by omega)]; rfl))⟩, by show va_P D vwCl ws t.heap; rw [ht]; exact hP, hD, hT⟩, hS.F ht⟩) hS.2.2 dX9_ghostNumber_22
set_option maxHeartbeats 4000000 in
set_option maxRecDepth 100000 in
theorem c_X9_ghostNumber_x4 (l : Launch) (D : va_G) (cy : Nat → ClassId) (A : Nat → Prop) (G : cG) (ws : va_W) (set : Int32) (way : Int32) (x : Int32) (y : Int32)  (hD : va_D A ws) (hT : cT cy G ws)  (hw0 : way.toInt = 3) (hx0 : -16 ≤ x.toInt ∧ x.toInt ≤ 16) (hy0 : -16 ≤ y.toInt ∧ y.toInt ≤ 16) : Ei l D cy A yX9_ghostNumber wsX9_ghostNumber ({ frames := 4, cells := 0, slots := 0, locals := 96 }) 0 0 ws [.int set, .int way, .int x, .int y] (fun r0 u => u = (G, ws) ∧ (r0.toInt = gN set 4 x.toInt y.toInt)) := by
  refine Met.ofW (cc := cX9_ghostNumber) (maxL := 5) (ret := (some .int)) (by decide) rfl ?_
  intro p e s m args below meth c s₁ B hml hv
  obtain ⟨rfl, ⟨hP, hK, hA, hV⟩, hZ⟩ := hv
  obtain ⟨tX, tY, xX, xY, ⟨zX1, zX2, zX5⟩, ⟨zY1, zY2, zY5⟩⟩ := id hZ
  have hx := B.exec
  have hb := B.bytes
  have hr := B.returns
  have hts := atoms_spec (ws := wsX9_ghostNumber) B.pre
  have hown : s.vm.findClass RX9 = some m.cls := findClass_of_methodNamed B.named
  have hlocks := B.notSynchronized
  have hS : va_S A s.heap s.heap [] := va_S.rf
  have hl := lv_entry ([.int set, .int way, .int x, .int y]) (n := 5) (Nat.le_of_ble_eq_true rfl)
  rw [lg_entry_eq]
  generalize (lg_sl ([.int set, .int way, .int x, .int y]) ++ List.replicate (5 - (lg_sl ([.int set, .int way, .int x, .int y])).length) Slot.unset).toArray = ls at hl ⊢
  have hl : lv_has ls 5 [(0, .int set), (1, .int way), (2, .int x), (3, .int y)] := hl
  have k_0 : (0 : Int32).toInt = 0 := by decide
  have k_1 : (1 : Int32).toInt = 1 := by decide
  have k_4 : (4 : Int32).toInt = 4 := by decide
  have ew : way = nI 3 := g_way (by decide) hw0
  have dxb := gdx_b 3
  have dzb := gdz_b 3
  have g01 := gB_01 set 3
  refine lv_iload_n hx hb dX9_ghostNumber_0 rfl (lv_at hl 1 rfl) ?_
  refine lv_if_lt (tgt := 9) hx hb dX9_ghostNumber_1 (by decide) (fun c1 => ?_) (fun c1 => ?_)
  · skip
    have d1 := c1
    rw [fa_lt] at d1
    refine lv_iload_n hx hb dX9_ghostNumber_9 rfl (lv_at hl 2 rfl) ?_
    refine lv_if_ne (tgt := 21) hx hb dX9_ghostNumber_10 (by decide) (fun c10 => ?_) (fun c10 => ?_)
    · skip
      have d10 := c10
      rw [fa_eq] at d10
      refine lv_iconst (v := 0) hx hb dX9_ghostNumber_21 (by decide) ?_
      exact W.iret (v := (0 : Int32)) hx hb hr (fun t ht hW => ⟨⟨_, (G, ws), rfl, ⟨rfl, (by first | (exfalso; omega) | (simp only [gN]; rw [if_pos (by omega)]; rfl) | (simp only [gN]; rw [if_neg (by omega)]; rfl))⟩, by show va_P D vwCl ws t.heap; rw [ht]; exact hP, hD, hT⟩, hS.F ht⟩) hS.2.2 dX9_ghostNumber_22
    · skip
      have d10 := c10
      rw [fa_eq] at d10
      refine lv_iload_n hx hb dX9_ghostNumber_13 rfl (lv_at hl 3 rfl) ?_
      refine lv_if_ne (tgt := 21) hx hb dX9_ghostNumber_14 (by decide) (fun c14 => ?_) (fun c14 => ?_)
      · skip
        have d14 := c14
        rw [fa_eq] at d14
        refine lv_iconst (v := 0) hx hb dX9_ghostNumber_21 (by decide) ?_
        exact W.iret (v := (0 : Int32)) hx hb hr (fun t ht hW => ⟨⟨_, (G, ws), rfl, ⟨rfl, (by first | (exfalso; omega) | (simp only [gN]; rw [if_pos (by omega)]; rfl) | (simp only [gN]; rw [if_neg (by omega)]; rfl))⟩, by show va_P D vwCl ws t.heap; rw [ht]; exact hP, hD, hT⟩, hS.F ht⟩) hS.2.2 dX9_ghostNumber_22
      · skip
        have d14 := c14
        rw [fa_eq] at d14
        refine lv_iconst (v := 1) hx hb dX9_ghostNumber_17 (by decide) ?_
        refine lv_goto (tgt := 22) hx hb dX9_ghostNumber_18 (by decide) ?_
        exact W.iret (v := (1 : Int32)) hx hb hr (fun t ht hW => ⟨⟨_, (G, ws), rfl, ⟨rfl, (by first | (exfalso; omega) | (simp only [gN]; rw [if_pos (by omega)]; rfl) | (simp only [gN]; rw [if_neg (by omega)]; rfl))⟩, by show va_P D vwCl ws t.heap; rw [ht]; exact hP, hD, hT⟩, hS.F ht⟩) hS.2.2 dX9_ghostNumber_22
  · skip
    have d1 := c1
    rw [fa_lt] at d1
    refine lv_iload_n hx hb dX9_ghostNumber_4 rfl (lv_at hl 1 rfl) ?_
    refine lv_iconst (v := 4) hx hb dX9_ghostNumber_5 (by decide) ?_
    refine lv_icmp_lt (tgt := 23) hx hb dX9_ghostNumber_6 (by decide) (fun c6 => ?_) (fun c6 => ?_)
    · skip
      have d6 := c6
      rw [fa_lt] at d6
      refine lv_iload_n hx hb dX9_ghostNumber_23 rfl (lv_at hl 0 rfl) ?_
      refine lv_iload_n hx hb dX9_ghostNumber_24 rfl (lv_at hl 1 rfl) ?_
      refine lv_iconst (v := 1) hx hb dX9_ghostNumber_25 (by decide) ?_
      refine lv_isub hx hb dX9_ghostNumber_26 ?_
      refine lv_topi (fun v26 e26 => ?_)
      have i26 : v26.toInt = way.toInt - (1 : Int32).toInt := by rw [e26]; exact fb_subI (by omega) (by omega)
      refine lv_iload_n hx hb dX9_ghostNumber_27 rfl (lv_at hl 2 rfl) ?_
      refine lv_iload_n hx hb dX9_ghostNumber_28 rfl (lv_at hl 3 rfl) ?_
      refine t_calli (va_runS (g := F0 m 29 ls ([.int y, .int x, .int v26, .int set])) (As := [.int set, .int v26, .int x, .int y]) (rest := []) ⟨hx, hb, hml, hown, hts⟩ (c_X9_ghostNumber_x3 l D cy A G ws set v26 x y hD hT (by omega) (by omega) (by omega)) (va_cwS 4 hts gX9_ghostNumber_X9_ghostNumber rfl rfl rfl (by decide +kernel) ⟨Nat.le_of_ble_eq_true rfl, Nat.le_of_ble_eq_true rfl⟩) (e_preS hP hK hA hS hV hZ) rfl rfl hl.1 rfl (lv_room (Nat.le_of_ble_eq_true rfl)) dX9_ghostNumber_29 ⟨Nat.le_of_ble_eq_true rfl, Nat.le_of_ble_eq_true rfl⟩) hS (fun r29 u H locs q29 hP9 hD9 hT9 hS => ?_)
      obtain ⟨rfl, q29⟩ := q29
      have hP : va_P D vwCl ws H := hP9
      refine lv_istore (lv' := [(4, .int r29), (0, .int set), (1, .int way), (2, .int x), (3, .int y)]) hx hb dX9_ghostNumber_32 hl (by decide) rfl (fun ls hl => ?_)
      refine lv_iload_n hx hb dX9_ghostNumber_34 rfl (lv_at hl 1 rfl) ?_
      refine lv_iload_n hx hb dX9_ghostNumber_35 rfl (lv_at hl 2 rfl) ?_
      refine lv_ishr hx hb dX9_ghostNumber_36 ?_
      refine lv_topi (fun v36 e36 => ?_)
      refine lv_iconst (v := 1) hx hb dX9_ghostNumber_37 (by decide) ?_
      refine lv_iand hx hb dX9_ghostNumber_38 ?_
      refine lv_topi (fun v38 e38 => ?_)
      have hB : gB set 3 = v38 := by rw [e38, e36, ew]; rfl
      refine lv_if_ne (tgt := 45) hx hb dX9_ghostNumber_39 (by decide) (fun c39 => ?_) (fun c39 => ?_)
      · skip
        have d39 := c39
        rw [fa_eq] at d39
        refine lv_iload hx hb dX9_ghostNumber_45 (lv_at hl 0 rfl) ?_
        refine lv_iload_n hx hb dX9_ghostNumber_47 rfl (lv_at hl 1 rfl) ?_
        refine lv_iload_n hx hb dX9_ghostNumber_48 rfl (lv_at hl 2 rfl) ?_
        refine lv_iconst (v := 1) hx hb dX9_ghostNumber_49 (by decide) ?_
        refine lv_isub hx hb dX9_ghostNumber_50 ?_
        refine lv_topi (fun v50 e50 => ?_)
        have i50 : v50.toInt = way.toInt - (1 : Int32).toInt := by rw [e50]; exact fb_subI (by omega) (by omega)
        refine lv_iload_n hx hb dX9_ghostNumber_51 rfl (lv_at hl 3 rfl) ?_
        refine va_gets hx hb zX1 hS hown (hts (.fieldLink RX9 309 "ShadowBench$Board" "STEP_X" "[I") (by decide +kernel)) (fun _ h9 => h9) dX9_ghostNumber_52 ?_
        refine lv_iload_n hx hb dX9_ghostNumber_55 rfl (lv_at hl 2 rfl) ?_
        refine va_ti hx hb zX2 hS (i := way) (vp_in_iff.mpr ⟨by omega, by omega⟩) (v := .int (xX way.toNatClampNeg)) rfl dX9_ghostNumber_56 ?_
        refine lv_topi (fun v56 e56 => ?_)
        have a56 := g_sx (k := 3) (by decide) zX5 ew e56
        refine lv_isub hx hb dX9_ghostNumber_57 ?_
        refine lv_topi (fun v57 e57 => ?_)
        have i57 : v57.toInt = x.toInt - v56.toInt := by rw [e57]; exact fb_subI (by omega) (by omega)
        refine lv_iload_n hx hb dX9_ghostNumber_58 rfl (lv_at hl 4 rfl) ?_
        refine va_gets hx hb zY1 hS hown (hts (.fieldLink RX9 313 "ShadowBench$Board" "STEP_Y" "[I") (by decide +kernel)) (fun _ h9 => h9) dX9_ghostNumber_59 ?_
        refine lv_iload_n hx hb dX9_ghostNumber_62 rfl (lv_at hl 2 rfl) ?_
        refine va_ti hx hb zY2 hS (i := way) (vp_in_iff.mpr ⟨by omega, by omega⟩) (v := .int (xY way.toNatClampNeg)) rfl dX9_ghostNumber_63 ?_
        refine lv_topi (fun v63 e63 => ?_)
        have a63 := g_sy (k := 3) (by decide) zY5 ew e63
        refine lv_isub hx hb dX9_ghostNumber_64 ?_
        refine lv_topi (fun v64 e64 => ?_)
        have i64 : v64.toInt = y.toInt - v63.toInt := by rw [e64]; exact fb_subI (by omega) (by omega)
        refine t_calli (va_runS (g := F0 m 65 ls ([.int v64, .int v57, .int v50, .int set, .int r29])) (As := [.int set, .int v50, .int v57, .int v64]) (rest := [.int r29]) ⟨hx, hb, hml, hown, hts⟩ (c_X9_ghostNumber_x3 l D cy A G ws set v50 v57 v64 hD hT (by omega) (by omega) (by omega)) (va_cwS 4 hts gX9_ghostNumber_X9_ghostNumber rfl rfl rfl (by decide +kernel) ⟨Nat.le_of_ble_eq_true rfl, Nat.le_of_ble_eq_true rfl⟩) (e_preS hP hK hA hS hV hZ) rfl rfl hl.1 rfl (lv_room (Nat.le_of_ble_eq_true rfl)) dX9_ghostNumber_65 ⟨Nat.le_of_ble_eq_true rfl, Nat.le_of_ble_eq_true rfl⟩) hS (fun r65 u H locs q65 hP9 hD9 hT9 hS => ?_)
        obtain ⟨rfl, q65⟩ := q65
        have hP : va_P D vwCl ws H := hP9
        have p1 := gN_b set 3 x.toInt y.toInt
        have p2 := gN_b set 3 v57.toInt v64.toInt
        simp only [show (2 ^ 3 : Nat) = 8 from by decide] at p1 p2
        refine lv_isub hx hb dX9_ghostNumber_68 ?_
        refine lv_topi (fun v68 e68 => ?_)
        have i68 : v68.toInt = r29.toInt - r65.toInt := by rw [e68]; exact fb_subI (by omega) (by omega)
        exact W.iret (v := v68) hx hb hr (fun t ht hW => ⟨⟨_, (G, ws), rfl, ⟨rfl, (by have hb1 : gB set 3 = 1 := g01.resolve_left (fun z => c39 (hB.symm.trans z)); show _ = gN set (3 + 1) _ _; rw [gN_1 hb1, ← a56, ← a63, ← i57, ← i64, ← q29, ← q65]; exact i68)⟩, by show va_P D vwCl ws t.heap; rw [ht]; exact hP, hD, hT⟩, hS.F ht⟩) hS.2.2 dX9_ghostNumber_69
      · skip
        have d39 := c39
        rw [fa_eq] at d39
        refine lv_iload hx hb dX9_ghostNumber_42 (lv_at hl 0 rfl) ?_
        exact W.iret (v := r29) hx hb hr (fun t ht hW => ⟨⟨_, (G, ws), rfl, ⟨rfl, (by show _ = gN set (3 + 1) _ _; rw [gN_0 (fun z => absurd (c39.symm.trans (hB.symm.trans z)) (by decide))]; exact q29)⟩, by show va_P D vwCl ws t.heap; rw [ht]; exact hP, hD, hT⟩, hS.F ht⟩) hS.2.2 dX9_ghostNumber_44
    · skip
      have d6 := c6
      rw [fa_lt] at d6
      refine lv_iload_n hx hb dX9_ghostNumber_9 rfl (lv_at hl 2 rfl) ?_
      refine lv_if_ne (tgt := 21) hx hb dX9_ghostNumber_10 (by decide) (fun c10 => ?_) (fun c10 => ?_)
      · skip
        have d10 := c10
        rw [fa_eq] at d10
        refine lv_iconst (v := 0) hx hb dX9_ghostNumber_21 (by decide) ?_
        exact W.iret (v := (0 : Int32)) hx hb hr (fun t ht hW => ⟨⟨_, (G, ws), rfl, ⟨rfl, (by first | (exfalso; omega) | (simp only [gN]; rw [if_pos (by omega)]; rfl) | (simp only [gN]; rw [if_neg (by omega)]; rfl))⟩, by show va_P D vwCl ws t.heap; rw [ht]; exact hP, hD, hT⟩, hS.F ht⟩) hS.2.2 dX9_ghostNumber_22
      · skip
        have d10 := c10
        rw [fa_eq] at d10
        refine lv_iload_n hx hb dX9_ghostNumber_13 rfl (lv_at hl 3 rfl) ?_
        refine lv_if_ne (tgt := 21) hx hb dX9_ghostNumber_14 (by decide) (fun c14 => ?_) (fun c14 => ?_)
        · skip
          have d14 := c14
          rw [fa_eq] at d14
          refine lv_iconst (v := 0) hx hb dX9_ghostNumber_21 (by decide) ?_
          exact W.iret (v := (0 : Int32)) hx hb hr (fun t ht hW => ⟨⟨_, (G, ws), rfl, ⟨rfl, (by first | (exfalso; omega) | (simp only [gN]; rw [if_pos (by omega)]; rfl) | (simp only [gN]; rw [if_neg (by omega)]; rfl))⟩, by show va_P D vwCl ws t.heap; rw [ht]; exact hP, hD, hT⟩, hS.F ht⟩) hS.2.2 dX9_ghostNumber_22
        · skip
          have d14 := c14
          rw [fa_eq] at d14
          refine lv_iconst (v := 1) hx hb dX9_ghostNumber_17 (by decide) ?_
          refine lv_goto (tgt := 22) hx hb dX9_ghostNumber_18 (by decide) ?_
          exact W.iret (v := (1 : Int32)) hx hb hr (fun t ht hW => ⟨⟨_, (G, ws), rfl, ⟨rfl, (by first | (exfalso; omega) | (simp only [gN]; rw [if_pos (by omega)]; rfl) | (simp only [gN]; rw [if_neg (by omega)]; rfl))⟩, by show va_P D vwCl ws t.heap; rw [ht]; exact hP, hD, hT⟩, hS.F ht⟩) hS.2.2 dX9_ghostNumber_22
set_option maxHeartbeats 4000000 in
set_option maxRecDepth 100000 in
theorem c_X9_ghost_x (l : Launch) (hst : l.stackTraces = false) (D : va_G) (cy : Nat → ClassId) (A : Nat → Prop) (G : cG) (ws : va_W) (o : Nat) (set : Int32) (x : Int32) (y : Int32)  (hD : va_D A ws) (hT : cT cy G ws) (hG_o : G o = some (7, 0, 0))  : Xi l D cy A yX9_ghost wsX9_ghost ({ frames := 6, cells := 1, slots := 6, locals := 120 }) 1 6 ws [.ref o, .int set, .int x, .int y] (fun r0 u => u = (G, ws) ∧ (gOk set x y ∧ r0.toInt = gV set x y)) (fun u => u = (G, ws) ∧ ¬ gOk set x y) (fun E => E = xIA) := by
  refine vx_ofW (cc := cX9_ghost) (maxL := 5) (ret := (some .int)) (by decide) rfl ?_
  intro p e s m args below meth c s₁ B hml hno hv
  obtain ⟨rfl, ⟨hP, hK, hA, hV⟩, hZ, hXT⟩ := hv
  have hx := B.exec
  have hb := B.bytes
  have hr := B.returns
  have hts := atoms_spec (ws := wsX9_ghost) B.pre
  have hown : s.vm.findClass RX9 = some m.cls := findClass_of_methodNamed B.named
  have hlocks := B.notSynchronized
  have hS : va_S A s.heap s.heap [] := va_S.rf
  have hl := lv_entry ([.ref o, .int set, .int x, .int y]) (n := 5) (Nat.le_of_ble_eq_true rfl)
  rw [lg_entry_eq]
  generalize (lg_sl ([.ref o, .int set, .int x, .int y]) ++ List.replicate (5 - (lg_sl ([.ref o, .int set, .int x, .int y])).length) Slot.unset).toArray = ls at hl ⊢
  have hl : lv_has ls 5 [(0, .ref o), (1, .int set), (2, .int x), (3, .int y)] := hl
  have k_0 : (0 : Int32).toInt = 0 := by decide
  have k_1 : (1 : Int32).toInt = 1 := by decide
  have k_3 : (3 : Int32).toInt = 3 := by decide
  have k_9 : (9 : Int32).toInt = 9 := by decide
  refine lv_iload_n hx hb dX9_ghost_0 rfl (lv_at hl 1 rfl) ?_
  refine t_pu (As := [.int set]) (rest := []) ⟨hx, hb, hml, hown, hts⟩ (c_X9_isGhostSet l set ) (va_cwS 1 hts gX9_ghost_X9_isGhostSet rfl rfl rfl (by decide +kernel) ⟨Nat.le_of_ble_eq_true rfl, Nat.le_of_ble_eq_true rfl⟩) hP rfl hl.1 rfl (Nat.le_of_ble_eq_true rfl) dX9_ghost_1 ⟨Nat.le_of_ble_eq_true rfl, Nat.le_of_ble_eq_true rfl⟩ hS (fun r1 H locs q1 hP hS => ?_)
  refine lv_if_eq (tgt := 27) hx hb dX9_ghost_4 (by decide) (fun c4 => ?_) (fun c4 => ?_)
  · skip
    have b4 := bo_f q1 c4
    obtain ⟨sa27, hsa27⟩ := hXT.2.2.1 (RX9, 225, "no such set of ways, or no such place") (by decide)
    exact vx_throwS (own := RX9) (cls := xIA) (names := [xRT, xEX]) (A := A) (ik := 223) (ic := 227) hx hb hst hown (by decide) (by decide) (hts (.classLink RX9 223 xIA) (by decide +kernel)) (hts (.initialized xIA) (by decide +kernel)) hsa27 (x_hat hts hXT (Or.inl rfl) (by decide +kernel) (by decide +kernel)) (by decide +kernel) hXT.2.2.2.1 hXT.2.2.2.2 hS (by rw [hml]; exact hl.1) dX9_ghost_27 dX9_ghost_30 dX9_ghost_31 dX9_ghost_33 dX9_ghost_36 (fun x9 h9 => (hno x9 h9).elim) (Nat.le_of_ble_eq_true rfl) (Nat.le_of_ble_eq_true rfl) (Nat.le_of_ble_eq_true rfl) (Nat.le_of_ble_eq_true rfl) hlocks (x_thr (G' := G) (ws' := ws) ⟨rfl, (by unfold gOk; omega)⟩ (rfl) hP hD hT hS) hS.2.2 (Nat.le_of_ble_eq_true rfl) (Nat.le_of_ble_eq_true rfl)
  · skip
    have b4 := bo_t q1 c4
    refine lv_iload_n hx hb dX9_ghost_7 rfl (lv_at hl 2 rfl) ?_
    refine lv_if_lt (tgt := 27) hx hb dX9_ghost_8 (by decide) (fun c8 => ?_) (fun c8 => ?_)
    · skip
      have d8 := c8
      rw [fa_lt] at d8
      obtain ⟨sa27, hsa27⟩ := hXT.2.2.1 (RX9, 225, "no such set of ways, or no such place") (by decide)
      exact vx_throwS (own := RX9) (cls := xIA) (names := [xRT, xEX]) (A := A) (ik := 223) (ic := 227) hx hb hst hown (by decide) (by decide) (hts (.classLink RX9 223 xIA) (by decide +kernel)) (hts (.initialized xIA) (by decide +kernel)) hsa27 (x_hat hts hXT (Or.inl rfl) (by decide +kernel) (by decide +kernel)) (by decide +kernel) hXT.2.2.2.1 hXT.2.2.2.2 hS (by rw [hml]; exact hl.1) dX9_ghost_27 dX9_ghost_30 dX9_ghost_31 dX9_ghost_33 dX9_ghost_36 (fun x9 h9 => (hno x9 h9).elim) (Nat.le_of_ble_eq_true rfl) (Nat.le_of_ble_eq_true rfl) (Nat.le_of_ble_eq_true rfl) (Nat.le_of_ble_eq_true rfl) hlocks (x_thr (G' := G) (ws' := ws) ⟨rfl, (by unfold gOk; omega)⟩ (rfl) hP hD hT hS) hS.2.2 (Nat.le_of_ble_eq_true rfl) (Nat.le_of_ble_eq_true rfl)
    · skip
      have d8 := c8
      rw [fa_lt] at d8
      refine lv_iload_n hx hb dX9_ghost_11 rfl (lv_at hl 2 rfl) ?_
      refine lv_bipush (v := 9) hx hb dX9_ghost_12 (by decide) ?_
      refine lv_icmp_ge (tgt := 27) hx hb dX9_ghost_14 (by decide) (fun c14 => ?_) (fun c14 => ?_)
      · skip
        have d14 := c14
        rw [fa_le] at d14
        obtain ⟨sa27, hsa27⟩ := hXT.2.2.1 (RX9, 225, "no such set of ways, or no such place") (by decide)
        exact vx_throwS (own := RX9) (cls := xIA) (names := [xRT, xEX]) (A := A) (ik := 223) (ic := 227) hx hb hst hown (by decide) (by decide) (hts (.classLink RX9 223 xIA) (by decide +kernel)) (hts (.initialized xIA) (by decide +kernel)) hsa27 (x_hat hts hXT (Or.inl rfl) (by decide +kernel) (by decide +kernel)) (by decide +kernel) hXT.2.2.2.1 hXT.2.2.2.2 hS (by rw [hml]; exact hl.1) dX9_ghost_27 dX9_ghost_30 dX9_ghost_31 dX9_ghost_33 dX9_ghost_36 (fun x9 h9 => (hno x9 h9).elim) (Nat.le_of_ble_eq_true rfl) (Nat.le_of_ble_eq_true rfl) (Nat.le_of_ble_eq_true rfl) (Nat.le_of_ble_eq_true rfl) hlocks (x_thr (G' := G) (ws' := ws) ⟨rfl, (by unfold gOk; omega)⟩ (rfl) hP hD hT hS) hS.2.2 (Nat.le_of_ble_eq_true rfl) (Nat.le_of_ble_eq_true rfl)
      · skip
        have d14 := c14
        rw [fa_le] at d14
        refine lv_iload_n hx hb dX9_ghost_17 rfl (lv_at hl 3 rfl) ?_
        refine lv_if_lt (tgt := 27) hx hb dX9_ghost_18 (by decide) (fun c18 => ?_) (fun c18 => ?_)
        · skip
          have d18 := c18
          rw [fa_lt] at d18
          obtain ⟨sa27, hsa27⟩ := hXT.2.2.1 (RX9, 225, "no such set of ways, or no such place") (by decide)
          exact vx_throwS (own := RX9) (cls := xIA) (names := [xRT, xEX]) (A := A) (ik := 223) (ic := 227) hx hb hst hown (by decide) (by decide) (hts (.classLink RX9 223 xIA) (by decide +kernel)) (hts (.initialized xIA) (by decide +kernel)) hsa27 (x_hat hts hXT (Or.inl rfl) (by decide +kernel) (by decide +kernel)) (by decide +kernel) hXT.2.2.2.1 hXT.2.2.2.2 hS (by rw [hml]; exact hl.1) dX9_ghost_27 dX9_ghost_30 dX9_ghost_31 dX9_ghost_33 dX9_ghost_36 (fun x9 h9 => (hno x9 h9).elim) (Nat.le_of_ble_eq_true rfl) (Nat.le_of_ble_eq_true rfl) (Nat.le_of_ble_eq_true rfl) (Nat.le_of_ble_eq_true rfl) hlocks (x_thr (G' := G) (ws' := ws) ⟨rfl, (by unfold gOk; omega)⟩ (rfl) hP hD hT hS) hS.2.2 (Nat.le_of_ble_eq_true rfl) (Nat.le_of_ble_eq_true rfl)
        · skip
          have d18 := c18
          rw [fa_lt] at d18
          refine lv_iload_n hx hb dX9_ghost_21 rfl (lv_at hl 3 rfl) ?_
          refine lv_bipush (v := 9) hx hb dX9_ghost_22 (by decide) ?_
          refine lv_icmp_lt (tgt := 37) hx hb dX9_ghost_24 (by decide) (fun c24 => ?_) (fun c24 => ?_)
          · skip
            have d24 := c24
            rw [fa_lt] at d24
            refine lv_iload_n hx hb dX9_ghost_37 rfl (lv_at hl 1 rfl) ?_
            refine lv_iconst (v := 3) hx hb dX9_ghost_38 (by decide) ?_
            refine lv_ishr hx hb dX9_ghost_39 ?_
            refine lv_topi (fun v39 e39 => ?_)
            refine lv_iconst (v := 1) hx hb dX9_ghost_40 (by decide) ?_
            refine lv_iand hx hb dX9_ghost_41 ?_
            refine lv_topi (fun v41 e41 => ?_)
            have hB3 : gB set 3 = v41 := by rw [e41, e39]; rfl
            have b41 := bit1 e41
            refine lv_istore (lv' := [(4, .int v41), (0, .ref o), (1, .int set), (2, .int x), (3, .int y)]) hx hb dX9_ghost_42 hl (by decide) rfl (fun ls hl => ?_)
            refine lv_iload_n hx hb dX9_ghost_44 rfl (lv_at hl 2 rfl) ?_
            refine lv_iconst (v := 3) hx hb dX9_ghost_45 (by decide) ?_
            refine lv_iload_n hx hb dX9_ghost_46 rfl (lv_at hl 3 rfl) ?_
            refine lv_iload_n hx hb dX9_ghost_47 rfl (lv_at hl 4 rfl) ?_
            refine lv_iload hx hb dX9_ghost_48 (lv_at hl 0 rfl) ?_
            refine lv_isub hx hb dX9_ghost_50 ?_
            refine lv_topi (fun v50 e50 => ?_)
            have i50 : v50.toInt = y.toInt - v41.toInt := by rw [e50]; exact fb_subI (by omega) (by omega)
            refine t_calli (va_runS (g := F0 m 51 ls ([.int v50, .int x, .int (3 : Int32), .int set])) (As := [.int set, .int (3 : Int32), .int x, .int v50]) (rest := []) ⟨hx, hb, hml, hown, hts⟩ (c_X9_ghostNumber_x4 l D cy A G ws set (3 : Int32) x v50 hD hT (by omega) (by omega) (by omega)) (va_cwS 4 hts gX9_ghost_X9_ghostNumber rfl rfl rfl (by decide +kernel) ⟨Nat.le_of_ble_eq_true rfl, Nat.le_of_ble_eq_true rfl⟩) (e_preS hP hK hA hS hV hZ) rfl rfl hl.1 rfl (lv_room (Nat.le_of_ble_eq_true rfl)) dX9_ghost_51 ⟨Nat.le_of_ble_eq_true rfl, Nat.le_of_ble_eq_true rfl⟩) hS (fun r51 u H locs q51 hP9 hD9 hT9 hS => ?_)
            obtain ⟨rfl, q51⟩ := q51
            have hP : va_P D vwCl ws H := hP9
            refine vx_ret ?_
            refine W.widen (k := 1) (n := 6) (Nat.le_of_ble_eq_true rfl) (Nat.le_of_ble_eq_true rfl) ?_
            exact W.iret (v := r51) hx hb hr (fun t ht hW => ⟨⟨_, (G, ws), rfl, ⟨rfl, ⟨(by unfold gOk; omega), (by unfold gV gF; rw [hB3, ← i50]; exact q51)⟩⟩, by show va_P D vwCl ws t.heap; rw [ht]; exact hP, hD, hT⟩, hS.F ht⟩) hS.2.2 dX9_ghost_54
          · skip
            have d24 := c24
            rw [fa_lt] at d24
            obtain ⟨sa27, hsa27⟩ := hXT.2.2.1 (RX9, 225, "no such set of ways, or no such place") (by decide)
            exact vx_throwS (own := RX9) (cls := xIA) (names := [xRT, xEX]) (A := A) (ik := 223) (ic := 227) hx hb hst hown (by decide) (by decide) (hts (.classLink RX9 223 xIA) (by decide +kernel)) (hts (.initialized xIA) (by decide +kernel)) hsa27 (x_hat hts hXT (Or.inl rfl) (by decide +kernel) (by decide +kernel)) (by decide +kernel) hXT.2.2.2.1 hXT.2.2.2.2 hS (by rw [hml]; exact hl.1) dX9_ghost_27 dX9_ghost_30 dX9_ghost_31 dX9_ghost_33 dX9_ghost_36 (fun x9 h9 => (hno x9 h9).elim) (Nat.le_of_ble_eq_true rfl) (Nat.le_of_ble_eq_true rfl) (Nat.le_of_ble_eq_true rfl) (Nat.le_of_ble_eq_true rfl) hlocks (x_thr (G' := G) (ws' := ws) ⟨rfl, (by unfold gOk; omega)⟩ (rfl) hP hD hT hS) hS.2.2 (Nat.le_of_ble_eq_true rfl) (Nat.le_of_ble_eq_true rfl)
set_option maxHeartbeats 4000000 in
set_option maxRecDepth 100000 in
theorem c_L_ghost_x (l : Launch) (hst : l.stackTraces = false) (D : va_G) (cy : Nat → ClassId) (A : Nat → Prop) (G : cG) (ws : va_W) (x : Nat) (p0 : Int32) (p1 : Int32) (p2 : Int32) (ou : Nat)  (hD : va_D A ws) (hT : cT cy G ws) (hG_x : G x = some (7, 0, 0)) (hG_ou : G ou = some (1, 1, 0))  : Yi l D cy A yL_ghost wsL_ghost ({ frames := 7, cells := 1, slots := 6, locals := 144 }) 1 6 ws [.ref x, .int p0, .int p1, .int p2, .ref ou] (fun r0 u => cX none (chs [1]) G ws u.1 u.2 ∧ ((r0 = 0 ∧ gOk p0 p1 p2 ∧ ∃ w : Nat → Int64, cIn u.2 ou (.inl (cy 1, 1, .inr (.inl w))) ∧ (w 0).toInt = gV p0 p1 p2) ∨ (r0 = 1 ∧ ¬ gOk p0 p1 p2))) := by
  refine va_MetW (cc := cL_ghost) (maxL := 6) (ret := (some .int)) (by decide) rfl ?_
  intro p e s m args below meth c s₁ B hml hv
  obtain ⟨rfl, ⟨hP, hK, hA, hV⟩, hZ, hXT⟩ := hv
  have hx := B.exec
  have hb := B.bytes
  have hr := B.returns
  have hts := atoms_spec (ws := wsL_ghost) B.pre
  have hown : s.vm.findClass RL = some m.cls := findClass_of_methodNamed B.named
  have hlocks := B.notSynchronized
  have htab := vx_table (x := yL_ghost) B (hts (.codeWith yL_ghost cL_ghost 6 (some .int) [(0, 12, 15, 13)]) (by decide +kernel))
  have hS : va_S A s.heap s.heap [] := va_S.rf
  have hX : cX none (chs [1]) G ws G ws := cX.rf
  have hl := lv_entry ([.ref x, .int p0, .int p1, .int p2, .ref ou]) (n := 6) (Nat.le_of_ble_eq_true rfl)
  rw [lg_entry_eq]
  generalize (lg_sl ([.ref x, .int p0, .int p1, .int p2, .ref ou]) ++ List.replicate (6 - (lg_sl ([.ref x, .int p0, .int p1, .int p2, .ref ou])).length) Slot.unset).toArray = ls at hl ⊢
  have hl : lv_has ls 6 [(0, .ref x), (1, .int p0), (2, .int p1), (3, .int p2), (4, .ref ou)] := hl
  have k_0 : (0 : Int32).toInt = 0 := by decide
  have k_1 : (1 : Int32).toInt = 1 := by decide
  refine lv_aload hx hb dL_ghost_0 (lv_at hl 4 rfl) ?_
  refine lv_iconst (v := 0) hx hb dL_ghost_2 (by decide) ?_
  refine lv_aload_n hx hb dL_ghost_3 rfl (lv_at hl 0 rfl) ?_
  refine lv_iload_n hx hb dL_ghost_4 rfl (lv_at hl 1 rfl) ?_
  refine lv_iload_n hx hb dL_ghost_5 rfl (lv_at hl 2 rfl) ?_
  refine lv_iload_n hx hb dL_ghost_6 rfl (lv_at hl 3 rfl) ?_
  obtain ⟨_, hM_x, bs_x, js_x, sh_x, wk_x, ll_x, jc_x, lc_x, mo_x, lb_x, rfl, hjc_x, hlc_x, hG_bs_x, hG_js_x, hG_sh_x, hG_wk_x, hmo_x, hG_ll_x, hlb_x⟩ := hT _ _ hG_x
  refine x_calli (vx_runV (g := F0 m 7 ls ([.int p2, .int p1, .int p0, .ref x, .int (0 : Int32), .ref ou])) (As := [.int p0, .int p1, .int p2]) (rest := [.int (0 : Int32), .ref ou]) ⟨hx, hb, hml, hown, hts⟩ (c_X9_ghost_x l hst D cy A G ws x p0 p1 p2 hD hT hG_x ) (cwV 3 hts gL_ghost_X9_ghost rfl rfl rfl (by decide +kernel) ⟨Nat.le_of_ble_eq_true rfl, Nat.le_of_ble_eq_true rfl⟩) (x_preV hM_x rfl hP hK hA hS hV hZ hXT) rfl rfl hl.1 rfl (lv_room (Nat.le_of_ble_eq_true rfl)) dL_ghost_7 ⟨Nat.le_of_ble_eq_true rfl, Nat.le_of_ble_eq_true rfl⟩) hS (fun E9 ce9 q9 u H locs px9 pe9 hP9 hD9 hT9 hS hc9 hv9 hcl9 => ?_) (fun r7 u H locs q7 hP9 hD9 hT9 hS => ?_)
  · skip
    obtain ⟨rfl, np9⟩ := px9
    have hP : va_P D vwCl ws H := hP9
    obtain rfl := pe9
    refine vx_catch (own := RL) (name := xIA) (E := xIA) hown [] ⟨0, 12, 15, 13⟩ [] htab (fun z9 h9 => by simp at h9) (by decide) (by decide) (hts (.classLink RL 13 xIA) (by decide +kernel)) (hXT.1.2.1.use rfl) hc9 hv9 hcl9 ?_
    refine lv_astore (lv' := [(5, .ref q9), (0, .ref x), (1, .int p0), (2, .int p1), (3, .int p2), (4, .ref ou)]) hx hb dL_ghost_15 hl (by decide) rfl (fun ls hl => ?_)
    refine lv_iconst (v := 1) hx hb dL_ghost_17 (by decide) ?_
    refine W.widen (k := 1) (n := 6) (Nat.le_of_ble_eq_true rfl) (Nat.le_of_ble_eq_true rfl) ?_
    exact W.iret (v := (1 : Int32)) hx hb hr (fun t ht hW => ⟨⟨_, (G, ws), rfl, ⟨hX, Or.inr ⟨rfl, np9⟩⟩, by show va_P D vwCl ws t.heap; rw [ht]; exact hP, hD, hT⟩, hS.F ht⟩) hS.2.2 dL_ghost_18
  obtain ⟨rfl, q7⟩ := q7
  have hP : va_P D vwCl ws H := hP9
  refine lv_i2l (v := r7.toInt64) hx hb dL_ghost_10 rfl ?_
  refine t_lastf hx hb hK hP hD hS hT hG_ou (vp_in_iff.mpr ⟨by omega, by omega⟩) dL_ghost_11 (fun H locs w11 hU11 hc11 hP hD hT hS => ?_)
  have hM_x := hU11 _ _ (cne hG_x hG_ou (show (7 : Nat) ≠ 1 by decide)) hM_x
  have hX := hX.tr (cX.uF hU11 (Or.inr ⟨_, hG_ou, rfl⟩))
  refine lv_goto (tgt := 19) hx hb dL_ghost_12 (by decide) ?_
  refine lv_iconst (v := 0) hx hb dL_ghost_19 (by decide) ?_
  refine W.widen (k := 1) (n := 6) (Nat.le_of_ble_eq_true rfl) (Nat.le_of_ble_eq_true rfl) ?_
  exact W.iret (v := (0 : Int32)) hx hb hr (fun t ht hW => ⟨⟨_, (G, w11), rfl, ⟨hX, Or.inl ⟨rfl, q7.1, (by obtain ⟨w, h1, h2⟩ := hc11; exact ⟨w, h1, (by have h3 : w 0 = r7.toInt64 := h2; rw [h3, k64]; exact q7.2)⟩)⟩⟩, by show va_P D vwCl w11 t.heap; rw [ht]; exact hP, hD, hT⟩, hS.F ht⟩) hS.2.2 dL_ghost_20
set_option maxHeartbeats 4000000 in
set_option maxRecDepth 100000 in
theorem c_X10_down_x (l : Launch) (way : Int32)  : Pu l yX10_down wsX10_down ({ frames := 0, cells := 0, slots := 0, locals := 0 }) [.int way] (fun r => r.toInt = (if way.toInt = 0 then 0 else if way.toInt = 3 then -1 else 1)) := by
  refine Met.ofW (cc := cX10_down) (maxL := 1) (ret := (some .int)) (by decide) rfl ?_
  intro p e s m args below meth c s₁ B hml hv
  obtain ⟨rfl, -⟩ := hv
  have hx := B.exec
  have hb := B.bytes
  have hr := B.returns
  have hts := atoms_spec (ws := wsX10_down) B.pre
  have hown : s.vm.findClass RX10 = some m.cls := findClass_of_methodNamed B.named
  have hlocks := B.notSynchronized
  have hS : va_S (fun _ => False) s.heap s.heap [] := va_S.rf
  have hl := lv_entry ([.int way]) (n := 1) (Nat.le_of_ble_eq_true rfl)
  rw [lg_entry_eq]
  generalize (lg_sl ([.int way]) ++ List.replicate (1 - (lg_sl ([.int way])).length) Slot.unset).toArray = ls at hl ⊢
  have hl : lv_has ls 1 [(0, .int way)] := hl
  have hS0 := hS
  have k_m1 : (-1 : Int32).toInt = -1 := by decide
  have k_0 : (0 : Int32).toInt = 0 := by decide
  have k_1 : (1 : Int32).toInt = 1 := by decide
  have k_3 : (3 : Int32).toInt = 3 := by decide
  refine lv_iload_n hx hb dX10_down_0 rfl (lv_at hl 0 rfl) ?_
  refine lv_if_ne (tgt := 8) hx hb dX10_down_1 (by decide) (fun c1 => ?_) (fun c1 => ?_)
  · skip
    have d1 := c1
    rw [fa_eq] at d1
    refine lv_iload_n hx hb dX10_down_8 rfl (lv_at hl 0 rfl) ?_
    refine lv_iconst (v := 3) hx hb dX10_down_9 (by decide) ?_
    refine lv_icmp_ne (tgt := 17) hx hb dX10_down_10 (by decide) (fun c10 => ?_) (fun c10 => ?_)
    · skip
      have d10 := c10
      rw [fa_eq] at d10
      refine lv_iconst (v := 1) hx hb dX10_down_17 (by decide) ?_
      exact W.iret (v := (1 : Int32)) hx hb hr (fun t ht hW => ⟨⟨_, (), rfl, (by first | (rw [if_pos (by omega)]; rfl) | (rw [if_neg (by omega), if_pos (by omega)]; rfl) | (rw [if_neg (by omega), if_neg (by omega)]; rfl)), trivial⟩, hS.F ht⟩) hS.2.2 dX10_down_18
    · skip
      have d10 := c10
      rw [fa_eq] at d10
      refine lv_iconst (v := (-1)) hx hb dX10_down_13 (by decide) ?_
      refine lv_goto (tgt := 18) hx hb dX10_down_14 (by decide) ?_
      exact W.iret (v := ((-1) : Int32)) hx hb hr (fun t ht hW => ⟨⟨_, (), rfl, (by first | (rw [if_pos (by omega)]; rfl) | (rw [if_neg (by omega), if_pos (by omega)]; rfl) | (rw [if_neg (by omega), if_neg (by omega)]; rfl)), trivial⟩, hS.F ht⟩) hS.2.2 dX10_down_18
  · skip
    have d1 := c1
    rw [fa_eq] at d1
    refine lv_iconst (v := 0) hx hb dX10_down_4 (by decide) ?_
    refine lv_goto (tgt := 18) hx hb dX10_down_5 (by decide) ?_
    exact W.iret (v := (0 : Int32)) hx hb hr (fun t ht hW => ⟨⟨_, (), rfl, (by first | (rw [if_pos (by omega)]; rfl) | (rw [if_neg (by omega), if_pos (by omega)]; rfl) | (rw [if_neg (by omega), if_neg (by omega)]; rfl)), trivial⟩, hS.F ht⟩) hS.2.2 dX10_down_18

set_option maxHeartbeats 4000000 in
set_option maxRecDepth 100000 in
theorem c_X10_haunt_x (l : Launch) (D : va_G) (cy : Nat → ClassId) (mo : Nat) (a : Nat → Nat) (f : Nat → Int32) (g : Nat → Int64) (r : Nat → Nat → Int32) (q : Nat → Nat → Int64) (ways : Int32) (hD : DM cy mo a)  : Mv l D cy mo a yX10_haunt wsX10_haunt ({ frames := 1, cells := 0, slots := 0, locals := 25 }) f g r q [.int ways] (fun u => ∃ (gh : Nat → Int32), ∃ (mv : Nat → Int32), u = (f, g, (va_up (va_up r 27 gh) 28 mv), q) ∧ (∀ e, e < 121 → (gh e).toInt = gN ways 4 ((e % 11 : Nat) : Int) ((e / 11 : Nat) - gF ways))) := by
  refine Met.ofW (cc := cX10_haunt) (maxL := 7) (ret := none) (by decide) rfl ?_
  intro p e s m args below meth c s₁ B hml hv
  obtain ⟨rfl, hP, hK⟩ := hv
  have hx := B.exec
  have hb := B.bytes
  have hr := B.returns
  have hts := atoms_spec (ws := wsX10_haunt) B.pre
  have hin : ∀ w ∈ u_ws RX10 TX10 35, w ∈ wsX10_haunt := by decide +kernel
  have hown : s.vm.findClass RX10 = some m.cls := findClass_of_methodNamed B.named
  have hlocks := B.notSynchronized
  have hS : va_S (AM mo a) s.heap s.heap [] := va_S.rf
  have hl := lv_entry ([.ref mo, .int ways]) (n := 7) (Nat.le_of_ble_eq_true rfl)
  rw [lg_entry_eq]
  generalize (lg_sl ([.ref mo, .int ways]) ++ List.replicate (7 - (lg_sl ([.ref mo, .int ways])).length) Slot.unset).toArray = ls at hl ⊢
  have hl : lv_has ls 7 [(0, .ref mo), (1, .int ways)] := hl
  have k_0 : (0 : Int32).toInt = 0 := by decide
  have k_1 : (1 : Int32).toInt = 1 := by decide
  have k_3 : (3 : Int32).toInt = 3 := by decide
  have k_4 : (4 : Int32).toInt = 4 := by decide
  have k_11 : (11 : Int32).toInt = 11 := by decide
  have k_121 : (121 : Int32).toInt = 121 := by decide
  have k_0L : (0 : Int64).toInt = 0 := by decide
  have k_10L : (10 : Int64).toInt = 10 := by decide
  refine lv_iconst (v := 0) hx hb dX10_haunt_0 (by decide) ?_
  refine lv_istore_n (lv' := [(2, .int (0 : Int32)), (0, .ref mo), (1, .int ways)]) hx hb dX10_haunt_1 rfl hl (by decide) rfl (fun ls hl => ?_)
  have loop_2 : ∀ (n : Nat) (k : Nat) (g1 : Nat → Int32), (k ≤ 121) → (∀ e, e < k → g1 e = 0) → 121 - k < n → ∀ (H : Heap) (locs : List Loc), va_P D vwCl (WM cy mo a f g (va_up r 27 g1) q) H → va_S (AM mo a) s.heap H locs → ∀ (ls : Array Slot), lv_has ls 7 [(2, .int (nI k)), (0, .ref mo), (1, .int ways)] → W p l e (headSpec wsX10_haunt ({ frames := 1, cells := 0, slots := 0, locals := 25 })).room s m #[Value.ref mo, Value.int ways] below meth c H locs 0 0 (MQ below (va_Qv (fun u => ∃ (gh : Nat → Int32), ∃ (mv : Nat → Int32), u = (f, g, (va_up (va_up r 27 gh) 28 mv), q) ∧ (∀ e, e < 121 → (gh e).toInt = gN ways 4 ((e % 11 : Nat) : Int) ((e / 11 : Nat) - gF ways))) (mB D cy mo a) (AM mo a)) #[Value.ref mo, Value.int ways] s 0 0 (AM mo a)) (F0 m 2 ls []) := by
    intro n
    induction n with
    | zero => intro k g1 j2_0 j2_1 hn; exact absurd hn (Nat.not_lt_zero _)
    | succ n ih_2 =>
      intro k g1 j2_0 j2_1 hn_2 H locs hP hS ls hl
      have ik : (nI k).toInt = (k : Int) := nI_toInt (by omega)
      refine lv_iload_n hx hb dX10_haunt_2 rfl (lv_at hl 0 rfl) ?_
      refine lv_bipush (v := 121) hx hb dX10_haunt_3 (by decide) ?_
      refine lv_icmp_ge (tgt := 21) hx hb dX10_haunt_5 (by decide) (fun c5 => ?_) (fun c5 => ?_)
      · skip
        have d5 := c5
        rw [fa_le] at d5
        have hz0 : ∀ e, e < 121 → g1 e = 0 := fun e he => j2_1 e (by omega)
        refine lv_aload_n hx hb dX10_haunt_21 rfl (lv_at hl 1 rfl) ?_
        refine m_get (v := .ref (a 27)) hx hb hts hin hown hK hP 27 (by decide) rfl (hts (.fieldLink RX10 55 "ShadowBenchModel" "ghost" "[I") (by decide +kernel)) rfl dX10_haunt_22 ?_
        refine lv_iload_n hx hb dX10_haunt_25 rfl (lv_at hl 2 rfl) ?_
        refine lv_iconst (v := 3) hx hb dX10_haunt_26 (by decide) ?_
        refine lv_ishr hx hb dX10_haunt_27 ?_
        refine lv_topi (fun v27 e27 => ?_)
        refine lv_iconst (v := 1) hx hb dX10_haunt_28 (by decide) ?_
        refine lv_iand hx hb dX10_haunt_29 ?_
        refine lv_topi (fun v29 e29 => ?_)
        have hB3 : gB ways 3 = v29 := by rw [e29, e27]; rfl
        have b29 := bit1 e29
        refine lv_bipush (v := 11) hx hb dX10_haunt_30 (by decide) ?_
        refine lv_imul hx hb dX10_haunt_32 ?_
        refine lv_topi (fun v32 e32 => ?_)
        have i32 : v32.toInt = v29.toInt * 11 := by rw [e32]; exact mulcR rfl (by omega) (by omega)
        refine lv_iconst (v := 1) hx hb dX10_haunt_33 (by decide) ?_
        refine m_iast (w := g1) hx hb hK hP hD hS 15 rfl (vp_in_iff.mpr ⟨by omega, by omega⟩) (va_up (va_up r 27 g1) 27 (upd g1 v32.toNatClampNeg (1 : Int32))) (ms_27 cy mo a _ _ _ _ _) dX10_haunt_34 (fun H locs hP hS => ?_)
        have hP := wm_eq rfl rfl (es_r_27__27 r g1 (upd g1 v32.toNatClampNeg (1 : Int32))) rfl hP
        have hfF : gF ways = v29.toInt := by unfold gF; rw [hB3]
        have hcl := m_cl (x := v32) (by omega)
        refine lv_iconst (v := 0) hx hb dX10_haunt_35 (by decide) ?_
        refine lv_istore_n (lv' := [(2, .int (0 : Int32)), (0, .ref mo), (1, .int ways)]) hx hb dX10_haunt_36 rfl hl (by decide) rfl (fun ls hl => ?_)
        have loop_37 : ∀ (n : Nat) (k2 : Nat) (g2 : Nat → Int32) (m2 : Nat → Int32), (k2 ≤ 4) → (∀ e, e < 121 → (g2 e).toInt = gN ways k2 ((e % 11 : Nat) : Int) ((e / 11 : Nat) - gF ways)) → 4 - k2 < n → ∀ (H : Heap) (locs : List Loc), va_P D vwCl (WM cy mo a f g (va_up (va_up r 27 g2) 28 m2) q) H → va_S (AM mo a) s.heap H locs → ∀ (ls : Array Slot), lv_has ls 7 [(2, .int (nI k2)), (0, .ref mo), (1, .int ways)] → W p l e (headSpec wsX10_haunt ({ frames := 1, cells := 0, slots := 0, locals := 25 })).room s m #[Value.ref mo, Value.int ways] below meth c H locs 0 0 (MQ below (va_Qv (fun u => ∃ (gh : Nat → Int32), ∃ (mv : Nat → Int32), u = (f, g, (va_up (va_up r 27 gh) 28 mv), q) ∧ (∀ e, e < 121 → (gh e).toInt = gN ways 4 ((e % 11 : Nat) : Int) ((e / 11 : Nat) - gF ways))) (mB D cy mo a) (AM mo a)) #[Value.ref mo, Value.int ways] s 0 0 (AM mo a)) (F0 m 37 ls []) := by
          intro n
          induction n with
          | zero => intro k2 g2 m2 j37_0 j37_1 hn; exact absurd hn (Nat.not_lt_zero _)
          | succ n ih_37 =>
            intro k2 g2 m2 j37_0 j37_1 hn_37 H locs hP hS ls hl
            have ik2 : (nI k2).toInt = (k2 : Int) := nI_toInt (by omega)
            refine lv_iload_n hx hb dX10_haunt_37 rfl (lv_at hl 0 rfl) ?_
            refine lv_iconst (v := 4) hx hb dX10_haunt_38 (by decide) ?_
            refine lv_icmp_ge (tgt := 196) hx hb dX10_haunt_39 (by decide) (fun c39 => ?_) (fun c39 => ?_)
            · skip
              have d39 := c39
              rw [fa_le] at d39
              obtain rfl : k2 = 4 := by omega
              exact W.vret hx hb hr (fun t ht hW => ⟨⟨(f, g, (va_up (va_up r 27 g2) 28 m2), q), rfl, ⟨g2, m2, rfl, j37_1⟩, by unfold mB; rw [ht]; exact hP⟩, hS.F ht⟩) hS.2.2 dX10_haunt_196
            · skip
              have d39 := c39
              rw [fa_le] at d39
              have dxb := gdx_b k2
              have dzb := gdz_b k2
              have hf01 : 0 ≤ gF ways ∧ gF ways ≤ 1 := by omega
              refine lv_iconst (v := 0) hx hb dX10_haunt_42 (by decide) ?_
              refine lv_istore_n (lv' := [(3, .int (0 : Int32)), (2, .int (nI k2)), (0, .ref mo), (1, .int ways)]) hx hb dX10_haunt_43 rfl hl (by decide) rfl (fun ls hl => ?_)
              have loop_44 : ∀ (n : Nat) (i : Nat) (m3 : Nat → Int32), (i ≤ 121) → (∀ e, e < i → (m3 e).toInt = gN ways (k2 + 1) ((e % 11 : Nat) : Int) ((e / 11 : Nat) - gF ways)) → 121 - i < n → ∀ (H : Heap) (locs : List Loc), va_P D vwCl (WM cy mo a f g (va_up (va_up r 27 g2) 28 m3) q) H → va_S (AM mo a) s.heap H locs → ∀ (ls : Array Slot), lv_has ls 7 [(3, .int (nI i)), (2, .int (nI k2)), (0, .ref mo), (1, .int ways)] → W p l e (headSpec wsX10_haunt ({ frames := 1, cells := 0, slots := 0, locals := 25 })).room s m #[Value.ref mo, Value.int ways] below meth c H locs 0 0 (MQ below (va_Qv (fun u => ∃ (gh : Nat → Int32), ∃ (mv : Nat → Int32), u = (f, g, (va_up (va_up r 27 gh) 28 mv), q) ∧ (∀ e, e < 121 → (gh e).toInt = gN ways 4 ((e % 11 : Nat) : Int) ((e / 11 : Nat) - gF ways))) (mB D cy mo a) (AM mo a)) #[Value.ref mo, Value.int ways] s 0 0 (AM mo a)) (F0 m 44 ls []) := by
                intro n
                induction n with
                | zero => intro i m3 j44_0 j44_1 hn; exact absurd hn (Nat.not_lt_zero _)
                | succ n ih_44 =>
                  intro i m3 j44_0 j44_1 hn_44 H locs hP hS ls hl
                  have ii : (nI i).toInt = (i : Int) := nI_toInt (by omega)
                  refine lv_iload_n hx hb dX10_haunt_44 rfl (lv_at hl 0 rfl) ?_
                  refine lv_bipush (v := 121) hx hb dX10_haunt_45 (by decide) ?_
                  refine lv_icmp_ge (tgt := 155) hx hb dX10_haunt_47 (by decide) (fun c47 => ?_) (fun c47 => ?_)
                  · skip
                    have d47 := c47
                    rw [fa_le] at d47
                    have hmv : gB ways k2 = 1 → ∀ e, e < 121 → (m3 e).toInt = gN ways (k2 + 1) ((e % 11 : Nat) : Int) ((e / 11 : Nat) - gF ways) := fun hb e he => by
                      first
                      | exact j44_1 e (by omega)
                      | exact absurd (hB.symm.trans hb) c56
                    refine lv_iconst (v := 0) hx hb dX10_haunt_155 (by decide) ?_
                    refine lv_istore_n (lv' := [(3, .int (0 : Int32)), (2, .int (nI k2)), (0, .ref mo), (1, .int ways)]) hx hb dX10_haunt_156 rfl hl (by decide) rfl (fun ls hl => ?_)
                    have loop_157 : ∀ (n : Nat) (i2 : Nat) (g4 : Nat → Int32), (i2 ≤ 121) → (∀ e, e < 121 → (g4 e).toInt = (if e < i2 then gN ways (k2 + 1) ((e % 11 : Nat) : Int) ((e / 11 : Nat) - gF ways) else gN ways k2 ((e % 11 : Nat) : Int) ((e / 11 : Nat) - gF ways))) → 121 - i2 < n → ∀ (H : Heap) (locs : List Loc), va_P D vwCl (WM cy mo a f g (va_up (va_up r 28 m3) 27 g4) q) H → va_S (AM mo a) s.heap H locs → ∀ (ls : Array Slot), lv_has ls 7 [(3, .int (nI i2)), (2, .int (nI k2)), (0, .ref mo), (1, .int ways)] → W p l e (headSpec wsX10_haunt ({ frames := 1, cells := 0, slots := 0, locals := 25 })).room s m #[Value.ref mo, Value.int ways] below meth c H locs 0 0 (MQ below (va_Qv (fun u => ∃ (gh : Nat → Int32), ∃ (mv : Nat → Int32), u = (f, g, (va_up (va_up r 27 gh) 28 mv), q) ∧ (∀ e, e < 121 → (gh e).toInt = gN ways 4 ((e % 11 : Nat) : Int) ((e / 11 : Nat) - gF ways))) (mB D cy mo a) (AM mo a)) #[Value.ref mo, Value.int ways] s 0 0 (AM mo a)) (F0 m 157 ls []) := by
                      intro n
                      induction n with
                      | zero => intro i2 g4 j157_0 j157_1 hn; exact absurd hn (Nat.not_lt_zero _)
                      | succ n ih_157 =>
                        intro i2 g4 j157_0 j157_1 hn_157 H locs hP hS ls hl
                        have ii2 : (nI i2).toInt = (i2 : Int) := nI_toInt (by omega)
                        refine lv_iload_n hx hb dX10_haunt_157 rfl (lv_at hl 0 rfl) ?_
                        refine lv_bipush (v := 121) hx hb dX10_haunt_158 (by decide) ?_
                        refine lv_icmp_ge (tgt := 190) hx hb dX10_haunt_160 (by decide) (fun c160 => ?_) (fun c160 => ?_)
                        · skip
                          have d160 := c160
                          rw [fa_le] at d160
                          have hlast : ∀ e, e < 121 → (g4 e).toInt = gN ways (k2 + 1) ((e % 11 : Nat) : Int) ((e / 11 : Nat) - gF ways) := fun e he => by
                            have h9 := j157_1 e he
                            first
                            | (rw [if_pos (by omega)] at h9; exact h9)
                            | (rw [gN_0 (fun z => c169 (hB7.symm.trans z))]; rw [gN_0 (fun z => c169 (hB7.symm.trans z))] at h9; rw [h9]; split <;> rfl)
                          refine lv_iinc (v := (nI (k2 + 1))) (lv' := [(2, .int (nI (k2 + 1))), (3, .int (nI i2)), (0, .ref mo), (1, .int ways)]) hx hb dX10_haunt_190 hl (k := 1) rfl (nI_1 _) (by decide) rfl (fun ls hl => ?_)
                          refine lv_goto (tgt := 37) hx hb dX10_haunt_193 (by decide) ?_
                          have hP := wm_eq rfl rfl (ec_r_28_27__27_28 r m3 g4) rfl hP
                          exact ih_37 (k2 + 1) g4 m3 (by omega) (hlast) (by omega) _ _ hP hS ls (lv_sub hl [0, 2, 3] rfl)
                        · skip
                          have d160 := c160
                          rw [fa_le] at d160
                          refine lv_iload_n hx hb dX10_haunt_163 rfl (lv_at hl 3 rfl) ?_
                          refine lv_iload_n hx hb dX10_haunt_164 rfl (lv_at hl 1 rfl) ?_
                          refine lv_ishr hx hb dX10_haunt_165 ?_
                          refine lv_topi (fun v165 e165 => ?_)
                          refine lv_iconst (v := 1) hx hb dX10_haunt_166 (by decide) ?_
                          refine lv_iand hx hb dX10_haunt_167 ?_
                          refine lv_topi (fun v167 e167 => ?_)
                          have hB7 : gB ways k2 = v167 := by rw [e167, e165]; rfl
                          refine lv_iconst (v := 1) hx hb dX10_haunt_168 (by decide) ?_
                          refine lv_icmp_ne (tgt := 190) hx hb dX10_haunt_169 (by decide) (fun c169 => ?_) (fun c169 => ?_)
                          · skip
                            have d169 := c169
                            rw [fa_eq] at d169
                            have hlast : ∀ e, e < 121 → (g4 e).toInt = gN ways (k2 + 1) ((e % 11 : Nat) : Int) ((e / 11 : Nat) - gF ways) := fun e he => by
                              have h9 := j157_1 e he
                              first
                              | (rw [if_pos (by omega)] at h9; exact h9)
                              | (rw [gN_0 (fun z => c169 (hB7.symm.trans z))]; rw [gN_0 (fun z => c169 (hB7.symm.trans z))] at h9; rw [h9]; split <;> rfl)
                            refine lv_iinc (v := (nI (k2 + 1))) (lv' := [(2, .int (nI (k2 + 1))), (3, .int (nI i2)), (0, .ref mo), (1, .int ways)]) hx hb dX10_haunt_190 hl (k := 1) rfl (nI_1 _) (by decide) rfl (fun ls hl => ?_)
                            refine lv_goto (tgt := 37) hx hb dX10_haunt_193 (by decide) ?_
                            have hP := wm_eq rfl rfl (ec_r_28_27__27_28 r m3 g4) rfl hP
                            exact ih_37 (k2 + 1) g4 m3 (by omega) (hlast) (by omega) _ _ hP hS ls (lv_sub hl [0, 2, 3] rfl)
                          · skip
                            have d169 := c169
                            rw [fa_eq] at d169
                            refine lv_aload_n hx hb dX10_haunt_172 rfl (lv_at hl 2 rfl) ?_
                            refine m_get (v := .ref (a 27)) hx hb hts hin hown hK hP 27 (by decide) rfl (hts (.fieldLink RX10 55 "ShadowBenchModel" "ghost" "[I") (by decide +kernel)) rfl dX10_haunt_173 ?_
                            refine lv_iload_n hx hb dX10_haunt_176 rfl (lv_at hl 0 rfl) ?_
                            refine lv_aload_n hx hb dX10_haunt_177 rfl (lv_at hl 2 rfl) ?_
                            refine m_get (v := .ref (a 28)) hx hb hts hin hown hK hP 28 (by decide) rfl (hts (.fieldLink RX10 58 "ShadowBenchModel" "moved" "[I") (by decide +kernel)) rfl dX10_haunt_178 ?_
                            refine lv_iload_n hx hb dX10_haunt_181 rfl (lv_at hl 0 rfl) ?_
                            refine m_iald (w := m3) hx hb hK hP 16 rfl (vp_in_iff.mpr ⟨by omega, by omega⟩) dX10_haunt_182 ?_
                            refine lv_topi (fun v182 e182 => ?_)
                            have i182 : v182.toInt = (m3 (nI i2).toNatClampNeg).toInt := congrArg Int32.toInt e182
                            have cli2 := nI_clamp (n := i2) (by omega)
                            have t182 : v182.toInt = gN ways (k2 + 1) ((i2 % 11 : Nat) : Int) ((i2 / 11 : Nat) - gF ways) := by rw [i182, cli2]; exact hmv (hB7.trans c169) i2 (by omega)
                            refine m_iast (w := g4) hx hb hK hP hD hS 15 rfl (vp_in_iff.mpr ⟨by omega, by omega⟩) (va_up (va_up (va_up r 28 m3) 27 g4) 27 (upd g4 (nI i2).toNatClampNeg v182)) (ms_27 cy mo a _ _ _ _ _) dX10_haunt_183 (fun H locs hP hS => ?_)
                            have hP := wm_eq rfl rfl (es_r_28_27__27 r m3 g4 (upd g4 (nI i2).toNatClampNeg v182)) rfl hP
                            refine lv_iinc (v := (nI (i2 + 1))) (lv' := [(3, .int (nI (i2 + 1))), (2, .int (nI k2)), (0, .ref mo), (1, .int ways)]) hx hb dX10_haunt_184 hl (k := 0) rfl (nI_1 _) (by decide) rfl (fun ls hl => ?_)
                            refine lv_goto (tgt := 157) hx hb dX10_haunt_187 (by decide) ?_
                            have hP := wm_eq rfl rfl (ec_r_28_27__28_27 r m3 ((upd g4 (nI i2).toNatClampNeg v182))) rfl hP
                            exact ih_157 (i2 + 1) (((upd g4 (nI i2).toNatClampNeg v182))) (by omega) (fun e he => by unfold upd; rw [cli2]; split; (rename_i z9; rw [if_pos (by omega), z9]; exact t182); (have h9 := j157_1 e he; rw [h9]; split <;> split <;> first | rfl | (exfalso; omega))) (by omega) _ _ hP hS ls (lv_sub hl [0, 1, 2, 3] rfl)
                    have hP := wm_eq rfl rfl (ec_r_27_28__28_27 r g2 m3) rfl hP
                    exact loop_157 (121 + 1) 0 g2 (by omega) (fun e he => by rw [if_neg (Nat.not_lt_zero _)]; exact j37_1 e he) (by omega) _ _ hP hS ls (lv_sub hl [0, 1, 2, 3] rfl)
                  · skip
                    have d47 := c47
                    rw [fa_le] at d47
                    refine lv_iload_n hx hb dX10_haunt_50 rfl (lv_at hl 3 rfl) ?_
                    refine lv_iload_n hx hb dX10_haunt_51 rfl (lv_at hl 1 rfl) ?_
                    refine lv_ishr hx hb dX10_haunt_52 ?_
                    refine lv_topi (fun v52 e52 => ?_)
                    refine lv_iconst (v := 1) hx hb dX10_haunt_53 (by decide) ?_
                    refine lv_iand hx hb dX10_haunt_54 ?_
                    refine lv_topi (fun v54 e54 => ?_)
                    have hB : gB ways k2 = v54 := by rw [e54, e52]; rfl
                    refine lv_iconst (v := 1) hx hb dX10_haunt_55 (by decide) ?_
                    refine lv_icmp_ne (tgt := 155) hx hb dX10_haunt_56 (by decide) (fun c56 => ?_) (fun c56 => ?_)
                    · skip
                      have d56 := c56
                      rw [fa_eq] at d56
                      have hmv : gB ways k2 = 1 → ∀ e, e < 121 → (m3 e).toInt = gN ways (k2 + 1) ((e % 11 : Nat) : Int) ((e / 11 : Nat) - gF ways) := fun hb e he => by
                        first
                        | exact j44_1 e (by omega)
                        | exact absurd (hB.symm.trans hb) c56
                      refine lv_iconst (v := 0) hx hb dX10_haunt_155 (by decide) ?_
                      refine lv_istore_n (lv' := [(3, .int (0 : Int32)), (2, .int (nI k2)), (0, .ref mo), (1, .int ways)]) hx hb dX10_haunt_156 rfl hl (by decide) rfl (fun ls hl => ?_)
                      have loop_157 : ∀ (n : Nat) (i2 : Nat) (g4 : Nat → Int32), (i2 ≤ 121) → (∀ e, e < 121 → (g4 e).toInt = (if e < i2 then gN ways (k2 + 1) ((e % 11 : Nat) : Int) ((e / 11 : Nat) - gF ways) else gN ways k2 ((e % 11 : Nat) : Int) ((e / 11 : Nat) - gF ways))) → 121 - i2 < n → ∀ (H : Heap) (locs : List Loc), va_P D vwCl (WM cy mo a f g (va_up (va_up r 28 m3) 27 g4) q) H → va_S (AM mo a) s.heap H locs → ∀ (ls : Array Slot), lv_has ls 7 [(3, .int (nI i2)), (2, .int (nI k2)), (0, .ref mo), (1, .int ways)] → W p l e (headSpec wsX10_haunt ({ frames := 1, cells := 0, slots := 0, locals := 25 })).room s m #[Value.ref mo, Value.int ways] below meth c H locs 0 0 (MQ below (va_Qv (fun u => ∃ (gh : Nat → Int32), ∃ (mv : Nat → Int32), u = (f, g, (va_up (va_up r 27 gh) 28 mv), q) ∧ (∀ e, e < 121 → (gh e).toInt = gN ways 4 ((e % 11 : Nat) : Int) ((e / 11 : Nat) - gF ways))) (mB D cy mo a) (AM mo a)) #[Value.ref mo, Value.int ways] s 0 0 (AM mo a)) (F0 m 157 ls []) := by
                        intro n
                        induction n with
                        | zero => intro i2 g4 j157_0 j157_1 hn; exact absurd hn (Nat.not_lt_zero _)
                        | succ n ih_157 =>
                          intro i2 g4 j157_0 j157_1 hn_157 H locs hP hS ls hl
                          have ii2 : (nI i2).toInt = (i2 : Int) := nI_toInt (by omega)
                          refine lv_iload_n hx hb dX10_haunt_157 rfl (lv_at hl 0 rfl) ?_
                          refine lv_bipush (v := 121) hx hb dX10_haunt_158 (by decide) ?_
                          refine lv_icmp_ge (tgt := 190) hx hb dX10_haunt_160 (by decide) (fun c160 => ?_) (fun c160 => ?_)
                          · skip
                            have d160 := c160
                            rw [fa_le] at d160
                            have hlast : ∀ e, e < 121 → (g4 e).toInt = gN ways (k2 + 1) ((e % 11 : Nat) : Int) ((e / 11 : Nat) - gF ways) := fun e he => by
                              have h9 := j157_1 e he
                              first
                              | (rw [if_pos (by omega)] at h9; exact h9)
                              | (rw [gN_0 (fun z => c169 (hB7.symm.trans z))]; rw [gN_0 (fun z => c169 (hB7.symm.trans z))] at h9; rw [h9]; split <;> rfl)
                            refine lv_iinc (v := (nI (k2 + 1))) (lv' := [(2, .int (nI (k2 + 1))), (3, .int (nI i2)), (0, .ref mo), (1, .int ways)]) hx hb dX10_haunt_190 hl (k := 1) rfl (nI_1 _) (by decide) rfl (fun ls hl => ?_)
                            refine lv_goto (tgt := 37) hx hb dX10_haunt_193 (by decide) ?_
                            have hP := wm_eq rfl rfl (ec_r_28_27__27_28 r m3 g4) rfl hP
                            exact ih_37 (k2 + 1) g4 m3 (by omega) (hlast) (by omega) _ _ hP hS ls (lv_sub hl [0, 2, 3] rfl)
                          · skip
                            have d160 := c160
                            rw [fa_le] at d160
                            refine lv_iload_n hx hb dX10_haunt_163 rfl (lv_at hl 3 rfl) ?_
                            refine lv_iload_n hx hb dX10_haunt_164 rfl (lv_at hl 1 rfl) ?_
                            refine lv_ishr hx hb dX10_haunt_165 ?_
                            refine lv_topi (fun v165 e165 => ?_)
                            refine lv_iconst (v := 1) hx hb dX10_haunt_166 (by decide) ?_
                            refine lv_iand hx hb dX10_haunt_167 ?_
                            refine lv_topi (fun v167 e167 => ?_)
                            have hB7 : gB ways k2 = v167 := by rw [e167, e165]; rfl
                            refine lv_iconst (v := 1) hx hb dX10_haunt_168 (by decide) ?_
                            refine lv_icmp_ne (tgt := 190) hx hb dX10_haunt_169 (by decide) (fun c169 => ?_) (fun c169 => ?_)
                            · skip
                              have d169 := c169
                              rw [fa_eq] at d169
                              have hlast : ∀ e, e < 121 → (g4 e).toInt = gN ways (k2 + 1) ((e % 11 : Nat) : Int) ((e / 11 : Nat) - gF ways) := fun e he => by
                                have h9 := j157_1 e he
                                first
                                | (rw [if_pos (by omega)] at h9; exact h9)
                                | (rw [gN_0 (fun z => c169 (hB7.symm.trans z))]; rw [gN_0 (fun z => c169 (hB7.symm.trans z))] at h9; rw [h9]; split <;> rfl)
                              refine lv_iinc (v := (nI (k2 + 1))) (lv' := [(2, .int (nI (k2 + 1))), (3, .int (nI i2)), (0, .ref mo), (1, .int ways)]) hx hb dX10_haunt_190 hl (k := 1) rfl (nI_1 _) (by decide) rfl (fun ls hl => ?_)
                              refine lv_goto (tgt := 37) hx hb dX10_haunt_193 (by decide) ?_
                              have hP := wm_eq rfl rfl (ec_r_28_27__27_28 r m3 g4) rfl hP
                              exact ih_37 (k2 + 1) g4 m3 (by omega) (hlast) (by omega) _ _ hP hS ls (lv_sub hl [0, 2, 3] rfl)
                            · skip
                              have d169 := c169
                              rw [fa_eq] at d169
                              refine lv_aload_n hx hb dX10_haunt_172 rfl (lv_at hl 2 rfl) ?_
                              refine m_get (v := .ref (a 27)) hx hb hts hin hown hK hP 27 (by decide) rfl (hts (.fieldLink RX10 55 "ShadowBenchModel" "ghost" "[I") (by decide +kernel)) rfl dX10_haunt_173 ?_
                              refine lv_iload_n hx hb dX10_haunt_176 rfl (lv_at hl 0 rfl) ?_
                              refine lv_aload_n hx hb dX10_haunt_177 rfl (lv_at hl 2 rfl) ?_
                              refine m_get (v := .ref (a 28)) hx hb hts hin hown hK hP 28 (by decide) rfl (hts (.fieldLink RX10 58 "ShadowBenchModel" "moved" "[I") (by decide +kernel)) rfl dX10_haunt_178 ?_
                              refine lv_iload_n hx hb dX10_haunt_181 rfl (lv_at hl 0 rfl) ?_
                              refine m_iald (w := m3) hx hb hK hP 16 rfl (vp_in_iff.mpr ⟨by omega, by omega⟩) dX10_haunt_182 ?_
                              refine lv_topi (fun v182 e182 => ?_)
                              have i182 : v182.toInt = (m3 (nI i2).toNatClampNeg).toInt := congrArg Int32.toInt e182
                              have cli2 := nI_clamp (n := i2) (by omega)
                              have t182 : v182.toInt = gN ways (k2 + 1) ((i2 % 11 : Nat) : Int) ((i2 / 11 : Nat) - gF ways) := by rw [i182, cli2]; exact hmv (hB7.trans c169) i2 (by omega)
                              refine m_iast (w := g4) hx hb hK hP hD hS 15 rfl (vp_in_iff.mpr ⟨by omega, by omega⟩) (va_up (va_up (va_up r 28 m3) 27 g4) 27 (upd g4 (nI i2).toNatClampNeg v182)) (ms_27 cy mo a _ _ _ _ _) dX10_haunt_183 (fun H locs hP hS => ?_)
                              have hP := wm_eq rfl rfl (es_r_28_27__27 r m3 g4 (upd g4 (nI i2).toNatClampNeg v182)) rfl hP
                              refine lv_iinc (v := (nI (i2 + 1))) (lv' := [(3, .int (nI (i2 + 1))), (2, .int (nI k2)), (0, .ref mo), (1, .int ways)]) hx hb dX10_haunt_184 hl (k := 0) rfl (nI_1 _) (by decide) rfl (fun ls hl => ?_)
                              refine lv_goto (tgt := 157) hx hb dX10_haunt_187 (by decide) ?_
                              have hP := wm_eq rfl rfl (ec_r_28_27__28_27 r m3 ((upd g4 (nI i2).toNatClampNeg v182))) rfl hP
                              exact ih_157 (i2 + 1) (((upd g4 (nI i2).toNatClampNeg v182))) (by omega) (fun e he => by unfold upd; rw [cli2]; split; (rename_i z9; rw [if_pos (by omega), z9]; exact t182); (have h9 := j157_1 e he; rw [h9]; split <;> split <;> first | rfl | (exfalso; omega))) (by omega) _ _ hP hS ls (lv_sub hl [0, 1, 2, 3] rfl)
                      have hP := wm_eq rfl rfl (ec_r_27_28__28_27 r g2 m3) rfl hP
                      exact loop_157 (121 + 1) 0 g2 (by omega) (fun e he => by rw [if_neg (Nat.not_lt_zero _)]; exact j37_1 e he) (by omega) _ _ hP hS ls (lv_sub hl [0, 1, 2, 3] rfl)
                    · skip
                      have d56 := c56
                      rw [fa_eq] at d56
                      refine lv_iload_n hx hb dX10_haunt_59 rfl (lv_at hl 0 rfl) ?_
                      refine lv_bipush (v := 11) hx hb dX10_haunt_60 (by decide) ?_
                      refine lv_irem hx hb dX10_haunt_62 (fun z => by rw [fa_eq] at z; omega) ?_
                      refine lv_topi (fun v62 e62 => ?_)
                      have i62 : v62.toInt = (nI i).toInt % (11 : Int32).toInt := by rw [e62]; exact my_irem (by omega) (by omega)
                      have j62 : 0 ≤ v62.toInt ∧ v62.toInt < (11 : Int32).toInt ∧ v62.toInt ≤ (nI i).toInt := by rw [e62]; exact my_remb (by omega) (by omega)
                      rw [show (11 : Int32).toInt = 11 from by decide] at i62 j62
                      refine lv_iload_n hx hb dX10_haunt_63 rfl (lv_at hl 1 rfl) ?_
                      refine m_pu (As := [.int (nI k2)]) (rest := [.int v62]) ⟨hx, hb, hml, hown, hts⟩ (c_X10_across_x l (nI k2) ) (va_cwS 1 hts gX10_haunt_X10_across rfl rfl rfl (by decide +kernel) ⟨Nat.le_of_ble_eq_true rfl, Nat.le_of_ble_eq_true rfl⟩) hP rfl hl.1 rfl (Nat.le_of_ble_eq_true rfl) dX10_haunt_64 ⟨Nat.le_of_ble_eq_true rfl, Nat.le_of_ble_eq_true rfl⟩ hS (fun r64 H locs q64 hP hS => ?_)
                      have a64 : r64.toInt = gdx k2 := by rw [q64, ik2]; unfold gdx; split <;> split <;> omega
                      refine lv_isub hx hb dX10_haunt_67 ?_
                      refine lv_topi (fun v67 e67 => ?_)
                      have i67 : v67.toInt = v62.toInt - r64.toInt := by rw [e67]; exact fb_subI (by omega) (by omega)
                      refine lv_istore (lv' := [(4, .int v67), (3, .int (nI i)), (2, .int (nI k2)), (0, .ref mo), (1, .int ways)]) hx hb dX10_haunt_68 hl (by decide) rfl (fun ls hl => ?_)
                      refine lv_iload_n hx hb dX10_haunt_70 rfl (lv_at hl 1 rfl) ?_
                      refine lv_bipush (v := 11) hx hb dX10_haunt_71 (by decide) ?_
                      refine lv_idiv hx hb dX10_haunt_73 (fun z => by rw [fa_eq] at z; omega) ?_
                      refine lv_topi (fun v73 e73 => ?_)
                      have i73 : v73.toInt = (nI i).toInt / (11 : Int32).toInt := by rw [e73]; exact my_idiv (by omega) (by omega)
                      have j73 : 0 ≤ v73.toInt ∧ v73.toInt ≤ (nI i).toInt := by rw [e73]; exact my_divb (by omega) (by omega)
                      rw [show (11 : Int32).toInt = 11 from by decide] at i73
                      refine lv_iload_n hx hb dX10_haunt_74 rfl (lv_at hl 2 rfl) ?_
                      refine m_pu (As := [.int (nI k2)]) (rest := [.int v73]) ⟨hx, hb, hml, hown, hts⟩ (c_X10_down_x l (nI k2) ) (va_cwS 1 hts gX10_haunt_X10_down rfl rfl rfl (by decide +kernel) ⟨Nat.le_of_ble_eq_true rfl, Nat.le_of_ble_eq_true rfl⟩) hP rfl hl.1 rfl (Nat.le_of_ble_eq_true rfl) dX10_haunt_75 ⟨Nat.le_of_ble_eq_true rfl, Nat.le_of_ble_eq_true rfl⟩ hS (fun r75 H locs q75 hP hS => ?_)
                      have a75 : r75.toInt = gdz k2 := by rw [q75, ik2]; unfold gdz; split <;> (try split) <;> (try split) <;> (try split) <;> omega
                      refine lv_isub hx hb dX10_haunt_78 ?_
                      refine lv_topi (fun v78 e78 => ?_)
                      have i78 : v78.toInt = v73.toInt - r75.toInt := by rw [e78]; exact fb_subI (by omega) (by omega)
                      refine lv_istore (lv' := [(5, .int v78), (4, .int v67), (3, .int (nI i)), (2, .int (nI k2)), (0, .ref mo), (1, .int ways)]) hx hb dX10_haunt_79 hl (by decide) rfl (fun ls hl => ?_)
                      refine lv_iload hx hb dX10_haunt_81 (lv_at hl 1 rfl) ?_
                      refine lv_i2l (v := v67.toInt64) hx hb dX10_haunt_83 rfl ?_
                      refine lv_lconst (v := 0) hx hb dX10_haunt_84 (by decide) ?_
                      refine lv_ldc2 hx hb hown (hts (.constantLong RX10 248 (10)) (by decide +kernel)) dX10_haunt_85 ?_
                      refine m_pu (As := [.long (v67.toInt64), .long (0 : Int64), .long (10 : Int64)]) (rest := []) ⟨hx, hb, hml, hown, hts⟩ (c_X10_isIn l v67.toInt64 (0 : Int64) (10 : Int64) ) (va_cwS 3 hts gX10_haunt_X10_isIn rfl rfl rfl (by decide +kernel) ⟨Nat.le_of_ble_eq_true rfl, Nat.le_of_ble_eq_true rfl⟩) hP rfl hl.1 rfl (Nat.le_of_ble_eq_true rfl) dX10_haunt_88 ⟨Nat.le_of_ble_eq_true rfl, Nat.le_of_ble_eq_true rfl⟩ hS (fun r88 H locs q88 hP hS => ?_)
                      have q88 := q88
                      simp only [k64, show (0 : Int64).toInt = 0 from rfl, show (1 : Int64).toInt = 1 from rfl, show (2 : Int64).toInt = 2 from rfl, show (3 : Int64).toInt = 3 from rfl, show (6 : Int64).toInt = 6 from rfl] at q88
                      refine lv_if_eq (tgt := 111) hx hb dX10_haunt_91 (by decide) (fun c91 => ?_) (fun c91 => ?_)
                      · skip
                        have b91 := bo_f q88 c91
                        refine lv_iconst (v := 0) hx hb dX10_haunt_111 (by decide) ?_
                        refine lv_istore (lv' := [(6, .int (0 : Int32)), (5, .int v78), (4, .int v67), (3, .int (nI i)), (2, .int (nI k2)), (0, .ref mo), (1, .int ways)]) hx hb dX10_haunt_112 hl (by decide) rfl (fun ls hl => ?_)
                        refine lv_aload_n hx hb dX10_haunt_114 rfl (lv_at hl 5 rfl) ?_
                        refine m_get (v := .ref (a 28)) hx hb hts hin hown hK hP 28 (by decide) rfl (hts (.fieldLink RX10 58 "ShadowBenchModel" "moved" "[I") (by decide +kernel)) rfl dX10_haunt_115 ?_
                        refine lv_iload_n hx hb dX10_haunt_118 rfl (lv_at hl 3 rfl) ?_
                        refine lv_aload_n hx hb dX10_haunt_119 rfl (lv_at hl 5 rfl) ?_
                        refine m_get (v := .ref (a 27)) hx hb hts hin hown hK hP 27 (by decide) rfl (hts (.fieldLink RX10 55 "ShadowBenchModel" "ghost" "[I") (by decide +kernel)) rfl dX10_haunt_120 ?_
                        refine lv_iload_n hx hb dX10_haunt_123 rfl (lv_at hl 3 rfl) ?_
                        refine m_iald (w := g2) hx hb hK hP 15 rfl (vp_in_iff.mpr ⟨by omega, by omega⟩) dX10_haunt_124 ?_
                        refine lv_topi (fun v124 e124 => ?_)
                        have i124 : v124.toInt = (g2 (nI i).toNatClampNeg).toInt := congrArg Int32.toInt e124
                        have cli := nI_clamp (n := i) (by omega)
                        have t124 : v124.toInt = gN ways k2 ((i % 11 : Nat) : Int) ((i / 11 : Nat) - gF ways) := by rw [i124, cli]; exact j37_1 i (by omega)
                        have hp2 : (2 ^ k2 : Nat) ≤ 16 := Nat.le_trans (Nat.pow_le_pow_right (by decide) (show k2 ≤ 4 by omega)) (by decide)
                        have p1 := gN_b ways k2 ((i % 11 : Nat) : Int) ((i / 11 : Nat) - gF ways)
                        have p2 := gN_b ways k2 (((i % 11 : Nat) : Int) - gdx k2) (((i / 11 : Nat) - gF ways) - gdz k2)
                        refine lv_iload hx hb dX10_haunt_125 (lv_at hl 0 rfl) ?_
                        refine lv_if_eq (tgt := 146) hx hb dX10_haunt_127 (by decide) (fun c127 => ?_) (fun c127 => ?_)
                        · skip
                          have d127 := c127
                          rw [fa_eq] at d127
                          have t0 : gN ways k2 (((i % 11 : Nat) : Int) - gdx k2) (((i / 11 : Nat) - gF ways) - gdz k2) = 0 := by
                            first | have y91 := b91 | skip
                            first | have y104 := b104 | skip
                            try simp only [k64, show (0 : Int64).toInt = 0 from rfl, show (10 : Int64).toInt = 10 from rfl] at y91
                            try simp only [k64, show (0 : Int64).toInt = 0 from rfl, show (10 : Int64).toInt = 10 from rfl] at y104
                            exact gN_z ways k2 (by omega) _ _ (by omega)
                          refine lv_iconst (v := 0) hx hb dX10_haunt_146 (by decide) ?_
                          refine lv_isub hx hb dX10_haunt_147 ?_
                          refine lv_topi (fun v147 e147 => ?_)
                          have i147 : v147.toInt = v124.toInt - (0 : Int32).toInt := by rw [e147]; exact fb_subI (by omega) (by omega)
                          have hst : v147.toInt = gN ways (k2 + 1) ((i % 11 : Nat) : Int) ((i / 11 : Nat) - gF ways) := by
                            rw [gN_1 (hB.trans c56)]
                            first
                            | (rw [← t124, ← t142]; exact i147)
                            | (rw [t0, ← t124]; omega)
                          refine m_iast (w := m3) hx hb hK hP hD hS 16 rfl (vp_in_iff.mpr ⟨by omega, by omega⟩) (va_up (va_up (va_up r 27 g2) 28 m3) 28 (upd m3 (nI i).toNatClampNeg v147)) (ms_28 cy mo a _ _ _ _ _) dX10_haunt_148 (fun H locs hP hS => ?_)
                          have hP := wm_eq rfl rfl (es_r_27_28__28 r g2 m3 (upd m3 (nI i).toNatClampNeg v147)) rfl hP
                          refine lv_iinc (v := (nI (i + 1))) (lv' := [(3, .int (nI (i + 1))), (6, .int (0 : Int32)), (5, .int v78), (4, .int v67), (2, .int (nI k2)), (0, .ref mo), (1, .int ways)]) hx hb dX10_haunt_149 hl (k := 3) rfl (nI_1 _) (by decide) rfl (fun ls hl => ?_)
                          refine lv_goto (tgt := 44) hx hb dX10_haunt_152 (by decide) ?_
                          have hP := wm_eq rfl rfl (ec_r_27_28__27_28 r g2 ((upd m3 (nI i).toNatClampNeg v147))) rfl hP
                          exact ih_44 (i + 1) (((upd m3 (nI i).toNatClampNeg v147))) (by omega) (fun e he => by unfold upd; rw [cli]; split; (rename_i z9; rw [z9]; exact hst); exact j44_1 e (by omega)) (by omega) _ _ hP hS ls (lv_sub hl [0, 4, 5, 6] rfl)
                        · first | exact absurd c127 (by decide) | exact absurd (by decide) c127
                      · skip
                        have b91 := bo_t q88 c91
                        refine lv_iload hx hb dX10_haunt_94 (lv_at hl 0 rfl) ?_
                        refine lv_i2l (v := v78.toInt64) hx hb dX10_haunt_96 rfl ?_
                        refine lv_lconst (v := 0) hx hb dX10_haunt_97 (by decide) ?_
                        refine lv_ldc2 hx hb hown (hts (.constantLong RX10 248 (10)) (by decide +kernel)) dX10_haunt_98 ?_
                        refine m_pu (As := [.long (v78.toInt64), .long (0 : Int64), .long (10 : Int64)]) (rest := []) ⟨hx, hb, hml, hown, hts⟩ (c_X10_isIn l v78.toInt64 (0 : Int64) (10 : Int64) ) (va_cwS 3 hts gX10_haunt_X10_isIn rfl rfl rfl (by decide +kernel) ⟨Nat.le_of_ble_eq_true rfl, Nat.le_of_ble_eq_true rfl⟩) hP rfl hl.1 rfl (Nat.le_of_ble_eq_true rfl) dX10_haunt_101 ⟨Nat.le_of_ble_eq_true rfl, Nat.le_of_ble_eq_true rfl⟩ hS (fun r101 H locs q101 hP hS => ?_)
                        have q101 := q101
                        simp only [k64, show (0 : Int64).toInt = 0 from rfl, show (1 : Int64).toInt = 1 from rfl, show (2 : Int64).toInt = 2 from rfl, show (3 : Int64).toInt = 3 from rfl, show (6 : Int64).toInt = 6 from rfl] at q101
                        refine lv_if_eq (tgt := 111) hx hb dX10_haunt_104 (by decide) (fun c104 => ?_) (fun c104 => ?_)
                        · skip
                          have b104 := bo_f q101 c104
                          refine lv_iconst (v := 0) hx hb dX10_haunt_111 (by decide) ?_
                          refine lv_istore (lv' := [(6, .int (0 : Int32)), (5, .int v78), (4, .int v67), (3, .int (nI i)), (2, .int (nI k2)), (0, .ref mo), (1, .int ways)]) hx hb dX10_haunt_112 hl (by decide) rfl (fun ls hl => ?_)
                          refine lv_aload_n hx hb dX10_haunt_114 rfl (lv_at hl 5 rfl) ?_
                          refine m_get (v := .ref (a 28)) hx hb hts hin hown hK hP 28 (by decide) rfl (hts (.fieldLink RX10 58 "ShadowBenchModel" "moved" "[I") (by decide +kernel)) rfl dX10_haunt_115 ?_
                          refine lv_iload_n hx hb dX10_haunt_118 rfl (lv_at hl 3 rfl) ?_
                          refine lv_aload_n hx hb dX10_haunt_119 rfl (lv_at hl 5 rfl) ?_
                          refine m_get (v := .ref (a 27)) hx hb hts hin hown hK hP 27 (by decide) rfl (hts (.fieldLink RX10 55 "ShadowBenchModel" "ghost" "[I") (by decide +kernel)) rfl dX10_haunt_120 ?_
                          refine lv_iload_n hx hb dX10_haunt_123 rfl (lv_at hl 3 rfl) ?_
                          refine m_iald (w := g2) hx hb hK hP 15 rfl (vp_in_iff.mpr ⟨by omega, by omega⟩) dX10_haunt_124 ?_
                          refine lv_topi (fun v124 e124 => ?_)
                          have i124 : v124.toInt = (g2 (nI i).toNatClampNeg).toInt := congrArg Int32.toInt e124
                          have cli := nI_clamp (n := i) (by omega)
                          have t124 : v124.toInt = gN ways k2 ((i % 11 : Nat) : Int) ((i / 11 : Nat) - gF ways) := by rw [i124, cli]; exact j37_1 i (by omega)
                          have hp2 : (2 ^ k2 : Nat) ≤ 16 := Nat.le_trans (Nat.pow_le_pow_right (by decide) (show k2 ≤ 4 by omega)) (by decide)
                          have p1 := gN_b ways k2 ((i % 11 : Nat) : Int) ((i / 11 : Nat) - gF ways)
                          have p2 := gN_b ways k2 (((i % 11 : Nat) : Int) - gdx k2) (((i / 11 : Nat) - gF ways) - gdz k2)
                          refine lv_iload hx hb dX10_haunt_125 (lv_at hl 0 rfl) ?_
                          refine lv_if_eq (tgt := 146) hx hb dX10_haunt_127 (by decide) (fun c127 => ?_) (fun c127 => ?_)
                          · skip
                            have d127 := c127
                            rw [fa_eq] at d127
                            have t0 : gN ways k2 (((i % 11 : Nat) : Int) - gdx k2) (((i / 11 : Nat) - gF ways) - gdz k2) = 0 := by
                              first | have y91 := b91 | skip
                              first | have y104 := b104 | skip
                              try simp only [k64, show (0 : Int64).toInt = 0 from rfl, show (10 : Int64).toInt = 10 from rfl] at y91
                              try simp only [k64, show (0 : Int64).toInt = 0 from rfl, show (10 : Int64).toInt = 10 from rfl] at y104
                              exact gN_z ways k2 (by omega) _ _ (by omega)
                            refine lv_iconst (v := 0) hx hb dX10_haunt_146 (by decide) ?_
                            refine lv_isub hx hb dX10_haunt_147 ?_
                            refine lv_topi (fun v147 e147 => ?_)
                            have i147 : v147.toInt = v124.toInt - (0 : Int32).toInt := by rw [e147]; exact fb_subI (by omega) (by omega)
                            have hst : v147.toInt = gN ways (k2 + 1) ((i % 11 : Nat) : Int) ((i / 11 : Nat) - gF ways) := by
                              rw [gN_1 (hB.trans c56)]
                              first
                              | (rw [← t124, ← t142]; exact i147)
                              | (rw [t0, ← t124]; omega)
                            refine m_iast (w := m3) hx hb hK hP hD hS 16 rfl (vp_in_iff.mpr ⟨by omega, by omega⟩) (va_up (va_up (va_up r 27 g2) 28 m3) 28 (upd m3 (nI i).toNatClampNeg v147)) (ms_28 cy mo a _ _ _ _ _) dX10_haunt_148 (fun H locs hP hS => ?_)
                            have hP := wm_eq rfl rfl (es_r_27_28__28 r g2 m3 (upd m3 (nI i).toNatClampNeg v147)) rfl hP
                            refine lv_iinc (v := (nI (i + 1))) (lv' := [(3, .int (nI (i + 1))), (6, .int (0 : Int32)), (5, .int v78), (4, .int v67), (2, .int (nI k2)), (0, .ref mo), (1, .int ways)]) hx hb dX10_haunt_149 hl (k := 3) rfl (nI_1 _) (by decide) rfl (fun ls hl => ?_)
                            refine lv_goto (tgt := 44) hx hb dX10_haunt_152 (by decide) ?_
                            have hP := wm_eq rfl rfl (ec_r_27_28__27_28 r g2 ((upd m3 (nI i).toNatClampNeg v147))) rfl hP
                            exact ih_44 (i + 1) (((upd m3 (nI i).toNatClampNeg v147))) (by omega) (fun e he => by unfold upd; rw [cli]; split; (rename_i z9; rw [z9]; exact hst); exact j44_1 e (by omega)) (by omega) _ _ hP hS ls (lv_sub hl [0, 4, 5, 6] rfl)
                          · first | exact absurd c127 (by decide) | exact absurd (by decide) c127
                        · skip
                          have b104 := bo_t q101 c104
                          refine lv_iconst (v := 1) hx hb dX10_haunt_107 (by decide) ?_
                          refine lv_goto (tgt := 112) hx hb dX10_haunt_108 (by decide) ?_
                          refine lv_istore (lv' := [(6, .int (1 : Int32)), (5, .int v78), (4, .int v67), (3, .int (nI i)), (2, .int (nI k2)), (0, .ref mo), (1, .int ways)]) hx hb dX10_haunt_112 hl (by decide) rfl (fun ls hl => ?_)
                          refine lv_aload_n hx hb dX10_haunt_114 rfl (lv_at hl 5 rfl) ?_
                          refine m_get (v := .ref (a 28)) hx hb hts hin hown hK hP 28 (by decide) rfl (hts (.fieldLink RX10 58 "ShadowBenchModel" "moved" "[I") (by decide +kernel)) rfl dX10_haunt_115 ?_
                          refine lv_iload_n hx hb dX10_haunt_118 rfl (lv_at hl 3 rfl) ?_
                          refine lv_aload_n hx hb dX10_haunt_119 rfl (lv_at hl 5 rfl) ?_
                          refine m_get (v := .ref (a 27)) hx hb hts hin hown hK hP 27 (by decide) rfl (hts (.fieldLink RX10 55 "ShadowBenchModel" "ghost" "[I") (by decide +kernel)) rfl dX10_haunt_120 ?_
                          refine lv_iload_n hx hb dX10_haunt_123 rfl (lv_at hl 3 rfl) ?_
                          refine m_iald (w := g2) hx hb hK hP 15 rfl (vp_in_iff.mpr ⟨by omega, by omega⟩) dX10_haunt_124 ?_
                          refine lv_topi (fun v124 e124 => ?_)
                          have i124 : v124.toInt = (g2 (nI i).toNatClampNeg).toInt := congrArg Int32.toInt e124
                          have cli := nI_clamp (n := i) (by omega)
                          have t124 : v124.toInt = gN ways k2 ((i % 11 : Nat) : Int) ((i / 11 : Nat) - gF ways) := by rw [i124, cli]; exact j37_1 i (by omega)
                          have hp2 : (2 ^ k2 : Nat) ≤ 16 := Nat.le_trans (Nat.pow_le_pow_right (by decide) (show k2 ≤ 4 by omega)) (by decide)
                          have p1 := gN_b ways k2 ((i % 11 : Nat) : Int) ((i / 11 : Nat) - gF ways)
                          have p2 := gN_b ways k2 (((i % 11 : Nat) : Int) - gdx k2) (((i / 11 : Nat) - gF ways) - gdz k2)
                          refine lv_iload hx hb dX10_haunt_125 (lv_at hl 0 rfl) ?_
                          refine lv_if_eq (tgt := 146) hx hb dX10_haunt_127 (by decide) (fun c127 => ?_) (fun c127 => ?_)
                          · first | exact absurd c127 (by decide) | exact absurd (by decide) c127
                          · skip
                            have d127 := c127
                            rw [fa_eq] at d127
                            refine lv_aload_n hx hb dX10_haunt_130 rfl (lv_at hl 5 rfl) ?_
                            refine m_get (v := .ref (a 27)) hx hb hts hin hown hK hP 27 (by decide) rfl (hts (.fieldLink RX10 55 "ShadowBenchModel" "ghost" "[I") (by decide +kernel)) rfl dX10_haunt_131 ?_
                            have y91 := b91
                            have y104 := b104
                            try simp only [k64, show (0 : Int64).toInt = 0 from rfl, show (10 : Int64).toInt = 10 from rfl] at y91 y104
                            refine lv_bipush (v := 11) hx hb dX10_haunt_134 (by decide) ?_
                            refine lv_iload hx hb dX10_haunt_136 (lv_at hl 1 rfl) ?_
                            refine lv_imul hx hb dX10_haunt_138 ?_
                            refine lv_topi (fun v138 e138 => ?_)
                            have i138 : v138.toInt = 11 * v78.toInt := by rw [e138]; exact mulcL rfl (by omega) (by omega)
                            refine lv_iload hx hb dX10_haunt_139 (lv_at hl 2 rfl) ?_
                            refine lv_iadd hx hb dX10_haunt_141 ?_
                            refine lv_topi (fun v141 e141 => ?_)
                            have i141 : v141.toInt = v138.toInt + v67.toInt := by rw [e141]; exact fb_addI (by omega) (by omega)
                            refine m_iald (w := g2) hx hb hK hP 15 rfl (vp_in_iff.mpr ⟨by omega, by omega⟩) dX10_haunt_142 ?_
                            refine lv_topi (fun v142 e142 => ?_)
                            have i142 : v142.toInt = (g2 v141.toNatClampNeg).toInt := congrArg Int32.toInt e142
                            have t142 : v142.toInt = gN ways k2 (((i % 11 : Nat) : Int) - gdx k2) (((i / 11 : Nat) - gF ways) - gdz k2) := by
                              rw [i142]
                              have hc := m_cl (x := v141) (by omega)
                              rw [j37_1 v141.toNatClampNeg (by omega), show ((v141.toNatClampNeg % 11 : Nat) : Int) = ((i % 11 : Nat) : Int) - gdx k2 by omega, show ((v141.toNatClampNeg / 11 : Nat) : Int) - gF ways = ((i / 11 : Nat) - gF ways) - gdz k2 by omega]
                            refine lv_goto (tgt := 147) hx hb dX10_haunt_143 (by decide) ?_
                            refine lv_isub hx hb dX10_haunt_147 ?_
                            refine lv_topi (fun v147 e147 => ?_)
                            have i147 : v147.toInt = v124.toInt - v142.toInt := by rw [e147]; exact fb_subI (by omega) (by omega)
                            have hst : v147.toInt = gN ways (k2 + 1) ((i % 11 : Nat) : Int) ((i / 11 : Nat) - gF ways) := by
                              rw [gN_1 (hB.trans c56)]
                              first
                              | (rw [← t124, ← t142]; exact i147)
                              | (rw [t0, ← t124]; omega)
                            refine m_iast (w := m3) hx hb hK hP hD hS 16 rfl (vp_in_iff.mpr ⟨by omega, by omega⟩) (va_up (va_up (va_up r 27 g2) 28 m3) 28 (upd m3 (nI i).toNatClampNeg v147)) (ms_28 cy mo a _ _ _ _ _) dX10_haunt_148 (fun H locs hP hS => ?_)
                            have hP := wm_eq rfl rfl (es_r_27_28__28 r g2 m3 (upd m3 (nI i).toNatClampNeg v147)) rfl hP
                            refine lv_iinc (v := (nI (i + 1))) (lv' := [(3, .int (nI (i + 1))), (6, .int (1 : Int32)), (5, .int v78), (4, .int v67), (2, .int (nI k2)), (0, .ref mo), (1, .int ways)]) hx hb dX10_haunt_149 hl (k := 3) rfl (nI_1 _) (by decide) rfl (fun ls hl => ?_)
                            refine lv_goto (tgt := 44) hx hb dX10_haunt_152 (by decide) ?_
                            have hP := wm_eq rfl rfl (ec_r_27_28__27_28 r g2 ((upd m3 (nI i).toNatClampNeg v147))) rfl hP
                            exact ih_44 (i + 1) (((upd m3 (nI i).toNatClampNeg v147))) (by omega) (fun e he => by unfold upd; rw [cli]; split; (rename_i z9; rw [z9]; exact hst); exact j44_1 e (by omega)) (by omega) _ _ hP hS ls (lv_sub hl [0, 4, 5, 6] rfl)
              exact loop_44 (121 + 1) 0 m2 (by omega) (fun e he => absurd he (Nat.not_lt_zero _)) (by omega) _ _ hP hS ls (lv_sub hl [0, 1, 2, 3] rfl)
        have hP := wm_eq rfl rfl (ec_r_27__27_28 r ((upd g1 v32.toNatClampNeg (1 : Int32)))) rfl hP
        exact loop_37 (4 + 1) 0 (((upd g1 v32.toNatClampNeg (1 : Int32)))) (r 28) (by omega) (fun e he => by simp only [gN]; unfold upd; split; (rw [if_pos (by omega)]; rfl); (rw [hz0 e he, if_neg (by omega)]; rfl)) (by omega) _ _ hP hS ls (lv_sub hl [0, 1, 2] rfl)
      · skip
        have d5 := c5
        rw [fa_le] at d5
        refine lv_aload_n hx hb dX10_haunt_8 rfl (lv_at hl 1 rfl) ?_
        refine m_get (v := .ref (a 27)) hx hb hts hin hown hK hP 27 (by decide) rfl (hts (.fieldLink RX10 55 "ShadowBenchModel" "ghost" "[I") (by decide +kernel)) rfl dX10_haunt_9 ?_
        refine lv_iload_n hx hb dX10_haunt_12 rfl (lv_at hl 0 rfl) ?_
        refine lv_iconst (v := 0) hx hb dX10_haunt_13 (by decide) ?_
        refine m_iast (w := g1) hx hb hK hP hD hS 15 rfl (vp_in_iff.mpr ⟨by omega, by omega⟩) (va_up (va_up r 27 g1) 27 (upd g1 (nI k).toNatClampNeg (0 : Int32))) (ms_27 cy mo a _ _ _ _ _) dX10_haunt_14 (fun H locs hP hS => ?_)
        have hP := wm_eq rfl rfl (es_r_27__27 r g1 (upd g1 (nI k).toNatClampNeg (0 : Int32))) rfl hP
        refine lv_iinc (v := (nI (k + 1))) (lv' := [(2, .int (nI (k + 1))), (0, .ref mo), (1, .int ways)]) hx hb dX10_haunt_15 hl (k := 0) rfl (nI_1 _) (by decide) rfl (fun ls hl => ?_)
        refine lv_goto (tgt := 2) hx hb dX10_haunt_18 (by decide) ?_
        have hP := wm_eq rfl rfl (ec_r_27__27 r ((upd g1 (nI k).toNatClampNeg (0 : Int32)))) rfl hP
        exact ih_2 (k + 1) (((upd g1 (nI k).toNatClampNeg (0 : Int32)))) (by omega) (fun e he => by have hck := nI_clamp (n := k) (by omega); unfold upd; split; rfl; exact j2_1 e (by omega)) (by omega) _ _ hP hS ls (lv_sub hl [0, 1, 2] rfl)
  have hP := wm_eq rfl rfl (ec_r___27 r ) rfl hP
  exact loop_2 (121 + 1) 0 (r 27) (by omega) (fun e he => absurd he (Nat.not_lt_zero _)) (by omega) _ _ hP hS ls (lv_sub hl [0, 1, 2] rfl)

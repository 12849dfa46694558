
def jA (k w h jc : Int32) : Int := if (0 ≤ k.toInt ∧ k.toInt ≤ 3) ∧ (1 ≤ w.toInt ∧ w.toInt ≤ 6) ∧ (1 ≤ h.toInt ∧ h.toInt ≤ 6) then (if jc.toInt < 8 then jc.toInt else -2) else -1
def jN (k w h jc : Int32) : Int := if ((0 ≤ k.toInt ∧ k.toInt ≤ 3) ∧ (1 ≤ w.toInt ∧ w.toInt ≤ 6) ∧ (1 ≤ h.toInt ∧ h.toInt ≤ 6)) ∧ jc.toInt < 8 then jc.toInt + 1 else jc.toInt

section CAR9
variable {p : Program} {l : Launch} {e : Env} {R : Room} {s : State} {m : MethodId} {args : Array Value} {below : List Frame} {meth : Method} {c : Code} {H : Heap} {locs : List Loc} {cells slots : Nat} {Q : State → Prop}
variable {cc : ByteArray} {pc : Nat} {ls : Array Slot} {rest : List Value} {D : va_G} {cy : Nat → ClassId} {A : Nat → Prop} {ws : va_W} {G : cG} {H0 : Heap}
theorem w9sh {a n z : Nat} {fa : Nat → Option Nat} (hD : va_D A ws) (hT : cT cy G ws) (hg : G a = some (9, n, z)) (hM : cIn ws a (.inl (cy 4, cqa n fa))) : ∀ i x, i < n → fa i = some x → ∃ k n, G x = some (3, k, n) := by
  obtain ⟨_, h9, f, rfl, hf⟩ := hT _ _ hg
  have z := cIn.eq hD hM h9
  simp only [Sum.inl.injEq, Prod.mk.injEq, Sum.inr.injEq, true_and] at z
  subst z
  exact hf
theorem t_aald9f (hx : p.tables.exec = Jvm.exec) (hb : c.code = cc) (hK : va_K D vwCl (cTy cy) s) (hP : va_P D vwCl ws H) {a n : Nat} {f : Nat → Option Nat} (hM : cIn ws a (.inl (cy 4, cqa n f))) (hf : ∀ i x, i < n → f i = some x → ∃ k n, G x = some (3, k, n)) {i : Int32} (hin : vp_in i n) (hdg : decode cc pc = .ok (.aaload, 1))
    (kn : f i.toNatClampNeg = none → W p l e R s m args below meth c H locs cells slots Q (F0 m (pc + 1) ls (.null :: rest)))
    (ks : ∀ x k n, G x = some (3, k, n) → f i.toNatClampNeg = some x → W p l e R s m args below meth c H locs cells slots Q (F0 m (pc + 1) ls (.ref x :: rest))) : W p l e R s m args below meth c H locs cells slots Q (F0 m pc ls (.int i :: .ref a :: rest)) := by
  obtain ⟨q0, hq⟩ := hM
  have hlt : i.toNatClampNeg < n := Nat.not_le.mp fun q => hin (Or.inr q)
  refine va_aldq hx hb hK hP q0 4 hq rfl hin hdg ?_
  cases hv : f i.toNatClampNeg with
  | none => exact kn hv
  | some x =>
    obtain ⟨k, n', hg⟩ := hf _ x hlt hv
    exact ks x k n' hg hv
theorem t_aast9f (hx : p.tables.exec = Jvm.exec) (hb : c.code = cc) (hV : cV s) (hK : va_K D vwCl (cTy cy) s) (hP : va_P D vwCl ws H) (hD : va_D A ws) (hS : va_S A H0 H locs) (hT : cT cy G ws) {a n z v k1 k2 : Nat} (hg : G a = some (9, n, z)) {f : Nat → Option Nat} (hM : cIn ws a (.inl (cy 4, cqa n f))) (hf : ∀ i x, i < n → f i = some x → ∃ k n, G x = some (3, k, n)) {i : Int32} (hv : G v = some (3, k1, k2)) (hin : vp_in i n) (hdg : decode cc pc = .ok (.aastore, 1))
    (kk : ∀ (H1 : Heap) (locs1 : List Loc) (ws1 : va_W), cF (fun b => b = a) ws ws1 → cIn ws1 a (.inl (cy 4, cqa n (va_up f i.toNatClampNeg (some v)))) → (∀ j x, j < n → va_up f i.toNatClampNeg (some v) j = some x → ∃ k n, G x = some (3, k, n)) → va_P D vwCl ws1 H1 → va_D A ws1 → cT cy G ws1 → va_S A H0 H1 locs1 → W p l e R s m args below meth c H1 locs1 cells slots Q (F0 m (pc + 1) ls rest)) : W p l e R s m args below meth c H locs cells slots Q (F0 m pc ls (.ref v :: .int i :: .ref a :: rest)) := by
  obtain ⟨q0, hq⟩ := hM
  obtain ⟨_, ⟨qk, hqk⟩, b, s', w, h, tw, x, y, ms, rfl, -, -, hJ⟩ := hT _ _ hv
  have hf1 : ∀ j x, j < n → va_up f i.toNatClampNeg (some v) j = some x → ∃ k n, G x = some (3, k, n) := fun j x hj hx => c_upf (P := fun i x => ∃ k n, G x = some (3, k, n)) hf ⟨_, _, hv⟩ hj hx
  have k : ∀ (H1 : Heap) (locs1 : List Loc), va_P D vwCl (ws.set q0 (a, .inl (cy 4, cqa n (va_up f i.toNatClampNeg (some v))))) H1 → va_D A (ws.set q0 (a, .inl (cy 4, cqa n (va_up f i.toNatClampNeg (some v))))) → va_S A H0 H1 locs1 → W p l e R s m args below meth c H1 locs1 cells slots Q (F0 m (pc + 1) ls rest) := fun H1 locs1 k1 k2 k3 => kk H1 locs1 _ (cF.up (cUp.set hq) rfl) (cUp.set hq).1 hf1 k1 k2 (hT.up (cUp.set hq) hg ⟨_, rfl, hf1⟩) k3
  rcases hJ.kc with rfl | rfl | rfl | rfl
  · exact va_astqO (r := (RX1, TX1, 5)) hx hb hK hP hD hS q0 4 qk 1 hq rfl hV.2.1.1 hqk rfl hin hdg k
  · exact va_astq (r := (RX3, TX3, 5)) hx hb hK hP hD hS q0 4 qk 2 hq rfl hqk rfl hin hdg k
  · exact va_astqO (r := (RX4, TX4, 5)) hx hb hK hP hD hS q0 4 qk 3 hq rfl hV.2.1.2.1 hqk rfl hin hdg k
  · exact va_astqO (r := (RX5, TX5, 6)) hx hb hK hP hD hS q0 4 qk 4 hq rfl hV.2.1.2.2 hqk rfl hin hdg k
end CAR9

def kcl (kind : Int32) : Nat := if kind.toInt = 1 then 3 else if kind.toInt = 2 then 1 else if kind.toInt = 3 then 4 else 2
def okJ (k w h jc : Int32) : Prop := ((0 ≤ k.toInt ∧ k.toInt ≤ 3) ∧ (1 ≤ w.toInt ∧ w.toInt ≤ 6) ∧ (1 ≤ h.toInt ∧ h.toInt ≤ 6)) ∧ jc.toInt < 8
/-- the jobs that the class holds: each place below the count has a job of that size -/
def jobsAre (G : cG) (fa : Nat → Option Nat) (jc : Int32) (Wd Ht : Nat → Nat) : Prop := ∀ j : Nat, (j : Int) < jc.toInt → (1 ≤ Wd j ∧ Wd j ≤ 6 ∧ 1 ≤ Ht j ∧ Ht j ≤ 6) ∧ ∃ x k, fa j = some x ∧ G x = some (3, k, 8 * Wd j + Ht j)
def okJob (jc j : Int32) : Prop := 0 ≤ j.toInt ∧ j.toInt < jc.toInt
def okSum (jc : Int32) (Wd Ht : Nat → Nat) (j way line v : Int32) : Prop := okJob jc j ∧ okL (Wd j.toNatClampNeg) (Ht j.toNatClampNeg) way line ∧ 0 ≤ v.toInt ∧ v.toInt ≤ 6
def okCast (jc : Int32) (Wd Ht : Nat → Nat) (j way : Int32) (p : Int64) : Prop := okJob jc j ∧ (0 ≤ way.toInt ∧ way.toInt ≤ 3) ∧ isPic (Wd j.toNatClampNeg * Ht j.toNatClampNeg) p
def okKeep (jc : Int32) (Wd Ht : Nat → Nat) (d what j : Int32) (p : Int64) : Prop := (0 ≤ d.toInt ∧ d.toInt < 8) ∧ (what.toInt = 0 ∨ ((what.toInt = 1 ∨ what.toInt = 4) ∧ okJob jc j) ∨ (what.toInt = 3 ∧ okJob jc j ∧ isPic (Wd j.toNatClampNeg * Ht j.toNatClampNeg) p))
def yesNo (P : Prop) (a b x : Int32) : Prop := (P ∧ x = a) ∨ (¬ P ∧ x = b)
theorem yesNo_eq {P : Prop} {a b x y : Int32} (hx : yesNo P a b x) (hy : yesNo P a b y) : x = y := by
  rcases hx with ⟨h, e⟩ | ⟨h, e⟩ <;> rcases hy with ⟨h2, e2⟩ | ⟨h2, e2⟩
  · rw [e, e2]
  · exact absurd h h2
  · exact absurd h2 h
  · rw [e, e2]
theorem bs_36 {p : Int64} {n : Nat} (hn : n ≤ 36) (hp : isPic n p) : bs (lb p) 64 = bs (lb p) 36 := by
  rw [show (64 : Nat) = 36 + 28 from rfl, bs_add, bs_z (k := 28) (fun i hi => pic_hi hn hp (by omega)), Nat.add_zero]
theorem r_onesN (p : Int64) : ∀ n, n ≤ 36 → r_ones p n = nI (bs (lb p) n) := by
  intro n
  induction n with
  | zero => intro _; rfl
  | succ n ih =>
    intro hn
    simp only [r_ones, bs]
    rw [ih (by omega), one_lb p (by omega)]
    cases lb p n
    · exact nI_add _ 0
    · exact nI_1 _

/-- which ways are told, as a number below 16 -/
def tB (t way : Nat) : Bool := t / 2 ^ way % 2 == 1
def tU (t way : Nat) : Nat := if tB t way then t else t + 2 ^ way
def tD (t way : Nat) : Nat := if tB t way then t - 2 ^ way else t
theorem tU_0 : ∀ t, t < 16 → ∀ k, k < 4 → nI t ||| ((1 : Int32) <<< (nI k &&& 31)) = nI (tU t k) ∧ tU t k < 16 ∧ tD t k < 16 ∧ nI t &&& (((1 : Int32) <<< (nI k &&& 31)) ^^^ (-1)) = nI (tD t k) ∧ tD (tU t k) k = tD t k ∧ tU (tU t k) k = tU t k := by decide +kernel
theorem tB_0 : ∀ t, t < 16 → ∀ k, k < 4 → ((nI t >>> (nI k &&& 31)) &&& 1 = 1 ↔ tB t k = true) := by decide +kernel
theorem tB_1 : ∀ t, t < 16 → ∀ k, k < 4 → ∀ j, j < 4 → tB (tU t k) j = (decide (j = k) || tB t j) ∧ tB (tD t k) j = (!decide (j = k) && tB t j) := by decide +kernel
section TLD
variable {t : Nat} {way : Int32} (ht : t < 16) (hw : 0 ≤ way.toInt ∧ way.toInt ≤ 3)
theorem tU_eq (ht : t < 16) (hw : 0 ≤ way.toInt ∧ way.toInt ≤ 3) : nI t ||| ((1 : Int32) <<< (way &&& 31)) = nI (tU t way.toNatClampNeg) := by
  have c := m_cl (x := way) hw.1
  have z := (tU_0 t ht way.toNatClampNeg (by omega)).1
  rw [cl_nI hw.1] at z
  exact z
theorem tD_eq (ht : t < 16) (hw : 0 ≤ way.toInt ∧ way.toInt ≤ 3) : nI t &&& (((1 : Int32) <<< (way &&& 31)) ^^^ (-1)) = nI (tD t way.toNatClampNeg) := by
  have c := m_cl (x := way) hw.1
  have z := (tU_0 t ht way.toNatClampNeg (by omega)).2.2.2.1
  rw [cl_nI hw.1] at z
  exact z
theorem tU_lt (ht : t < 16) (hw : 0 ≤ way.toInt ∧ way.toInt ≤ 3) : tU t way.toNatClampNeg < 16 ∧ tD t way.toNatClampNeg < 16 ∧ tD (tU t way.toNatClampNeg) way.toNatClampNeg = tD t way.toNatClampNeg ∧ tU (tU t way.toNatClampNeg) way.toNatClampNeg = tU t way.toNatClampNeg := by
  have c := m_cl (x := way) hw.1
  have z := tU_0 t ht way.toNatClampNeg (by omega)
  exact ⟨z.2.1, z.2.2.1, z.2.2.2.2.1, z.2.2.2.2.2⟩
theorem tB_eq (ht : t < 16) (hw : 0 ≤ way.toInt ∧ way.toInt ≤ 3) : ((nI t >>> (way &&& 31)) &&& 1 = 1 ↔ tB t way.toNatClampNeg = true) := by
  have c := m_cl (x := way) hw.1
  have z := tB_0 t ht way.toNatClampNeg (by omega)
  rw [cl_nI hw.1] at z
  exact z
end TLD
/-- lines of a way set one after the other -/
def setL (fs : Nat → Int32) (way : Nat) (g : Nat → Int32) (n : Nat) : Nat → Int32 := fun e => if way * 11 ≤ e ∧ e < way * 11 + n then g (e - way * 11) else fs e
theorem setL_0 (fs : Nat → Int32) (way : Nat) (g : Nat → Int32) : setL fs way g 0 = fs := by
  funext e
  unfold setL
  rw [if_neg (by omega)]
theorem setL_s (fs : Nat → Int32) (way : Nat) (g : Nat → Int32) (n : Nat) : upd (setL fs way g n) (way * 11 + n) (g n) = setL fs way g (n + 1) := by
  funext e
  unfold upd setL
  by_cases h : e = way * 11 + n
  · rw [if_pos h, if_pos (by omega), show e - way * 11 = n by omega]
  · rw [if_neg h]
    by_cases h2 : way * 11 ≤ e ∧ e < way * 11 + n
    · rw [if_pos h2, if_pos (by omega)]
    · rw [if_neg h2, if_neg (by omega)]
theorem upd_same {f : Nat → Int32} {i : Nat} {v : Int32} (h : f i = v) : upd f i v = f := by
  funext e
  unfold upd
  by_cases z : e = i
  · rw [if_pos z, z, h]
  · rw [if_neg z]
/-- how a square is held: ones, noughts as bits -/
def hH (o n : Int64) (s : Nat) : Int32 := if lb o s then 1 else if lb n s then 0 else 2
theorem ub_lb (p : Int64) {k : Nat} (hk : k < 64) : ((p.toUInt64 >>> ((nI k).toInt64.toUInt64 &&& Int64.toUInt64 63)).toInt64 &&& 1) = if lb p k then 1 else 0 := by
  apply lb_ext
  intro i hi
  rw [lb_and, lb_ushr k hk, lb_1]
  by_cases z : i = 0
  · rw [z, Nat.add_zero, decide_eq_true rfl, Bool.and_true]
    cases lb p k
    · exact (lb_0 0).symm
    · show true = lb 1 0
      rw [lb_1]; rfl
  · rw [decide_eq_false z, Bool.and_false]
    cases lb p k
    · exact (lb_0 i).symm
    · show false = lb 1 i
      rw [lb_1, decide_eq_false z]
def hO (x : Int64) (s : Nat) (b : Bool) (y : Int64) : Prop := ∀ i, i < 64 → lb y i = if i = s then b else lb x i
theorem hO_1 {x v : Int64} {s : Nat} (hs : s < 64) (e : v = x ||| l1 s) : hO x s true v := fun i hi => by
  rw [e, lb_or, lb_l1 hs hi]
  by_cases z : i = s
  · rw [if_pos z, decide_eq_true z, Bool.or_true]
  · rw [if_neg z, decide_eq_false z, Bool.or_false]
theorem hO_0 {x v v1 : Int64} {s : Nat} (hs : s < 64) (e1 : v1 = l1 s ^^^ (-1)) (e : v = x &&& v1) : hO x s false v := fun i hi => by
  rw [e, e1, lb_and, lb_xor, lb_l1 hs hi, lb_m1 i hi, Bool.xor_true]
  by_cases z : i = s
  · rw [if_pos z, decide_eq_true z, Bool.not_true, Bool.and_false]
  · rw [if_neg z, decide_eq_false z, Bool.not_false, Bool.and_true]
/-- the cells of a job whose content is told -/
def jobS (cy : Nat → ClassId) (G : cG) (W : va_W) (fa : Nat → Option Nat) (j x k b s t w h : Nat) (o n : Int64) (ms : List Value) (fs : Nat → Int32) : Prop := fa j = some x ∧ G x = some (3, k, 8 * w + h) ∧ (1 ≤ w ∧ w ≤ 6 ∧ 1 ≤ h ∧ h ≤ 6) ∧ t < 16 ∧ cIn W x (.inr (k, .ref b :: .ref s :: .int (nI t) :: .long o :: .long n :: ms)) ∧ cIn W s (.inl (cy 0, 44, .inl fs))
theorem w3sh {cy : Nat → ClassId} {A : Nat → Prop} {G : cG} {ws : va_W} {x k b s w h : Nat} {t : Int32} {o n : Int64} {ms : List Value} (hD : va_D A ws) (hT : cT cy G ws) (hG : G x = some (3, k, 8 * w + h)) (hb : 1 ≤ w ∧ w ≤ 6 ∧ 1 ≤ h ∧ h ≤ 6) (hM : cIn ws x (.inr (k, .ref b :: .ref s :: .int t :: .long o :: .long n :: ms))) : G b = some (2, w, h) ∧ G s = some (14, 44, 0) ∧ cJk G k (8 * w + h) w h ms := by
  obtain ⟨_, hi, b', s', w', h', t', x', y', ms', rfl, h1, h2, h3⟩ := hT _ _ hG
  have z := cIn.eq hD hM hi
  simp only [Sum.inr.injEq, Prod.mk.injEq, List.cons.injEq, Value.int.injEq, Value.ref.injEq, Value.long.injEq, true_and] at z
  obtain ⟨e1, e2, -, -, -, e6⟩ := z
  have hb' := c_hb hT h1
  have e7 := h3.1
  have ew : w' = w := by omega
  have eh : h' = h := by omega
  subst ew
  subst eh
  rw [e1, e2, e6]
  exact ⟨h1, h2, h3⟩

theorem lnC_0 {w h : Nat} (hb : 1 ≤ w ∧ w ≤ 6 ∧ 1 ≤ h ∧ h ≤ 6) (way : Nat) : 0 < lnC w h way := by
  unfold lnC
  split
  · omega
  · split <;> omega
set_option maxHeartbeats 4000000 in
set_option maxRecDepth 100000 in
theorem c_X3_isTold_x (l : Launch) (D : va_G) (cy : Nat → ClassId) (A : Nat → Prop) (G : cG) (ws : va_W) (o : Nat) (way : Int32) {kq w h b_o s_o t_o : Nat} {x_o y_o : Int64} {ms_o : List Value} (hD : va_D A ws) (hT : cT cy G ws) (hG_o : G o = some (3, kq, 8 * w + h)) (hM_o : cIn ws o (.inr (kq, .ref b_o :: .ref s_o :: .int (nI t_o) :: .long x_o :: .long y_o :: ms_o))) (hb9 : 1 ≤ w ∧ w ≤ 6 ∧ 1 ≤ h ∧ h ≤ 6) (ht9 : t_o < 16) (hw1 : 0 ≤ way.toInt ∧ way.toInt ≤ 3) : Ci l D cy A yX3_isTold wsX3_isTold ({ frames := 0, cells := 0, slots := 0, locals := 0 }) 0 0 ws [.ref o, .int way] (fun r0 u => u = (G, ws) ∧ (Bo r0 (tB t_o way.toNatClampNeg = true))) := by
  refine Met.ofW (cc := cX3_isTold) (maxL := 2) (ret := (some .boolean)) (by decide) rfl ?_
  intro p e s m args below meth c s₁ B hml hv
  obtain ⟨rfl, hP, hK, hA, hV⟩ := hv
  have hx := B.exec
  have hb := B.bytes
  have hr := B.returns
  have hts := atoms_spec (ws := wsX3_isTold) B.pre
  have hown : s.vm.findClass RX3 = some m.cls := findClass_of_methodNamed B.named
  have hlocks := B.notSynchronized
  have hS : va_S A s.heap s.heap [] := va_S.rf
  have hinJ : ∀ w ∈ wsX10 ++ wsX30 ++ wsX40 ++ wsX50, w ∈ wsX3_isTold := by decide +kernel
  have hl := lv_entry ([.ref o, .int way]) (n := 2) (Nat.le_of_ble_eq_true rfl)
  rw [lg_entry_eq]
  generalize (lg_sl ([.ref o, .int way]) ++ List.replicate (2 - (lg_sl ([.ref o, .int way])).length) Slot.unset).toArray = ls at hl ⊢
  have hl : lv_has ls 2 [(0, .ref o), (1, .int way)] := hl
  have k_0 : (0 : Int32).toInt = 0 := by decide
  have k_1 : (1 : Int32).toInt = 1 := by decide
  obtain ⟨hG_b_o, hG_s_o, hJ_o⟩ := w3sh hD hT hG_o hb9 hM_o
  refine lv_aload_n hx hb dX3_isTold_0 rfl (lv_at hl 0 rfl) ?_
  refine t_getJ (v := .int (nI t_o)) hx hb hts hinJ hown hK hP hJ_o.kc hM_o 2 (by decide) (hts (.fieldLink RX3 17 "ShadowBench$Job" "toldWays" "I") (by decide +kernel)) (fun _ h9 => h9) rfl dX3_isTold_1 ?_
  refine lv_iload_n hx hb dX3_isTold_4 rfl (lv_at hl 1 rfl) ?_
  refine lv_ishr hx hb dX3_isTold_5 ?_
  refine lv_topi (fun v5 e5 => ?_)
  refine lv_iconst (v := 1) hx hb dX3_isTold_6 (by decide) ?_
  refine lv_iand hx hb dX3_isTold_7 ?_
  refine lv_topi (fun v7 e7 => ?_)
  refine lv_iconst (v := 1) hx hb dX3_isTold_8 (by decide) ?_
  refine lv_icmp_ne (tgt := 16) hx hb dX3_isTold_9 (by decide) (fun c9 => ?_) (fun c9 => ?_)
  · skip
    have d9 := c9
    rw [fa_eq] at d9
    refine lv_iconst (v := 0) hx hb dX3_isTold_16 (by decide) ?_
    exact W.zret (v := (0 : Int32)) hx hb hr (by decide) (fun t ht hW => ⟨⟨_, (G, ws), rfl, ⟨rfl, Or.inr ⟨rfl, (fun z9 => c9 (by rw [e7, e5]; exact (tB_eq ht9 hw1).mpr z9))⟩⟩, by show va_P D vwCl ws t.heap; rw [ht]; exact hP, hD, hT⟩, hS.F ht⟩) hS.2.2 dX3_isTold_17
  · skip
    have d9 := c9
    rw [fa_eq] at d9
    refine lv_iconst (v := 1) hx hb dX3_isTold_12 (by decide) ?_
    refine lv_goto (tgt := 17) hx hb dX3_isTold_13 (by decide) ?_
    exact W.zret (v := (1 : Int32)) hx hb hr (by decide) (fun t ht hW => ⟨⟨_, (G, ws), rfl, ⟨rfl, Or.inl ⟨rfl, ((tB_eq ht9 hw1).mp (by rw [← e5, ← e7]; exact c9))⟩⟩, by show va_P D vwCl ws t.heap; rw [ht]; exact hP, hD, hT⟩, hS.F ht⟩) hS.2.2 dX3_isTold_17
set_option maxHeartbeats 4000000 in
set_option maxRecDepth 100000 in
theorem c_X3_sumOf_x (l : Launch) (D : va_G) (cy : Nat → ClassId) (A : Nat → Prop) (G : cG) (ws : va_W) (o : Nat) (way : Int32) (line : Int32) {kq w h b_o s_o t_o : Nat} {x_o y_o : Int64} {ms_o : List Value} {fs : Nat → Int32} (hD : va_D A ws) (hT : cT cy G ws) (hG_o : G o = some (3, kq, 8 * w + h)) (hM_o : cIn ws o (.inr (kq, .ref b_o :: .ref s_o :: .int (nI t_o) :: .long x_o :: .long y_o :: ms_o))) (hM_s_o : cIn ws s_o (.inl (cy 0, 44, .inl fs))) (hb9 : 1 ≤ w ∧ w ≤ 6 ∧ 1 ≤ h ∧ h ≤ 6) (ht9 : t_o < 16) (hw1 : 0 ≤ way.toInt ∧ way.toInt ≤ 3) (hl1 : 0 ≤ line.toInt ∧ line.toInt < 11) : Ci l D cy A yX3_sumOf wsX3_sumOf ({ frames := 0, cells := 0, slots := 0, locals := 0 }) 0 0 ws [.ref o, .int way, .int line] (fun r0 u => u = (G, ws) ∧ (r0 = fs (way.toNatClampNeg * 11 + line.toNatClampNeg))) := by
  refine Met.ofW (cc := cX3_sumOf) (maxL := 4) (ret := (some .int)) (by decide) rfl ?_
  intro p e s m args below meth c s₁ B hml hv
  obtain ⟨rfl, hP, hK, hA, hV⟩ := hv
  have hx := B.exec
  have hb := B.bytes
  have hr := B.returns
  have hts := atoms_spec (ws := wsX3_sumOf) B.pre
  have hown : s.vm.findClass RX3 = some m.cls := findClass_of_methodNamed B.named
  have hlocks := B.notSynchronized
  have hS : va_S A s.heap s.heap [] := va_S.rf
  have hinJ : ∀ w ∈ wsX10 ++ wsX30 ++ wsX40 ++ wsX50, w ∈ wsX3_sumOf := by decide +kernel
  have hl := lv_entry ([.ref o, .int way, .int line]) (n := 4) (Nat.le_of_ble_eq_true rfl)
  rw [lg_entry_eq]
  generalize (lg_sl ([.ref o, .int way, .int line]) ++ List.replicate (4 - (lg_sl ([.ref o, .int way, .int line])).length) Slot.unset).toArray = ls at hl ⊢
  have hl : lv_has ls 4 [(0, .ref o), (1, .int way), (2, .int line)] := hl
  have k_0 : (0 : Int32).toInt = 0 := by decide
  have k_11 : (11 : Int32).toInt = 11 := by decide
  obtain ⟨hG_b_o, hG_s_o, hJ_o⟩ := w3sh hD hT hG_o hb9 hM_o
  refine lv_iload_n hx hb dX3_sumOf_0 rfl (lv_at hl 1 rfl) ?_
  refine lv_bipush (v := 11) hx hb dX3_sumOf_1 (by decide) ?_
  refine lv_imul hx hb dX3_sumOf_3 ?_
  refine lv_topi (fun v3 e3 => ?_)
  have i3 : v3.toInt = way.toInt * 11 := by rw [e3]; exact mulcR rfl (by omega) (by omega)
  refine lv_iload_n hx hb dX3_sumOf_4 rfl (lv_at hl 2 rfl) ?_
  refine lv_iadd hx hb dX3_sumOf_5 ?_
  refine lv_topi (fun v5 e5 => ?_)
  have i5 : v5.toInt = v3.toInt + line.toInt := by rw [e5]; exact fb_addI (by omega) (by omega)
  have cw := m_cl (x := way) hw1.1
  have cl := m_cl (x := line) hl1.1
  have cp := m_cl (x := v5) (by omega)
  have f5 : v5.toNatClampNeg = way.toNatClampNeg * 11 + line.toNatClampNeg := by omega
  refine lv_istore_n (lv' := [(3, .int v5), (0, .ref o), (1, .int way), (2, .int line)]) hx hb dX3_sumOf_6 rfl hl (by decide) rfl (fun ls hl => ?_)
  refine lv_iload_n hx hb dX3_sumOf_7 rfl (lv_at hl 0 rfl) ?_
  refine lv_if_lt (tgt := 29) hx hb dX3_sumOf_8 (by decide) (fun c8 => ?_) (fun c8 => ?_)
  · skip
    have d8 := c8
    rw [fa_lt] at d8
    refine lv_iconst (v := 0) hx hb dX3_sumOf_29 (by decide) ?_
    exact W.iret (v := (0 : Int32)) hx hb hr (fun t ht hW => ⟨⟨_, (G, ws), rfl, ⟨rfl, (by exfalso; omega)⟩, by show va_P D vwCl ws t.heap; rw [ht]; exact hP, hD, hT⟩, hS.F ht⟩) hS.2.2 dX3_sumOf_30
  · skip
    have d8 := c8
    rw [fa_lt] at d8
    refine lv_iload_n hx hb dX3_sumOf_11 rfl (lv_at hl 0 rfl) ?_
    refine lv_aload_n hx hb dX3_sumOf_12 rfl (lv_at hl 1 rfl) ?_
    refine t_getJ (v := .ref s_o) hx hb hts hinJ hown hK hP hJ_o.kc hM_o 1 (by decide) (hts (.fieldLink RX3 11 "ShadowBench$Job" "sums" "[I") (by decide +kernel)) (fun _ h9 => h9) rfl dX3_sumOf_13 ?_
    refine t_alenI hx hb hK hP hT (Or.inr (Or.inl rfl)) hG_s_o dX3_sumOf_16 ?_
    have i16 : (nI 44).toInt = _ := nI_toInt (by omega)
    refine lv_icmp_ge (tgt := 29) hx hb dX3_sumOf_17 (by decide) (fun c17 => ?_) (fun c17 => ?_)
    · skip
      have d17 := c17
      rw [fa_le] at d17
      refine lv_iconst (v := 0) hx hb dX3_sumOf_29 (by decide) ?_
      exact W.iret (v := (0 : Int32)) hx hb hr (fun t ht hW => ⟨⟨_, (G, ws), rfl, ⟨rfl, (by exfalso; omega)⟩, by show va_P D vwCl ws t.heap; rw [ht]; exact hP, hD, hT⟩, hS.F ht⟩) hS.2.2 dX3_sumOf_30
    · skip
      have d17 := c17
      rw [fa_le] at d17
      refine lv_aload_n hx hb dX3_sumOf_20 rfl (lv_at hl 1 rfl) ?_
      refine t_getJ (v := .ref s_o) hx hb hts hinJ hown hK hP hJ_o.kc hM_o 1 (by decide) (hts (.fieldLink RX3 11 "ShadowBench$Job" "sums" "[I") (by decide +kernel)) (fun _ h9 => h9) rfl dX3_sumOf_21 ?_
      refine lv_iload_n hx hb dX3_sumOf_24 rfl (lv_at hl 0 rfl) ?_
      refine t_ialdM hx hb hK hP hM_s_o (vp_in_iff.mpr ⟨by omega, by omega⟩) dX3_sumOf_25 ?_
      refine lv_topi (fun v25 e25 => ?_)
      refine lv_goto (tgt := 30) hx hb dX3_sumOf_26 (by decide) ?_
      exact W.iret (v := v25) hx hb hr (fun t ht hW => ⟨⟨_, (G, ws), rfl, ⟨rfl, (by rw [e25, f5])⟩, by show va_P D vwCl ws t.heap; rw [ht]; exact hP, hD, hT⟩, hS.F ht⟩) hS.2.2 dX3_sumOf_30
set_option maxHeartbeats 4000000 in
set_option maxRecDepth 100000 in
theorem c_X3_tellLine_x (l : Launch) (D : va_G) (cy : Nat → ClassId) (A : Nat → Prop) (G : cG) (ws : va_W) (o : Nat) (way : Int32) (line : Int32) (v : Int32) {kq w h b_o s_o t_o : Nat} {x_o y_o : Int64} {ms_o : List Value} {fs : Nat → Int32} (hD : va_D A ws) (hT : cT cy G ws) (hG_o : G o = some (3, kq, 8 * w + h)) (hM_o : cIn ws o (.inr (kq, .ref b_o :: .ref s_o :: .int (nI t_o) :: .long x_o :: .long y_o :: ms_o))) (hM_s_o : cIn ws s_o (.inl (cy 0, 44, .inl fs))) (hb9 : 1 ≤ w ∧ w ≤ 6 ∧ 1 ≤ h ∧ h ≤ 6) (ht9 : t_o < 16) (hL9 : okL w h way line) : Cv l D cy A yX3_tellLine wsX3_tellLine ({ frames := 2, cells := 0, slots := 0, locals := 43 }) 0 0 ws [.ref o, .int way, .int line, .int v] (fun u => ∃ w1, u = (G, w1) ∧ cF (fun b9 => b9 = o ∨ b9 = s_o) ws w1 ∧ (cIn w1 o (.inr (kq, .ref b_o :: .ref s_o :: .int (nI (tU t_o way.toNatClampNeg)) :: .long x_o :: .long y_o :: ms_o)) ∧ cIn w1 s_o (.inl (cy 0, 44, .inl (upd fs (way.toNatClampNeg * 11 + line.toNatClampNeg) v))))) := by
  refine Met.ofW (cc := cX3_tellLine) (maxL := 4) (ret := none) (by decide) rfl ?_
  intro p e s m args below meth c s₁ B hml hv
  obtain ⟨rfl, hP, hK, hA, hV⟩ := hv
  have hx := B.exec
  have hb := B.bytes
  have hr := B.returns
  have hts := atoms_spec (ws := wsX3_tellLine) B.pre
  have hown : s.vm.findClass RX3 = some m.cls := findClass_of_methodNamed B.named
  have hlocks := B.notSynchronized
  have hS : va_S A s.heap s.heap [] := va_S.rf
  have hinJ : ∀ w ∈ wsX10 ++ wsX30 ++ wsX40 ++ wsX50, w ∈ wsX3_tellLine := by decide +kernel
  have hF : cF (fun b9 => b9 = o ∨ b9 = s_o) ws ws := cF.rf
  have hl := lv_entry ([.ref o, .int way, .int line, .int v]) (n := 4) (Nat.le_of_ble_eq_true rfl)
  rw [lg_entry_eq]
  generalize (lg_sl ([.ref o, .int way, .int line, .int v]) ++ List.replicate (4 - (lg_sl ([.ref o, .int way, .int line, .int v])).length) Slot.unset).toArray = ls at hl ⊢
  have hl : lv_has ls 4 [(0, .ref o), (1, .int way), (2, .int line), (3, .int v)] := hl
  have k_0 : (0 : Int32).toInt = 0 := by decide
  have k_1 : (1 : Int32).toInt = 1 := by decide
  have k_11 : (11 : Int32).toInt = 11 := by decide
  obtain ⟨hG_b_o, hG_s_o, hJ_o⟩ := w3sh hD hT hG_o hb9 hM_o
  refine lv_aload_n hx hb dX3_tellLine_0 rfl (lv_at hl 0 rfl) ?_
  refine t_getJ (v := .ref b_o) hx hb hts hinJ hown hK hP hJ_o.kc hM_o 0 (by decide) (hts (.fieldLink RX3 28 "ShadowBench$Job" "board" "LShadowBench$Board;") (by decide +kernel)) (fun _ h9 => h9) rfl dX3_tellLine_1 ?_
  refine lv_iload_n hx hb dX3_tellLine_4 rfl (lv_at hl 1 rfl) ?_
  refine lv_iload_n hx hb dX3_tellLine_5 rfl (lv_at hl 2 rfl) ?_
  obtain ⟨_, hM_b_o, hb_b_o, l_b_o, f_b_o, r_b_o, rfl, hG_l_b_o, hG_f_b_o, hG_r_b_o⟩ := hT _ _ hG_b_o
  refine t_calli (va_runV (g := F0 m 6 ls ([.int line, .int way, .ref b_o])) (As := [.int way, .int line]) (rest := []) ⟨hx, hb, hml, hown, hts⟩ (c_X0_isLine l D cy A G ws b_o way line hD hT hG_b_o ) (cwV 2 hts gX3_tellLine_X0_isLine rfl rfl rfl (by decide +kernel) ⟨Nat.le_of_ble_eq_true rfl, Nat.le_of_ble_eq_true rfl⟩) (c_preV hM_b_o rfl hP hK hA hS hV) rfl rfl hl.1 rfl (lv_room (Nat.le_of_ble_eq_true rfl)) dX3_tellLine_6 ⟨Nat.le_of_ble_eq_true rfl, Nat.le_of_ble_eq_true rfl⟩) hS (fun r6 u H locs q6 hP9 hD9 hT9 hS => ?_)
  obtain ⟨rfl, q6⟩ := q6
  have hP : va_P D vwCl ws H := hP9
  have hw1 := hL9.1
  have hl1 := hL9.2
  have lc9 := lnC_b hb9 way.toNatClampNeg
  have cL9 := cLn hb9 (way := way) hw1.1
  refine lv_if_eq (tgt := 36) hx hb dX3_tellLine_9 (by decide) (fun c9 => ?_) (fun c9 => ?_)
  · skip
    have b9 := bo_f q6 c9
    exact W.vret hx hb hr (fun t ht hW => ⟨⟨(G, ws), rfl, ⟨ws, rfl, hF, (by exfalso; omega)⟩, by show va_P D vwCl ws t.heap; rw [ht]; exact hP, hD, hT⟩, hS.F ht⟩) hS.2.2 dX3_tellLine_36
  · skip
    have b9 := bo_t q6 c9
    refine lv_aload_n hx hb dX3_tellLine_12 rfl (lv_at hl 0 rfl) ?_
    refine t_getJ (v := .ref s_o) hx hb hts hinJ hown hK hP hJ_o.kc hM_o 1 (by decide) (hts (.fieldLink RX3 11 "ShadowBench$Job" "sums" "[I") (by decide +kernel)) (fun _ h9 => h9) rfl dX3_tellLine_13 ?_
    refine lv_iload_n hx hb dX3_tellLine_16 rfl (lv_at hl 1 rfl) ?_
    refine lv_bipush (v := 11) hx hb dX3_tellLine_17 (by decide) ?_
    refine lv_imul hx hb dX3_tellLine_19 ?_
    refine lv_topi (fun v19 e19 => ?_)
    have i19 : v19.toInt = way.toInt * 11 := by rw [e19]; exact mulcR rfl (by omega) (by omega)
    refine lv_iload_n hx hb dX3_tellLine_20 rfl (lv_at hl 2 rfl) ?_
    refine lv_iadd hx hb dX3_tellLine_21 ?_
    refine lv_topi (fun v21 e21 => ?_)
    have i21 : v21.toInt = v19.toInt + line.toInt := by rw [e21]; exact fb_addI (by omega) (by omega)
    refine lv_iload_n hx hb dX3_tellLine_22 rfl (lv_at hl 3 rfl) ?_
    refine t_iastK hx hb hK hP hD hS hT (Or.inr (Or.inl rfl)) hG_s_o hM_s_o (vp_in_iff.mpr ⟨by omega, by omega⟩) dX3_tellLine_23 (fun H locs w23 hU23 hP hD hT hS => ?_)
    have hM_o := hU23.2 _ _ (cne hG_o hG_s_o (show (3 : Nat) ≠ 14 by decide)) hM_o
    have hM_b_o := hU23.2 _ _ (cne hG_b_o hG_s_o (show (2 : Nat) ≠ 14 by decide)) hM_b_o
    have hM_s_o := hU23.1
    have hF := hF.tr (cF.up hU23 (Or.inr (rfl)))
    have cw := m_cl (x := way) hw1.1
    have cl := m_cl (x := line) hl1.1
    have cp := m_cl (x := v21) (by omega)
    have f21 : v21.toNatClampNeg = way.toNatClampNeg * 11 + line.toNatClampNeg := by omega
    refine lv_aload_n hx hb dX3_tellLine_24 rfl (lv_at hl 0 rfl) ?_
    refine lv_dup hx hb dX3_tellLine_25 rfl ?_
    refine t_getJ (v := .int (nI t_o)) hx hb hts hinJ hown hK hP hJ_o.kc hM_o 2 (by decide) (hts (.fieldLink RX3 17 "ShadowBench$Job" "toldWays" "I") (by decide +kernel)) (fun _ h9 => h9) rfl dX3_tellLine_26 ?_
    refine lv_iconst (v := 1) hx hb dX3_tellLine_29 (by decide) ?_
    refine lv_iload_n hx hb dX3_tellLine_30 rfl (lv_at hl 1 rfl) ?_
    refine lv_ishl hx hb dX3_tellLine_31 ?_
    refine lv_topi (fun v31 e31 => ?_)
    refine lv_ior hx hb dX3_tellLine_32 ?_
    refine lv_topi (fun v32 e32 => ?_)
    obtain rfl : v32 = nI (tU t_o way.toNatClampNeg) := by rw [e32, e31]; exact tU_eq ht9 hw1
    refine t_putJ (v := .int (nI (tU t_o way.toNatClampNeg))) hx hb hts hinJ hown hK hP hD hS hJ_o.kc hM_o 2 (by decide) (hts (.fieldLink RX3 17 "ShadowBench$Job" "toldWays" "I") (by decide +kernel)) (fun _ h9 => h9) rfl rfl rfl (Nat.le_of_ble_eq_true rfl) dX3_tellLine_33 (fun H locs w33 hU33 hP hD hS => ?_)
    have hM_s_o := hU33.2 _ _ (cne hG_s_o hG_o (show (14 : Nat) ≠ 3 by decide)) hM_s_o
    have hM_b_o := hU33.2 _ _ (cne hG_b_o hG_o (show (2 : Nat) ≠ 3 by decide)) hM_b_o
    have hT := hT.up hU33 hG_o ⟨_, _, _, _, _, _, _, _, rfl, hG_b_o, hG_s_o, hJ_o⟩
    have hM_o : cIn w33 o (.inr (kq, .ref b_o :: .ref s_o :: .int (nI (tU t_o way.toNatClampNeg)) :: .long x_o :: .long y_o :: ms_o)) := hU33.1
    have hF := hF.tr (cF.up hU33 (Or.inl rfl))
    exact W.vret hx hb hr (fun t ht hW => ⟨⟨(G, w33), rfl, ⟨w33, rfl, hF, ⟨hM_o, (by rw [← f21]; exact hM_s_o)⟩⟩, by show va_P D vwCl w33 t.heap; rw [ht]; exact hP, hD, hT⟩, hS.F ht⟩) hS.2.2 dX3_tellLine_36
set_option maxHeartbeats 4000000 in
set_option maxRecDepth 100000 in
theorem c_X3_tellShadow_x (l : Launch) (D : va_G) (cy : Nat → ClassId) (A : Nat → Prop) (G : cG) (ws : va_W) (o : Nat) (way : Int32) (p0 : Int64) {kq w h b_o s_o t_o : Nat} {x_o y_o : Int64} {ms_o : List Value} {fs : Nat → Int32} (hD : va_D A ws) (hT : cT cy G ws) (hG_o : G o = some (3, kq, 8 * w + h)) (hM_o : cIn ws o (.inr (kq, .ref b_o :: .ref s_o :: .int (nI t_o) :: .long x_o :: .long y_o :: ms_o))) (hM_s_o : cIn ws s_o (.inl (cy 0, 44, .inl fs))) (hb9 : 1 ≤ w ∧ w ≤ 6 ∧ 1 ≤ h ∧ h ≤ 6) (ht9 : t_o < 16) (hw1 : 0 ≤ way.toInt ∧ way.toInt ≤ 3) : Cv l D cy A yX3_tellShadow wsX3_tellShadow ({ frames := 3, cells := 0, slots := 0, locals := 66 }) 0 0 ws [.ref o, .int way, .long p0] (fun u => ∃ w1, u = (G, w1) ∧ cF (fun b9 => b9 = o ∨ b9 = s_o) ws w1 ∧ (cIn w1 o (.inr (kq, .ref b_o :: .ref s_o :: .int (nI (tU t_o way.toNatClampNeg)) :: .long x_o :: .long y_o :: ms_o)) ∧ cIn w1 s_o (.inl (cy 0, 44, .inl (setL fs way.toNatClampNeg (fun l => nI (shN w h p0 way.toNatClampNeg l)) (lnC w h way.toNatClampNeg)))))) := by
  refine Met.ofW (cc := cX3_tellShadow) (maxL := 5) (ret := none) (by decide) rfl ?_
  intro p e s m args below meth c s₁ B hml hv
  obtain ⟨rfl, hP, hK, hA, hV⟩ := hv
  have hx := B.exec
  have hb := B.bytes
  have hr := B.returns
  have hts := atoms_spec (ws := wsX3_tellShadow) B.pre
  have hown : s.vm.findClass RX3 = some m.cls := findClass_of_methodNamed B.named
  have hlocks := B.notSynchronized
  have hS : va_S A s.heap s.heap [] := va_S.rf
  have hinJ : ∀ w ∈ wsX10 ++ wsX30 ++ wsX40 ++ wsX50, w ∈ wsX3_tellShadow := by decide +kernel
  have hF : cF (fun b9 => b9 = o ∨ b9 = s_o) ws ws := cF.rf
  have hl := lv_entry ([.ref o, .int way, .long p0]) (n := 5) (Nat.le_of_ble_eq_true rfl)
  rw [lg_entry_eq]
  generalize (lg_sl ([.ref o, .int way, .long p0]) ++ List.replicate (5 - (lg_sl ([.ref o, .int way, .long p0])).length) Slot.unset).toArray = ls at hl ⊢
  have hl : lv_has ls 5 [(0, .ref o), (1, .int way), (2, .long p0)] := hl
  have k_0 : (0 : Int32).toInt = 0 := by decide
  obtain ⟨hG_b_o, hG_s_o, hJ_o⟩ := w3sh hD hT hG_o hb9 hM_o
  refine lv_iconst (v := 0) hx hb dX3_tellShadow_0 (by decide) ?_
  refine lv_istore (lv' := [(4, .int (0 : Int32)), (0, .ref o), (1, .int way), (2, .long p0)]) hx hb dX3_tellShadow_1 hl (by decide) rfl (fun ls hl => ?_)
  have loop_3 : ∀ (n : Nat) (i : Nat) (tl_ : Nat) (fl_ : Nat → Int32), (i ≤ lnC w h way.toNatClampNeg ∧ lnC w h way.toNatClampNeg ≤ 11) → (tl_ < 16) → (fl_ = setL fs way.toNatClampNeg (fun l => nI (shN w h p0 way.toNatClampNeg l)) i) → (0 < i → tl_ = tU t_o way.toNatClampNeg) → (i = 0 → tl_ = t_o) → 11 - i < n → ∀ (wl3 : va_W), cF (fun b9 => b9 = o ∨ b9 = s_o) ws wl3 → va_D A wl3 → cT cy G wl3 → cIn wl3 o (.inr (kq, .ref b_o :: .ref s_o :: .int (nI tl_) :: .long x_o :: .long y_o :: ms_o)) → cIn wl3 s_o (.inl (cy 0, 44, .inl fl_)) → ∀ (H : Heap) (locs : List Loc), va_P D vwCl wl3 H → va_S A s.heap H locs → ∀ (ls : Array Slot), lv_has ls 5 [(4, .int (nI i)), (0, .ref o), (1, .int way), (2, .long p0)] → W p l e (headSpec wsX3_tellShadow ({ frames := 3, cells := 0, slots := 0, locals := 66 })).room s m #[Value.ref o, Value.int way, Value.long p0] below meth c H locs 0 0 (MQ below (va_Qv (fun u => ∃ w1, u = (G, w1) ∧ cF (fun b9 => b9 = o ∨ b9 = s_o) ws w1 ∧ (cIn w1 o (.inr (kq, .ref b_o :: .ref s_o :: .int (nI (tU t_o way.toNatClampNeg)) :: .long x_o :: .long y_o :: ms_o)) ∧ cIn w1 s_o (.inl (cy 0, 44, .inl (setL fs way.toNatClampNeg (fun l => nI (shN w h p0 way.toNatClampNeg l)) (lnC w h way.toNatClampNeg)))))) (cB D cy A) A) #[Value.ref o, Value.int way, Value.long p0] s 0 0 A) (F0 m 3 ls []) := by
    intro n
    induction n with
    | zero => intro i tl_ fl_ j3_0 j3_1 j3_2 j3_3 j3_4 hn; exact absurd hn (Nat.not_lt_zero _)
    | succ n ih_3 =>
      intro i tl_ fl_ j3_0 j3_1 j3_2 j3_3 j3_4 hn_3 wl3 hF hD hT hM_o hM_s_o H locs hP hS ls hl
      have ii : (nI i).toInt = (i : Int) := nI_toInt (by omega)
      have tl9 := j3_1
      refine lv_iload hx hb dX3_tellShadow_3 (lv_at hl 0 rfl) ?_
      refine lv_aload_n hx hb dX3_tellShadow_5 rfl (lv_at hl 1 rfl) ?_
      refine t_getJ (v := .ref b_o) hx hb hts hinJ hown hK hP hJ_o.kc hM_o 0 (by decide) (hts (.fieldLink RX3 28 "ShadowBench$Job" "board" "LShadowBench$Board;") (by decide +kernel)) (fun _ h9 => h9) rfl dX3_tellShadow_6 ?_
      refine lv_iload_n hx hb dX3_tellShadow_9 rfl (lv_at hl 2 rfl) ?_
      obtain ⟨_, hM_b_o, hb_b_o, l_b_o, f_b_o, r_b_o, rfl, hG_l_b_o, hG_f_b_o, hG_r_b_o⟩ := hT _ _ hG_b_o
      refine t_calli (va_runV (g := F0 m 10 ls ([.int way, .ref b_o, .int (nI i)])) (As := [.int way]) (rest := [.int (nI i)]) ⟨hx, hb, hml, hown, hts⟩ (c_X0_lineCount l D cy A G wl3 b_o way hD hT hG_b_o ) (cwV 1 hts gX3_tellShadow_X0_lineCount rfl rfl rfl (by decide +kernel) ⟨Nat.le_of_ble_eq_true rfl, Nat.le_of_ble_eq_true rfl⟩) (c_preV hM_b_o rfl hP hK hA hS hV) rfl rfl hl.1 rfl (lv_room (Nat.le_of_ble_eq_true rfl)) dX3_tellShadow_10 ⟨Nat.le_of_ble_eq_true rfl, Nat.le_of_ble_eq_true rfl⟩) hS (fun r10 u H locs q10 hP9 hD9 hT9 hS => ?_)
      obtain ⟨rfl, q10⟩ := q10
      have hP : va_P D vwCl wl3 H := hP9
      have lc9 := lnC_b hb9 way.toNatClampNeg
      have z10 := congrArg Int32.toInt q10
      rw [cLn hb9 hw1.1] at z10
      refine lv_icmp_ge (tgt := 40) hx hb dX3_tellShadow_13 (by decide) (fun c13 => ?_) (fun c13 => ?_)
      · skip
        have d13 := c13
        rw [fa_le] at d13
        exact W.vret hx hb hr (fun t ht hW => ⟨⟨(G, wl3), rfl, ⟨wl3, rfl, hF, (by have e9 : i = lnC w h way.toNatClampNeg := (by omega); rw [← e9]; have z9 : 0 < i := (by have := lnC_0 hb9 way.toNatClampNeg; omega); rw [← j3_2]; have y9 := j3_3 z9; rw [y9] at hM_o; exact ⟨hM_o, hM_s_o⟩)⟩, by show va_P D vwCl wl3 t.heap; rw [ht]; exact hP, hD, hT⟩, hS.F ht⟩) hS.2.2 dX3_tellShadow_40
      · skip
        have d13 := c13
        rw [fa_le] at d13
        refine lv_aload_n hx hb dX3_tellShadow_16 rfl (lv_at hl 1 rfl) ?_
        refine lv_iload_n hx hb dX3_tellShadow_17 rfl (lv_at hl 2 rfl) ?_
        refine lv_iload hx hb dX3_tellShadow_18 (lv_at hl 0 rfl) ?_
        refine lv_aload_n hx hb dX3_tellShadow_20 rfl (lv_at hl 1 rfl) ?_
        refine t_getJ (v := .ref b_o) hx hb hts hinJ hown hK hP hJ_o.kc hM_o 0 (by decide) (hts (.fieldLink RX3 28 "ShadowBench$Job" "board" "LShadowBench$Board;") (by decide +kernel)) (fun _ h9 => h9) rfl dX3_tellShadow_21 ?_
        refine lv_iload_n hx hb dX3_tellShadow_24 rfl (lv_at hl 2 rfl) ?_
        refine lv_iload hx hb dX3_tellShadow_25 (lv_at hl 0 rfl) ?_
        refine lv_lload_n hx hb dX3_tellShadow_27 rfl (lv_at hl 3 rfl) ?_
        refine t_calli (va_runV (g := F0 m 28 ls ([.long p0, .int (nI i), .int way, .ref b_o, .int (nI i), .int way, .ref o])) (As := [.int way, .int (nI i), .long p0]) (rest := [.int (nI i), .int way, .ref o]) ⟨hx, hb, hml, hown, hts⟩ (c_X0_onesOfLine_x l D cy A G wl3 b_o way (nI i) p0 hD hT hG_b_o (by omega) (by omega)) (cwV 3 hts gX3_tellShadow_X0_onesOfLine rfl rfl rfl (by decide +kernel) ⟨Nat.le_of_ble_eq_true rfl, Nat.le_of_ble_eq_true rfl⟩) (c_preV hM_b_o rfl hP hK hA hS hV) rfl rfl hl.1 rfl (lv_room (Nat.le_of_ble_eq_true rfl)) dX3_tellShadow_28 ⟨Nat.le_of_ble_eq_true rfl, Nat.le_of_ble_eq_true rfl⟩) hS (fun r28 u H locs q28 hP9 hD9 hT9 hS => ?_)
        obtain ⟨rfl, q28⟩ := q28
        have hP : va_P D vwCl wl3 H := hP9
        have ck9 : (nI i).toNatClampNeg = i := nI_clamp (by omega)
        rw [ck9] at q28
        refine t_callv (t_runJ (g := F0 m 31 ls ([.int r28, .int (nI i), .int way, .ref o])) (As := [.int way, .int (nI i), .int r28]) (rest := []) ⟨hx, hb, hml, hown, hts⟩ (c_X3_tellLine_x l D cy A G wl3 o way (nI i) r28 hD hT hG_o hM_o hM_s_o hb9 tl9 (by unfold okL; omega)) (va_cwU 3 hts gX3_tellShadow_X3_tellLine_u44X1 rfl rfl rfl rfl (by decide +kernel) ⟨Nat.le_of_ble_eq_true rfl, Nat.le_of_ble_eq_true rfl⟩) (cwV 3 hts gX3_tellShadow_X3_tellLine rfl rfl rfl (by decide +kernel) ⟨Nat.le_of_ble_eq_true rfl, Nat.le_of_ble_eq_true rfl⟩) (va_cwU 3 hts gX3_tellShadow_X3_tellLine_u44X4 rfl rfl rfl rfl (by decide +kernel) ⟨Nat.le_of_ble_eq_true rfl, Nat.le_of_ble_eq_true rfl⟩) (va_cwU 3 hts gX3_tellShadow_X3_tellLine_u44X5 rfl rfl rfl rfl (by decide +kernel) ⟨Nat.le_of_ble_eq_true rfl, Nat.le_of_ble_eq_true rfl⟩) hJ_o.kc hM_o hP hK c_blind (c_preS hP hK hA hS hV).2 rfl rfl hl.1 rfl (lv_room (Nat.le_of_ble_eq_true rfl)) dX3_tellShadow_31 ⟨Nat.le_of_ble_eq_true rfl, Nat.le_of_ble_eq_true rfl⟩) hS (fun u H locs q31 hP9 hD9 hT9 hS => ?_)
        obtain ⟨w31, rfl, hF31, q31⟩ := q31
        have hP : va_P D vwCl w31 H := hP9
        have hD : va_D A w31 := hD9
        have hT : cT cy G w31 := hT9
        have hM_b_o := hF31 _ _ (fun z9 => z9.elim (cne hG_b_o hG_o (show (2 : Nat) ≠ 3 by decide)) (cne hG_b_o hG_s_o (show (2 : Nat) ≠ 14 by decide))) hM_b_o
        have hF := hF.tr hF31
        have hM_o : cIn w31 o (.inr (kq, .ref b_o :: .ref s_o :: .int (nI (tU tl_ way.toNatClampNeg)) :: .long x_o :: .long y_o :: ms_o)) := q31.1
        have hM_s_o : cIn w31 s_o (.inl (cy 0, 44, .inl (upd fl_ (way.toNatClampNeg * 11 + (nI i).toNatClampNeg) r28))) := q31.2
        refine lv_iinc (v := (nI (i + 1))) (lv' := [(4, .int (nI (i + 1))), (0, .ref o), (1, .int way), (2, .long p0)]) hx hb dX3_tellShadow_34 hl (k := 0) rfl (nI_1 _) (by decide) rfl (fun ls hl => ?_)
        refine lv_goto (tgt := 3) hx hb dX3_tellShadow_37 (by decide) ?_
        exact ih_3 (i + 1) (tU tl_ way.toNatClampNeg) ((upd fl_ (way.toNatClampNeg * 11 + (nI i).toNatClampNeg) r28)) (by omega) ((tU_lt tl9 hw1).1) (by rw [ck9, q28, j3_2]; exact setL_s _ _ _ _) (fun _ => by by_cases z9 : i = 0; rw [j3_4 z9]; rw [j3_3 (by omega)]; exact (tU_lt ht9 hw1).2.2.2) (fun z9 => absurd z9 (Nat.succ_ne_zero _)) (by omega) w31 hF hD hT hM_o hM_s_o _ _ hP hS ls (lv_sub hl [0, 1, 2, 3] rfl)
  exact loop_3 (11 + 1) 0 t_o fs (by have := lnC_b hb9 way.toNatClampNeg; omega) (ht9) ((setL_0 _ _ _).symm) (fun z9 => absurd z9 (Nat.lt_irrefl _)) (fun _ => rfl) (by omega) ws hF hD hT hM_o hM_s_o _ _ hP hS ls (lv_sub hl [0, 1, 2, 3] rfl)
set_option maxHeartbeats 4000000 in
set_option maxRecDepth 100000 in
theorem c_X3_forgetWay_x (l : Launch) (D : va_G) (cy : Nat → ClassId) (A : Nat → Prop) (G : cG) (ws : va_W) (o : Nat) (way : Int32) {kq w h b_o s_o t_o : Nat} {x_o y_o : Int64} {ms_o : List Value} {fs : Nat → Int32} (hD : va_D A ws) (hT : cT cy G ws) (hG_o : G o = some (3, kq, 8 * w + h)) (hM_o : cIn ws o (.inr (kq, .ref b_o :: .ref s_o :: .int (nI t_o) :: .long x_o :: .long y_o :: ms_o))) (hM_s_o : cIn ws s_o (.inl (cy 0, 44, .inl fs))) (hb9 : 1 ≤ w ∧ w ≤ 6 ∧ 1 ≤ h ∧ h ≤ 6) (ht9 : t_o < 16) (hw1 : 0 ≤ way.toInt ∧ way.toInt ≤ 3) : Cv l D cy A yX3_forgetWay wsX3_forgetWay ({ frames := 3, cells := 0, slots := 0, locals := 66 }) 0 0 ws [.ref o, .int way] (fun u => ∃ w1, u = (G, w1) ∧ cF (fun b9 => b9 = o ∨ b9 = s_o) ws w1 ∧ (cIn w1 o (.inr (kq, .ref b_o :: .ref s_o :: .int (nI (tD t_o way.toNatClampNeg)) :: .long x_o :: .long y_o :: ms_o)) ∧ cIn w1 s_o (.inl (cy 0, 44, .inl (setL fs way.toNatClampNeg (fun _ => 0) (lnC w h way.toNatClampNeg)))))) := by
  refine Met.ofW (cc := cX3_forgetWay) (maxL := 3) (ret := none) (by decide) rfl ?_
  intro p e s m args below meth c s₁ B hml hv
  obtain ⟨rfl, hP, hK, hA, hV⟩ := hv
  have hx := B.exec
  have hb := B.bytes
  have hr := B.returns
  have hts := atoms_spec (ws := wsX3_forgetWay) B.pre
  have hown : s.vm.findClass RX3 = some m.cls := findClass_of_methodNamed B.named
  have hlocks := B.notSynchronized
  have hS : va_S A s.heap s.heap [] := va_S.rf
  have hinJ : ∀ w ∈ wsX10 ++ wsX30 ++ wsX40 ++ wsX50, w ∈ wsX3_forgetWay := by decide +kernel
  have hF : cF (fun b9 => b9 = o ∨ b9 = s_o) ws ws := cF.rf
  have hl := lv_entry ([.ref o, .int way]) (n := 3) (Nat.le_of_ble_eq_true rfl)
  rw [lg_entry_eq]
  generalize (lg_sl ([.ref o, .int way]) ++ List.replicate (3 - (lg_sl ([.ref o, .int way])).length) Slot.unset).toArray = ls at hl ⊢
  have hl : lv_has ls 3 [(0, .ref o), (1, .int way)] := hl
  have k_m1 : (-1 : Int32).toInt = -1 := by decide
  have k_0 : (0 : Int32).toInt = 0 := by decide
  have k_1 : (1 : Int32).toInt = 1 := by decide
  obtain ⟨hG_b_o, hG_s_o, hJ_o⟩ := w3sh hD hT hG_o hb9 hM_o
  refine lv_iconst (v := 0) hx hb dX3_forgetWay_0 (by decide) ?_
  refine lv_istore_n (lv' := [(2, .int (0 : Int32)), (0, .ref o), (1, .int way)]) hx hb dX3_forgetWay_1 rfl hl (by decide) rfl (fun ls hl => ?_)
  have loop_2 : ∀ (n : Nat) (i : Nat) (tl_ : Nat) (fl_ : Nat → Int32), (i ≤ lnC w h way.toNatClampNeg ∧ lnC w h way.toNatClampNeg ≤ 11) → (tl_ < 16) → (fl_ = setL fs way.toNatClampNeg (fun _ => 0) i) → (0 < i → tl_ = tU t_o way.toNatClampNeg) → (i = 0 → tl_ = t_o) → 11 - i < n → ∀ (wl2 : va_W), cF (fun b9 => b9 = o ∨ b9 = s_o) ws wl2 → va_D A wl2 → cT cy G wl2 → cIn wl2 o (.inr (kq, .ref b_o :: .ref s_o :: .int (nI tl_) :: .long x_o :: .long y_o :: ms_o)) → cIn wl2 s_o (.inl (cy 0, 44, .inl fl_)) → ∀ (H : Heap) (locs : List Loc), va_P D vwCl wl2 H → va_S A s.heap H locs → ∀ (ls : Array Slot), lv_has ls 3 [(2, .int (nI i)), (0, .ref o), (1, .int way)] → W p l e (headSpec wsX3_forgetWay ({ frames := 3, cells := 0, slots := 0, locals := 66 })).room s m #[Value.ref o, Value.int way] below meth c H locs 0 0 (MQ below (va_Qv (fun u => ∃ w1, u = (G, w1) ∧ cF (fun b9 => b9 = o ∨ b9 = s_o) ws w1 ∧ (cIn w1 o (.inr (kq, .ref b_o :: .ref s_o :: .int (nI (tD t_o way.toNatClampNeg)) :: .long x_o :: .long y_o :: ms_o)) ∧ cIn w1 s_o (.inl (cy 0, 44, .inl (setL fs way.toNatClampNeg (fun _ => 0) (lnC w h way.toNatClampNeg)))))) (cB D cy A) A) #[Value.ref o, Value.int way] s 0 0 A) (F0 m 2 ls []) := by
    intro n
    induction n with
    | zero => intro i tl_ fl_ j2_0 j2_1 j2_2 j2_3 j2_4 hn; exact absurd hn (Nat.not_lt_zero _)
    | succ n ih_2 =>
      intro i tl_ fl_ j2_0 j2_1 j2_2 j2_3 j2_4 hn_2 wl2 hF hD hT hM_o hM_s_o H locs hP hS ls hl
      have ii : (nI i).toInt = (i : Int) := nI_toInt (by omega)
      have tl9 := j2_1
      refine lv_iload_n hx hb dX3_forgetWay_2 rfl (lv_at hl 0 rfl) ?_
      refine lv_aload_n hx hb dX3_forgetWay_3 rfl (lv_at hl 1 rfl) ?_
      refine t_getJ (v := .ref b_o) hx hb hts hinJ hown hK hP hJ_o.kc hM_o 0 (by decide) (hts (.fieldLink RX3 28 "ShadowBench$Job" "board" "LShadowBench$Board;") (by decide +kernel)) (fun _ h9 => h9) rfl dX3_forgetWay_4 ?_
      refine lv_iload_n hx hb dX3_forgetWay_7 rfl (lv_at hl 2 rfl) ?_
      obtain ⟨_, hM_b_o, hb_b_o, l_b_o, f_b_o, r_b_o, rfl, hG_l_b_o, hG_f_b_o, hG_r_b_o⟩ := hT _ _ hG_b_o
      refine t_calli (va_runV (g := F0 m 8 ls ([.int way, .ref b_o, .int (nI i)])) (As := [.int way]) (rest := [.int (nI i)]) ⟨hx, hb, hml, hown, hts⟩ (c_X0_lineCount l D cy A G wl2 b_o way hD hT hG_b_o ) (cwV 1 hts gX3_forgetWay_X0_lineCount rfl rfl rfl (by decide +kernel) ⟨Nat.le_of_ble_eq_true rfl, Nat.le_of_ble_eq_true rfl⟩) (c_preV hM_b_o rfl hP hK hA hS hV) rfl rfl hl.1 rfl (lv_room (Nat.le_of_ble_eq_true rfl)) dX3_forgetWay_8 ⟨Nat.le_of_ble_eq_true rfl, Nat.le_of_ble_eq_true rfl⟩) hS (fun r8 u H locs q8 hP9 hD9 hT9 hS => ?_)
      obtain ⟨rfl, q8⟩ := q8
      have hP : va_P D vwCl wl2 H := hP9
      have lc9 := lnC_b hb9 way.toNatClampNeg
      have z8 := congrArg Int32.toInt q8
      rw [cLn hb9 hw1.1] at z8
      refine lv_icmp_ge (tgt := 27) hx hb dX3_forgetWay_11 (by decide) (fun c11 => ?_) (fun c11 => ?_)
      · skip
        have d11 := c11
        rw [fa_le] at d11
        refine lv_aload_n hx hb dX3_forgetWay_27 rfl (lv_at hl 1 rfl) ?_
        refine lv_dup hx hb dX3_forgetWay_28 rfl ?_
        refine t_getJ (v := .int (nI tl_)) hx hb hts hinJ hown hK hP hJ_o.kc hM_o 2 (by decide) (hts (.fieldLink RX3 17 "ShadowBench$Job" "toldWays" "I") (by decide +kernel)) (fun _ h9 => h9) rfl dX3_forgetWay_29 ?_
        refine lv_iconst (v := 1) hx hb dX3_forgetWay_32 (by decide) ?_
        refine lv_iload_n hx hb dX3_forgetWay_33 rfl (lv_at hl 2 rfl) ?_
        refine lv_ishl hx hb dX3_forgetWay_34 ?_
        refine lv_topi (fun v34 e34 => ?_)
        refine lv_iconst (v := (-1)) hx hb dX3_forgetWay_35 (by decide) ?_
        refine lv_ixor hx hb dX3_forgetWay_36 ?_
        refine lv_topi (fun v36 e36 => ?_)
        refine lv_iand hx hb dX3_forgetWay_37 ?_
        refine lv_topi (fun v37 e37 => ?_)
        obtain rfl : v37 = nI (tD t_o way.toNatClampNeg) := by rw [e37, e36, e34, tD_eq tl9 hw1]; by_cases z9 : i = 0; rw [j2_4 z9]; rw [j2_3 (by omega), (tU_lt ht9 hw1).2.2.1]
        refine t_putJ (v := .int (nI (tD t_o way.toNatClampNeg))) hx hb hts hinJ hown hK hP hD hS hJ_o.kc hM_o 2 (by decide) (hts (.fieldLink RX3 17 "ShadowBench$Job" "toldWays" "I") (by decide +kernel)) (fun _ h9 => h9) rfl rfl rfl (Nat.le_of_ble_eq_true rfl) dX3_forgetWay_38 (fun H locs w38 hU38 hP hD hS => ?_)
        have hM_s_o := hU38.2 _ _ (cne hG_s_o hG_o (show (14 : Nat) ≠ 3 by decide)) hM_s_o
        have hM_b_o := hU38.2 _ _ (cne hG_b_o hG_o (show (2 : Nat) ≠ 3 by decide)) hM_b_o
        have hT := hT.up hU38 hG_o ⟨_, _, _, _, _, _, _, _, rfl, hG_b_o, hG_s_o, hJ_o⟩
        have hM_o : cIn w38 o (.inr (kq, .ref b_o :: .ref s_o :: .int (nI (tD t_o way.toNatClampNeg)) :: .long x_o :: .long y_o :: ms_o)) := hU38.1
        have hF := hF.tr (cF.up hU38 (Or.inl rfl))
        exact W.vret hx hb hr (fun t ht hW => ⟨⟨(G, w38), rfl, ⟨w38, rfl, hF, (by have e9 : i = lnC w h way.toNatClampNeg := (by omega); rw [← e9, ← j2_2]; exact ⟨hM_o, hM_s_o⟩)⟩, by show va_P D vwCl w38 t.heap; rw [ht]; exact hP, hD, hT⟩, hS.F ht⟩) hS.2.2 dX3_forgetWay_41
      · skip
        have d11 := c11
        rw [fa_le] at d11
        refine lv_aload_n hx hb dX3_forgetWay_14 rfl (lv_at hl 1 rfl) ?_
        refine lv_iload_n hx hb dX3_forgetWay_15 rfl (lv_at hl 2 rfl) ?_
        refine lv_iload_n hx hb dX3_forgetWay_16 rfl (lv_at hl 0 rfl) ?_
        refine lv_iconst (v := 0) hx hb dX3_forgetWay_17 (by decide) ?_
        have ck9 : (nI i).toNatClampNeg = i := nI_clamp (by omega)
        refine t_callv (t_runJ (g := F0 m 18 ls ([.int (0 : Int32), .int (nI i), .int way, .ref o])) (As := [.int way, .int (nI i), .int (0 : Int32)]) (rest := []) ⟨hx, hb, hml, hown, hts⟩ (c_X3_tellLine_x l D cy A G wl2 o way (nI i) (0 : Int32) hD hT hG_o hM_o hM_s_o hb9 tl9 (by unfold okL; omega)) (va_cwU 3 hts gX3_forgetWay_X3_tellLine_u44X1 rfl rfl rfl rfl (by decide +kernel) ⟨Nat.le_of_ble_eq_true rfl, Nat.le_of_ble_eq_true rfl⟩) (cwV 3 hts gX3_forgetWay_X3_tellLine rfl rfl rfl (by decide +kernel) ⟨Nat.le_of_ble_eq_true rfl, Nat.le_of_ble_eq_true rfl⟩) (va_cwU 3 hts gX3_forgetWay_X3_tellLine_u44X4 rfl rfl rfl rfl (by decide +kernel) ⟨Nat.le_of_ble_eq_true rfl, Nat.le_of_ble_eq_true rfl⟩) (va_cwU 3 hts gX3_forgetWay_X3_tellLine_u44X5 rfl rfl rfl rfl (by decide +kernel) ⟨Nat.le_of_ble_eq_true rfl, Nat.le_of_ble_eq_true rfl⟩) hJ_o.kc hM_o hP hK c_blind (c_preS hP hK hA hS hV).2 rfl rfl hl.1 rfl (lv_room (Nat.le_of_ble_eq_true rfl)) dX3_forgetWay_18 ⟨Nat.le_of_ble_eq_true rfl, Nat.le_of_ble_eq_true rfl⟩) hS (fun u H locs q18 hP9 hD9 hT9 hS => ?_)
        obtain ⟨w18, rfl, hF18, q18⟩ := q18
        have hP : va_P D vwCl w18 H := hP9
        have hD : va_D A w18 := hD9
        have hT : cT cy G w18 := hT9
        have hM_b_o := hF18 _ _ (fun z9 => z9.elim (cne hG_b_o hG_o (show (2 : Nat) ≠ 3 by decide)) (cne hG_b_o hG_s_o (show (2 : Nat) ≠ 14 by decide))) hM_b_o
        have hF := hF.tr hF18
        have hM_o : cIn w18 o (.inr (kq, .ref b_o :: .ref s_o :: .int (nI (tU tl_ way.toNatClampNeg)) :: .long x_o :: .long y_o :: ms_o)) := q18.1
        have hM_s_o : cIn w18 s_o (.inl (cy 0, 44, .inl (upd fl_ (way.toNatClampNeg * 11 + (nI i).toNatClampNeg) (0 : Int32)))) := q18.2
        refine lv_iinc (v := (nI (i + 1))) (lv' := [(2, .int (nI (i + 1))), (0, .ref o), (1, .int way)]) hx hb dX3_forgetWay_21 hl (k := 0) rfl (nI_1 _) (by decide) rfl (fun ls hl => ?_)
        refine lv_goto (tgt := 2) hx hb dX3_forgetWay_24 (by decide) ?_
        exact ih_2 (i + 1) (tU tl_ way.toNatClampNeg) ((upd fl_ (way.toNatClampNeg * 11 + (nI i).toNatClampNeg) (0 : Int32))) (by omega) ((tU_lt tl9 hw1).1) (by rw [ck9, j2_2]; exact setL_s _ _ _ _) (fun _ => by by_cases z9 : i = 0; rw [j2_4 z9]; rw [j2_3 (by omega)]; exact (tU_lt ht9 hw1).2.2.2) (fun z9 => absurd z9 (Nat.succ_ne_zero _)) (by omega) w18 hF hD hT hM_o hM_s_o _ _ hP hS ls (lv_sub hl [0, 1, 2] rfl)
  exact loop_2 (11 + 1) 0 t_o fs (by have := lnC_b hb9 way.toNatClampNeg; omega) (ht9) ((setL_0 _ _ _).symm) (fun z9 => absurd z9 (Nat.lt_irrefl _)) (fun _ => rfl) (by omega) ws hF hD hT hM_o hM_s_o _ _ hP hS ls (lv_sub hl [0, 1, 2] rfl)
set_option maxHeartbeats 4000000 in
set_option maxRecDepth 100000 in
theorem c_X3_howHeld_x (l : Launch) (D : va_G) (cy : Nat → ClassId) (A : Nat → Prop) (G : cG) (ws : va_W) (o : Nat) (s0 : Int32) {kq w h b_o s_o t_o : Nat} {x_o y_o : Int64} {ms_o : List Value} (hD : va_D A ws) (hT : cT cy G ws) (hG_o : G o = some (3, kq, 8 * w + h)) (hM_o : cIn ws o (.inr (kq, .ref b_o :: .ref s_o :: .int (nI t_o) :: .long x_o :: .long y_o :: ms_o))) (hb9 : 1 ≤ w ∧ w ≤ 6 ∧ 1 ≤ h ∧ h ≤ 6) (ht9 : t_o < 16) (hs1 : 0 ≤ s0.toInt ∧ s0.toInt < 36) : Ci l D cy A yX3_howHeld wsX3_howHeld ({ frames := 0, cells := 0, slots := 0, locals := 0 }) 0 0 ws [.ref o, .int s0] (fun r0 u => u = (G, ws) ∧ (r0 = hH x_o y_o s0.toNatClampNeg)) := by
  refine Met.ofW (cc := cX3_howHeld) (maxL := 2) (ret := (some .int)) (by decide) rfl ?_
  intro p e s m args below meth c s₁ B hml hv
  obtain ⟨rfl, hP, hK, hA, hV⟩ := hv
  have hx := B.exec
  have hb := B.bytes
  have hr := B.returns
  have hts := atoms_spec (ws := wsX3_howHeld) B.pre
  have hown : s.vm.findClass RX3 = some m.cls := findClass_of_methodNamed B.named
  have hlocks := B.notSynchronized
  have hS : va_S A s.heap s.heap [] := va_S.rf
  have hinJ : ∀ w ∈ wsX10 ++ wsX30 ++ wsX40 ++ wsX50, w ∈ wsX3_howHeld := by decide +kernel
  have hl := lv_entry ([.ref o, .int s0]) (n := 2) (Nat.le_of_ble_eq_true rfl)
  rw [lg_entry_eq]
  generalize (lg_sl ([.ref o, .int s0]) ++ List.replicate (2 - (lg_sl ([.ref o, .int s0])).length) Slot.unset).toArray = ls at hl ⊢
  have hl : lv_has ls 2 [(0, .ref o), (1, .int s0)] := hl
  have k_0 : (0 : Int32).toInt = 0 := by decide
  have k_1 : (1 : Int32).toInt = 1 := by decide
  have k_2 : (2 : Int32).toInt = 2 := by decide
  have k_1L : (1 : Int64).toInt = 1 := by decide
  obtain ⟨hG_b_o, hG_s_o, hJ_o⟩ := w3sh hD hT hG_o hb9 hM_o
  refine lv_aload_n hx hb dX3_howHeld_0 rfl (lv_at hl 0 rfl) ?_
  refine t_getJ (v := .long x_o) hx hb hts hinJ hown hK hP hJ_o.kc hM_o 3 (by decide) (hts (.fieldLink RX3 21 "ShadowBench$Job" "heldOnes" "J") (by decide +kernel)) (fun _ h9 => h9) rfl dX3_howHeld_1 ?_
  refine lv_iload_n hx hb dX3_howHeld_4 rfl (lv_at hl 1 rfl) ?_
  refine lv_lushr (v := (x_o.toUInt64 >>> (s0.toInt64.toUInt64 &&& Int64.toUInt64 63)).toInt64) hx hb dX3_howHeld_5 rfl ?_
  refine lv_lconst (v := 1) hx hb dX3_howHeld_6 (by decide) ?_
  refine lv_land hx hb dX3_howHeld_7 ?_
  refine lv_topl (fun v7 e7 => ?_)
  refine lv_lconst (v := 1) hx hb dX3_howHeld_8 (by decide) ?_
  refine W.lcmp hx hb dX3_howHeld_9 ?_
  have cs := m_cl (x := s0) hs1.1
  have f7 : v7 = if lb x_o s0.toNatClampNeg then 1 else 0 := by rw [e7, ← ub_lb x_o (by omega), cl_nI hs1.1]
  refine lv_if_ne (tgt := 15) hx hb dX3_howHeld_10 (by decide) (fun c10 => ?_) (fun c10 => ?_)
  · skip
    have d10 := c10
    rw [lg_cmp_eq, fa_eq64] at d10
    refine lv_aload_n hx hb dX3_howHeld_15 rfl (lv_at hl 0 rfl) ?_
    refine t_getJ (v := .long y_o) hx hb hts hinJ hown hK hP hJ_o.kc hM_o 4 (by decide) (hts (.fieldLink RX3 25 "ShadowBench$Job" "heldNoughts" "J") (by decide +kernel)) (fun _ h9 => h9) rfl dX3_howHeld_16 ?_
    refine lv_iload_n hx hb dX3_howHeld_19 rfl (lv_at hl 1 rfl) ?_
    refine lv_lushr (v := (y_o.toUInt64 >>> (s0.toInt64.toUInt64 &&& Int64.toUInt64 63)).toInt64) hx hb dX3_howHeld_20 rfl ?_
    refine lv_lconst (v := 1) hx hb dX3_howHeld_21 (by decide) ?_
    refine lv_land hx hb dX3_howHeld_22 ?_
    refine lv_topl (fun v22 e22 => ?_)
    refine lv_lconst (v := 1) hx hb dX3_howHeld_23 (by decide) ?_
    refine W.lcmp hx hb dX3_howHeld_24 ?_
    have f22 : v22 = if lb y_o s0.toNatClampNeg then 1 else 0 := by rw [e22, ← ub_lb y_o (by omega), cl_nI hs1.1]
    refine lv_if_ne (tgt := 32) hx hb dX3_howHeld_25 (by decide) (fun c25 => ?_) (fun c25 => ?_)
    · skip
      have d25 := c25
      rw [lg_cmp_eq, fa_eq64] at d25
      refine lv_iconst (v := 2) hx hb dX3_howHeld_32 (by decide) ?_
      exact W.iret (v := (2 : Int32)) hx hb hr (fun t ht hW => ⟨⟨_, (G, ws), rfl, ⟨rfl, (by have z9 : lb x_o s0.toNatClampNeg = false := (by cases hb : lb x_o s0.toNatClampNeg; rfl; (rw [hb] at f7; exact absurd ((lg_cmp_eq _ _).mpr f7) c10)); unfold hH; rw [z9]; cases hb : lb y_o s0.toNatClampNeg; (first | rfl | (rw [hb] at f22; exact absurd (f22.symm.trans ((lg_cmp_eq _ _).mp c25)) (by decide))); (first | rfl | (rw [hb] at f22; exact absurd ((lg_cmp_eq _ _).mpr f22) c25)))⟩, by show va_P D vwCl ws t.heap; rw [ht]; exact hP, hD, hT⟩, hS.F ht⟩) hS.2.2 dX3_howHeld_33
    · skip
      have d25 := c25
      rw [lg_cmp_eq, fa_eq64] at d25
      refine lv_iconst (v := 0) hx hb dX3_howHeld_28 (by decide) ?_
      refine lv_goto (tgt := 33) hx hb dX3_howHeld_29 (by decide) ?_
      exact W.iret (v := (0 : Int32)) hx hb hr (fun t ht hW => ⟨⟨_, (G, ws), rfl, ⟨rfl, (by have z9 : lb x_o s0.toNatClampNeg = false := (by cases hb : lb x_o s0.toNatClampNeg; rfl; (rw [hb] at f7; exact absurd ((lg_cmp_eq _ _).mpr f7) c10)); unfold hH; rw [z9]; cases hb : lb y_o s0.toNatClampNeg; (first | rfl | (rw [hb] at f22; exact absurd (f22.symm.trans ((lg_cmp_eq _ _).mp c25)) (by decide))); (first | rfl | (rw [hb] at f22; exact absurd ((lg_cmp_eq _ _).mpr f22) c25)))⟩, by show va_P D vwCl ws t.heap; rw [ht]; exact hP, hD, hT⟩, hS.F ht⟩) hS.2.2 dX3_howHeld_33
  · skip
    have d10 := c10
    rw [lg_cmp_eq, fa_eq64] at d10
    refine lv_iconst (v := 1) hx hb dX3_howHeld_13 (by decide) ?_
    exact W.iret (v := (1 : Int32)) hx hb hr (fun t ht hW => ⟨⟨_, (G, ws), rfl, ⟨rfl, (by have z9 := (lg_cmp_eq _ _).mp c10; unfold hH; cases hb : lb x_o s0.toNatClampNeg; (rw [hb] at f7; exact absurd (f7.symm.trans z9) (by decide)); rfl)⟩, by show va_P D vwCl ws t.heap; rw [ht]; exact hP, hD, hT⟩, hS.F ht⟩) hS.2.2 dX3_howHeld_14
set_option maxHeartbeats 4000000 in
set_option maxRecDepth 100000 in
theorem c_X3_holdSquare_x (l : Launch) (D : va_G) (cy : Nat → ClassId) (A : Nat → Prop) (G : cG) (ws : va_W) (o : Nat) (s0 : Int32) (how : Int32) {kq w h b_o s_o t_o : Nat} {x_o y_o : Int64} {ms_o : List Value} (hD : va_D A ws) (hT : cT cy G ws) (hG_o : G o = some (3, kq, 8 * w + h)) (hM_o : cIn ws o (.inr (kq, .ref b_o :: .ref s_o :: .int (nI t_o) :: .long x_o :: .long y_o :: ms_o))) (hb9 : 1 ≤ w ∧ w ≤ 6 ∧ 1 ≤ h ∧ h ≤ 6) (ht9 : t_o < 16) (hs1 : 0 ≤ s0.toInt ∧ s0.toInt < 36) : Cv l D cy A yX3_holdSquare wsX3_holdSquare ({ frames := 0, cells := 0, slots := 0, locals := 0 }) 0 0 ws [.ref o, .int s0, .int how] (fun u => ∃ w1, u = (G, w1) ∧ cF (fun b9 => b9 = o) ws w1 ∧ (∃ x1 y1, cIn w1 o (.inr (kq, .ref b_o :: .ref s_o :: .int (nI t_o) :: .long x1 :: .long y1 :: ms_o)) ∧ hO x_o s0.toNatClampNeg (decide (how.toInt = 1)) x1 ∧ hO y_o s0.toNatClampNeg (decide (how.toInt = 0)) y1)) := by
  refine Met.ofW (cc := cX3_holdSquare) (maxL := 5) (ret := none) (by decide) rfl ?_
  intro p e s m args below meth c s₁ B hml hv
  obtain ⟨rfl, hP, hK, hA, hV⟩ := hv
  have hx := B.exec
  have hb := B.bytes
  have hr := B.returns
  have hts := atoms_spec (ws := wsX3_holdSquare) B.pre
  have hown : s.vm.findClass RX3 = some m.cls := findClass_of_methodNamed B.named
  have hlocks := B.notSynchronized
  have hS : va_S A s.heap s.heap [] := va_S.rf
  have hinJ : ∀ w ∈ wsX10 ++ wsX30 ++ wsX40 ++ wsX50, w ∈ wsX3_holdSquare := by decide +kernel
  have hF : cF (fun b9 => b9 = o) ws ws := cF.rf
  have hl := lv_entry ([.ref o, .int s0, .int how]) (n := 5) (Nat.le_of_ble_eq_true rfl)
  rw [lg_entry_eq]
  generalize (lg_sl ([.ref o, .int s0, .int how]) ++ List.replicate (5 - (lg_sl ([.ref o, .int s0, .int how])).length) Slot.unset).toArray = ls at hl ⊢
  have hl : lv_has ls 5 [(0, .ref o), (1, .int s0), (2, .int how)] := hl
  have k_0 : (0 : Int32).toInt = 0 := by decide
  have k_1 : (1 : Int32).toInt = 1 := by decide
  have k_m1L : (-1 : Int64).toInt = -1 := by decide
  have k_1L : (1 : Int64).toInt = 1 := by decide
  obtain ⟨hG_b_o, hG_s_o, hJ_o⟩ := w3sh hD hT hG_o hb9 hM_o
  have cs := m_cl (x := s0) hs1.1
  have el : (1 : Int64) <<< (s0.toInt64 &&& 63) = l1 s0.toNatClampNeg := by unfold l1; rw [cl_nI hs1.1]
  refine lv_lconst (v := 1) hx hb dX3_holdSquare_0 (by decide) ?_
  refine lv_iload_n hx hb dX3_holdSquare_1 rfl (lv_at hl 1 rfl) ?_
  refine lv_lshl (v := (1 : Int64) <<< (s0.toInt64 &&& 63)) hx hb dX3_holdSquare_2 rfl ?_
  refine lv_lstore_n (lv' := [(3, .long ((1 : Int64) <<< (s0.toInt64 &&& 63))), (0, .ref o), (1, .int s0), (2, .int how)]) hx hb dX3_holdSquare_3 rfl hl (by decide) rfl (fun ls hl => ?_)
  refine lv_aload_n hx hb dX3_holdSquare_4 rfl (lv_at hl 1 rfl) ?_
  refine lv_iload_n hx hb dX3_holdSquare_5 rfl (lv_at hl 3 rfl) ?_
  refine lv_iconst (v := 1) hx hb dX3_holdSquare_6 (by decide) ?_
  refine lv_icmp_ne (tgt := 19) hx hb dX3_holdSquare_7 (by decide) (fun c7 => ?_) (fun c7 => ?_)
  · skip
    have d7 := c7
    rw [fa_eq] at d7
    refine lv_aload_n hx hb dX3_holdSquare_19 rfl (lv_at hl 1 rfl) ?_
    refine t_getJ (v := .long x_o) hx hb hts hinJ hown hK hP hJ_o.kc hM_o 3 (by decide) (hts (.fieldLink RX3 21 "ShadowBench$Job" "heldOnes" "J") (by decide +kernel)) (fun _ h9 => h9) rfl dX3_holdSquare_20 ?_
    refine lv_lload_n hx hb dX3_holdSquare_23 rfl (lv_at hl 0 rfl) ?_
    refine lv_ldc2 hx hb hown (hts (.constantLong RX3 48 (-1)) (by decide +kernel)) dX3_holdSquare_24 ?_
    refine lv_lxor hx hb dX3_holdSquare_27 ?_
    refine lv_topl (fun v27 e27 => ?_)
    refine lv_land hx hb dX3_holdSquare_28 ?_
    refine lv_topl (fun v28 e28 => ?_)
    refine t_putJ (v := .long v28) hx hb hts hinJ hown hK hP hD hS hJ_o.kc hM_o 3 (by decide) (hts (.fieldLink RX3 21 "ShadowBench$Job" "heldOnes" "J") (by decide +kernel)) (fun _ h9 => h9) rfl rfl rfl (Nat.le_of_ble_eq_true rfl) dX3_holdSquare_29 (fun H locs w29 hU29 hP hD hS => ?_)
    have hT := hT.up hU29 hG_o ⟨_, _, _, _, _, _, _, _, rfl, hG_b_o, hG_s_o, hJ_o⟩
    have hM_o : cIn w29 o (.inr (kq, .ref b_o :: .ref s_o :: .int (nI t_o) :: .long v28 :: .long y_o :: ms_o)) := hU29.1
    have hF := hF.tr (cF.up hU29 rfl)
    refine lv_aload_n hx hb dX3_holdSquare_32 rfl (lv_at hl 1 rfl) ?_
    refine lv_iload_n hx hb dX3_holdSquare_33 rfl (lv_at hl 3 rfl) ?_
    refine lv_if_ne (tgt := 46) hx hb dX3_holdSquare_34 (by decide) (fun c34 => ?_) (fun c34 => ?_)
    · skip
      have d34 := c34
      rw [fa_eq] at d34
      refine lv_aload_n hx hb dX3_holdSquare_46 rfl (lv_at hl 1 rfl) ?_
      refine t_getJ (v := .long y_o) hx hb hts hinJ hown hK hP hJ_o.kc hM_o 4 (by decide) (hts (.fieldLink RX3 25 "ShadowBench$Job" "heldNoughts" "J") (by decide +kernel)) (fun _ h9 => h9) rfl dX3_holdSquare_47 ?_
      refine lv_lload_n hx hb dX3_holdSquare_50 rfl (lv_at hl 0 rfl) ?_
      refine lv_ldc2 hx hb hown (hts (.constantLong RX3 48 (-1)) (by decide +kernel)) dX3_holdSquare_51 ?_
      refine lv_lxor hx hb dX3_holdSquare_54 ?_
      refine lv_topl (fun v54 e54 => ?_)
      refine lv_land hx hb dX3_holdSquare_55 ?_
      refine lv_topl (fun v55 e55 => ?_)
      refine t_putJ (v := .long v55) hx hb hts hinJ hown hK hP hD hS hJ_o.kc hM_o 4 (by decide) (hts (.fieldLink RX3 25 "ShadowBench$Job" "heldNoughts" "J") (by decide +kernel)) (fun _ h9 => h9) rfl rfl rfl (Nat.le_of_ble_eq_true rfl) dX3_holdSquare_56 (fun H locs w56 hU56 hP hD hS => ?_)
      have hT := hT.up hU56 hG_o ⟨_, _, _, _, _, _, _, _, rfl, hG_b_o, hG_s_o, hJ_o⟩
      have hM_o : cIn w56 o (.inr (kq, .ref b_o :: .ref s_o :: .int (nI t_o) :: .long v28 :: .long v55 :: ms_o)) := hU56.1
      have hF := hF.tr (cF.up hU56 rfl)
      exact W.vret hx hb hr (fun t ht hW => ⟨⟨(G, w56), rfl, ⟨w56, rfl, hF, ⟨_, _, hM_o, (by first | (rw [decide_eq_true (show how.toInt = 1 by omega)]; exact hO_1 (by omega) (by rw [e15, el])) | (rw [decide_eq_false (show ¬ how.toInt = 1 by omega)]; exact hO_0 (by omega) (by rw [e27, el]) e28)), (by first | (rw [decide_eq_true (show how.toInt = 0 by omega)]; exact hO_1 (by omega) (by rw [e42, el])) | (rw [decide_eq_false (show ¬ how.toInt = 0 by omega)]; exact hO_0 (by omega) (by rw [e54, el]) e55))⟩⟩, by show va_P D vwCl w56 t.heap; rw [ht]; exact hP, hD, hT⟩, hS.F ht⟩) hS.2.2 dX3_holdSquare_59
    · skip
      have d34 := c34
      rw [fa_eq] at d34
      refine lv_aload_n hx hb dX3_holdSquare_37 rfl (lv_at hl 1 rfl) ?_
      refine t_getJ (v := .long y_o) hx hb hts hinJ hown hK hP hJ_o.kc hM_o 4 (by decide) (hts (.fieldLink RX3 25 "ShadowBench$Job" "heldNoughts" "J") (by decide +kernel)) (fun _ h9 => h9) rfl dX3_holdSquare_38 ?_
      refine lv_lload_n hx hb dX3_holdSquare_41 rfl (lv_at hl 0 rfl) ?_
      refine lv_lor hx hb dX3_holdSquare_42 ?_
      refine lv_topl (fun v42 e42 => ?_)
      refine lv_goto (tgt := 56) hx hb dX3_holdSquare_43 (by decide) ?_
      refine t_putJ (v := .long v42) hx hb hts hinJ hown hK hP hD hS hJ_o.kc hM_o 4 (by decide) (hts (.fieldLink RX3 25 "ShadowBench$Job" "heldNoughts" "J") (by decide +kernel)) (fun _ h9 => h9) rfl rfl rfl (Nat.le_of_ble_eq_true rfl) dX3_holdSquare_56 (fun H locs w56 hU56 hP hD hS => ?_)
      have hT := hT.up hU56 hG_o ⟨_, _, _, _, _, _, _, _, rfl, hG_b_o, hG_s_o, hJ_o⟩
      have hM_o : cIn w56 o (.inr (kq, .ref b_o :: .ref s_o :: .int (nI t_o) :: .long v28 :: .long v42 :: ms_o)) := hU56.1
      have hF := hF.tr (cF.up hU56 rfl)
      exact W.vret hx hb hr (fun t ht hW => ⟨⟨(G, w56), rfl, ⟨w56, rfl, hF, ⟨_, _, hM_o, (by first | (rw [decide_eq_true (show how.toInt = 1 by omega)]; exact hO_1 (by omega) (by rw [e15, el])) | (rw [decide_eq_false (show ¬ how.toInt = 1 by omega)]; exact hO_0 (by omega) (by rw [e27, el]) e28)), (by first | (rw [decide_eq_true (show how.toInt = 0 by omega)]; exact hO_1 (by omega) (by rw [e42, el])) | (rw [decide_eq_false (show ¬ how.toInt = 0 by omega)]; exact hO_0 (by omega) (by rw [e54, el]) e55))⟩⟩, by show va_P D vwCl w56 t.heap; rw [ht]; exact hP, hD, hT⟩, hS.F ht⟩) hS.2.2 dX3_holdSquare_59
  · skip
    have d7 := c7
    rw [fa_eq] at d7
    refine lv_aload_n hx hb dX3_holdSquare_10 rfl (lv_at hl 1 rfl) ?_
    refine t_getJ (v := .long x_o) hx hb hts hinJ hown hK hP hJ_o.kc hM_o 3 (by decide) (hts (.fieldLink RX3 21 "ShadowBench$Job" "heldOnes" "J") (by decide +kernel)) (fun _ h9 => h9) rfl dX3_holdSquare_11 ?_
    refine lv_lload_n hx hb dX3_holdSquare_14 rfl (lv_at hl 0 rfl) ?_
    refine lv_lor hx hb dX3_holdSquare_15 ?_
    refine lv_topl (fun v15 e15 => ?_)
    refine lv_goto (tgt := 29) hx hb dX3_holdSquare_16 (by decide) ?_
    refine t_putJ (v := .long v15) hx hb hts hinJ hown hK hP hD hS hJ_o.kc hM_o 3 (by decide) (hts (.fieldLink RX3 21 "ShadowBench$Job" "heldOnes" "J") (by decide +kernel)) (fun _ h9 => h9) rfl rfl rfl (Nat.le_of_ble_eq_true rfl) dX3_holdSquare_29 (fun H locs w29 hU29 hP hD hS => ?_)
    have hT := hT.up hU29 hG_o ⟨_, _, _, _, _, _, _, _, rfl, hG_b_o, hG_s_o, hJ_o⟩
    have hM_o : cIn w29 o (.inr (kq, .ref b_o :: .ref s_o :: .int (nI t_o) :: .long v15 :: .long y_o :: ms_o)) := hU29.1
    have hF := hF.tr (cF.up hU29 rfl)
    refine lv_aload_n hx hb dX3_holdSquare_32 rfl (lv_at hl 1 rfl) ?_
    refine lv_iload_n hx hb dX3_holdSquare_33 rfl (lv_at hl 3 rfl) ?_
    refine lv_if_ne (tgt := 46) hx hb dX3_holdSquare_34 (by decide) (fun c34 => ?_) (fun c34 => ?_)
    · skip
      have d34 := c34
      rw [fa_eq] at d34
      refine lv_aload_n hx hb dX3_holdSquare_46 rfl (lv_at hl 1 rfl) ?_
      refine t_getJ (v := .long y_o) hx hb hts hinJ hown hK hP hJ_o.kc hM_o 4 (by decide) (hts (.fieldLink RX3 25 "ShadowBench$Job" "heldNoughts" "J") (by decide +kernel)) (fun _ h9 => h9) rfl dX3_holdSquare_47 ?_
      refine lv_lload_n hx hb dX3_holdSquare_50 rfl (lv_at hl 0 rfl) ?_
      refine lv_ldc2 hx hb hown (hts (.constantLong RX3 48 (-1)) (by decide +kernel)) dX3_holdSquare_51 ?_
      refine lv_lxor hx hb dX3_holdSquare_54 ?_
      refine lv_topl (fun v54 e54 => ?_)
      refine lv_land hx hb dX3_holdSquare_55 ?_
      refine lv_topl (fun v55 e55 => ?_)
      refine t_putJ (v := .long v55) hx hb hts hinJ hown hK hP hD hS hJ_o.kc hM_o 4 (by decide) (hts (.fieldLink RX3 25 "ShadowBench$Job" "heldNoughts" "J") (by decide +kernel)) (fun _ h9 => h9) rfl rfl rfl (Nat.le_of_ble_eq_true rfl) dX3_holdSquare_56 (fun H locs w56 hU56 hP hD hS => ?_)
      have hT := hT.up hU56 hG_o ⟨_, _, _, _, _, _, _, _, rfl, hG_b_o, hG_s_o, hJ_o⟩
      have hM_o : cIn w56 o (.inr (kq, .ref b_o :: .ref s_o :: .int (nI t_o) :: .long v15 :: .long v55 :: ms_o)) := hU56.1
      have hF := hF.tr (cF.up hU56 rfl)
      exact W.vret hx hb hr (fun t ht hW => ⟨⟨(G, w56), rfl, ⟨w56, rfl, hF, ⟨_, _, hM_o, (by first | (rw [decide_eq_true (show how.toInt = 1 by omega)]; exact hO_1 (by omega) (by rw [e15, el])) | (rw [decide_eq_false (show ¬ how.toInt = 1 by omega)]; exact hO_0 (by omega) (by rw [e27, el]) e28)), (by first | (rw [decide_eq_true (show how.toInt = 0 by omega)]; exact hO_1 (by omega) (by rw [e42, el])) | (rw [decide_eq_false (show ¬ how.toInt = 0 by omega)]; exact hO_0 (by omega) (by rw [e54, el]) e55))⟩⟩, by show va_P D vwCl w56 t.heap; rw [ht]; exact hP, hD, hT⟩, hS.F ht⟩) hS.2.2 dX3_holdSquare_59
    · skip
      have d34 := c34
      rw [fa_eq] at d34
      refine lv_aload_n hx hb dX3_holdSquare_37 rfl (lv_at hl 1 rfl) ?_
      refine t_getJ (v := .long y_o) hx hb hts hinJ hown hK hP hJ_o.kc hM_o 4 (by decide) (hts (.fieldLink RX3 25 "ShadowBench$Job" "heldNoughts" "J") (by decide +kernel)) (fun _ h9 => h9) rfl dX3_holdSquare_38 ?_
      refine lv_lload_n hx hb dX3_holdSquare_41 rfl (lv_at hl 0 rfl) ?_
      refine lv_lor hx hb dX3_holdSquare_42 ?_
      refine lv_topl (fun v42 e42 => ?_)
      refine lv_goto (tgt := 56) hx hb dX3_holdSquare_43 (by decide) ?_
      refine t_putJ (v := .long v42) hx hb hts hinJ hown hK hP hD hS hJ_o.kc hM_o 4 (by decide) (hts (.fieldLink RX3 25 "ShadowBench$Job" "heldNoughts" "J") (by decide +kernel)) (fun _ h9 => h9) rfl rfl rfl (Nat.le_of_ble_eq_true rfl) dX3_holdSquare_56 (fun H locs w56 hU56 hP hD hS => ?_)
      have hT := hT.up hU56 hG_o ⟨_, _, _, _, _, _, _, _, rfl, hG_b_o, hG_s_o, hJ_o⟩
      have hM_o : cIn w56 o (.inr (kq, .ref b_o :: .ref s_o :: .int (nI t_o) :: .long v15 :: .long v42 :: ms_o)) := hU56.1
      have hF := hF.tr (cF.up hU56 rfl)
      exact W.vret hx hb hr (fun t ht hW => ⟨⟨(G, w56), rfl, ⟨w56, rfl, hF, ⟨_, _, hM_o, (by first | (rw [decide_eq_true (show how.toInt = 1 by omega)]; exact hO_1 (by omega) (by rw [e15, el])) | (rw [decide_eq_false (show ¬ how.toInt = 1 by omega)]; exact hO_0 (by omega) (by rw [e27, el]) e28)), (by first | (rw [decide_eq_true (show how.toInt = 0 by omega)]; exact hO_1 (by omega) (by rw [e42, el])) | (rw [decide_eq_false (show ¬ how.toInt = 0 by omega)]; exact hO_0 (by omega) (by rw [e54, el]) e55))⟩⟩, by show va_P D vwCl w56 t.heap; rw [ht]; exact hP, hD, hT⟩, hS.F ht⟩) hS.2.2 dX3_holdSquare_59

def okSum9 (jc : Int32) (w h : Nat) (j way line v : Int32) : Prop := okJob jc j ∧ okL w h way line ∧ 0 ≤ v.toInt ∧ v.toInt ≤ 6
def okCast9 (jc : Int32) (w h : Nat) (j way : Int32) (p : Int64) : Prop := okJob jc j ∧ (0 ≤ way.toInt ∧ way.toInt ≤ 3) ∧ isPic (w * h) p
def okUn9 (jc : Int32) (j way : Int32) : Prop := okJob jc j ∧ (2 ≤ way.toInt ∧ way.toInt ≤ 3)
def okHold9 (jc : Int32) (w h : Nat) (j s how : Int32) : Prop := okJob jc j ∧ (0 ≤ s.toInt ∧ s.toInt < ((w * h : Nat) : Int)) ∧ 0 ≤ how.toInt ∧ how.toInt ≤ 2
def okMark9 (jc : Int32) (w h : Nat) (j s v : Int32) : Prop := okJob jc j ∧ (0 ≤ s.toInt ∧ s.toInt < ((w * h : Nat) : Int)) ∧ -99 ≤ v.toInt ∧ v.toInt ≤ 99
def okTold9 (jc : Int32) (j way : Int32) : Prop := okJob jc j ∧ 0 ≤ way.toInt ∧ way.toInt ≤ 3

/-- what told answers: the number of lines, a sum, or -2 -/
def toA (jc : Int32) (w h : Nat) (sm : Nat → Int32) (j way line x : Int32) : Prop := ((okTold9 jc j way ∧ (line.toInt = -1 ∨ okL w h way line)) ∧ (if line.toInt = -1 then x.toInt = (lnC w h way.toNatClampNeg : Int) else x = sm line.toNatClampNeg)) ∨ (¬ (okTold9 jc j way ∧ (line.toInt = -1 ∨ okL w h way line)) ∧ x = -1)
set_option maxHeartbeats 4000000 in
set_option maxRecDepth 100000 in
theorem c_X9_jobOf_j (l : Launch) (D : va_G) (cy : Nat → ClassId) (A : Nat → Prop) (G : cG) (ws : va_W) (o : Nat) (j : Int32) {bs_o js_o sh_o wk_o ll_o : Nat} {jc_o lc_o : Int32} {mo_o lb_o : Option Nat} {fa : Nat → Option Nat} (hD : va_D A ws) (hT : cT cy G ws) (hG_o : G o = some (7, 0, 0)) (hM_o : cIn ws o (.inr (8, [.ref bs_o, .ref js_o, .int jc_o, .ref sh_o, .ref wk_o, va_rf mo_o, .ref ll_o, .int lc_o, va_rf lb_o]))) (hM_js_o : cIn ws js_o (.inl (cy 4, cqa 8 fa))) (hJ1 : ∀ i : Nat, (i : Int) < jc_o.toInt → ∃ x, fa i = some x) : Ca l D cy A yX9_jobOf wsX9_jobOf ({ frames := 0, cells := 0, slots := 0, locals := 0 }) 0 0 ws [.ref o, .int j] (fun r0 u => u = (G, ws) ∧ ((∀ x, r0 = some x → okJob jc_o j ∧ fa j.toNatClampNeg = some x) ∧ (r0 = none → ¬ okJob jc_o j))) := by
  refine Met.ofW (cc := cX9_jobOf) (maxL := 2) (ret := (some (.object "ShadowBench$Job"))) (by decide) rfl ?_
  intro p e s m args below meth c s₁ B hml hv
  obtain ⟨rfl, hP, hK, hA, hV⟩ := hv
  have hx := B.exec
  have hb := B.bytes
  have hr := B.returns
  have hts := atoms_spec (ws := wsX9_jobOf) B.pre
  have hown : s.vm.findClass RX9 = some m.cls := findClass_of_methodNamed B.named
  have hlocks := B.notSynchronized
  have hS : va_S A s.heap s.heap [] := va_S.rf
  have hl := lv_entry ([.ref o, .int j]) (n := 2) (Nat.le_of_ble_eq_true rfl)
  rw [lg_entry_eq]
  generalize (lg_sl ([.ref o, .int j]) ++ List.replicate (2 - (lg_sl ([.ref o, .int j])).length) Slot.unset).toArray = ls at hl ⊢
  have hl : lv_has ls 2 [(0, .ref o), (1, .int j)] := hl
  have k_0 : (0 : Int32).toInt = 0 := by decide
  have k_8 : (8 : Int32).toInt = 8 := by decide
  obtain ⟨hjc_o, hlc_o, hG_bs_o, hG_js_o, hG_sh_o, hG_wk_o, hmo_o, hG_ll_o, hlb_o⟩ := w7sh hD hT hG_o hM_o
  have hf_js_o := w9sh hD hT hG_js_o hM_js_o
  refine lv_iload_n hx hb dX9_jobOf_0 rfl (lv_at hl 1 rfl) ?_
  refine lv_if_lt (tgt := 27) hx hb dX9_jobOf_1 (by decide) (fun c1 => ?_) (fun c1 => ?_)
  · skip
    have d1 := c1
    rw [fa_lt] at d1
    refine lv_null hx hb dX9_jobOf_27 ?_
    exact W.aret (v := .null) hx hb hr (Or.inl ⟨_, rfl⟩) (Or.inl rfl) (fun t ht hW => ⟨⟨none, (G, ws), rfl, ⟨rfl, ⟨(fun _ z => nomatch z), (fun _ z9 => by unfold okJob at z9; first | omega | exact absurd (nf23.symm.trans ex9) (by simp))⟩⟩, by show va_P D vwCl ws t.heap; rw [ht]; exact hP, hD, hT⟩, hS.F ht⟩) hS.2.2 dX9_jobOf_28
  · skip
    have d1 := c1
    rw [fa_lt] at d1
    refine lv_iload_n hx hb dX9_jobOf_4 rfl (lv_at hl 1 rfl) ?_
    refine lv_aload_n hx hb dX9_jobOf_5 rfl (lv_at hl 0 rfl) ?_
    refine t_get (v := .int jc_o) (C := RX9) (T := TX9) (N := 9) hx hb hts (by decide +kernel) hown hK hP hM_o rfl 2 (by decide) (hts (.fieldLink RX9 21 "ShadowBench" "jobCount" "I") (by decide +kernel)) (fun _ h9 => h9) rfl dX9_jobOf_6 ?_
    refine lv_icmp_ge (tgt := 27) hx hb dX9_jobOf_9 (by decide) (fun c9 => ?_) (fun c9 => ?_)
    · skip
      have d9 := c9
      rw [fa_le] at d9
      refine lv_null hx hb dX9_jobOf_27 ?_
      exact W.aret (v := .null) hx hb hr (Or.inl ⟨_, rfl⟩) (Or.inl rfl) (fun t ht hW => ⟨⟨none, (G, ws), rfl, ⟨rfl, ⟨(fun _ z => nomatch z), (fun _ z9 => by unfold okJob at z9; first | omega | exact absurd (nf23.symm.trans ex9) (by simp))⟩⟩, by show va_P D vwCl ws t.heap; rw [ht]; exact hP, hD, hT⟩, hS.F ht⟩) hS.2.2 dX9_jobOf_28
    · skip
      have d9 := c9
      rw [fa_le] at d9
      refine lv_iload_n hx hb dX9_jobOf_12 rfl (lv_at hl 1 rfl) ?_
      refine lv_bipush (v := 8) hx hb dX9_jobOf_13 (by decide) ?_
      refine lv_icmp_ge (tgt := 27) hx hb dX9_jobOf_15 (by decide) (fun c15 => ?_) (fun c15 => ?_)
      · skip
        have d15 := c15
        rw [fa_le] at d15
        refine lv_null hx hb dX9_jobOf_27 ?_
        exact W.aret (v := .null) hx hb hr (Or.inl ⟨_, rfl⟩) (Or.inl rfl) (fun t ht hW => ⟨⟨none, (G, ws), rfl, ⟨rfl, ⟨(fun _ z => nomatch z), (fun _ z9 => by unfold okJob at z9; first | omega | exact absurd (nf23.symm.trans ex9) (by simp))⟩⟩, by show va_P D vwCl ws t.heap; rw [ht]; exact hP, hD, hT⟩, hS.F ht⟩) hS.2.2 dX9_jobOf_28
      · skip
        have d15 := c15
        rw [fa_le] at d15
        refine lv_aload_n hx hb dX9_jobOf_18 rfl (lv_at hl 0 rfl) ?_
        refine t_get (v := .ref js_o) (C := RX9) (T := TX9) (N := 9) hx hb hts (by decide +kernel) hown hK hP hM_o rfl 1 (by decide) (hts (.fieldLink RX9 17 "ShadowBench" "jobs" "[LShadowBench$Job;") (by decide +kernel)) (fun _ h9 => h9) rfl dX9_jobOf_19 ?_
        refine lv_iload_n hx hb dX9_jobOf_22 rfl (lv_at hl 1 rfl) ?_
        have cj := m_cl (x := j) (by omega)
        obtain ⟨x9, ex9⟩ := hJ1 j.toNatClampNeg (by omega)
        refine t_aald9f hx hb hK hP hM_js_o hf_js_o (vp_in_iff.mpr ⟨by omega, by omega⟩) dX9_jobOf_23 (fun nf23 => ?_) (fun x23 kx23 nx23 hG_x23 nf23 => ?_)
        · skip
          refine lv_goto (tgt := 28) hx hb dX9_jobOf_24 (by decide) ?_
          exact W.aret (v := .null) hx hb hr (Or.inl ⟨_, rfl⟩) (Or.inl rfl) (fun t ht hW => ⟨⟨none, (G, ws), rfl, ⟨rfl, ⟨(fun _ z => nomatch z), (fun _ z9 => by unfold okJob at z9; first | omega | exact absurd (nf23.symm.trans ex9) (by simp))⟩⟩, by show va_P D vwCl ws t.heap; rw [ht]; exact hP, hD, hT⟩, hS.F ht⟩) hS.2.2 dX9_jobOf_28
        · skip
          refine lv_goto (tgt := 28) hx hb dX9_jobOf_24 (by decide) ?_
          exact W.aret (v := .ref x23) hx hb hr (Or.inl ⟨_, rfl⟩) (Or.inr ⟨_, rfl⟩) (fun t ht hW => ⟨⟨(some x23), (G, ws), rfl, ⟨rfl, ⟨(fun z9 e9 => by cases e9; exact ⟨(by unfold okJob; omega), nf23⟩), (fun z => nomatch z)⟩⟩, by show va_P D vwCl ws t.heap; rw [ht]; exact hP, hD, hT⟩, hS.F ht⟩) hS.2.2 dX9_jobOf_28
set_option maxHeartbeats 4000000 in
set_option maxRecDepth 100000 in
theorem c_X9_sum_j (l : Launch) (D : va_G) (cy : Nat → ClassId) (A : Nat → Prop) (G : cG) (ws : va_W) (o : Nat) (j : Int32) (way : Int32) (line : Int32) (v : Int32) {bs_o js_o sh_o wk_o ll_o : Nat} {jc_o lc_o : Int32} {mo_o lb_o : Option Nat} {fa : Nat → Option Nat} {xj kj bj sj tj wj hj : Nat} {oj nj : Int64} {msj : List Value} {fsj : Nat → Int32} (hD : va_D A ws) (hT : cT cy G ws) (hG_o : G o = some (7, 0, 0)) (hM_o : cIn ws o (.inr (8, [.ref bs_o, .ref js_o, .int jc_o, .ref sh_o, .ref wk_o, va_rf mo_o, .ref ll_o, .int lc_o, va_rf lb_o]))) (hM_js_o : cIn ws js_o (.inl (cy 4, cqa 8 fa))) (hJ1 : ∀ i : Nat, (i : Int) < jc_o.toInt → ∃ x, fa i = some x) (hJ : okJob jc_o j → jobS cy G ws fa j.toNatClampNeg xj kj bj sj tj wj hj oj nj msj fsj) : Ci l D cy A yX9_sum wsX9_sum ({ frames := 3, cells := 0, slots := 0, locals := 66 }) 0 0 ws [.ref o, .int j, .int way, .int line, .int v] (fun r0 u => ∃ w1, u = (G, w1) ∧ cF (fun b9 => b9 = xj ∨ b9 = sj) ws w1 ∧ ((okSum9 jc_o wj hj j way line v ∧ r0 = 0 ∧ cIn w1 xj (.inr (kj, .ref bj :: .ref sj :: .int (nI (tU tj way.toNatClampNeg)) :: .long oj :: .long nj :: msj)) ∧ cIn w1 sj (.inl (cy 0, 44, .inl (upd fsj (way.toNatClampNeg * 11 + line.toNatClampNeg) v)))) ∨ (¬ okSum9 jc_o wj hj j way line v ∧ r0 = -1 ∧ w1 = ws))) := by
  refine Met.ofW (cc := cX9_sum) (maxL := 6) (ret := (some .int)) (by decide) rfl ?_
  intro p e s m args below meth c s₁ B hml hv
  obtain ⟨rfl, hP, hK, hA, hV⟩ := hv
  have hx := B.exec
  have hb := B.bytes
  have hr := B.returns
  have hts := atoms_spec (ws := wsX9_sum) B.pre
  have hown : s.vm.findClass RX9 = some m.cls := findClass_of_methodNamed B.named
  have hlocks := B.notSynchronized
  have hS : va_S A s.heap s.heap [] := va_S.rf
  have hinJ : ∀ w ∈ wsX10 ++ wsX30 ++ wsX40 ++ wsX50, w ∈ wsX9_sum := by decide +kernel
  have hF : cF (fun b9 => b9 = xj ∨ b9 = sj) ws ws := cF.rf
  have hl := lv_entry ([.ref o, .int j, .int way, .int line, .int v]) (n := 6) (Nat.le_of_ble_eq_true rfl)
  rw [lg_entry_eq]
  generalize (lg_sl ([.ref o, .int j, .int way, .int line, .int v]) ++ List.replicate (6 - (lg_sl ([.ref o, .int j, .int way, .int line, .int v])).length) Slot.unset).toArray = ls at hl ⊢
  have hl : lv_has ls 6 [(0, .ref o), (1, .int j), (2, .int way), (3, .int line), (4, .int v)] := hl
  have k_m1 : (-1 : Int32).toInt = -1 := by decide
  have k_0 : (0 : Int32).toInt = 0 := by decide
  have k_6 : (6 : Int32).toInt = 6 := by decide
  obtain ⟨hjc_o, hlc_o, hG_bs_o, hG_js_o, hG_sh_o, hG_wk_o, hmo_o, hG_ll_o, hlb_o⟩ := w7sh hD hT hG_o hM_o
  have hf_js_o := w9sh hD hT hG_js_o hM_js_o
  refine lv_aload_n hx hb dX9_sum_0 rfl (lv_at hl 0 rfl) ?_
  refine lv_iload_n hx hb dX9_sum_1 rfl (lv_at hl 1 rfl) ?_
  refine t_calla (va_runV (g := F0 m 2 ls ([.int j, .ref o])) (As := [.int j]) (rest := []) ⟨hx, hb, hml, hown, hts⟩ (c_X9_jobOf_j l D cy A G ws o j hD hT hG_o hM_o hM_js_o hJ1) (cwV 1 hts gX9_sum_X9_jobOf rfl rfl rfl (by decide +kernel) ⟨Nat.le_of_ble_eq_true rfl, Nat.le_of_ble_eq_true rfl⟩) (c_preV hM_o rfl hP hK hA hS hV) rfl rfl hl.1 rfl (lv_room (Nat.le_of_ble_eq_true rfl)) dX9_sum_2 ⟨Nat.le_of_ble_eq_true rfl, Nat.le_of_ble_eq_true rfl⟩) hS (fun r2 u H locs q2 hP9 hD9 hT9 hS => ?_)
  obtain ⟨rfl, q2⟩ := q2
  have hP : va_P D vwCl ws H := hP9
  rcases r2 with _ | x2
  · skip
    have vn2 := q2.2 rfl
    refine lv_astoreN (lv' := [(5, .null), (0, .ref o), (1, .int j), (2, .int way), (3, .int line), (4, .int v)]) hx hb dX9_sum_5 hl (by decide) rfl (fun ls hl => ?_)
    refine lv_aloadN hx hb dX9_sum_7 (lv_at hl 0 rfl) ?_
    refine lv_ifnullN (tgt := 37) hx hb dX9_sum_9 (by decide) ?_
    refine lv_iconst (v := (-1)) hx hb dX9_sum_37 (by decide) ?_
    exact W.iret (v := ((-1) : Int32)) hx hb hr (fun t ht hW => ⟨⟨_, (G, ws), rfl, ⟨ws, rfl, hF, (Or.inr ⟨(fun z9 => by first | exact vn2 z9.1 | (have z7 := z9.2.1; unfold okL at z7; have z8 := cL9 z7.1.1; have z6 := z9.2.2; omega)), rfl, rfl⟩)⟩, by show va_P D vwCl ws t.heap; rw [ht]; exact hP, hD, hT⟩, hS.F ht⟩) hS.2.2 dX9_sum_38
  · skip
    obtain ⟨vj2, fj2⟩ := q2.1 x2 rfl
    obtain ⟨hfa9, hG_xj, hb9, ht9, hM_xj, hM_sj⟩ := hJ vj2
    obtain rfl : xj = x2 := Option.some.inj (hfa9.symm.trans fj2)
    obtain ⟨hG_bj, hG_sj, hJ_xj⟩ := w3sh hD hT hG_xj hb9 hM_xj
    refine lv_astore (lv' := [(5, .ref xj), (0, .ref o), (1, .int j), (2, .int way), (3, .int line), (4, .int v)]) hx hb dX9_sum_5 hl (by decide) rfl (fun ls hl => ?_)
    refine lv_aload hx hb dX9_sum_7 (lv_at hl 0 rfl) ?_
    refine lv_ifnull hx hb dX9_sum_9 ?_
    refine lv_aload hx hb dX9_sum_12 (lv_at hl 0 rfl) ?_
    refine t_getJ (v := .ref bj) hx hb hts hinJ hown hK hP hJ_xj.kc hM_xj 0 (by decide) (hts (.fieldLink RX9 65 "ShadowBench$Job" "board" "LShadowBench$Board;") (by decide +kernel)) (fun _ h9 => h9) rfl dX9_sum_14 ?_
    refine lv_iload_n hx hb dX9_sum_17 rfl (lv_at hl 3 rfl) ?_
    refine lv_iload_n hx hb dX9_sum_18 rfl (lv_at hl 4 rfl) ?_
    obtain ⟨_, hM_bj, hb_bj, l_bj, f_bj, r_bj, rfl, hG_l_bj, hG_f_bj, hG_r_bj⟩ := hT _ _ hG_bj
    refine t_calli (va_runV (g := F0 m 19 ls ([.int line, .int way, .ref bj])) (As := [.int way, .int line]) (rest := []) ⟨hx, hb, hml, hown, hts⟩ (c_X0_isLine l D cy A G ws bj way line hD hT hG_bj ) (cwV 2 hts gX9_sum_X0_isLine rfl rfl rfl (by decide +kernel) ⟨Nat.le_of_ble_eq_true rfl, Nat.le_of_ble_eq_true rfl⟩) (c_preV hM_bj rfl hP hK hA hS hV) rfl rfl hl.1 rfl (lv_room (Nat.le_of_ble_eq_true rfl)) dX9_sum_19 ⟨Nat.le_of_ble_eq_true rfl, Nat.le_of_ble_eq_true rfl⟩) hS (fun r19 u H locs q19 hP9 hD9 hT9 hS => ?_)
    obtain ⟨rfl, q19⟩ := q19
    have hP : va_P D vwCl ws H := hP9
    have cL9 := fun z9 : 0 ≤ way.toInt => cLn hb9 (way := way) z9
    refine lv_if_eq (tgt := 37) hx hb dX9_sum_22 (by decide) (fun c22 => ?_) (fun c22 => ?_)
    · skip
      have b22 := bo_f q19 c22
      refine lv_iconst (v := (-1)) hx hb dX9_sum_37 (by decide) ?_
      exact W.iret (v := ((-1) : Int32)) hx hb hr (fun t ht hW => ⟨⟨_, (G, ws), rfl, ⟨ws, rfl, hF, (Or.inr ⟨(fun z9 => by first | exact vn2 z9.1 | (have z7 := z9.2.1; unfold okL at z7; have z8 := cL9 z7.1.1; have z6 := z9.2.2; omega)), rfl, rfl⟩)⟩, by show va_P D vwCl ws t.heap; rw [ht]; exact hP, hD, hT⟩, hS.F ht⟩) hS.2.2 dX9_sum_38
    · skip
      have b22 := bo_t q19 c22
      refine lv_iload hx hb dX9_sum_25 (lv_at hl 5 rfl) ?_
      refine lv_if_lt (tgt := 37) hx hb dX9_sum_27 (by decide) (fun c27 => ?_) (fun c27 => ?_)
      · skip
        have d27 := c27
        rw [fa_lt] at d27
        refine lv_iconst (v := (-1)) hx hb dX9_sum_37 (by decide) ?_
        exact W.iret (v := ((-1) : Int32)) hx hb hr (fun t ht hW => ⟨⟨_, (G, ws), rfl, ⟨ws, rfl, hF, (Or.inr ⟨(fun z9 => by first | exact vn2 z9.1 | (have z7 := z9.2.1; unfold okL at z7; have z8 := cL9 z7.1.1; have z6 := z9.2.2; omega)), rfl, rfl⟩)⟩, by show va_P D vwCl ws t.heap; rw [ht]; exact hP, hD, hT⟩, hS.F ht⟩) hS.2.2 dX9_sum_38
      · skip
        have d27 := c27
        rw [fa_lt] at d27
        refine lv_iload hx hb dX9_sum_30 (lv_at hl 5 rfl) ?_
        refine lv_bipush (v := 6) hx hb dX9_sum_32 (by decide) ?_
        refine lv_icmp_le (tgt := 39) hx hb dX9_sum_34 (by decide) (fun c34 => ?_) (fun c34 => ?_)
        · skip
          have d34 := c34
          rw [fa_le] at d34
          refine lv_aload hx hb dX9_sum_39 (lv_at hl 0 rfl) ?_
          refine lv_iload_n hx hb dX9_sum_41 rfl (lv_at hl 3 rfl) ?_
          refine lv_iload_n hx hb dX9_sum_42 rfl (lv_at hl 4 rfl) ?_
          refine lv_iload hx hb dX9_sum_43 (lv_at hl 5 rfl) ?_
          refine t_callv (t_runJ (g := F0 m 45 ls ([.int v, .int line, .int way, .ref xj])) (As := [.int way, .int line, .int v]) (rest := []) ⟨hx, hb, hml, hown, hts⟩ (c_X3_tellLine_x l D cy A G ws xj way line v hD hT hG_xj hM_xj hM_sj hb9 ht9 (by have z8 := cL9 (by omega); unfold okL; omega)) (va_cwU 3 hts gX9_sum_X3_tellLine_u72X1 rfl rfl rfl rfl (by decide +kernel) ⟨Nat.le_of_ble_eq_true rfl, Nat.le_of_ble_eq_true rfl⟩) (cwV 3 hts gX9_sum_X3_tellLine rfl rfl rfl (by decide +kernel) ⟨Nat.le_of_ble_eq_true rfl, Nat.le_of_ble_eq_true rfl⟩) (va_cwU 3 hts gX9_sum_X3_tellLine_u72X4 rfl rfl rfl rfl (by decide +kernel) ⟨Nat.le_of_ble_eq_true rfl, Nat.le_of_ble_eq_true rfl⟩) (va_cwU 3 hts gX9_sum_X3_tellLine_u72X5 rfl rfl rfl rfl (by decide +kernel) ⟨Nat.le_of_ble_eq_true rfl, Nat.le_of_ble_eq_true rfl⟩) hJ_xj.kc hM_xj hP hK c_blind (c_preS hP hK hA hS hV).2 rfl rfl hl.1 rfl (lv_room (Nat.le_of_ble_eq_true rfl)) dX9_sum_45 ⟨Nat.le_of_ble_eq_true rfl, Nat.le_of_ble_eq_true rfl⟩) hS (fun u H locs q45 hP9 hD9 hT9 hS => ?_)
          obtain ⟨w45, rfl, hF45, q45⟩ := q45
          have hP : va_P D vwCl w45 H := hP9
          have hD : va_D A w45 := hD9
          have hT : cT cy G w45 := hT9
          have hM_o := hF45 _ _ (fun z9 => z9.elim (cne hG_o hG_xj (show (7 : Nat) ≠ 3 by decide)) (cne hG_o hG_sj (show (7 : Nat) ≠ 14 by decide))) hM_o
          have hM_js_o := hF45 _ _ (fun z9 => z9.elim (cne hG_js_o hG_xj (show (9 : Nat) ≠ 3 by decide)) (cne hG_js_o hG_sj (show (9 : Nat) ≠ 14 by decide))) hM_js_o
          have hM_bj := hF45 _ _ (fun z9 => z9.elim (cne hG_bj hG_xj (show (2 : Nat) ≠ 3 by decide)) (cne hG_bj hG_sj (show (2 : Nat) ≠ 14 by decide))) hM_bj
          have hF := hF.tr hF45
          have hM_xj : cIn w45 xj (.inr (kj, .ref bj :: .ref sj :: .int (nI (tU tj way.toNatClampNeg)) :: .long oj :: .long nj :: msj)) := q45.1
          have hM_sj : cIn w45 sj (.inl (cy 0, 44, .inl (upd fsj (way.toNatClampNeg * 11 + line.toNatClampNeg) v))) := q45.2
          refine lv_iconst (v := 0) hx hb dX9_sum_48 (by decide) ?_
          exact W.iret (v := (0 : Int32)) hx hb hr (fun t ht hW => ⟨⟨_, (G, w45), rfl, ⟨w45, rfl, hF, (Or.inl ⟨⟨vj2, (by have z8 := cL9 (by omega); unfold okL; omega), (by omega)⟩, rfl, hM_xj, hM_sj⟩)⟩, by show va_P D vwCl w45 t.heap; rw [ht]; exact hP, hD, hT⟩, hS.F ht⟩) hS.2.2 dX9_sum_49
        · skip
          have d34 := c34
          rw [fa_le] at d34
          refine lv_iconst (v := (-1)) hx hb dX9_sum_37 (by decide) ?_
          exact W.iret (v := ((-1) : Int32)) hx hb hr (fun t ht hW => ⟨⟨_, (G, ws), rfl, ⟨ws, rfl, hF, (Or.inr ⟨(fun z9 => by first | exact vn2 z9.1 | (have z7 := z9.2.1; unfold okL at z7; have z8 := cL9 z7.1.1; have z6 := z9.2.2; omega)), rfl, rfl⟩)⟩, by show va_P D vwCl ws t.heap; rw [ht]; exact hP, hD, hT⟩, hS.F ht⟩) hS.2.2 dX9_sum_38
set_option maxHeartbeats 4000000 in
set_option maxRecDepth 100000 in
theorem c_X9_cast_j (l : Launch) (D : va_G) (cy : Nat → ClassId) (A : Nat → Prop) (G : cG) (ws : va_W) (o : Nat) (j : Int32) (way : Int32) (p0 : Int64) {bs_o js_o sh_o wk_o ll_o : Nat} {jc_o lc_o : Int32} {mo_o lb_o : Option Nat} {fa : Nat → Option Nat} {xj kj bj sj tj wj hj : Nat} {oj nj : Int64} {msj : List Value} {fsj : Nat → Int32} (hD : va_D A ws) (hT : cT cy G ws) (hG_o : G o = some (7, 0, 0)) (hM_o : cIn ws o (.inr (8, [.ref bs_o, .ref js_o, .int jc_o, .ref sh_o, .ref wk_o, va_rf mo_o, .ref ll_o, .int lc_o, va_rf lb_o]))) (hM_js_o : cIn ws js_o (.inl (cy 4, cqa 8 fa))) (hJ1 : ∀ i : Nat, (i : Int) < jc_o.toInt → ∃ x, fa i = some x) (hJ : okJob jc_o j → jobS cy G ws fa j.toNatClampNeg xj kj bj sj tj wj hj oj nj msj fsj) : Ci l D cy A yX9_cast wsX9_cast ({ frames := 4, cells := 0, slots := 0, locals := 90 }) 0 0 ws [.ref o, .int j, .int way, .long p0] (fun r0 u => ∃ w1, u = (G, w1) ∧ cF (fun b9 => b9 = xj ∨ b9 = sj) ws w1 ∧ ((okCast9 jc_o wj hj j way p0 ∧ r0 = nI (bs (lb p0) 36) ∧ cIn w1 xj (.inr (kj, .ref bj :: .ref sj :: .int (nI (tU tj way.toNatClampNeg)) :: .long oj :: .long nj :: msj)) ∧ cIn w1 sj (.inl (cy 0, 44, .inl (setL fsj way.toNatClampNeg (fun l => nI (shN wj hj p0 way.toNatClampNeg l)) (lnC wj hj way.toNatClampNeg))))) ∨ (¬ okCast9 jc_o wj hj j way p0 ∧ r0 = -1 ∧ w1 = ws))) := by
  refine Met.ofW (cc := cX9_cast) (maxL := 6) (ret := (some .int)) (by decide) rfl ?_
  intro p e s m args below meth c s₁ B hml hv
  obtain ⟨rfl, hP, hK, hA, hV⟩ := hv
  have hx := B.exec
  have hb := B.bytes
  have hr := B.returns
  have hts := atoms_spec (ws := wsX9_cast) B.pre
  have hown : s.vm.findClass RX9 = some m.cls := findClass_of_methodNamed B.named
  have hlocks := B.notSynchronized
  have hS : va_S A s.heap s.heap [] := va_S.rf
  have hinJ : ∀ w ∈ wsX10 ++ wsX30 ++ wsX40 ++ wsX50, w ∈ wsX9_cast := by decide +kernel
  have hF : cF (fun b9 => b9 = xj ∨ b9 = sj) ws ws := cF.rf
  have hl := lv_entry ([.ref o, .int j, .int way, .long p0]) (n := 6) (Nat.le_of_ble_eq_true rfl)
  rw [lg_entry_eq]
  generalize (lg_sl ([.ref o, .int j, .int way, .long p0]) ++ List.replicate (6 - (lg_sl ([.ref o, .int j, .int way, .long p0])).length) Slot.unset).toArray = ls at hl ⊢
  have hl : lv_has ls 6 [(0, .ref o), (1, .int j), (2, .int way), (3, .long p0)] := hl
  have k_m1 : (-1 : Int32).toInt = -1 := by decide
  have k_0 : (0 : Int32).toInt = 0 := by decide
  obtain ⟨hjc_o, hlc_o, hG_bs_o, hG_js_o, hG_sh_o, hG_wk_o, hmo_o, hG_ll_o, hlb_o⟩ := w7sh hD hT hG_o hM_o
  have hf_js_o := w9sh hD hT hG_js_o hM_js_o
  refine lv_aload_n hx hb dX9_cast_0 rfl (lv_at hl 0 rfl) ?_
  refine lv_iload_n hx hb dX9_cast_1 rfl (lv_at hl 1 rfl) ?_
  refine t_calla (va_runV (g := F0 m 2 ls ([.int j, .ref o])) (As := [.int j]) (rest := []) ⟨hx, hb, hml, hown, hts⟩ (c_X9_jobOf_j l D cy A G ws o j hD hT hG_o hM_o hM_js_o hJ1) (cwV 1 hts gX9_cast_X9_jobOf rfl rfl rfl (by decide +kernel) ⟨Nat.le_of_ble_eq_true rfl, Nat.le_of_ble_eq_true rfl⟩) (c_preV hM_o rfl hP hK hA hS hV) rfl rfl hl.1 rfl (lv_room (Nat.le_of_ble_eq_true rfl)) dX9_cast_2 ⟨Nat.le_of_ble_eq_true rfl, Nat.le_of_ble_eq_true rfl⟩) hS (fun r2 u H locs q2 hP9 hD9 hT9 hS => ?_)
  obtain ⟨rfl, q2⟩ := q2
  have hP : va_P D vwCl ws H := hP9
  rcases r2 with _ | x2
  · skip
    have vn2 := q2.2 rfl
    refine lv_astoreN (lv' := [(5, .null), (0, .ref o), (1, .int j), (2, .int way), (3, .long p0)]) hx hb dX9_cast_5 hl (by decide) rfl (fun ls hl => ?_)
    refine lv_aloadN hx hb dX9_cast_7 (lv_at hl 0 rfl) ?_
    refine lv_ifnullN (tgt := 31) hx hb dX9_cast_9 (by decide) ?_
    refine lv_iconst (v := (-1)) hx hb dX9_cast_31 (by decide) ?_
    exact W.iret (v := ((-1) : Int32)) hx hb hr (fun t ht hW => ⟨⟨_, (G, ws), rfl, ⟨ws, rfl, hF, (Or.inr ⟨(fun z9 => by first | exact vn2 z9.1 | exact b28 z9.2.2 | (have z7 := z9.2.1; omega)), rfl, rfl⟩)⟩, by show va_P D vwCl ws t.heap; rw [ht]; exact hP, hD, hT⟩, hS.F ht⟩) hS.2.2 dX9_cast_32
  · skip
    obtain ⟨vj2, fj2⟩ := q2.1 x2 rfl
    obtain ⟨hfa9, hG_xj, hb9, ht9, hM_xj, hM_sj⟩ := hJ vj2
    obtain rfl : xj = x2 := Option.some.inj (hfa9.symm.trans fj2)
    obtain ⟨hG_bj, hG_sj, hJ_xj⟩ := w3sh hD hT hG_xj hb9 hM_xj
    refine lv_astore (lv' := [(5, .ref xj), (0, .ref o), (1, .int j), (2, .int way), (3, .long p0)]) hx hb dX9_cast_5 hl (by decide) rfl (fun ls hl => ?_)
    refine lv_aload hx hb dX9_cast_7 (lv_at hl 0 rfl) ?_
    refine lv_ifnull hx hb dX9_cast_9 ?_
    refine lv_iload_n hx hb dX9_cast_12 rfl (lv_at hl 3 rfl) ?_
    refine t_pu (As := [.int way]) (rest := []) ⟨hx, hb, hml, hown, hts⟩ (c_X9_isWay l way ) (va_cwS 1 hts gX9_cast_X9_isWay rfl rfl rfl (by decide +kernel) ⟨Nat.le_of_ble_eq_true rfl, Nat.le_of_ble_eq_true rfl⟩) hP rfl hl.1 rfl (Nat.le_of_ble_eq_true rfl) dX9_cast_13 ⟨Nat.le_of_ble_eq_true rfl, Nat.le_of_ble_eq_true rfl⟩ hS (fun r13 H locs q13 hP hS => ?_)
    refine lv_if_eq (tgt := 31) hx hb dX9_cast_16 (by decide) (fun c16 => ?_) (fun c16 => ?_)
    · skip
      have b16 := bo_f q13 c16
      refine lv_iconst (v := (-1)) hx hb dX9_cast_31 (by decide) ?_
      exact W.iret (v := ((-1) : Int32)) hx hb hr (fun t ht hW => ⟨⟨_, (G, ws), rfl, ⟨ws, rfl, hF, (Or.inr ⟨(fun z9 => by first | exact vn2 z9.1 | exact b28 z9.2.2 | (have z7 := z9.2.1; omega)), rfl, rfl⟩)⟩, by show va_P D vwCl ws t.heap; rw [ht]; exact hP, hD, hT⟩, hS.F ht⟩) hS.2.2 dX9_cast_32
    · skip
      have b16 := bo_t q13 c16
      refine lv_aload hx hb dX9_cast_19 (lv_at hl 0 rfl) ?_
      refine t_getJ (v := .ref bj) hx hb hts hinJ hown hK hP hJ_xj.kc hM_xj 0 (by decide) (hts (.fieldLink RX9 65 "ShadowBench$Job" "board" "LShadowBench$Board;") (by decide +kernel)) (fun _ h9 => h9) rfl dX9_cast_21 ?_
      refine lv_lload_n hx hb dX9_cast_24 rfl (lv_at hl 4 rfl) ?_
      obtain ⟨_, hM_bj, hb_bj, l_bj, f_bj, r_bj, rfl, hG_l_bj, hG_f_bj, hG_r_bj⟩ := hT _ _ hG_bj
      refine t_calli (va_runV (g := F0 m 25 ls ([.long p0, .ref bj])) (As := [.long p0]) (rest := []) ⟨hx, hb, hml, hown, hts⟩ (c_X0_isPicture_x l D cy A G ws bj p0 hD hT hG_bj ) (cwV 1 hts gX9_cast_X0_isPicture rfl rfl rfl (by decide +kernel) ⟨Nat.le_of_ble_eq_true rfl, Nat.le_of_ble_eq_true rfl⟩) (c_preV hM_bj rfl hP hK hA hS hV) rfl rfl hl.1 rfl (lv_room (Nat.le_of_ble_eq_true rfl)) dX9_cast_25 ⟨Nat.le_of_ble_eq_true rfl, Nat.le_of_ble_eq_true rfl⟩) hS (fun r25 u H locs q25 hP9 hD9 hT9 hS => ?_)
      obtain ⟨rfl, q25⟩ := q25
      have hP : va_P D vwCl ws H := hP9
      have m36 := cb_mul hb9
      refine lv_if_ne (tgt := 33) hx hb dX9_cast_28 (by decide) (fun c28 => ?_) (fun c28 => ?_)
      · skip
        have b28 := bo_t q25 c28
        refine lv_aload hx hb dX9_cast_33 (lv_at hl 0 rfl) ?_
        refine lv_iload_n hx hb dX9_cast_35 rfl (lv_at hl 3 rfl) ?_
        refine lv_lload_n hx hb dX9_cast_36 rfl (lv_at hl 4 rfl) ?_
        refine t_callv (t_runJ (g := F0 m 37 ls ([.long p0, .int way, .ref xj])) (As := [.int way, .long p0]) (rest := []) ⟨hx, hb, hml, hown, hts⟩ (c_X3_tellShadow_x l D cy A G ws xj way p0 hD hT hG_xj hM_xj hM_sj hb9 ht9 (by omega)) (va_cwU 2 hts gX9_cast_X3_tellShadow_u84X1 rfl rfl rfl rfl (by decide +kernel) ⟨Nat.le_of_ble_eq_true rfl, Nat.le_of_ble_eq_true rfl⟩) (cwV 2 hts gX9_cast_X3_tellShadow rfl rfl rfl (by decide +kernel) ⟨Nat.le_of_ble_eq_true rfl, Nat.le_of_ble_eq_true rfl⟩) (va_cwU 2 hts gX9_cast_X3_tellShadow_u84X4 rfl rfl rfl rfl (by decide +kernel) ⟨Nat.le_of_ble_eq_true rfl, Nat.le_of_ble_eq_true rfl⟩) (va_cwU 2 hts gX9_cast_X3_tellShadow_u84X5 rfl rfl rfl rfl (by decide +kernel) ⟨Nat.le_of_ble_eq_true rfl, Nat.le_of_ble_eq_true rfl⟩) hJ_xj.kc hM_xj hP hK c_blind (c_preS hP hK hA hS hV).2 rfl rfl hl.1 rfl (lv_room (Nat.le_of_ble_eq_true rfl)) dX9_cast_37 ⟨Nat.le_of_ble_eq_true rfl, Nat.le_of_ble_eq_true rfl⟩) hS (fun u H locs q37 hP9 hD9 hT9 hS => ?_)
        obtain ⟨w37, rfl, hF37, q37⟩ := q37
        have hP : va_P D vwCl w37 H := hP9
        have hD : va_D A w37 := hD9
        have hT : cT cy G w37 := hT9
        have hM_o := hF37 _ _ (fun z9 => z9.elim (cne hG_o hG_xj (show (7 : Nat) ≠ 3 by decide)) (cne hG_o hG_sj (show (7 : Nat) ≠ 14 by decide))) hM_o
        have hM_js_o := hF37 _ _ (fun z9 => z9.elim (cne hG_js_o hG_xj (show (9 : Nat) ≠ 3 by decide)) (cne hG_js_o hG_sj (show (9 : Nat) ≠ 14 by decide))) hM_js_o
        have hM_bj := hF37 _ _ (fun z9 => z9.elim (cne hG_bj hG_xj (show (2 : Nat) ≠ 3 by decide)) (cne hG_bj hG_sj (show (2 : Nat) ≠ 14 by decide))) hM_bj
        have hF := hF.tr hF37
        have hM_xj : cIn w37 xj (.inr (kj, .ref bj :: .ref sj :: .int (nI (tU tj way.toNatClampNeg)) :: .long oj :: .long nj :: msj)) := q37.1
        have hM_sj : cIn w37 sj (.inl (cy 0, 44, .inl (setL fsj way.toNatClampNeg (fun l => nI (shN wj hj p0 way.toNatClampNeg l)) (lnC wj hj way.toNatClampNeg)))) := q37.2
        refine lv_lload_n hx hb dX9_cast_40 rfl (lv_at hl 4 rfl) ?_
        refine t_pu (As := [.long p0]) (rest := []) ⟨hx, hb, hml, hown, hts⟩ (c_J13_x l p0 ) (va_cwS 1 hts gX9_cast_J13_bitCount_95d88 rfl rfl rfl (by decide +kernel) ⟨Nat.le_of_ble_eq_true rfl, Nat.le_of_ble_eq_true rfl⟩) hP rfl hl.1 rfl (Nat.le_of_ble_eq_true rfl) dX9_cast_41 ⟨Nat.le_of_ble_eq_true rfl, Nat.le_of_ble_eq_true rfl⟩ hS (fun r41 H locs q41 hP hS => ?_)
        exact W.iret (v := r41) hx hb hr (fun t ht hW => ⟨⟨_, (G, w37), rfl, ⟨w37, rfl, hF, (Or.inl ⟨⟨vj2, (by omega), b28⟩, (by rw [q41, bs_36 m36.2 b28]), hM_xj, hM_sj⟩)⟩, by show va_P D vwCl w37 t.heap; rw [ht]; exact hP, hD, hT⟩, hS.F ht⟩) hS.2.2 dX9_cast_44
      · skip
        have b28 := bo_f q25 c28
        refine lv_iconst (v := (-1)) hx hb dX9_cast_31 (by decide) ?_
        exact W.iret (v := ((-1) : Int32)) hx hb hr (fun t ht hW => ⟨⟨_, (G, ws), rfl, ⟨ws, rfl, hF, (Or.inr ⟨(fun z9 => by first | exact vn2 z9.1 | exact b28 z9.2.2 | (have z7 := z9.2.1; omega)), rfl, rfl⟩)⟩, by show va_P D vwCl ws t.heap; rw [ht]; exact hP, hD, hT⟩, hS.F ht⟩) hS.2.2 dX9_cast_32
set_option maxHeartbeats 4000000 in
set_option maxRecDepth 100000 in
theorem c_X9_untell_j (l : Launch) (D : va_G) (cy : Nat → ClassId) (A : Nat → Prop) (G : cG) (ws : va_W) (o : Nat) (j : Int32) (way : Int32) {bs_o js_o sh_o wk_o ll_o : Nat} {jc_o lc_o : Int32} {mo_o lb_o : Option Nat} {fa : Nat → Option Nat} {xj kj bj sj tj wj hj : Nat} {oj nj : Int64} {msj : List Value} {fsj : Nat → Int32} (hD : va_D A ws) (hT : cT cy G ws) (hG_o : G o = some (7, 0, 0)) (hM_o : cIn ws o (.inr (8, [.ref bs_o, .ref js_o, .int jc_o, .ref sh_o, .ref wk_o, va_rf mo_o, .ref ll_o, .int lc_o, va_rf lb_o]))) (hM_js_o : cIn ws js_o (.inl (cy 4, cqa 8 fa))) (hJ1 : ∀ i : Nat, (i : Int) < jc_o.toInt → ∃ x, fa i = some x) (hJ : okJob jc_o j → jobS cy G ws fa j.toNatClampNeg xj kj bj sj tj wj hj oj nj msj fsj) : Ci l D cy A yX9_untell wsX9_untell ({ frames := 4, cells := 0, slots := 0, locals := 88 }) 0 0 ws [.ref o, .int j, .int way] (fun r0 u => ∃ w1, u = (G, w1) ∧ cF (fun b9 => b9 = xj ∨ b9 = sj) ws w1 ∧ ((okUn9 jc_o j way ∧ r0 = (if tB tj way.toNatClampNeg then 1 else 0) ∧ cIn w1 xj (.inr (kj, .ref bj :: .ref sj :: .int (nI (tD tj way.toNatClampNeg)) :: .long oj :: .long nj :: msj)) ∧ cIn w1 sj (.inl (cy 0, 44, .inl (setL fsj way.toNatClampNeg (fun _ => 0) (lnC wj hj way.toNatClampNeg))))) ∨ (¬ okUn9 jc_o j way ∧ r0 = -1 ∧ w1 = ws))) := by
  refine Met.ofW (cc := cX9_untell) (maxL := 5) (ret := (some .int)) (by decide) rfl ?_
  intro p e s m args below meth c s₁ B hml hv
  obtain ⟨rfl, hP, hK, hA, hV⟩ := hv
  have hx := B.exec
  have hb := B.bytes
  have hr := B.returns
  have hts := atoms_spec (ws := wsX9_untell) B.pre
  have hown : s.vm.findClass RX9 = some m.cls := findClass_of_methodNamed B.named
  have hlocks := B.notSynchronized
  have hS : va_S A s.heap s.heap [] := va_S.rf
  have hF : cF (fun b9 => b9 = xj ∨ b9 = sj) ws ws := cF.rf
  have hl := lv_entry ([.ref o, .int j, .int way]) (n := 5) (Nat.le_of_ble_eq_true rfl)
  rw [lg_entry_eq]
  generalize (lg_sl ([.ref o, .int j, .int way]) ++ List.replicate (5 - (lg_sl ([.ref o, .int j, .int way])).length) Slot.unset).toArray = ls at hl ⊢
  have hl : lv_has ls 5 [(0, .ref o), (1, .int j), (2, .int way)] := hl
  have k_m1 : (-1 : Int32).toInt = -1 := by decide
  have k_0 : (0 : Int32).toInt = 0 := by decide
  have k_1 : (1 : Int32).toInt = 1 := by decide
  have k_2 : (2 : Int32).toInt = 2 := by decide
  obtain ⟨hjc_o, hlc_o, hG_bs_o, hG_js_o, hG_sh_o, hG_wk_o, hmo_o, hG_ll_o, hlb_o⟩ := w7sh hD hT hG_o hM_o
  have hf_js_o := w9sh hD hT hG_js_o hM_js_o
  refine lv_aload_n hx hb dX9_untell_0 rfl (lv_at hl 0 rfl) ?_
  refine lv_iload_n hx hb dX9_untell_1 rfl (lv_at hl 1 rfl) ?_
  refine t_calla (va_runV (g := F0 m 2 ls ([.int j, .ref o])) (As := [.int j]) (rest := []) ⟨hx, hb, hml, hown, hts⟩ (c_X9_jobOf_j l D cy A G ws o j hD hT hG_o hM_o hM_js_o hJ1) (cwV 1 hts gX9_untell_X9_jobOf rfl rfl rfl (by decide +kernel) ⟨Nat.le_of_ble_eq_true rfl, Nat.le_of_ble_eq_true rfl⟩) (c_preV hM_o rfl hP hK hA hS hV) rfl rfl hl.1 rfl (lv_room (Nat.le_of_ble_eq_true rfl)) dX9_untell_2 ⟨Nat.le_of_ble_eq_true rfl, Nat.le_of_ble_eq_true rfl⟩) hS (fun r2 u H locs q2 hP9 hD9 hT9 hS => ?_)
  obtain ⟨rfl, q2⟩ := q2
  have hP : va_P D vwCl ws H := hP9
  rcases r2 with _ | x2
  · skip
    have vn2 := q2.2 rfl
    refine lv_astore_nN (lv' := [(3, .null), (0, .ref o), (1, .int j), (2, .int way)]) hx hb dX9_untell_5 rfl hl (by decide) rfl (fun ls hl => ?_)
    refine lv_aload_nN hx hb dX9_untell_6 rfl (lv_at hl 0 rfl) ?_
    refine lv_ifnullN (tgt := 22) hx hb dX9_untell_7 (by decide) ?_
    refine lv_iconst (v := (-1)) hx hb dX9_untell_22 (by decide) ?_
    exact W.iret (v := ((-1) : Int32)) hx hb hr (fun t ht hW => ⟨⟨_, (G, ws), rfl, ⟨ws, rfl, hF, (Or.inr ⟨(fun z9 => by first | exact vn2 z9.1 | (have z7 := z9.2; omega)), rfl, rfl⟩)⟩, by show va_P D vwCl ws t.heap; rw [ht]; exact hP, hD, hT⟩, hS.F ht⟩) hS.2.2 dX9_untell_23
  · skip
    obtain ⟨vj2, fj2⟩ := q2.1 x2 rfl
    obtain ⟨hfa9, hG_xj, hb9, ht9, hM_xj, hM_sj⟩ := hJ vj2
    obtain rfl : xj = x2 := Option.some.inj (hfa9.symm.trans fj2)
    obtain ⟨hG_bj, hG_sj, hJ_xj⟩ := w3sh hD hT hG_xj hb9 hM_xj
    refine lv_astore_n (lv' := [(3, .ref xj), (0, .ref o), (1, .int j), (2, .int way)]) hx hb dX9_untell_5 rfl hl (by decide) rfl (fun ls hl => ?_)
    refine lv_aload_n hx hb dX9_untell_6 rfl (lv_at hl 0 rfl) ?_
    refine lv_ifnull hx hb dX9_untell_7 ?_
    refine lv_iload_n hx hb dX9_untell_10 rfl (lv_at hl 3 rfl) ?_
    refine t_pu (As := [.int way]) (rest := []) ⟨hx, hb, hml, hown, hts⟩ (c_X9_isWay l way ) (va_cwS 1 hts gX9_untell_X9_isWay rfl rfl rfl (by decide +kernel) ⟨Nat.le_of_ble_eq_true rfl, Nat.le_of_ble_eq_true rfl⟩) hP rfl hl.1 rfl (Nat.le_of_ble_eq_true rfl) dX9_untell_11 ⟨Nat.le_of_ble_eq_true rfl, Nat.le_of_ble_eq_true rfl⟩ hS (fun r11 H locs q11 hP hS => ?_)
    refine lv_if_eq (tgt := 22) hx hb dX9_untell_14 (by decide) (fun c14 => ?_) (fun c14 => ?_)
    · skip
      have b14 := bo_f q11 c14
      refine lv_iconst (v := (-1)) hx hb dX9_untell_22 (by decide) ?_
      exact W.iret (v := ((-1) : Int32)) hx hb hr (fun t ht hW => ⟨⟨_, (G, ws), rfl, ⟨ws, rfl, hF, (Or.inr ⟨(fun z9 => by first | exact vn2 z9.1 | (have z7 := z9.2; omega)), rfl, rfl⟩)⟩, by show va_P D vwCl ws t.heap; rw [ht]; exact hP, hD, hT⟩, hS.F ht⟩) hS.2.2 dX9_untell_23
    · skip
      have b14 := bo_t q11 c14
      refine lv_iload_n hx hb dX9_untell_17 rfl (lv_at hl 3 rfl) ?_
      refine lv_iconst (v := 2) hx hb dX9_untell_18 (by decide) ?_
      refine lv_icmp_ge (tgt := 24) hx hb dX9_untell_19 (by decide) (fun c19 => ?_) (fun c19 => ?_)
      · skip
        have d19 := c19
        rw [fa_le] at d19
        refine lv_aload_n hx hb dX9_untell_24 rfl (lv_at hl 0 rfl) ?_
        refine lv_iload_n hx hb dX9_untell_25 rfl (lv_at hl 3 rfl) ?_
        refine t_calli (t_runJ (g := F0 m 26 ls ([.int way, .ref xj])) (As := [.int way]) (rest := []) ⟨hx, hb, hml, hown, hts⟩ (c_X3_isTold_x l D cy A G ws xj way hD hT hG_xj hM_xj hb9 ht9 (by omega)) (va_cwU 1 hts gX9_untell_X3_isTold_u94X1 rfl rfl rfl rfl (by decide +kernel) ⟨Nat.le_of_ble_eq_true rfl, Nat.le_of_ble_eq_true rfl⟩) (cwV 1 hts gX9_untell_X3_isTold rfl rfl rfl (by decide +kernel) ⟨Nat.le_of_ble_eq_true rfl, Nat.le_of_ble_eq_true rfl⟩) (va_cwU 1 hts gX9_untell_X3_isTold_u94X4 rfl rfl rfl rfl (by decide +kernel) ⟨Nat.le_of_ble_eq_true rfl, Nat.le_of_ble_eq_true rfl⟩) (va_cwU 1 hts gX9_untell_X3_isTold_u94X5 rfl rfl rfl rfl (by decide +kernel) ⟨Nat.le_of_ble_eq_true rfl, Nat.le_of_ble_eq_true rfl⟩) hJ_xj.kc hM_xj hP hK c_blind (c_preS hP hK hA hS hV).2 rfl rfl hl.1 rfl (lv_room (Nat.le_of_ble_eq_true rfl)) dX9_untell_26 ⟨Nat.le_of_ble_eq_true rfl, Nat.le_of_ble_eq_true rfl⟩) hS (fun r26 u H locs q26 hP9 hD9 hT9 hS => ?_)
        obtain ⟨rfl, q26⟩ := q26
        have hP : va_P D vwCl ws H := hP9
        refine lv_if_eq (tgt := 36) hx hb dX9_untell_29 (by decide) (fun c29 => ?_) (fun c29 => ?_)
        · skip
          have b29 := bo_f q26 c29
          refine lv_iconst (v := 0) hx hb dX9_untell_36 (by decide) ?_
          refine lv_istore (lv' := [(4, .int (0 : Int32)), (3, .ref xj), (0, .ref o), (1, .int j), (2, .int way)]) hx hb dX9_untell_37 hl (by decide) rfl (fun ls hl => ?_)
          refine lv_aload_n hx hb dX9_untell_39 rfl (lv_at hl 1 rfl) ?_
          refine lv_iload_n hx hb dX9_untell_40 rfl (lv_at hl 4 rfl) ?_
          refine t_callv (t_runJ (g := F0 m 41 ls ([.int way, .ref xj])) (As := [.int way]) (rest := []) ⟨hx, hb, hml, hown, hts⟩ (c_X3_forgetWay_x l D cy A G ws xj way hD hT hG_xj hM_xj hM_sj hb9 ht9 (by omega)) (va_cwU 1 hts gX9_untell_X3_forgetWay_u97X1 rfl rfl rfl rfl (by decide +kernel) ⟨Nat.le_of_ble_eq_true rfl, Nat.le_of_ble_eq_true rfl⟩) (cwV 1 hts gX9_untell_X3_forgetWay rfl rfl rfl (by decide +kernel) ⟨Nat.le_of_ble_eq_true rfl, Nat.le_of_ble_eq_true rfl⟩) (va_cwU 1 hts gX9_untell_X3_forgetWay_u97X4 rfl rfl rfl rfl (by decide +kernel) ⟨Nat.le_of_ble_eq_true rfl, Nat.le_of_ble_eq_true rfl⟩) (va_cwU 1 hts gX9_untell_X3_forgetWay_u97X5 rfl rfl rfl rfl (by decide +kernel) ⟨Nat.le_of_ble_eq_true rfl, Nat.le_of_ble_eq_true rfl⟩) hJ_xj.kc hM_xj hP hK c_blind (c_preS hP hK hA hS hV).2 rfl rfl hl.1 rfl (lv_room (Nat.le_of_ble_eq_true rfl)) dX9_untell_41 ⟨Nat.le_of_ble_eq_true rfl, Nat.le_of_ble_eq_true rfl⟩) hS (fun u H locs q41 hP9 hD9 hT9 hS => ?_)
          obtain ⟨w41, rfl, hF41, q41⟩ := q41
          have hP : va_P D vwCl w41 H := hP9
          have hD : va_D A w41 := hD9
          have hT : cT cy G w41 := hT9
          have hM_o := hF41 _ _ (fun z9 => z9.elim (cne hG_o hG_xj (show (7 : Nat) ≠ 3 by decide)) (cne hG_o hG_sj (show (7 : Nat) ≠ 14 by decide))) hM_o
          have hM_js_o := hF41 _ _ (fun z9 => z9.elim (cne hG_js_o hG_xj (show (9 : Nat) ≠ 3 by decide)) (cne hG_js_o hG_sj (show (9 : Nat) ≠ 14 by decide))) hM_js_o
          have hF := hF.tr hF41
          have hM_xj : cIn w41 xj (.inr (kj, .ref bj :: .ref sj :: .int (nI (tD tj way.toNatClampNeg)) :: .long oj :: .long nj :: msj)) := q41.1
          have hM_sj : cIn w41 sj (.inl (cy 0, 44, .inl (setL fsj way.toNatClampNeg (fun _ => 0) (lnC wj hj way.toNatClampNeg)))) := q41.2
          refine lv_iload hx hb dX9_untell_44 (lv_at hl 0 rfl) ?_
          exact W.iret (v := (0 : Int32)) hx hb hr (fun t ht hW => ⟨⟨_, (G, w41), rfl, ⟨w41, rfl, hF, (Or.inl ⟨⟨vj2, (by omega)⟩, (by first | (rw [if_pos b29]; done) | (rw [if_neg b29]; done)), hM_xj, hM_sj⟩)⟩, by show va_P D vwCl w41 t.heap; rw [ht]; exact hP, hD, hT⟩, hS.F ht⟩) hS.2.2 dX9_untell_46
        · skip
          have b29 := bo_t q26 c29
          refine lv_iconst (v := 1) hx hb dX9_untell_32 (by decide) ?_
          refine lv_goto (tgt := 37) hx hb dX9_untell_33 (by decide) ?_
          refine lv_istore (lv' := [(4, .int (1 : Int32)), (3, .ref xj), (0, .ref o), (1, .int j), (2, .int way)]) hx hb dX9_untell_37 hl (by decide) rfl (fun ls hl => ?_)
          refine lv_aload_n hx hb dX9_untell_39 rfl (lv_at hl 1 rfl) ?_
          refine lv_iload_n hx hb dX9_untell_40 rfl (lv_at hl 4 rfl) ?_
          refine t_callv (t_runJ (g := F0 m 41 ls ([.int way, .ref xj])) (As := [.int way]) (rest := []) ⟨hx, hb, hml, hown, hts⟩ (c_X3_forgetWay_x l D cy A G ws xj way hD hT hG_xj hM_xj hM_sj hb9 ht9 (by omega)) (va_cwU 1 hts gX9_untell_X3_forgetWay_u97X1 rfl rfl rfl rfl (by decide +kernel) ⟨Nat.le_of_ble_eq_true rfl, Nat.le_of_ble_eq_true rfl⟩) (cwV 1 hts gX9_untell_X3_forgetWay rfl rfl rfl (by decide +kernel) ⟨Nat.le_of_ble_eq_true rfl, Nat.le_of_ble_eq_true rfl⟩) (va_cwU 1 hts gX9_untell_X3_forgetWay_u97X4 rfl rfl rfl rfl (by decide +kernel) ⟨Nat.le_of_ble_eq_true rfl, Nat.le_of_ble_eq_true rfl⟩) (va_cwU 1 hts gX9_untell_X3_forgetWay_u97X5 rfl rfl rfl rfl (by decide +kernel) ⟨Nat.le_of_ble_eq_true rfl, Nat.le_of_ble_eq_true rfl⟩) hJ_xj.kc hM_xj hP hK c_blind (c_preS hP hK hA hS hV).2 rfl rfl hl.1 rfl (lv_room (Nat.le_of_ble_eq_true rfl)) dX9_untell_41 ⟨Nat.le_of_ble_eq_true rfl, Nat.le_of_ble_eq_true rfl⟩) hS (fun u H locs q41 hP9 hD9 hT9 hS => ?_)
          obtain ⟨w41, rfl, hF41, q41⟩ := q41
          have hP : va_P D vwCl w41 H := hP9
          have hD : va_D A w41 := hD9
          have hT : cT cy G w41 := hT9
          have hM_o := hF41 _ _ (fun z9 => z9.elim (cne hG_o hG_xj (show (7 : Nat) ≠ 3 by decide)) (cne hG_o hG_sj (show (7 : Nat) ≠ 14 by decide))) hM_o
          have hM_js_o := hF41 _ _ (fun z9 => z9.elim (cne hG_js_o hG_xj (show (9 : Nat) ≠ 3 by decide)) (cne hG_js_o hG_sj (show (9 : Nat) ≠ 14 by decide))) hM_js_o
          have hF := hF.tr hF41
          have hM_xj : cIn w41 xj (.inr (kj, .ref bj :: .ref sj :: .int (nI (tD tj way.toNatClampNeg)) :: .long oj :: .long nj :: msj)) := q41.1
          have hM_sj : cIn w41 sj (.inl (cy 0, 44, .inl (setL fsj way.toNatClampNeg (fun _ => 0) (lnC wj hj way.toNatClampNeg)))) := q41.2
          refine lv_iload hx hb dX9_untell_44 (lv_at hl 0 rfl) ?_
          exact W.iret (v := (1 : Int32)) hx hb hr (fun t ht hW => ⟨⟨_, (G, w41), rfl, ⟨w41, rfl, hF, (Or.inl ⟨⟨vj2, (by omega)⟩, (by first | (rw [if_pos b29]; done) | (rw [if_neg b29]; done)), hM_xj, hM_sj⟩)⟩, by show va_P D vwCl w41 t.heap; rw [ht]; exact hP, hD, hT⟩, hS.F ht⟩) hS.2.2 dX9_untell_46
      · skip
        have d19 := c19
        rw [fa_le] at d19
        refine lv_iconst (v := (-1)) hx hb dX9_untell_22 (by decide) ?_
        exact W.iret (v := ((-1) : Int32)) hx hb hr (fun t ht hW => ⟨⟨_, (G, ws), rfl, ⟨ws, rfl, hF, (Or.inr ⟨(fun z9 => by first | exact vn2 z9.1 | (have z7 := z9.2; omega)), rfl, rfl⟩)⟩, by show va_P D vwCl ws t.heap; rw [ht]; exact hP, hD, hT⟩, hS.F ht⟩) hS.2.2 dX9_untell_23
set_option maxHeartbeats 4000000 in
set_option maxRecDepth 100000 in
theorem c_X9_hold_j (l : Launch) (D : va_G) (cy : Nat → ClassId) (A : Nat → Prop) (G : cG) (ws : va_W) (o : Nat) (j : Int32) (s0 : Int32) (how : Int32) {bs_o js_o sh_o wk_o ll_o : Nat} {jc_o lc_o : Int32} {mo_o lb_o : Option Nat} {fa : Nat → Option Nat} {xj kj bj sj tj wj hj : Nat} {oj nj : Int64} {msj : List Value} {fsj : Nat → Int32} (hD : va_D A ws) (hT : cT cy G ws) (hG_o : G o = some (7, 0, 0)) (hM_o : cIn ws o (.inr (8, [.ref bs_o, .ref js_o, .int jc_o, .ref sh_o, .ref wk_o, va_rf mo_o, .ref ll_o, .int lc_o, va_rf lb_o]))) (hM_js_o : cIn ws js_o (.inl (cy 4, cqa 8 fa))) (hJ1 : ∀ i : Nat, (i : Int) < jc_o.toInt → ∃ x, fa i = some x) (hJ : okJob jc_o j → jobS cy G ws fa j.toNatClampNeg xj kj bj sj tj wj hj oj nj msj fsj) : Ci l D cy A yX9_hold wsX9_hold ({ frames := 1, cells := 0, slots := 0, locals := 24 }) 0 0 ws [.ref o, .int j, .int s0, .int how] (fun r0 u => ∃ w1, u = (G, w1) ∧ cF (fun b9 => b9 = xj) ws w1 ∧ ((okHold9 jc_o wj hj j s0 how ∧ r0 = hH oj nj s0.toNatClampNeg ∧ ∃ x1 y1, cIn w1 xj (.inr (kj, .ref bj :: .ref sj :: .int (nI tj) :: .long x1 :: .long y1 :: msj)) ∧ hO oj s0.toNatClampNeg (decide (how.toInt = 1)) x1 ∧ hO nj s0.toNatClampNeg (decide (how.toInt = 0)) y1) ∨ (¬ okHold9 jc_o wj hj j s0 how ∧ r0 = -1 ∧ w1 = ws))) := by
  refine Met.ofW (cc := cX9_hold) (maxL := 6) (ret := (some .int)) (by decide) rfl ?_
  intro p e s m args below meth c s₁ B hml hv
  obtain ⟨rfl, hP, hK, hA, hV⟩ := hv
  have hx := B.exec
  have hb := B.bytes
  have hr := B.returns
  have hts := atoms_spec (ws := wsX9_hold) B.pre
  have hown : s.vm.findClass RX9 = some m.cls := findClass_of_methodNamed B.named
  have hlocks := B.notSynchronized
  have hS : va_S A s.heap s.heap [] := va_S.rf
  have hinJ : ∀ w ∈ wsX10 ++ wsX30 ++ wsX40 ++ wsX50, w ∈ wsX9_hold := by decide +kernel
  have hF : cF (fun b9 => b9 = xj) ws ws := cF.rf
  have hl := lv_entry ([.ref o, .int j, .int s0, .int how]) (n := 6) (Nat.le_of_ble_eq_true rfl)
  rw [lg_entry_eq]
  generalize (lg_sl ([.ref o, .int j, .int s0, .int how]) ++ List.replicate (6 - (lg_sl ([.ref o, .int j, .int s0, .int how])).length) Slot.unset).toArray = ls at hl ⊢
  have hl : lv_has ls 6 [(0, .ref o), (1, .int j), (2, .int s0), (3, .int how)] := hl
  have k_m1 : (-1 : Int32).toInt = -1 := by decide
  have k_0 : (0 : Int32).toInt = 0 := by decide
  have k_2 : (2 : Int32).toInt = 2 := by decide
  obtain ⟨hjc_o, hlc_o, hG_bs_o, hG_js_o, hG_sh_o, hG_wk_o, hmo_o, hG_ll_o, hlb_o⟩ := w7sh hD hT hG_o hM_o
  have hf_js_o := w9sh hD hT hG_js_o hM_js_o
  refine lv_aload_n hx hb dX9_hold_0 rfl (lv_at hl 0 rfl) ?_
  refine lv_iload_n hx hb dX9_hold_1 rfl (lv_at hl 1 rfl) ?_
  refine t_calla (va_runV (g := F0 m 2 ls ([.int j, .ref o])) (As := [.int j]) (rest := []) ⟨hx, hb, hml, hown, hts⟩ (c_X9_jobOf_j l D cy A G ws o j hD hT hG_o hM_o hM_js_o hJ1) (cwV 1 hts gX9_hold_X9_jobOf rfl rfl rfl (by decide +kernel) ⟨Nat.le_of_ble_eq_true rfl, Nat.le_of_ble_eq_true rfl⟩) (c_preV hM_o rfl hP hK hA hS hV) rfl rfl hl.1 rfl (lv_room (Nat.le_of_ble_eq_true rfl)) dX9_hold_2 ⟨Nat.le_of_ble_eq_true rfl, Nat.le_of_ble_eq_true rfl⟩) hS (fun r2 u H locs q2 hP9 hD9 hT9 hS => ?_)
  obtain ⟨rfl, q2⟩ := q2
  have hP : va_P D vwCl ws H := hP9
  rcases r2 with _ | x2
  · skip
    have vn2 := q2.2 rfl
    refine lv_astoreN (lv' := [(4, .null), (0, .ref o), (1, .int j), (2, .int s0), (3, .int how)]) hx hb dX9_hold_5 hl (by decide) rfl (fun ls hl => ?_)
    refine lv_aloadN hx hb dX9_hold_7 (lv_at hl 0 rfl) ?_
    refine lv_ifnullN (tgt := 33) hx hb dX9_hold_9 (by decide) ?_
    refine lv_iconst (v := (-1)) hx hb dX9_hold_33 (by decide) ?_
    exact W.iret (v := ((-1) : Int32)) hx hb hr (fun t ht hW => ⟨⟨_, (G, ws), rfl, ⟨ws, rfl, hF, (Or.inr ⟨(fun z9 => by first | exact vn2 z9.1 | (have z7 := z9.2; omega)), rfl, rfl⟩)⟩, by show va_P D vwCl ws t.heap; rw [ht]; exact hP, hD, hT⟩, hS.F ht⟩) hS.2.2 dX9_hold_34
  · skip
    obtain ⟨vj2, fj2⟩ := q2.1 x2 rfl
    obtain ⟨hfa9, hG_xj, hb9, ht9, hM_xj, hM_sj⟩ := hJ vj2
    obtain rfl : xj = x2 := Option.some.inj (hfa9.symm.trans fj2)
    obtain ⟨hG_bj, hG_sj, hJ_xj⟩ := w3sh hD hT hG_xj hb9 hM_xj
    refine lv_astore (lv' := [(4, .ref xj), (0, .ref o), (1, .int j), (2, .int s0), (3, .int how)]) hx hb dX9_hold_5 hl (by decide) rfl (fun ls hl => ?_)
    refine lv_aload hx hb dX9_hold_7 (lv_at hl 0 rfl) ?_
    refine lv_ifnull hx hb dX9_hold_9 ?_
    refine lv_aload hx hb dX9_hold_12 (lv_at hl 0 rfl) ?_
    refine t_getJ (v := .ref bj) hx hb hts hinJ hown hK hP hJ_xj.kc hM_xj 0 (by decide) (hts (.fieldLink RX9 65 "ShadowBench$Job" "board" "LShadowBench$Board;") (by decide +kernel)) (fun _ h9 => h9) rfl dX9_hold_14 ?_
    refine lv_iload_n hx hb dX9_hold_17 rfl (lv_at hl 3 rfl) ?_
    obtain ⟨_, hM_bj, hb_bj, l_bj, f_bj, r_bj, rfl, hG_l_bj, hG_f_bj, hG_r_bj⟩ := hT _ _ hG_bj
    refine t_calli (va_runV (g := F0 m 18 ls ([.int s0, .ref bj])) (As := [.int s0]) (rest := []) ⟨hx, hb, hml, hown, hts⟩ (c_X0_isSquare l D cy A G ws bj s0 hD hT hG_bj ) (cwV 1 hts gX9_hold_X0_isSquare rfl rfl rfl (by decide +kernel) ⟨Nat.le_of_ble_eq_true rfl, Nat.le_of_ble_eq_true rfl⟩) (c_preV hM_bj rfl hP hK hA hS hV) rfl rfl hl.1 rfl (lv_room (Nat.le_of_ble_eq_true rfl)) dX9_hold_18 ⟨Nat.le_of_ble_eq_true rfl, Nat.le_of_ble_eq_true rfl⟩) hS (fun r18 u H locs q18 hP9 hD9 hT9 hS => ?_)
    obtain ⟨rfl, q18⟩ := q18
    have hP : va_P D vwCl ws H := hP9
    have m36 := cb_mul hb9
    refine lv_if_eq (tgt := 33) hx hb dX9_hold_21 (by decide) (fun c21 => ?_) (fun c21 => ?_)
    · skip
      have b21 := bo_f q18 c21
      refine lv_iconst (v := (-1)) hx hb dX9_hold_33 (by decide) ?_
      exact W.iret (v := ((-1) : Int32)) hx hb hr (fun t ht hW => ⟨⟨_, (G, ws), rfl, ⟨ws, rfl, hF, (Or.inr ⟨(fun z9 => by first | exact vn2 z9.1 | (have z7 := z9.2; omega)), rfl, rfl⟩)⟩, by show va_P D vwCl ws t.heap; rw [ht]; exact hP, hD, hT⟩, hS.F ht⟩) hS.2.2 dX9_hold_34
    · skip
      have b21 := bo_t q18 c21
      refine lv_iload_n hx hb dX9_hold_24 rfl (lv_at hl 4 rfl) ?_
      refine lv_if_lt (tgt := 33) hx hb dX9_hold_25 (by decide) (fun c25 => ?_) (fun c25 => ?_)
      · skip
        have d25 := c25
        rw [fa_lt] at d25
        refine lv_iconst (v := (-1)) hx hb dX9_hold_33 (by decide) ?_
        exact W.iret (v := ((-1) : Int32)) hx hb hr (fun t ht hW => ⟨⟨_, (G, ws), rfl, ⟨ws, rfl, hF, (Or.inr ⟨(fun z9 => by first | exact vn2 z9.1 | (have z7 := z9.2; omega)), rfl, rfl⟩)⟩, by show va_P D vwCl ws t.heap; rw [ht]; exact hP, hD, hT⟩, hS.F ht⟩) hS.2.2 dX9_hold_34
      · skip
        have d25 := c25
        rw [fa_lt] at d25
        refine lv_iload_n hx hb dX9_hold_28 rfl (lv_at hl 4 rfl) ?_
        refine lv_iconst (v := 2) hx hb dX9_hold_29 (by decide) ?_
        refine lv_icmp_le (tgt := 35) hx hb dX9_hold_30 (by decide) (fun c30 => ?_) (fun c30 => ?_)
        · skip
          have d30 := c30
          rw [fa_le] at d30
          refine lv_aload hx hb dX9_hold_35 (lv_at hl 0 rfl) ?_
          refine lv_iload_n hx hb dX9_hold_37 rfl (lv_at hl 3 rfl) ?_
          refine t_calli (t_runJ (g := F0 m 38 ls ([.int s0, .ref xj])) (As := [.int s0]) (rest := []) ⟨hx, hb, hml, hown, hts⟩ (c_X3_howHeld_x l D cy A G ws xj s0 hD hT hG_xj hM_xj hb9 ht9 (by omega)) (va_cwU 1 hts gX9_hold_X3_howHeld_u104X1 rfl rfl rfl rfl (by decide +kernel) ⟨Nat.le_of_ble_eq_true rfl, Nat.le_of_ble_eq_true rfl⟩) (cwV 1 hts gX9_hold_X3_howHeld rfl rfl rfl (by decide +kernel) ⟨Nat.le_of_ble_eq_true rfl, Nat.le_of_ble_eq_true rfl⟩) (va_cwU 1 hts gX9_hold_X3_howHeld_u104X4 rfl rfl rfl rfl (by decide +kernel) ⟨Nat.le_of_ble_eq_true rfl, Nat.le_of_ble_eq_true rfl⟩) (va_cwU 1 hts gX9_hold_X3_howHeld_u104X5 rfl rfl rfl rfl (by decide +kernel) ⟨Nat.le_of_ble_eq_true rfl, Nat.le_of_ble_eq_true rfl⟩) hJ_xj.kc hM_xj hP hK c_blind (c_preS hP hK hA hS hV).2 rfl rfl hl.1 rfl (lv_room (Nat.le_of_ble_eq_true rfl)) dX9_hold_38 ⟨Nat.le_of_ble_eq_true rfl, Nat.le_of_ble_eq_true rfl⟩) hS (fun r38 u H locs q38 hP9 hD9 hT9 hS => ?_)
          obtain ⟨rfl, q38⟩ := q38
          have hP : va_P D vwCl ws H := hP9
          refine lv_istore (lv' := [(5, .int r38), (4, .ref xj), (0, .ref o), (1, .int j), (2, .int s0), (3, .int how)]) hx hb dX9_hold_41 hl (by decide) rfl (fun ls hl => ?_)
          refine lv_aload hx hb dX9_hold_43 (lv_at hl 1 rfl) ?_
          refine lv_iload_n hx hb dX9_hold_45 rfl (lv_at hl 4 rfl) ?_
          refine lv_iload_n hx hb dX9_hold_46 rfl (lv_at hl 5 rfl) ?_
          refine t_callv (t_runJ (g := F0 m 47 ls ([.int how, .int s0, .ref xj])) (As := [.int s0, .int how]) (rest := []) ⟨hx, hb, hml, hown, hts⟩ (c_X3_holdSquare_x l D cy A G ws xj s0 how hD hT hG_xj hM_xj hb9 ht9 (by omega)) (va_cwU 2 hts gX9_hold_X3_holdSquare_u108X1 rfl rfl rfl rfl (by decide +kernel) ⟨Nat.le_of_ble_eq_true rfl, Nat.le_of_ble_eq_true rfl⟩) (cwV 2 hts gX9_hold_X3_holdSquare rfl rfl rfl (by decide +kernel) ⟨Nat.le_of_ble_eq_true rfl, Nat.le_of_ble_eq_true rfl⟩) (va_cwU 2 hts gX9_hold_X3_holdSquare_u108X4 rfl rfl rfl rfl (by decide +kernel) ⟨Nat.le_of_ble_eq_true rfl, Nat.le_of_ble_eq_true rfl⟩) (va_cwU 2 hts gX9_hold_X3_holdSquare_u108X5 rfl rfl rfl rfl (by decide +kernel) ⟨Nat.le_of_ble_eq_true rfl, Nat.le_of_ble_eq_true rfl⟩) hJ_xj.kc hM_xj hP hK c_blind (c_preS hP hK hA hS hV).2 rfl rfl hl.1 rfl (lv_room (Nat.le_of_ble_eq_true rfl)) dX9_hold_47 ⟨Nat.le_of_ble_eq_true rfl, Nat.le_of_ble_eq_true rfl⟩) hS (fun u H locs q47 hP9 hD9 hT9 hS => ?_)
          obtain ⟨w47, rfl, hF47, q47⟩ := q47
          have hP : va_P D vwCl w47 H := hP9
          have hD : va_D A w47 := hD9
          have hT : cT cy G w47 := hT9
          have hM_o := hF47 _ _ (cne hG_o hG_xj (show (7 : Nat) ≠ 3 by decide)) hM_o
          have hM_js_o := hF47 _ _ (cne hG_js_o hG_xj (show (9 : Nat) ≠ 3 by decide)) hM_js_o
          have hM_sj := hF47 _ _ (cne hG_sj hG_xj (show (14 : Nat) ≠ 3 by decide)) hM_sj
          have hM_bj := hF47 _ _ (cne hG_bj hG_xj (show (2 : Nat) ≠ 3 by decide)) hM_bj
          have hF := hF.tr hF47
          obtain ⟨x1_47, y1_47, hM9, hx1_47, hy1_47⟩ := q47
          have hM_xj : cIn w47 xj (.inr (kj, .ref bj :: .ref sj :: .int (nI tj) :: .long x1_47 :: .long y1_47 :: msj)) := hM9
          refine lv_iload hx hb dX9_hold_50 (lv_at hl 0 rfl) ?_
          exact W.iret (v := r38) hx hb hr (fun t ht hW => ⟨⟨_, (G, w47), rfl, ⟨w47, rfl, hF, (Or.inl ⟨⟨vj2, (by omega), (by omega)⟩, q38, _, _, hM_xj, hx1_47, hy1_47⟩)⟩, by show va_P D vwCl w47 t.heap; rw [ht]; exact hP, hD, hT⟩, hS.F ht⟩) hS.2.2 dX9_hold_52
        · skip
          have d30 := c30
          rw [fa_le] at d30
          refine lv_iconst (v := (-1)) hx hb dX9_hold_33 (by decide) ?_
          exact W.iret (v := ((-1) : Int32)) hx hb hr (fun t ht hW => ⟨⟨_, (G, ws), rfl, ⟨ws, rfl, hF, (Or.inr ⟨(fun z9 => by first | exact vn2 z9.1 | (have z7 := z9.2; omega)), rfl, rfl⟩)⟩, by show va_P D vwCl ws t.heap; rw [ht]; exact hP, hD, hT⟩, hS.F ht⟩) hS.2.2 dX9_hold_34
set_option maxHeartbeats 4000000 in
set_option maxRecDepth 100000 in
theorem c_X9_told_j (l : Launch) (D : va_G) (cy : Nat → ClassId) (A : Nat → Prop) (G : cG) (ws : va_W) (o : Nat) (j : Int32) (way : Int32) (line : Int32) {bs_o js_o sh_o wk_o ll_o : Nat} {jc_o lc_o : Int32} {mo_o lb_o : Option Nat} {fa : Nat → Option Nat} {xj kj bj sj tj wj hj : Nat} {oj nj : Int64} {msj : List Value} {fsj : Nat → Int32} (hD : va_D A ws) (hT : cT cy G ws) (hG_o : G o = some (7, 0, 0)) (hM_o : cIn ws o (.inr (8, [.ref bs_o, .ref js_o, .int jc_o, .ref sh_o, .ref wk_o, va_rf mo_o, .ref ll_o, .int lc_o, va_rf lb_o]))) (hM_js_o : cIn ws js_o (.inl (cy 4, cqa 8 fa))) (hJ1 : ∀ i : Nat, (i : Int) < jc_o.toInt → ∃ x, fa i = some x) (hJ : okJob jc_o j → jobS cy G ws fa j.toNatClampNeg xj kj bj sj tj wj hj oj nj msj fsj) : Ci l D cy A yX9_told wsX9_told ({ frames := 2, cells := 0, slots := 0, locals := 43 }) 0 0 ws [.ref o, .int j, .int way, .int line] (fun r0 u => u = (G, ws) ∧ (toA jc_o wj hj (fun l => if tB tj way.toNatClampNeg then fsj (way.toNatClampNeg * 11 + l) else -2) j way line r0)) := by
  refine Met.ofW (cc := cX9_told) (maxL := 5) (ret := (some .int)) (by decide) rfl ?_
  intro p e s m args below meth c s₁ B hml hv
  obtain ⟨rfl, hP, hK, hA, hV⟩ := hv
  have hx := B.exec
  have hb := B.bytes
  have hr := B.returns
  have hts := atoms_spec (ws := wsX9_told) B.pre
  have hown : s.vm.findClass RX9 = some m.cls := findClass_of_methodNamed B.named
  have hlocks := B.notSynchronized
  have hS : va_S A s.heap s.heap [] := va_S.rf
  have hinJ : ∀ w ∈ wsX10 ++ wsX30 ++ wsX40 ++ wsX50, w ∈ wsX9_told := by decide +kernel
  have hl := lv_entry ([.ref o, .int j, .int way, .int line]) (n := 5) (Nat.le_of_ble_eq_true rfl)
  rw [lg_entry_eq]
  generalize (lg_sl ([.ref o, .int j, .int way, .int line]) ++ List.replicate (5 - (lg_sl ([.ref o, .int j, .int way, .int line])).length) Slot.unset).toArray = ls at hl ⊢
  have hl : lv_has ls 5 [(0, .ref o), (1, .int j), (2, .int way), (3, .int line)] := hl
  have k_m2 : (-2 : Int32).toInt = -2 := by decide
  have k_m1 : (-1 : Int32).toInt = -1 := by decide
  have k_0 : (0 : Int32).toInt = 0 := by decide
  obtain ⟨hjc_o, hlc_o, hG_bs_o, hG_js_o, hG_sh_o, hG_wk_o, hmo_o, hG_ll_o, hlb_o⟩ := w7sh hD hT hG_o hM_o
  have hf_js_o := w9sh hD hT hG_js_o hM_js_o
  refine lv_aload_n hx hb dX9_told_0 rfl (lv_at hl 0 rfl) ?_
  refine lv_iload_n hx hb dX9_told_1 rfl (lv_at hl 1 rfl) ?_
  refine t_calla (va_runV (g := F0 m 2 ls ([.int j, .ref o])) (As := [.int j]) (rest := []) ⟨hx, hb, hml, hown, hts⟩ (c_X9_jobOf_j l D cy A G ws o j hD hT hG_o hM_o hM_js_o hJ1) (cwV 1 hts gX9_told_X9_jobOf rfl rfl rfl (by decide +kernel) ⟨Nat.le_of_ble_eq_true rfl, Nat.le_of_ble_eq_true rfl⟩) (c_preV hM_o rfl hP hK hA hS hV) rfl rfl hl.1 rfl (lv_room (Nat.le_of_ble_eq_true rfl)) dX9_told_2 ⟨Nat.le_of_ble_eq_true rfl, Nat.le_of_ble_eq_true rfl⟩) hS (fun r2 u H locs q2 hP9 hD9 hT9 hS => ?_)
  obtain ⟨rfl, q2⟩ := q2
  have hP : va_P D vwCl ws H := hP9
  rcases r2 with _ | x2
  · skip
    have vn2 := q2.2 rfl
    refine lv_astoreN (lv' := [(4, .null), (0, .ref o), (1, .int j), (2, .int way), (3, .int line)]) hx hb dX9_told_5 hl (by decide) rfl (fun ls hl => ?_)
    refine lv_aloadN hx hb dX9_told_7 (lv_at hl 0 rfl) ?_
    refine lv_ifnullN (tgt := 19) hx hb dX9_told_9 (by decide) ?_
    refine lv_iconst (v := (-1)) hx hb dX9_told_19 (by decide) ?_
    exact W.iret (v := ((-1) : Int32)) hx hb hr (fun t ht hW => ⟨⟨_, (G, ws), rfl, ⟨rfl, (Or.inr ⟨(fun z9 => by first | exact vn2 z9.1.1 | (have z7 := z9.1.2; omega)), rfl⟩)⟩, by show va_P D vwCl ws t.heap; rw [ht]; exact hP, hD, hT⟩, hS.F ht⟩) hS.2.2 dX9_told_20
  · skip
    obtain ⟨vj2, fj2⟩ := q2.1 x2 rfl
    obtain ⟨hfa9, hG_xj, hb9, ht9, hM_xj, hM_sj⟩ := hJ vj2
    obtain rfl : xj = x2 := Option.some.inj (hfa9.symm.trans fj2)
    obtain ⟨hG_bj, hG_sj, hJ_xj⟩ := w3sh hD hT hG_xj hb9 hM_xj
    refine lv_astore (lv' := [(4, .ref xj), (0, .ref o), (1, .int j), (2, .int way), (3, .int line)]) hx hb dX9_told_5 hl (by decide) rfl (fun ls hl => ?_)
    refine lv_aload hx hb dX9_told_7 (lv_at hl 0 rfl) ?_
    refine lv_ifnull hx hb dX9_told_9 ?_
    refine lv_iload_n hx hb dX9_told_12 rfl (lv_at hl 3 rfl) ?_
    refine t_pu (As := [.int way]) (rest := []) ⟨hx, hb, hml, hown, hts⟩ (c_X9_isWay l way ) (va_cwS 1 hts gX9_told_X9_isWay rfl rfl rfl (by decide +kernel) ⟨Nat.le_of_ble_eq_true rfl, Nat.le_of_ble_eq_true rfl⟩) hP rfl hl.1 rfl (Nat.le_of_ble_eq_true rfl) dX9_told_13 ⟨Nat.le_of_ble_eq_true rfl, Nat.le_of_ble_eq_true rfl⟩ hS (fun r13 H locs q13 hP hS => ?_)
    refine lv_if_ne (tgt := 21) hx hb dX9_told_16 (by decide) (fun c16 => ?_) (fun c16 => ?_)
    · skip
      have b16 := bo_t q13 c16
      have cL9 := fun z9 : 0 ≤ way.toInt => cLn hb9 (way := way) z9
      refine lv_iload_n hx hb dX9_told_21 rfl (lv_at hl 4 rfl) ?_
      refine lv_iconst (v := (-1)) hx hb dX9_told_22 (by decide) ?_
      refine lv_icmp_ne (tgt := 36) hx hb dX9_told_23 (by decide) (fun c23 => ?_) (fun c23 => ?_)
      · skip
        have d23 := c23
        rw [fa_eq] at d23
        refine lv_aload hx hb dX9_told_36 (lv_at hl 0 rfl) ?_
        refine t_getJ (v := .ref bj) hx hb hts hinJ hown hK hP hJ_xj.kc hM_xj 0 (by decide) (hts (.fieldLink RX9 65 "ShadowBench$Job" "board" "LShadowBench$Board;") (by decide +kernel)) (fun _ h9 => h9) rfl dX9_told_38 ?_
        refine lv_iload_n hx hb dX9_told_41 rfl (lv_at hl 3 rfl) ?_
        refine lv_iload_n hx hb dX9_told_42 rfl (lv_at hl 4 rfl) ?_
        obtain ⟨_, hM_bj, hb_bj, l_bj, f_bj, r_bj, rfl, hG_l_bj, hG_f_bj, hG_r_bj⟩ := hT _ _ hG_bj
        refine t_calli (va_runV (g := F0 m 43 ls ([.int line, .int way, .ref bj])) (As := [.int way, .int line]) (rest := []) ⟨hx, hb, hml, hown, hts⟩ (c_X0_isLine l D cy A G ws bj way line hD hT hG_bj ) (cwV 2 hts gX9_told_X0_isLine rfl rfl rfl (by decide +kernel) ⟨Nat.le_of_ble_eq_true rfl, Nat.le_of_ble_eq_true rfl⟩) (c_preV hM_bj rfl hP hK hA hS hV) rfl rfl hl.1 rfl (lv_room (Nat.le_of_ble_eq_true rfl)) dX9_told_43 ⟨Nat.le_of_ble_eq_true rfl, Nat.le_of_ble_eq_true rfl⟩) hS (fun r43 u H locs q43 hP9 hD9 hT9 hS => ?_)
        obtain ⟨rfl, q43⟩ := q43
        have hP : va_P D vwCl ws H := hP9
        refine lv_if_ne (tgt := 51) hx hb dX9_told_46 (by decide) (fun c46 => ?_) (fun c46 => ?_)
        · skip
          have b46 := bo_t q43 c46
          refine lv_aload hx hb dX9_told_51 (lv_at hl 0 rfl) ?_
          refine lv_iload_n hx hb dX9_told_53 rfl (lv_at hl 3 rfl) ?_
          refine t_calli (t_runJ (g := F0 m 54 ls ([.int way, .ref xj])) (As := [.int way]) (rest := []) ⟨hx, hb, hml, hown, hts⟩ (c_X3_isTold_x l D cy A G ws xj way hD hT hG_xj hM_xj hb9 ht9 (by omega)) (va_cwU 1 hts gX9_told_X3_isTold_u94X1 rfl rfl rfl rfl (by decide +kernel) ⟨Nat.le_of_ble_eq_true rfl, Nat.le_of_ble_eq_true rfl⟩) (cwV 1 hts gX9_told_X3_isTold rfl rfl rfl (by decide +kernel) ⟨Nat.le_of_ble_eq_true rfl, Nat.le_of_ble_eq_true rfl⟩) (va_cwU 1 hts gX9_told_X3_isTold_u94X4 rfl rfl rfl rfl (by decide +kernel) ⟨Nat.le_of_ble_eq_true rfl, Nat.le_of_ble_eq_true rfl⟩) (va_cwU 1 hts gX9_told_X3_isTold_u94X5 rfl rfl rfl rfl (by decide +kernel) ⟨Nat.le_of_ble_eq_true rfl, Nat.le_of_ble_eq_true rfl⟩) hJ_xj.kc hM_xj hP hK c_blind (c_preS hP hK hA hS hV).2 rfl rfl hl.1 rfl (lv_room (Nat.le_of_ble_eq_true rfl)) dX9_told_54 ⟨Nat.le_of_ble_eq_true rfl, Nat.le_of_ble_eq_true rfl⟩) hS (fun r54 u H locs q54 hP9 hD9 hT9 hS => ?_)
          obtain ⟨rfl, q54⟩ := q54
          have hP : va_P D vwCl ws H := hP9
          refine lv_if_eq (tgt := 70) hx hb dX9_told_57 (by decide) (fun c57 => ?_) (fun c57 => ?_)
          · skip
            have b57 := bo_f q54 c57
            refine lv_bipush (v := (-2)) hx hb dX9_told_70 (by decide) ?_
            exact W.iret (v := ((-2) : Int32)) hx hb hr (fun t ht hW => ⟨⟨_, (G, ws), rfl, ⟨rfl, (Or.inl ⟨⟨⟨vj2, by omega⟩, Or.inr (by have z8 := cL9 (by omega); unfold okL; omega)⟩, (by rw [if_neg (by omega)]; show _ = if tB tj way.toNatClampNeg then _ else _; first | (rw [if_pos b57, q64]; done) | (rw [if_neg b57]; done))⟩)⟩, by show va_P D vwCl ws t.heap; rw [ht]; exact hP, hD, hT⟩, hS.F ht⟩) hS.2.2 dX9_told_72
          · skip
            have b57 := bo_t q54 c57
            refine lv_aload hx hb dX9_told_60 (lv_at hl 0 rfl) ?_
            refine lv_iload_n hx hb dX9_told_62 rfl (lv_at hl 3 rfl) ?_
            refine lv_iload_n hx hb dX9_told_63 rfl (lv_at hl 4 rfl) ?_
            refine t_calli (t_runJ (g := F0 m 64 ls ([.int line, .int way, .ref xj])) (As := [.int way, .int line]) (rest := []) ⟨hx, hb, hml, hown, hts⟩ (c_X3_sumOf_x l D cy A G ws xj way line hD hT hG_xj hM_xj hM_sj hb9 ht9 (by omega) (by have z9 := lnC_b hb9 way.toNatClampNeg; have z8 := cL9 (by omega); omega)) (va_cwU 2 hts gX9_told_X3_sumOf_u120X1 rfl rfl rfl rfl (by decide +kernel) ⟨Nat.le_of_ble_eq_true rfl, Nat.le_of_ble_eq_true rfl⟩) (cwV 2 hts gX9_told_X3_sumOf rfl rfl rfl (by decide +kernel) ⟨Nat.le_of_ble_eq_true rfl, Nat.le_of_ble_eq_true rfl⟩) (va_cwU 2 hts gX9_told_X3_sumOf_u120X4 rfl rfl rfl rfl (by decide +kernel) ⟨Nat.le_of_ble_eq_true rfl, Nat.le_of_ble_eq_true rfl⟩) (va_cwU 2 hts gX9_told_X3_sumOf_u120X5 rfl rfl rfl rfl (by decide +kernel) ⟨Nat.le_of_ble_eq_true rfl, Nat.le_of_ble_eq_true rfl⟩) hJ_xj.kc hM_xj hP hK c_blind (c_preS hP hK hA hS hV).2 rfl rfl hl.1 rfl (lv_room (Nat.le_of_ble_eq_true rfl)) dX9_told_64 ⟨Nat.le_of_ble_eq_true rfl, Nat.le_of_ble_eq_true rfl⟩) hS (fun r64 u H locs q64 hP9 hD9 hT9 hS => ?_)
            obtain ⟨rfl, q64⟩ := q64
            have hP : va_P D vwCl ws H := hP9
            refine lv_goto (tgt := 72) hx hb dX9_told_67 (by decide) ?_
            exact W.iret (v := r64) hx hb hr (fun t ht hW => ⟨⟨_, (G, ws), rfl, ⟨rfl, (Or.inl ⟨⟨⟨vj2, by omega⟩, Or.inr (by have z8 := cL9 (by omega); unfold okL; omega)⟩, (by rw [if_neg (by omega)]; show _ = if tB tj way.toNatClampNeg then _ else _; first | (rw [if_pos b57, q64]; done) | (rw [if_neg b57]; done))⟩)⟩, by show va_P D vwCl ws t.heap; rw [ht]; exact hP, hD, hT⟩, hS.F ht⟩) hS.2.2 dX9_told_72
        · skip
          have b46 := bo_f q43 c46
          refine lv_iconst (v := (-1)) hx hb dX9_told_49 (by decide) ?_
          exact W.iret (v := ((-1) : Int32)) hx hb hr (fun t ht hW => ⟨⟨_, (G, ws), rfl, ⟨rfl, (Or.inr ⟨(fun z9 => by rcases z9.2 with z8 | z8; omega; (unfold okL at z8; have z7 := cL9 z8.1.1; omega)), rfl⟩)⟩, by show va_P D vwCl ws t.heap; rw [ht]; exact hP, hD, hT⟩, hS.F ht⟩) hS.2.2 dX9_told_50
      · skip
        have d23 := c23
        rw [fa_eq] at d23
        refine lv_aload hx hb dX9_told_26 (lv_at hl 0 rfl) ?_
        refine t_getJ (v := .ref bj) hx hb hts hinJ hown hK hP hJ_xj.kc hM_xj 0 (by decide) (hts (.fieldLink RX9 65 "ShadowBench$Job" "board" "LShadowBench$Board;") (by decide +kernel)) (fun _ h9 => h9) rfl dX9_told_28 ?_
        refine lv_iload_n hx hb dX9_told_31 rfl (lv_at hl 3 rfl) ?_
        obtain ⟨_, hM_bj, hb_bj, l_bj, f_bj, r_bj, rfl, hG_l_bj, hG_f_bj, hG_r_bj⟩ := hT _ _ hG_bj
        refine t_calli (va_runV (g := F0 m 32 ls ([.int way, .ref bj])) (As := [.int way]) (rest := []) ⟨hx, hb, hml, hown, hts⟩ (c_X0_lineCount l D cy A G ws bj way hD hT hG_bj ) (cwV 1 hts gX9_told_X0_lineCount rfl rfl rfl (by decide +kernel) ⟨Nat.le_of_ble_eq_true rfl, Nat.le_of_ble_eq_true rfl⟩) (c_preV hM_bj rfl hP hK hA hS hV) rfl rfl hl.1 rfl (lv_room (Nat.le_of_ble_eq_true rfl)) dX9_told_32 ⟨Nat.le_of_ble_eq_true rfl, Nat.le_of_ble_eq_true rfl⟩) hS (fun r32 u H locs q32 hP9 hD9 hT9 hS => ?_)
        obtain ⟨rfl, q32⟩ := q32
        have hP : va_P D vwCl ws H := hP9
        exact W.iret (v := r32) hx hb hr (fun t ht hW => ⟨⟨_, (G, ws), rfl, ⟨rfl, (Or.inl ⟨⟨⟨vj2, by omega⟩, Or.inl (by omega)⟩, (by rw [if_pos (by omega), q32]; exact cL9 (by omega))⟩)⟩, by show va_P D vwCl ws t.heap; rw [ht]; exact hP, hD, hT⟩, hS.F ht⟩) hS.2.2 dX9_told_35
    · skip
      have b16 := bo_f q13 c16
      refine lv_iconst (v := (-1)) hx hb dX9_told_19 (by decide) ?_
      exact W.iret (v := ((-1) : Int32)) hx hb hr (fun t ht hW => ⟨⟨_, (G, ws), rfl, ⟨rfl, (Or.inr ⟨(fun z9 => by first | exact vn2 z9.1.1 | (have z7 := z9.1.2; omega)), rfl⟩)⟩, by show va_P D vwCl ws t.heap; rw [ht]; exact hP, hD, hT⟩, hS.F ht⟩) hS.2.2 dX9_told_20

def zL (f : Nat → Int32) (b n : Nat) : Nat → Int32 := fun e => if b ≤ e ∧ e < b + n then 0 else f e
theorem zL_0 (f : Nat → Int32) (b : Nat) : zL f b 0 = f := by
  funext e
  unfold zL
  rw [if_neg (by omega)]
theorem zL_s (f : Nat → Int32) (b n : Nat) : upd (zL f b n) (b + n) 0 = zL f b (n + 1) := by
  funext e
  unfold upd zL
  by_cases h : e = b + n
  · rw [if_pos h, if_pos (by omega)]
  · rw [if_neg h]
    by_cases h2 : b ≤ e ∧ e < b + n
    · rw [if_pos h2, if_pos (by omega)]
    · rw [if_neg h2, if_neg (by omega)]
/-- lines of a way from a place on set one after the other -/
def setB (fs : Nat → Int32) (b : Nat) (g : Nat → Int32) (n : Nat) : Nat → Int32 := fun e => if b ≤ e ∧ e < b + n then g (e - b) else fs e
theorem setB_0 (fs : Nat → Int32) (b : Nat) (g : Nat → Int32) : setB fs b g 0 = fs := by
  funext e
  unfold setB
  rw [if_neg (by omega)]
theorem setB_s (fs : Nat → Int32) (b : Nat) (g : Nat → Int32) (n : Nat) : upd (setB fs b g n) (b + n) (g n) = setB fs b g (n + 1) := by
  funext e
  unfold upd setB
  by_cases h : e = b + n
  · rw [if_pos h, if_pos (by omega), show e - b = n by omega]
  · rw [if_neg h]
    by_cases h2 : b ≤ e ∧ e < b + n
    · rw [if_pos h2, if_pos (by omega)]
    · rw [if_neg h2, if_neg (by omega)]

theorem sq_eq {f : Nat → Int32} {r : Nat → Nat → Int32} (hI : MI f r) {j : Int32} (h0 : 0 ≤ j.toInt) (h1 : j.toInt < (f 1).toInt) : (((r 3 j.toNatClampNeg).toNatClampNeg * (r 4 j.toNatClampNeg).toNatClampNeg : Nat) : Int) = (r 3 j.toNatClampNeg).toInt * (r 4 j.toNatClampNeg).toInt := by
  have a := mi_w hI (x := j) h0 h1 rfl
  have b := mi_h hI (x := j) h0 h1 rfl
  rw [Int.natCast_mul, m_cl (x := r 3 j.toNatClampNeg) (by omega), m_cl (x := r 4 j.toNatClampNeg) (by omega)]

set_option maxHeartbeats 4000000 in
set_option maxRecDepth 100000 in
theorem c_X10_tell_x (l : Launch) (D : va_G) (cy : Nat → ClassId) (mo : Nat) (a : Nat → Nat) (f : Nat → Int32) (g : Nat → Int64) (r : Nat → Nat → Int32) (q : Nat → Nat → Int64) (j : Int32) (way : Int32) (hD : DM cy mo a) (hj : 0 ≤ j.toInt ∧ j.toInt < 8) (hy : 0 ≤ way.toInt ∧ way.toInt ≤ 3) : Mv l D cy mo a yX10_tell wsX10_tell ({ frames := 0, cells := 0, slots := 0, locals := 0 }) f g r q [.int j, .int way] (fun u => ∃ (sm : Nat → Int32), ∃ (tl : Nat → Int32), u = (f, g, (va_up (va_up r 5 sm) 6 tl), q) ∧ (tl = upd (r 6) (4 * j.toNatClampNeg + way.toNatClampNeg) 1 ∧ sm = (if r 6 (4 * j.toNatClampNeg + way.toNatClampNeg) = 0 then zL (r 5) (44 * j.toNatClampNeg + 11 * way.toNatClampNeg) 11 else r 5))) := by
  refine Met.ofW (cc := cX10_tell) (maxL := 4) (ret := none) (by decide) rfl ?_
  intro p e s m args below meth c s₁ B hml hv
  obtain ⟨rfl, hP, hK⟩ := hv
  have hx := B.exec
  have hb := B.bytes
  have hr := B.returns
  have hts := atoms_spec (ws := wsX10_tell) B.pre
  have hin : ∀ w ∈ u_ws RX10 TX10 35, w ∈ wsX10_tell := by decide +kernel
  have hown : s.vm.findClass RX10 = some m.cls := findClass_of_methodNamed B.named
  have hlocks := B.notSynchronized
  have hS : va_S (AM mo a) s.heap s.heap [] := va_S.rf
  have hl := lv_entry ([.ref mo, .int j, .int way]) (n := 4) (Nat.le_of_ble_eq_true rfl)
  rw [lg_entry_eq]
  generalize (lg_sl ([.ref mo, .int j, .int way]) ++ List.replicate (4 - (lg_sl ([.ref mo, .int j, .int way])).length) Slot.unset).toArray = ls at hl ⊢
  have hl : lv_has ls 4 [(0, .ref mo), (1, .int j), (2, .int way)] := hl
  have k_0 : (0 : Int32).toInt = 0 := by decide
  have k_1 : (1 : Int32).toInt = 1 := by decide
  have k_4 : (4 : Int32).toInt = 4 := by decide
  have k_11 : (11 : Int32).toInt = 11 := by decide
  have k_44 : (44 : Int32).toInt = 44 := by decide
  refine lv_iconst (v := 0) hx hb dX10_tell_0 (by decide) ?_
  refine lv_istore_n (lv' := [(3, .int (0 : Int32)), (0, .ref mo), (1, .int j), (2, .int way)]) hx hb dX10_tell_1 rfl hl (by decide) rfl (fun ls hl => ?_)
  have loop_2 : ∀ (n : Nat) (k : Nat) (sm : Nat → Int32), (k ≤ 11) → (sm = if r 6 (4 * j.toNatClampNeg + way.toNatClampNeg) = 0 then zL (r 5) (44 * j.toNatClampNeg + 11 * way.toNatClampNeg) k else r 5) → 11 - k < n → ∀ (H : Heap) (locs : List Loc), va_P D vwCl (WM cy mo a f g (va_up r 5 sm) q) H → va_S (AM mo a) s.heap H locs → ∀ (ls : Array Slot), lv_has ls 4 [(3, .int (nI k)), (0, .ref mo), (1, .int j), (2, .int way)] → W p l e (headSpec wsX10_tell ({ frames := 0, cells := 0, slots := 0, locals := 0 })).room s m #[Value.ref mo, Value.int j, Value.int way] below meth c H locs 0 0 (MQ below (va_Qv (fun u => ∃ (sm : Nat → Int32), ∃ (tl : Nat → Int32), u = (f, g, (va_up (va_up r 5 sm) 6 tl), q) ∧ (tl = upd (r 6) (4 * j.toNatClampNeg + way.toNatClampNeg) 1 ∧ sm = (if r 6 (4 * j.toNatClampNeg + way.toNatClampNeg) = 0 then zL (r 5) (44 * j.toNatClampNeg + 11 * way.toNatClampNeg) 11 else r 5))) (mB D cy mo a) (AM mo a)) #[Value.ref mo, Value.int j, Value.int way] s 0 0 (AM mo a)) (F0 m 2 ls []) := by
    intro n
    induction n with
    | zero => intro k sm j2_0 j2_1 hn; exact absurd hn (Nat.not_lt_zero _)
    | succ n ih_2 =>
      intro k sm j2_0 j2_1 hn_2 H locs hP hS ls hl
      have ik : (nI k).toInt = (k : Int) := nI_toInt (by omega)
      refine lv_iload_n hx hb dX10_tell_2 rfl (lv_at hl 0 rfl) ?_
      refine lv_bipush (v := 11) hx hb dX10_tell_3 (by decide) ?_
      refine lv_icmp_ge (tgt := 44) hx hb dX10_tell_5 (by decide) (fun c5 => ?_) (fun c5 => ?_)
      · skip
        have d5 := c5
        rw [fa_le] at d5
        refine lv_aload_n hx hb dX10_tell_44 rfl (lv_at hl 1 rfl) ?_
        refine m_get (v := .ref (a 6)) hx hb hts hin hown hK hP 6 (by decide) rfl (hts (.fieldLink RX10 22 "ShadowBenchModel" "isTold" "[Z") (by decide +kernel)) rfl dX10_tell_45 ?_
        refine lv_iconst (v := 4) hx hb dX10_tell_48 (by decide) ?_
        refine lv_iload_n hx hb dX10_tell_49 rfl (lv_at hl 2 rfl) ?_
        refine lv_imul hx hb dX10_tell_50 ?_
        refine lv_topi (fun v50 e50 => ?_)
        have i50 : v50.toInt = 4 * j.toInt := by rw [e50]; exact mulcL rfl (by omega) (by omega)
        refine lv_iload_n hx hb dX10_tell_51 rfl (lv_at hl 3 rfl) ?_
        refine lv_iadd hx hb dX10_tell_52 ?_
        refine lv_topi (fun v52 e52 => ?_)
        have i52 : v52.toInt = v50.toInt + way.toInt := by rw [e52]; exact fb_addI (by omega) (by omega)
        have cj9 := m_cl (x := j) (by omega)
        have cw9 := m_cl (x := way) (by omega)
        have cv7 := m_cl (x := v52) (by omega)
        have f52 : v52.toNatClampNeg = (4 * j.toNatClampNeg + way.toNatClampNeg) := by omega
        refine lv_iconst (v := 1) hx hb dX10_tell_53 (by decide) ?_
        refine m_zast (w := (r 6)) hx hb hK hP hD hS 5 rfl (vp_in_iff.mpr ⟨by omega, by omega⟩) (va_up (va_up r 5 sm) 6 ((upd (r 6) v52.toNatClampNeg ((1 : Int32) &&& 1)))) rfl dX10_tell_54 (fun H locs hP hS => ?_)
        exact W.vret hx hb hr (fun t ht hW => ⟨⟨(f, g, (va_up (va_up r 5 sm) 6 (((upd (r 6) v52.toNatClampNeg ((1 : Int32) &&& 1))))), q), rfl, ⟨sm, ((upd (r 6) v52.toNatClampNeg ((1 : Int32) &&& 1))), rfl, ⟨(by rw [f52]; rfl), (by first | (rw [j2_1, show k = 11 by omega]; done) | (have n6 : ¬ r 6 (4 * j.toNatClampNeg + way.toNatClampNeg) = 0 := (fun z9 => c18 (e17.trans (by rw [f16]; exact z9))); rw [j2_1, if_neg n6, if_neg n6]))⟩⟩, by unfold mB; rw [ht]; exact hP⟩, hS.F ht⟩) hS.2.2 dX10_tell_55
      · skip
        have d5 := c5
        rw [fa_le] at d5
        refine lv_aload_n hx hb dX10_tell_8 rfl (lv_at hl 1 rfl) ?_
        refine m_get (v := .ref (a 6)) hx hb hts hin hown hK hP 6 (by decide) rfl (hts (.fieldLink RX10 22 "ShadowBenchModel" "isTold" "[Z") (by decide +kernel)) rfl dX10_tell_9 ?_
        refine lv_iconst (v := 4) hx hb dX10_tell_12 (by decide) ?_
        refine lv_iload_n hx hb dX10_tell_13 rfl (lv_at hl 2 rfl) ?_
        refine lv_imul hx hb dX10_tell_14 ?_
        refine lv_topi (fun v14 e14 => ?_)
        have i14 : v14.toInt = 4 * j.toInt := by rw [e14]; exact mulcL rfl (by omega) (by omega)
        refine lv_iload_n hx hb dX10_tell_15 rfl (lv_at hl 3 rfl) ?_
        refine lv_iadd hx hb dX10_tell_16 ?_
        refine lv_topi (fun v16 e16 => ?_)
        have i16 : v16.toInt = v14.toInt + way.toInt := by rw [e16]; exact fb_addI (by omega) (by omega)
        refine m_zald (w := (r 6)) hx hb hK hP 5 rfl (vp_in_iff.mpr ⟨by omega, by omega⟩) dX10_tell_17 ?_
        refine lv_topi (fun v17 e17 => ?_)
        have i17 : v17.toInt = ((r 6) v16.toNatClampNeg).toInt := congrArg Int32.toInt e17
        have cj9 := m_cl (x := j) (by omega)
        have cw9 := m_cl (x := way) (by omega)
        have cv9 := m_cl (x := v16) (by omega)
        have f16 : v16.toNatClampNeg = (4 * j.toNatClampNeg + way.toNatClampNeg) := by omega
        refine lv_if_ne (tgt := 44) hx hb dX10_tell_18 (by decide) (fun c18 => ?_) (fun c18 => ?_)
        · skip
          have d18 := c18
          rw [fa_eq] at d18
          refine lv_aload_n hx hb dX10_tell_44 rfl (lv_at hl 1 rfl) ?_
          refine m_get (v := .ref (a 6)) hx hb hts hin hown hK hP 6 (by decide) rfl (hts (.fieldLink RX10 22 "ShadowBenchModel" "isTold" "[Z") (by decide +kernel)) rfl dX10_tell_45 ?_
          refine lv_iconst (v := 4) hx hb dX10_tell_48 (by decide) ?_
          refine lv_iload_n hx hb dX10_tell_49 rfl (lv_at hl 2 rfl) ?_
          refine lv_imul hx hb dX10_tell_50 ?_
          refine lv_topi (fun v50 e50 => ?_)
          have i50 : v50.toInt = 4 * j.toInt := by rw [e50]; exact mulcL rfl (by omega) (by omega)
          refine lv_iload_n hx hb dX10_tell_51 rfl (lv_at hl 3 rfl) ?_
          refine lv_iadd hx hb dX10_tell_52 ?_
          refine lv_topi (fun v52 e52 => ?_)
          have i52 : v52.toInt = v50.toInt + way.toInt := by rw [e52]; exact fb_addI (by omega) (by omega)
          have cj9 := m_cl (x := j) (by omega)
          have cw9 := m_cl (x := way) (by omega)
          have cv7 := m_cl (x := v52) (by omega)
          have f52 : v52.toNatClampNeg = (4 * j.toNatClampNeg + way.toNatClampNeg) := by omega
          refine lv_iconst (v := 1) hx hb dX10_tell_53 (by decide) ?_
          refine m_zast (w := (r 6)) hx hb hK hP hD hS 5 rfl (vp_in_iff.mpr ⟨by omega, by omega⟩) (va_up (va_up r 5 sm) 6 ((upd (r 6) v52.toNatClampNeg ((1 : Int32) &&& 1)))) rfl dX10_tell_54 (fun H locs hP hS => ?_)
          exact W.vret hx hb hr (fun t ht hW => ⟨⟨(f, g, (va_up (va_up r 5 sm) 6 (((upd (r 6) v52.toNatClampNeg ((1 : Int32) &&& 1))))), q), rfl, ⟨sm, ((upd (r 6) v52.toNatClampNeg ((1 : Int32) &&& 1))), rfl, ⟨(by rw [f52]; rfl), (by first | (rw [j2_1, show k = 11 by omega]; done) | (have n6 : ¬ r 6 (4 * j.toNatClampNeg + way.toNatClampNeg) = 0 := (fun z9 => c18 (e17.trans (by rw [f16]; exact z9))); rw [j2_1, if_neg n6, if_neg n6]))⟩⟩, by unfold mB; rw [ht]; exact hP⟩, hS.F ht⟩) hS.2.2 dX10_tell_55
        · skip
          have d18 := c18
          rw [fa_eq] at d18
          refine lv_aload_n hx hb dX10_tell_21 rfl (lv_at hl 1 rfl) ?_
          refine m_get (v := .ref (a 5)) hx hb hts hin hown hK hP 5 (by decide) rfl (hts (.fieldLink RX10 19 "ShadowBenchModel" "sums" "[I") (by decide +kernel)) rfl dX10_tell_22 ?_
          refine lv_bipush (v := 44) hx hb dX10_tell_25 (by decide) ?_
          refine lv_iload_n hx hb dX10_tell_27 rfl (lv_at hl 2 rfl) ?_
          refine lv_imul hx hb dX10_tell_28 ?_
          refine lv_topi (fun v28 e28 => ?_)
          have i28 : v28.toInt = 44 * j.toInt := by rw [e28]; exact mulcL rfl (by omega) (by omega)
          refine lv_bipush (v := 11) hx hb dX10_tell_29 (by decide) ?_
          refine lv_iload_n hx hb dX10_tell_31 rfl (lv_at hl 3 rfl) ?_
          refine lv_imul hx hb dX10_tell_32 ?_
          refine lv_topi (fun v32 e32 => ?_)
          have i32 : v32.toInt = 11 * way.toInt := by rw [e32]; exact mulcL rfl (by omega) (by omega)
          refine lv_iadd hx hb dX10_tell_33 ?_
          refine lv_topi (fun v33 e33 => ?_)
          have i33 : v33.toInt = v28.toInt + v32.toInt := by rw [e33]; exact fb_addI (by omega) (by omega)
          refine lv_iload_n hx hb dX10_tell_34 rfl (lv_at hl 0 rfl) ?_
          refine lv_iadd hx hb dX10_tell_35 ?_
          refine lv_topi (fun v35 e35 => ?_)
          have i35 : v35.toInt = v33.toInt + (nI k).toInt := by rw [e35]; exact fb_addI (by omega) (by omega)
          refine lv_iconst (v := 0) hx hb dX10_tell_36 (by decide) ?_
          refine m_iast (w := sm) hx hb hK hP hD hS 4 rfl (vp_in_iff.mpr ⟨by omega, by omega⟩) (va_up r 5 ((upd sm v35.toNatClampNeg (0 : Int32)))) rfl dX10_tell_37 (fun H locs hP hS => ?_)
          have cv8 := m_cl (x := v35) (by omega)
          have f35 : v35.toNatClampNeg = (44 * j.toNatClampNeg + 11 * way.toNatClampNeg) + k := by omega
          have z6 : r 6 (4 * j.toNatClampNeg + way.toNatClampNeg) = 0 := by rw [← f16, ← e17]; exact c18
          refine lv_iinc (v := (nI (k + 1))) (lv' := [(3, .int (nI (k + 1))), (0, .ref mo), (1, .int j), (2, .int way)]) hx hb dX10_tell_38 hl (k := 0) rfl (nI_1 _) (by decide) rfl (fun ls hl => ?_)
          refine lv_goto (tgt := 2) hx hb dX10_tell_41 (by decide) ?_
          exact ih_2 (k + 1) (((upd sm v35.toNatClampNeg (0 : Int32)))) (by omega) (by rw [j2_1, if_pos z6, if_pos z6, f35]; exact zL_s _ _ _) (by omega) _ _ hP hS ls (lv_sub hl [0, 1, 2, 3] rfl)
  exact loop_2 (11 + 1) 0 (r 5) (by omega) (by rw [zL_0]; split <;> rfl) (by omega) _ _ hP hS ls (lv_sub hl [0, 1, 2, 3] rfl)
set_option maxHeartbeats 4000000 in
set_option maxRecDepth 100000 in
theorem c_X10_sum_y (l : Launch) (D : va_G) (cy : Nat → ClassId) (mo : Nat) (a : Nat → Nat) (f : Nat → Int32) (g : Nat → Int64) (r : Nat → Nat → Int32) (q : Nat → Nat → Int64) (j : Int32) (way : Int32) (line : Int32) (v0 : Int32) (hD : DM cy mo a) (hI : MI f r) : Mi l D cy mo a yX10_sum wsX10_sum ({ frames := 2, cells := 0, slots := 0, locals := 48 }) f g r q [.int j, .int way, .int line, .int v0] (fun r0 u => ∃ (sm : Nat → Int32), ∃ (tl : Nat → Int32), u = ((upd f 0 (0 : Int32)), g, (va_up (va_up r 5 sm) 6 tl), q) ∧ ((okSum9 (f 1) (r 3 j.toNatClampNeg).toNatClampNeg (r 4 j.toNatClampNeg).toNatClampNeg j way line v0 ∧ r0 = 0 ∧ tl = upd (r 6) (4 * j.toNatClampNeg + way.toNatClampNeg) 1 ∧ sm = upd (if r 6 (4 * j.toNatClampNeg + way.toNatClampNeg) = 0 then zL (r 5) (44 * j.toNatClampNeg + 11 * way.toNatClampNeg) 11 else r 5) ((44 * j.toNatClampNeg + 11 * way.toNatClampNeg) + line.toNatClampNeg) v0) ∨ (¬ okSum9 (f 1) (r 3 j.toNatClampNeg).toNatClampNeg (r 4 j.toNatClampNeg).toNatClampNeg j way line v0 ∧ r0 = -1 ∧ tl = r 6 ∧ sm = r 5))) := by
  refine Met.ofW (cc := cX10_sum) (maxL := 5) (ret := (some .int)) (by decide) rfl ?_
  intro p e s m args below meth c s₁ B hml hv
  obtain ⟨rfl, hP, hK⟩ := hv
  have hx := B.exec
  have hb := B.bytes
  have hr := B.returns
  have hts := atoms_spec (ws := wsX10_sum) B.pre
  have hin : ∀ w ∈ u_ws RX10 TX10 35, w ∈ wsX10_sum := by decide +kernel
  have hown : s.vm.findClass RX10 = some m.cls := findClass_of_methodNamed B.named
  have hlocks := B.notSynchronized
  have hS : va_S (AM mo a) s.heap s.heap [] := va_S.rf
  have hl := lv_entry ([.ref mo, .int j, .int way, .int line, .int v0]) (n := 5) (Nat.le_of_ble_eq_true rfl)
  rw [lg_entry_eq]
  generalize (lg_sl ([.ref mo, .int j, .int way, .int line, .int v0]) ++ List.replicate (5 - (lg_sl ([.ref mo, .int j, .int way, .int line, .int v0])).length) Slot.unset).toArray = ls at hl ⊢
  have hl : lv_has ls 5 [(0, .ref mo), (1, .int j), (2, .int way), (3, .int line), (4, .int v0)] := hl
  have k_m1 : (-1 : Int32).toInt = -1 := by decide
  have k_0 : (0 : Int32).toInt = 0 := by decide
  have k_11 : (11 : Int32).toInt = 11 := by decide
  have k_44 : (44 : Int32).toInt = 44 := by decide
  have k_0L : (0 : Int64).toInt = 0 := by decide
  have k_6L : (6 : Int64).toInt = 6 := by decide
  have hI1 := hI.1
  refine lv_aload_n hx hb dX10_sum_0 rfl (lv_at hl 0 rfl) ?_
  refine lv_iconst (v := 0) hx hb dX10_sum_1 (by decide) ?_
  refine m_put (v := .int (0 : Int32)) (ty := .int) hx hb hts hin hown hK hP hD hS 0 (by decide) rfl (hts (.fieldLink RX10 79 "ShadowBenchModel" "thrown" "I") (by decide +kernel)) rfl (by decide +kernel) rfl rfl (upd f 0 (0 : Int32)) g rfl dX10_sum_2 (fun H locs hP hS => ?_)
  refine lv_aload_n hx hb dX10_sum_5 rfl (lv_at hl 0 rfl) ?_
  refine lv_iload_n hx hb dX10_sum_6 rfl (lv_at hl 1 rfl) ?_
  refine lv_iload_n hx hb dX10_sum_7 rfl (lv_at hl 2 rfl) ?_
  refine lv_iload_n hx hb dX10_sum_8 rfl (lv_at hl 3 rfl) ?_
  refine m_calli (As := [.int j, .int way, .int line]) (rest := []) ⟨hx, hb, hml, hown, hts⟩ (c_X10_isLine l D cy mo a (upd f 0 (0 : Int32)) g r q j way line hD hI) (cwV 3 hts gX10_sum_X10_isLine rfl rfl rfl (by decide +kernel) ⟨Nat.le_of_ble_eq_true rfl, Nat.le_of_ble_eq_true rfl⟩) hK hP rfl hl.1 rfl (Nat.le_of_ble_eq_true rfl) dX10_sum_9 ⟨Nat.le_of_ble_eq_true rfl, Nat.le_of_ble_eq_true rfl⟩ hS (fun r9 u H locs q9 hP hS => ?_)
  obtain ⟨rfl, q9⟩ := q9
  have hP : va_P D vwCl (WM cy mo a (upd f 0 (0 : Int32)) g r q) H := hP
  have q9 : Bo r9 (((0 ≤ j.toInt ∧ j.toInt < ((f 1)).toInt) ∧ 0 ≤ way.toInt ∧ way.toInt ≤ 3) ∧ 0 ≤ line.toInt ∧ line.toInt < (r_lines ((r 3) j.toNatClampNeg) ((r 4) j.toNatClampNeg) way).toInt) := q9
  refine lv_if_eq (tgt := 28) hx hb dX10_sum_12 (by decide) (fun c12 => ?_) (fun c12 => ?_)
  · skip
    have b12 := bo_f q9 c12
    refine lv_iconst (v := (-1)) hx hb dX10_sum_28 (by decide) ?_
    exact W.iret (v := ((-1) : Int32)) hx hb hr (fun t ht hW => ⟨⟨_, ((upd f 0 (0 : Int32)), g, (va_up (va_up r 5 (r 5)) 6 (r 6)), q), rfl, ⟨(r 5), (r 6), rfl, (Or.inr ⟨(fun z9 => by have z8 := z9.1; unfold okJob at z8; have z7 := z9.2.1; unfold okL at z7; have szw := mi_w hI (x := j) (by omega) (by omega) rfl; have szh := mi_h hI (x := j) (by omega) (by omega) rfl; have rl9 := rLn szw szh (way := way) (by omega); have z6 := z9.2.2; first | exact b12 ⟨⟨⟨by omega, by omega⟩, by omega⟩, by omega, by omega⟩ | (have y25 := b25; simp only [k64, show (0 : Int64).toInt = 0 from rfl, show (6 : Int64).toInt = 6 from rfl] at y25; omega) | exact b25 z6), rfl, rfl, rfl⟩)⟩, by unfold mB; rw [ht]; exact hP⟩, hS.F ht⟩) hS.2.2 dX10_sum_29
  · skip
    have b12 := bo_t q9 c12
    refine lv_iload hx hb dX10_sum_15 (lv_at hl 4 rfl) ?_
    refine lv_i2l (v := v0.toInt64) hx hb dX10_sum_17 rfl ?_
    refine lv_lconst (v := 0) hx hb dX10_sum_18 (by decide) ?_
    refine lv_ldc2 hx hb hown (hts (.constantLong RX10 83 (6)) (by decide +kernel)) dX10_sum_19 ?_
    refine m_pu (As := [.long (v0.toInt64), .long (0 : Int64), .long (6 : Int64)]) (rest := []) ⟨hx, hb, hml, hown, hts⟩ (c_X10_isIn l v0.toInt64 (0 : Int64) (6 : Int64) ) (va_cwS 3 hts gX10_sum_X10_isIn rfl rfl rfl (by decide +kernel) ⟨Nat.le_of_ble_eq_true rfl, Nat.le_of_ble_eq_true rfl⟩) hP rfl hl.1 rfl (Nat.le_of_ble_eq_true rfl) dX10_sum_22 ⟨Nat.le_of_ble_eq_true rfl, Nat.le_of_ble_eq_true rfl⟩ hS (fun r22 H locs q22 hP hS => ?_)
    have q22 := q22
    simp only [k64, show (0 : Int64).toInt = 0 from rfl, show (1 : Int64).toInt = 1 from rfl, show (2 : Int64).toInt = 2 from rfl, show (3 : Int64).toInt = 3 from rfl, show (6 : Int64).toInt = 6 from rfl] at q22
    refine lv_if_ne (tgt := 30) hx hb dX10_sum_25 (by decide) (fun c25 => ?_) (fun c25 => ?_)
    · skip
      have b25 := bo_t q22 c25
      have szw := mi_w hI (x := j) (by omega) (by omega) rfl
      have szh := mi_h hI (x := j) (by omega) (by omega) rfl
      have rl9 := fun z9 : 0 ≤ way.toInt => rLn szw szh (way := way) z9
      refine lv_aload_n hx hb dX10_sum_30 rfl (lv_at hl 0 rfl) ?_
      refine lv_iload_n hx hb dX10_sum_31 rfl (lv_at hl 1 rfl) ?_
      refine lv_iload_n hx hb dX10_sum_32 rfl (lv_at hl 2 rfl) ?_
      refine m_callv (As := [.int j, .int way]) (rest := []) ⟨hx, hb, hml, hown, hts⟩ (c_X10_tell_x l D cy mo a (upd f 0 (0 : Int32)) g r q j way hD (show 0 ≤ j.toInt ∧ j.toInt < 8 by omega) (show 0 ≤ way.toInt ∧ way.toInt ≤ 3 by omega)) (cwV 2 hts gX10_sum_X10_tell rfl rfl rfl (by decide +kernel) ⟨Nat.le_of_ble_eq_true rfl, Nat.le_of_ble_eq_true rfl⟩) hK hP rfl hl.1 rfl (Nat.le_of_ble_eq_true rfl) dX10_sum_33 ⟨Nat.le_of_ble_eq_true rfl, Nat.le_of_ble_eq_true rfl⟩ hS (fun u H locs q33 hP hS => ?_)
      obtain ⟨sm_33, tl_33, rfl, q33⟩ := q33
      have hP : va_P D vwCl (WM cy mo a (upd f 0 (0 : Int32)) g (va_up (va_up r 5 sm_33) 6 tl_33) q) H := hP
      have q33 : tl_33 = upd ((r 6)) (4 * j.toNatClampNeg + way.toNatClampNeg) 1 ∧ sm_33 = (if r 6 (4 * j.toNatClampNeg + way.toNatClampNeg) = 0 then zL ((r 5)) (44 * j.toNatClampNeg + 11 * way.toNatClampNeg) 11 else r 5) := q33
      have hlb := lines_lt (mi_w hI (x := j) (by omega) (by omega) rfl) (mi_h hI (x := j) (by omega) (by omega) rfl) way
      refine lv_aload_n hx hb dX10_sum_36 rfl (lv_at hl 0 rfl) ?_
      refine m_get (v := .ref (a 5)) hx hb hts hin hown hK hP 5 (by decide) rfl (hts (.fieldLink RX10 19 "ShadowBenchModel" "sums" "[I") (by decide +kernel)) rfl dX10_sum_37 ?_
      refine lv_bipush (v := 44) hx hb dX10_sum_40 (by decide) ?_
      refine lv_iload_n hx hb dX10_sum_42 rfl (lv_at hl 1 rfl) ?_
      refine lv_imul hx hb dX10_sum_43 ?_
      refine lv_topi (fun v43 e43 => ?_)
      have i43 : v43.toInt = 44 * j.toInt := by rw [e43]; exact mulcL rfl (by omega) (by omega)
      refine lv_bipush (v := 11) hx hb dX10_sum_44 (by decide) ?_
      refine lv_iload_n hx hb dX10_sum_46 rfl (lv_at hl 2 rfl) ?_
      refine lv_imul hx hb dX10_sum_47 ?_
      refine lv_topi (fun v47 e47 => ?_)
      have i47 : v47.toInt = 11 * way.toInt := by rw [e47]; exact mulcL rfl (by omega) (by omega)
      refine lv_iadd hx hb dX10_sum_48 ?_
      refine lv_topi (fun v48 e48 => ?_)
      have i48 : v48.toInt = v43.toInt + v47.toInt := by rw [e48]; exact fb_addI (by omega) (by omega)
      refine lv_iload_n hx hb dX10_sum_49 rfl (lv_at hl 3 rfl) ?_
      refine lv_iadd hx hb dX10_sum_50 ?_
      refine lv_topi (fun v50 e50 => ?_)
      have i50 : v50.toInt = v48.toInt + line.toInt := by rw [e50]; exact fb_addI (by omega) (by omega)
      refine lv_iload hx hb dX10_sum_51 (lv_at hl 4 rfl) ?_
      have cj9 := m_cl (x := j) (by omega)
      have cw9 := m_cl (x := way) (by omega)
      have cl9 := m_cl (x := line) (by omega)
      have cv9 := m_cl (x := v50) (by omega)
      have f50 : v50.toNatClampNeg = (44 * j.toNatClampNeg + 11 * way.toNatClampNeg) + line.toNatClampNeg := by omega
      refine m_iast (w := sm_33) hx hb hK hP hD hS 4 rfl (vp_in_iff.mpr ⟨by omega, by omega⟩) (va_up (va_up r 6 tl_33) 5 (upd sm_33 v50.toNatClampNeg v0)) rfl dX10_sum_53 (fun H locs hP hS => ?_)
      refine lv_iconst (v := 0) hx hb dX10_sum_54 (by decide) ?_
      exact W.iret (v := (0 : Int32)) hx hb hr (fun t ht hW => ⟨⟨_, ((upd f 0 (0 : Int32)), g, (va_up (va_up r 5 (upd sm_33 v50.toNatClampNeg v0)) 6 tl_33), q), rfl, ⟨(upd sm_33 v50.toNatClampNeg v0), tl_33, rfl, (Or.inl ⟨⟨(by unfold okJob; omega), (by have z9 := rl9 (by omega); unfold okL; omega), (by first | exact b25 | (have y25 := b25; simp only [k64, show (0 : Int64).toInt = 0 from rfl, show (6 : Int64).toInt = 6 from rfl] at y25; exact y25))⟩, rfl, q33.1, (by rw [f50, q33.2])⟩)⟩, by unfold mB; rw [ht]; exact hP⟩, hS.F ht⟩) hS.2.2 dX10_sum_55
    · skip
      have b25 := bo_f q22 c25
      refine lv_iconst (v := (-1)) hx hb dX10_sum_28 (by decide) ?_
      exact W.iret (v := ((-1) : Int32)) hx hb hr (fun t ht hW => ⟨⟨_, ((upd f 0 (0 : Int32)), g, (va_up (va_up r 5 (r 5)) 6 (r 6)), q), rfl, ⟨(r 5), (r 6), rfl, (Or.inr ⟨(fun z9 => by have z8 := z9.1; unfold okJob at z8; have z7 := z9.2.1; unfold okL at z7; have szw := mi_w hI (x := j) (by omega) (by omega) rfl; have szh := mi_h hI (x := j) (by omega) (by omega) rfl; have rl9 := rLn szw szh (way := way) (by omega); have z6 := z9.2.2; first | exact b12 ⟨⟨⟨by omega, by omega⟩, by omega⟩, by omega, by omega⟩ | (have y25 := b25; simp only [k64, show (0 : Int64).toInt = 0 from rfl, show (6 : Int64).toInt = 6 from rfl] at y25; omega) | exact b25 z6), rfl, rfl, rfl⟩)⟩, by unfold mB; rw [ht]; exact hP⟩, hS.F ht⟩) hS.2.2 dX10_sum_29
set_option maxHeartbeats 4000000 in
set_option maxRecDepth 100000 in
theorem c_X10_cast_y (l : Launch) (D : va_G) (cy : Nat → ClassId) (mo : Nat) (a : Nat → Nat) (f : Nat → Int32) (g : Nat → Int64) (r : Nat → Nat → Int32) (q : Nat → Nat → Int64) (j : Int32) (way : Int32) (p0 : Int64) (hD : DM cy mo a) (hI : MI f r) : Mi l D cy mo a yX10_cast wsX10_cast ({ frames := 3, cells := 0, slots := 0, locals := 69 }) f g r q [.int j, .int way, .long p0] (fun r0 u => ∃ (sm : Nat → Int32), ∃ (tl : Nat → Int32), u = ((upd f 0 (0 : Int32)), g, (va_up (va_up r 5 sm) 6 tl), q) ∧ ((okCast9 (f 1) (r 3 j.toNatClampNeg).toNatClampNeg (r 4 j.toNatClampNeg).toNatClampNeg j way p0 ∧ r0 = nI (bs (lb p0) 36) ∧ tl = upd (r 6) (4 * j.toNatClampNeg + way.toNatClampNeg) 1 ∧ sm = setB (if r 6 (4 * j.toNatClampNeg + way.toNatClampNeg) = 0 then zL (r 5) (44 * j.toNatClampNeg + 11 * way.toNatClampNeg) 11 else r 5) (44 * j.toNatClampNeg + 11 * way.toNatClampNeg) (fun l => nI (shN (r 3 j.toNatClampNeg).toNatClampNeg (r 4 j.toNatClampNeg).toNatClampNeg p0 way.toNatClampNeg l)) (lnC (r 3 j.toNatClampNeg).toNatClampNeg (r 4 j.toNatClampNeg).toNatClampNeg way.toNatClampNeg)) ∨ (¬ okCast9 (f 1) (r 3 j.toNatClampNeg).toNatClampNeg (r 4 j.toNatClampNeg).toNatClampNeg j way p0 ∧ r0 = -1 ∧ tl = r 6 ∧ sm = r 5))) := by
  refine Met.ofW (cc := cX10_cast) (maxL := 6) (ret := (some .int)) (by decide) rfl ?_
  intro p e s m args below meth c s₁ B hml hv
  obtain ⟨rfl, hP, hK⟩ := hv
  have hx := B.exec
  have hb := B.bytes
  have hr := B.returns
  have hts := atoms_spec (ws := wsX10_cast) B.pre
  have hin : ∀ w ∈ u_ws RX10 TX10 35, w ∈ wsX10_cast := by decide +kernel
  have hown : s.vm.findClass RX10 = some m.cls := findClass_of_methodNamed B.named
  have hlocks := B.notSynchronized
  have hS : va_S (AM mo a) s.heap s.heap [] := va_S.rf
  have hl := lv_entry ([.ref mo, .int j, .int way, .long p0]) (n := 6) (Nat.le_of_ble_eq_true rfl)
  rw [lg_entry_eq]
  generalize (lg_sl ([.ref mo, .int j, .int way, .long p0]) ++ List.replicate (6 - (lg_sl ([.ref mo, .int j, .int way, .long p0])).length) Slot.unset).toArray = ls at hl ⊢
  have hl : lv_has ls 6 [(0, .ref mo), (1, .int j), (2, .int way), (3, .long p0)] := hl
  have k_m1 : (-1 : Int32).toInt = -1 := by decide
  have k_0 : (0 : Int32).toInt = 0 := by decide
  have k_11 : (11 : Int32).toInt = 11 := by decide
  have k_44 : (44 : Int32).toInt = 44 := by decide
  have hI1 := hI.1
  refine lv_aload_n hx hb dX10_cast_0 rfl (lv_at hl 0 rfl) ?_
  refine lv_iconst (v := 0) hx hb dX10_cast_1 (by decide) ?_
  refine m_put (v := .int (0 : Int32)) (ty := .int) hx hb hts hin hown hK hP hD hS 0 (by decide) rfl (hts (.fieldLink RX10 79 "ShadowBenchModel" "thrown" "I") (by decide +kernel)) rfl (by decide +kernel) rfl rfl (upd f 0 (0 : Int32)) g rfl dX10_cast_2 (fun H locs hP hS => ?_)
  refine lv_aload_n hx hb dX10_cast_5 rfl (lv_at hl 0 rfl) ?_
  refine lv_iload_n hx hb dX10_cast_6 rfl (lv_at hl 1 rfl) ?_
  refine lv_iload_n hx hb dX10_cast_7 rfl (lv_at hl 2 rfl) ?_
  refine lv_iconst (v := 0) hx hb dX10_cast_8 (by decide) ?_
  refine m_calli (As := [.int j, .int way, .int (0 : Int32)]) (rest := []) ⟨hx, hb, hml, hown, hts⟩ (c_X10_isLine l D cy mo a (upd f 0 (0 : Int32)) g r q j way (0 : Int32) hD hI) (cwV 3 hts gX10_cast_X10_isLine rfl rfl rfl (by decide +kernel) ⟨Nat.le_of_ble_eq_true rfl, Nat.le_of_ble_eq_true rfl⟩) hK hP rfl hl.1 rfl (Nat.le_of_ble_eq_true rfl) dX10_cast_9 ⟨Nat.le_of_ble_eq_true rfl, Nat.le_of_ble_eq_true rfl⟩ hS (fun r9 u H locs q9 hP hS => ?_)
  obtain ⟨rfl, q9⟩ := q9
  have hP : va_P D vwCl (WM cy mo a (upd f 0 (0 : Int32)) g r q) H := hP
  have q9 : Bo r9 (((0 ≤ j.toInt ∧ j.toInt < ((f 1)).toInt) ∧ 0 ≤ way.toInt ∧ way.toInt ≤ 3) ∧ 0 ≤ (0 : Int32).toInt ∧ (0 : Int32).toInt < (r_lines ((r 3) j.toNatClampNeg) ((r 4) j.toNatClampNeg) way).toInt) := q9
  refine lv_if_eq (tgt := 34) hx hb dX10_cast_12 (by decide) (fun c12 => ?_) (fun c12 => ?_)
  · skip
    have b12 := bo_f q9 c12
    refine lv_iconst (v := (-1)) hx hb dX10_cast_34 (by decide) ?_
    exact W.iret (v := ((-1) : Int32)) hx hb hr (fun t ht hW => ⟨⟨_, ((upd f 0 (0 : Int32)), g, (va_up (va_up r 5 (r 5)) 6 (r 6)), q), rfl, ⟨(r 5), (r 6), rfl, (Or.inr ⟨(fun z9 => by have z8 := z9.1; unfold okJob at z8; have szw := mi_w hI (x := j) (by omega) (by omega) rfl; have szh := mi_h hI (x := j) (by omega) (by omega) rfl; have z7 := z9.2.1; have rl9 := lines_lt szw szh way; first | exact b12 ⟨⟨⟨by omega, by omega⟩, by omega⟩, by omega, by omega⟩ | (subst e20; subst e26; exact goodP_no b31 ⟨⟨szw, szh⟩, z9.2.2⟩)), rfl, rfl, rfl⟩)⟩, by unfold mB; rw [ht]; exact hP⟩, hS.F ht⟩) hS.2.2 dX10_cast_35
  · skip
    have b12 := bo_t q9 c12
    refine lv_aload_n hx hb dX10_cast_15 rfl (lv_at hl 0 rfl) ?_
    refine m_get (v := .ref (a 3)) hx hb hts hin hown hK hP 3 (by decide) rfl (hts (.fieldLink RX10 13 "ShadowBenchModel" "wide" "[I") (by decide +kernel)) rfl dX10_cast_16 ?_
    refine lv_iload_n hx hb dX10_cast_19 rfl (lv_at hl 1 rfl) ?_
    refine m_iald (w := (r 3)) hx hb hK hP 2 rfl (vp_in_iff.mpr ⟨by omega, by omega⟩) dX10_cast_20 ?_
    refine lv_topi (fun v20 e20 => ?_)
    have i20 : v20.toInt = ((r 3) j.toNatClampNeg).toInt := congrArg Int32.toInt e20
    have w20 := mi_w hI (x := j) (by omega) (by omega) e20
    refine lv_aload_n hx hb dX10_cast_21 rfl (lv_at hl 0 rfl) ?_
    refine m_get (v := .ref (a 4)) hx hb hts hin hown hK hP 4 (by decide) rfl (hts (.fieldLink RX10 16 "ShadowBenchModel" "high" "[I") (by decide +kernel)) rfl dX10_cast_22 ?_
    refine lv_iload_n hx hb dX10_cast_25 rfl (lv_at hl 1 rfl) ?_
    refine m_iald (w := (r 4)) hx hb hK hP 3 rfl (vp_in_iff.mpr ⟨by omega, by omega⟩) dX10_cast_26 ?_
    refine lv_topi (fun v26 e26 => ?_)
    have i26 : v26.toInt = ((r 4) j.toNatClampNeg).toInt := congrArg Int32.toInt e26
    have w26 := mi_h hI (x := j) (by omega) (by omega) e26
    refine lv_lload_n hx hb dX10_cast_27 rfl (lv_at hl 3 rfl) ?_
    refine m_pu (As := [.int v20, .int v26, .long p0]) (rest := []) ⟨hx, hb, hml, hown, hts⟩ (c_X10_isPicture l v20 v26 p0 ) (va_cwS 3 hts gX10_cast_X10_isPicture rfl rfl rfl (by decide +kernel) ⟨Nat.le_of_ble_eq_true rfl, Nat.le_of_ble_eq_true rfl⟩) hP rfl hl.1 rfl (Nat.le_of_ble_eq_true rfl) dX10_cast_28 ⟨Nat.le_of_ble_eq_true rfl, Nat.le_of_ble_eq_true rfl⟩ hS (fun r28 H locs q28 hP hS => ?_)
    refine lv_if_ne (tgt := 36) hx hb dX10_cast_31 (by decide) (fun c31 => ?_) (fun c31 => ?_)
    · skip
      have b31 := bo_t q28 c31
      refine lv_aload_n hx hb dX10_cast_36 rfl (lv_at hl 0 rfl) ?_
      refine lv_iload_n hx hb dX10_cast_37 rfl (lv_at hl 1 rfl) ?_
      refine lv_iload_n hx hb dX10_cast_38 rfl (lv_at hl 2 rfl) ?_
      refine m_callv (As := [.int j, .int way]) (rest := []) ⟨hx, hb, hml, hown, hts⟩ (c_X10_tell_x l D cy mo a (upd f 0 (0 : Int32)) g r q j way hD (show 0 ≤ j.toInt ∧ j.toInt < 8 by omega) (show 0 ≤ way.toInt ∧ way.toInt ≤ 3 by omega)) (cwV 2 hts gX10_cast_X10_tell rfl rfl rfl (by decide +kernel) ⟨Nat.le_of_ble_eq_true rfl, Nat.le_of_ble_eq_true rfl⟩) hK hP rfl hl.1 rfl (Nat.le_of_ble_eq_true rfl) dX10_cast_39 ⟨Nat.le_of_ble_eq_true rfl, Nat.le_of_ble_eq_true rfl⟩ hS (fun u H locs q39 hP hS => ?_)
      obtain ⟨sm_39, tl_39, rfl, q39⟩ := q39
      have hP : va_P D vwCl (WM cy mo a (upd f 0 (0 : Int32)) g (va_up (va_up r 5 sm_39) 6 tl_39) q) H := hP
      have q39 : tl_39 = upd ((r 6)) (4 * j.toNatClampNeg + way.toNatClampNeg) 1 ∧ sm_39 = (if r 6 (4 * j.toNatClampNeg + way.toNatClampNeg) = 0 then zL ((r 5)) (44 * j.toNatClampNeg + 11 * way.toNatClampNeg) 11 else r 5) := q39
      refine lv_iconst (v := 0) hx hb dX10_cast_42 (by decide) ?_
      refine lv_istore (lv' := [(5, .int (0 : Int32)), (0, .ref mo), (1, .int j), (2, .int way), (3, .long p0)]) hx hb dX10_cast_43 hl (by decide) rfl (fun ls hl => ?_)
      have loop_45 : ∀ (n : Nat) (k : Nat) (sm : Nat → Int32), (k ≤ 11 ∧ (k : Int) ≤ (lnC (r 3 j.toNatClampNeg).toNatClampNeg (r 4 j.toNatClampNeg).toNatClampNeg way.toNatClampNeg : Int)) → (sm = setB sm_39 (44 * j.toNatClampNeg + 11 * way.toNatClampNeg) (fun l => nI (shN (r 3 j.toNatClampNeg).toNatClampNeg (r 4 j.toNatClampNeg).toNatClampNeg p0 way.toNatClampNeg l)) k) → 11 - k < n → ∀ (H : Heap) (locs : List Loc), va_P D vwCl (WM cy mo a (upd f 0 (0 : Int32)) g (va_up (va_up r 6 tl_39) 5 sm) q) H → va_S (AM mo a) s.heap H locs → ∀ (ls : Array Slot), lv_has ls 6 [(5, .int (nI k)), (0, .ref mo), (1, .int j), (2, .int way), (3, .long p0)] → W p l e (headSpec wsX10_cast ({ frames := 3, cells := 0, slots := 0, locals := 69 })).room s m #[Value.ref mo, Value.int j, Value.int way, Value.long p0] below meth c H locs 0 0 (MQ below (va_Qi (fun r0 u => ∃ (sm : Nat → Int32), ∃ (tl : Nat → Int32), u = ((upd f 0 (0 : Int32)), g, (va_up (va_up r 5 sm) 6 tl), q) ∧ ((okCast9 (f 1) (r 3 j.toNatClampNeg).toNatClampNeg (r 4 j.toNatClampNeg).toNatClampNeg j way p0 ∧ r0 = nI (bs (lb p0) 36) ∧ tl = upd (r 6) (4 * j.toNatClampNeg + way.toNatClampNeg) 1 ∧ sm = setB (if r 6 (4 * j.toNatClampNeg + way.toNatClampNeg) = 0 then zL (r 5) (44 * j.toNatClampNeg + 11 * way.toNatClampNeg) 11 else r 5) (44 * j.toNatClampNeg + 11 * way.toNatClampNeg) (fun l => nI (shN (r 3 j.toNatClampNeg).toNatClampNeg (r 4 j.toNatClampNeg).toNatClampNeg p0 way.toNatClampNeg l)) (lnC (r 3 j.toNatClampNeg).toNatClampNeg (r 4 j.toNatClampNeg).toNatClampNeg way.toNatClampNeg)) ∨ (¬ okCast9 (f 1) (r 3 j.toNatClampNeg).toNatClampNeg (r 4 j.toNatClampNeg).toNatClampNeg j way p0 ∧ r0 = -1 ∧ tl = r 6 ∧ sm = r 5))) (mB D cy mo a) (AM mo a)) #[Value.ref mo, Value.int j, Value.int way, Value.long p0] s 0 0 (AM mo a)) (F0 m 45 ls []) := by
        intro n
        induction n with
        | zero => intro k sm j45_0 j45_1 hn; exact absurd hn (Nat.not_lt_zero _)
        | succ n ih_45 =>
          intro k sm j45_0 j45_1 hn_45 H locs hP hS ls hl
          have ik : (nI k).toInt = (k : Int) := nI_toInt (by omega)
          have cj9 := m_cl (x := j) (by omega)
          have cw9 := m_cl (x := way) (by omega)
          have szw := mi_w hI (x := j) (by omega) (by omega) rfl
          have szh := mi_h hI (x := j) (by omega) (by omega) rfl
          have hLn := rLn szw szh (way := way) (by omega)
          refine lv_iload hx hb dX10_cast_45 (lv_at hl 0 rfl) ?_
          refine lv_aload_n hx hb dX10_cast_47 rfl (lv_at hl 1 rfl) ?_
          refine m_get (v := .ref (a 3)) hx hb hts hin hown hK hP 3 (by decide) rfl (hts (.fieldLink RX10 13 "ShadowBenchModel" "wide" "[I") (by decide +kernel)) rfl dX10_cast_48 ?_
          refine lv_iload_n hx hb dX10_cast_51 rfl (lv_at hl 2 rfl) ?_
          refine m_iald (w := (r 3)) hx hb hK hP 2 rfl (vp_in_iff.mpr ⟨by omega, by omega⟩) dX10_cast_52 ?_
          refine lv_topi (fun v52 e52 => ?_)
          have i52 : v52.toInt = ((r 3) j.toNatClampNeg).toInt := congrArg Int32.toInt e52
          have w52 := mi_w hI (x := j) (by omega) (by omega) e52
          refine lv_aload_n hx hb dX10_cast_53 rfl (lv_at hl 1 rfl) ?_
          refine m_get (v := .ref (a 4)) hx hb hts hin hown hK hP 4 (by decide) rfl (hts (.fieldLink RX10 16 "ShadowBenchModel" "high" "[I") (by decide +kernel)) rfl dX10_cast_54 ?_
          refine lv_iload_n hx hb dX10_cast_57 rfl (lv_at hl 2 rfl) ?_
          refine m_iald (w := (r 4)) hx hb hK hP 3 rfl (vp_in_iff.mpr ⟨by omega, by omega⟩) dX10_cast_58 ?_
          refine lv_topi (fun v58 e58 => ?_)
          have i58 : v58.toInt = ((r 4) j.toNatClampNeg).toInt := congrArg Int32.toInt e58
          have w58 := mi_h hI (x := j) (by omega) (by omega) e58
          refine lv_iload_n hx hb dX10_cast_59 rfl (lv_at hl 3 rfl) ?_
          refine m_pu (As := [.int v52, .int v58, .int way]) (rest := [.int (nI k)]) ⟨hx, hb, hml, hown, hts⟩ (c_X10_linesOf l v52 v58 way ) (va_cwS 3 hts gX10_cast_X10_linesOf rfl rfl rfl (by decide +kernel) ⟨Nat.le_of_ble_eq_true rfl, Nat.le_of_ble_eq_true rfl⟩) hP rfl hl.1 rfl (Nat.le_of_ble_eq_true rfl) dX10_cast_60 ⟨Nat.le_of_ble_eq_true rfl, Nat.le_of_ble_eq_true rfl⟩ hS (fun r60 H locs q60 hP hS => ?_)
          have i60 : r60.toInt = (r_lines v52 v58 way).toInt := congrArg Int32.toInt q60
          have hlb := lines_lt w52 w58 way
          refine lv_icmp_ge (tgt := 108) hx hb dX10_cast_63 (by decide) (fun c63 => ?_) (fun c63 => ?_)
          · skip
            have d63 := c63
            rw [fa_le] at d63
            have i60 := congrArg Int32.toInt q60
            rw [e52, e58] at i60
            refine lv_lload_n hx hb dX10_cast_108 rfl (lv_at hl 4 rfl) ?_
            refine m_pu (As := [.long p0]) (rest := []) ⟨hx, hb, hml, hown, hts⟩ (c_X10_countOnes l p0 ) (va_cwS 1 hts gX10_cast_X10_countOnes rfl rfl rfl (by decide +kernel) ⟨Nat.le_of_ble_eq_true rfl, Nat.le_of_ble_eq_true rfl⟩) hP rfl hl.1 rfl (Nat.le_of_ble_eq_true rfl) dX10_cast_109 ⟨Nat.le_of_ble_eq_true rfl, Nat.le_of_ble_eq_true rfl⟩ hS (fun r109 H locs q109 hP hS => ?_)
            exact W.iret (v := r109) hx hb hr (fun t ht hW => ⟨⟨_, ((upd f 0 (0 : Int32)), g, (va_up (va_up r 5 sm) 6 tl_39), q), rfl, ⟨sm, tl_39, rfl, (Or.inl ⟨⟨(by unfold okJob; omega), (by omega), (by have z9 := goodP_of b31; subst e20; subst e26; exact z9.2)⟩, (by rw [q109]; exact r_onesN p0 36 (Nat.le_refl _)), q39.1, (by rw [j45_1, q39.2, show k = lnC (r 3 j.toNatClampNeg).toNatClampNeg (r 4 j.toNatClampNeg).toNatClampNeg way.toNatClampNeg by omega])⟩)⟩, by unfold mB; rw [ht]; exact hP⟩, hS.F ht⟩) hS.2.2 dX10_cast_112
          · skip
            have d63 := c63
            rw [fa_le] at d63
            have i60 := congrArg Int32.toInt q60
            rw [e52, e58] at i60
            refine lv_aload_n hx hb dX10_cast_66 rfl (lv_at hl 1 rfl) ?_
            refine m_get (v := .ref (a 5)) hx hb hts hin hown hK hP 5 (by decide) rfl (hts (.fieldLink RX10 19 "ShadowBenchModel" "sums" "[I") (by decide +kernel)) rfl dX10_cast_67 ?_
            refine lv_bipush (v := 44) hx hb dX10_cast_70 (by decide) ?_
            refine lv_iload_n hx hb dX10_cast_72 rfl (lv_at hl 2 rfl) ?_
            refine lv_imul hx hb dX10_cast_73 ?_
            refine lv_topi (fun v73 e73 => ?_)
            have i73 : v73.toInt = 44 * j.toInt := by rw [e73]; exact mulcL rfl (by omega) (by omega)
            refine lv_bipush (v := 11) hx hb dX10_cast_74 (by decide) ?_
            refine lv_iload_n hx hb dX10_cast_76 rfl (lv_at hl 3 rfl) ?_
            refine lv_imul hx hb dX10_cast_77 ?_
            refine lv_topi (fun v77 e77 => ?_)
            have i77 : v77.toInt = 11 * way.toInt := by rw [e77]; exact mulcL rfl (by omega) (by omega)
            refine lv_iadd hx hb dX10_cast_78 ?_
            refine lv_topi (fun v78 e78 => ?_)
            have i78 : v78.toInt = v73.toInt + v77.toInt := by rw [e78]; exact fb_addI (by omega) (by omega)
            refine lv_iload hx hb dX10_cast_79 (lv_at hl 0 rfl) ?_
            refine lv_iadd hx hb dX10_cast_81 ?_
            refine lv_topi (fun v81 e81 => ?_)
            have i81 : v81.toInt = v78.toInt + (nI k).toInt := by rw [e81]; exact fb_addI (by omega) (by omega)
            refine lv_aload_n hx hb dX10_cast_82 rfl (lv_at hl 1 rfl) ?_
            refine m_get (v := .ref (a 3)) hx hb hts hin hown hK hP 3 (by decide) rfl (hts (.fieldLink RX10 13 "ShadowBenchModel" "wide" "[I") (by decide +kernel)) rfl dX10_cast_83 ?_
            refine lv_iload_n hx hb dX10_cast_86 rfl (lv_at hl 2 rfl) ?_
            refine m_iald (w := (r 3)) hx hb hK hP 2 rfl (vp_in_iff.mpr ⟨by omega, by omega⟩) dX10_cast_87 ?_
            refine lv_topi (fun v87 e87 => ?_)
            have i87 : v87.toInt = ((r 3) j.toNatClampNeg).toInt := congrArg Int32.toInt e87
            have w87 := mi_w hI (x := j) (by omega) (by omega) e87
            refine lv_aload_n hx hb dX10_cast_88 rfl (lv_at hl 1 rfl) ?_
            refine m_get (v := .ref (a 4)) hx hb hts hin hown hK hP 4 (by decide) rfl (hts (.fieldLink RX10 16 "ShadowBenchModel" "high" "[I") (by decide +kernel)) rfl dX10_cast_89 ?_
            refine lv_iload_n hx hb dX10_cast_92 rfl (lv_at hl 2 rfl) ?_
            refine m_iald (w := (r 4)) hx hb hK hP 3 rfl (vp_in_iff.mpr ⟨by omega, by omega⟩) dX10_cast_93 ?_
            refine lv_topi (fun v93 e93 => ?_)
            have i93 : v93.toInt = ((r 4) j.toNatClampNeg).toInt := congrArg Int32.toInt e93
            have w93 := mi_h hI (x := j) (by omega) (by omega) e93
            refine lv_lload_n hx hb dX10_cast_94 rfl (lv_at hl 4 rfl) ?_
            refine lv_iload_n hx hb dX10_cast_95 rfl (lv_at hl 3 rfl) ?_
            refine lv_iload hx hb dX10_cast_96 (lv_at hl 0 rfl) ?_
            refine m_pu (As := [.int v87, .int v93, .long p0, .int way, .int (nI k)]) (rest := [.int v81, .ref (a 5)]) ⟨hx, hb, hml, hown, hts⟩ (c_X10_shadowOf l v87 v93 p0 way (nI k) w87 w93) (va_cwS 5 hts gX10_cast_X10_shadowOf rfl rfl rfl (by decide +kernel) ⟨Nat.le_of_ble_eq_true rfl, Nat.le_of_ble_eq_true rfl⟩) hP rfl hl.1 rfl (Nat.le_of_ble_eq_true rfl) dX10_cast_98 ⟨Nat.le_of_ble_eq_true rfl, Nat.le_of_ble_eq_true rfl⟩ hS (fun r98 H locs q98 hP hS => ?_)
            have cv9 := m_cl (x := v81) (by omega)
            have f81 : v81.toNatClampNeg = (44 * j.toNatClampNeg + 11 * way.toNatClampNeg) + k := by omega
            subst e87
            subst e93
            have s98 := r_shS szw szh (by omega) (by omega) q98
            rw [nI_clamp (n := k) (by omega)] at s98
            refine m_iast (w := sm) hx hb hK hP hD hS 4 rfl (vp_in_iff.mpr ⟨by omega, by omega⟩) (va_up (va_up r 6 tl_39) 5 (upd sm v81.toNatClampNeg r98)) rfl dX10_cast_101 (fun H locs hP hS => ?_)
            refine lv_iinc (v := (nI (k + 1))) (lv' := [(5, .int (nI (k + 1))), (0, .ref mo), (1, .int j), (2, .int way), (3, .long p0)]) hx hb dX10_cast_102 hl (k := 0) rfl (nI_1 _) (by decide) rfl (fun ls hl => ?_)
            refine lv_goto (tgt := 45) hx hb dX10_cast_105 (by decide) ?_
            exact ih_45 (k + 1) (upd sm v81.toNatClampNeg r98) (by omega) (by rw [j45_1, f81, s98]; exact setB_s _ _ _ _) (by omega) _ _ hP hS ls (lv_sub hl [0, 1, 2, 3, 4] rfl)
      exact loop_45 (11 + 1) 0 sm_39 (by omega) ((setB_0 _ _ _).symm) (by omega) _ _ hP hS ls (lv_sub hl [0, 1, 2, 3, 4] rfl)
    · skip
      have b31 := bo_f q28 c31
      refine lv_iconst (v := (-1)) hx hb dX10_cast_34 (by decide) ?_
      exact W.iret (v := ((-1) : Int32)) hx hb hr (fun t ht hW => ⟨⟨_, ((upd f 0 (0 : Int32)), g, (va_up (va_up r 5 (r 5)) 6 (r 6)), q), rfl, ⟨(r 5), (r 6), rfl, (Or.inr ⟨(fun z9 => by have z8 := z9.1; unfold okJob at z8; have szw := mi_w hI (x := j) (by omega) (by omega) rfl; have szh := mi_h hI (x := j) (by omega) (by omega) rfl; have z7 := z9.2.1; have rl9 := lines_lt szw szh way; first | exact b12 ⟨⟨⟨by omega, by omega⟩, by omega⟩, by omega, by omega⟩ | (subst e20; subst e26; exact goodP_no b31 ⟨⟨szw, szh⟩, z9.2.2⟩)), rfl, rfl, rfl⟩)⟩, by unfold mB; rw [ht]; exact hP⟩, hS.F ht⟩) hS.2.2 dX10_cast_35
set_option maxHeartbeats 4000000 in
set_option maxRecDepth 100000 in
theorem c_X10_untell_y (l : Launch) (D : va_G) (cy : Nat → ClassId) (mo : Nat) (a : Nat → Nat) (f : Nat → Int32) (g : Nat → Int64) (r : Nat → Nat → Int32) (q : Nat → Nat → Int64) (j : Int32) (way : Int32) (hD : DM cy mo a) (hI : MI f r) : Mi l D cy mo a yX10_untell wsX10_untell ({ frames := 1, cells := 0, slots := 0, locals := 25 }) f g r q [.int j, .int way] (fun r0 u => ∃ (tl : Nat → Int32), u = ((upd f 0 (0 : Int32)), g, (va_up r 6 tl), q) ∧ ((okUn9 (f 1) j way ∧ r0 = (if r 6 (4 * j.toNatClampNeg + way.toNatClampNeg) = 0 then 0 else 1) ∧ tl = upd (r 6) (4 * j.toNatClampNeg + way.toNatClampNeg) 0) ∨ (¬ okUn9 (f 1) j way ∧ r0 = -1 ∧ tl = r 6))) := by
  refine Met.ofW (cc := cX10_untell) (maxL := 4) (ret := (some .int)) (by decide) rfl ?_
  intro p e s m args below meth c s₁ B hml hv
  obtain ⟨rfl, hP, hK⟩ := hv
  have hx := B.exec
  have hb := B.bytes
  have hr := B.returns
  have hts := atoms_spec (ws := wsX10_untell) B.pre
  have hin : ∀ w ∈ u_ws RX10 TX10 35, w ∈ wsX10_untell := by decide +kernel
  have hown : s.vm.findClass RX10 = some m.cls := findClass_of_methodNamed B.named
  have hlocks := B.notSynchronized
  have hS : va_S (AM mo a) s.heap s.heap [] := va_S.rf
  have hl := lv_entry ([.ref mo, .int j, .int way]) (n := 4) (Nat.le_of_ble_eq_true rfl)
  rw [lg_entry_eq]
  generalize (lg_sl ([.ref mo, .int j, .int way]) ++ List.replicate (4 - (lg_sl ([.ref mo, .int j, .int way])).length) Slot.unset).toArray = ls at hl ⊢
  have hl : lv_has ls 4 [(0, .ref mo), (1, .int j), (2, .int way)] := hl
  have k_m1 : (-1 : Int32).toInt = -1 := by decide
  have k_0 : (0 : Int32).toInt = 0 := by decide
  have k_1 : (1 : Int32).toInt = 1 := by decide
  have k_4 : (4 : Int32).toInt = 4 := by decide
  have k_2L : (2 : Int64).toInt = 2 := by decide
  have k_3L : (3 : Int64).toInt = 3 := by decide
  have hI1 := hI.1
  refine lv_aload_n hx hb dX10_untell_0 rfl (lv_at hl 0 rfl) ?_
  refine lv_iconst (v := 0) hx hb dX10_untell_1 (by decide) ?_
  refine m_put (v := .int (0 : Int32)) (ty := .int) hx hb hts hin hown hK hP hD hS 0 (by decide) rfl (hts (.fieldLink RX10 79 "ShadowBenchModel" "thrown" "I") (by decide +kernel)) rfl (by decide +kernel) rfl rfl (upd f 0 (0 : Int32)) g rfl dX10_untell_2 (fun H locs hP hS => ?_)
  refine lv_aload_n hx hb dX10_untell_5 rfl (lv_at hl 0 rfl) ?_
  refine lv_iload_n hx hb dX10_untell_6 rfl (lv_at hl 1 rfl) ?_
  refine m_calli (As := [.int j]) (rest := []) ⟨hx, hb, hml, hown, hts⟩ (c_X10_isJob l D cy mo a (upd f 0 (0 : Int32)) g r q j hD) (cwV 1 hts gX10_untell_X10_isJob rfl rfl rfl (by decide +kernel) ⟨Nat.le_of_ble_eq_true rfl, Nat.le_of_ble_eq_true rfl⟩) hK hP rfl hl.1 rfl (Nat.le_of_ble_eq_true rfl) dX10_untell_7 ⟨Nat.le_of_ble_eq_true rfl, Nat.le_of_ble_eq_true rfl⟩ hS (fun r7 u H locs q7 hP hS => ?_)
  obtain ⟨rfl, q7⟩ := q7
  have hP : va_P D vwCl (WM cy mo a (upd f 0 (0 : Int32)) g r q) H := hP
  have q7 : Bo r7 (0 ≤ j.toInt ∧ j.toInt < ((f 1)).toInt) := q7
  refine lv_if_eq (tgt := 27) hx hb dX10_untell_10 (by decide) (fun c10 => ?_) (fun c10 => ?_)
  · skip
    have b10 := bo_f q7 c10
    refine lv_iconst (v := (-1)) hx hb dX10_untell_27 (by decide) ?_
    exact W.iret (v := ((-1) : Int32)) hx hb hr (fun t ht hW => ⟨⟨_, ((upd f 0 (0 : Int32)), g, (va_up r 6 (r 6)), q), rfl, ⟨(r 6), rfl, (Or.inr ⟨(fun z9 => by have z8 := z9.1; unfold okJob at z8; have z7 := z9.2; first | omega | (have y24 := b24; simp only [k64, show (2 : Int64).toInt = 2 from rfl, show (3 : Int64).toInt = 3 from rfl] at y24; omega)), rfl, rfl⟩)⟩, by unfold mB; rw [ht]; exact hP⟩, hS.F ht⟩) hS.2.2 dX10_untell_28
  · skip
    have b10 := bo_t q7 c10
    refine lv_iload_n hx hb dX10_untell_13 rfl (lv_at hl 2 rfl) ?_
    refine lv_i2l (v := way.toInt64) hx hb dX10_untell_14 rfl ?_
    refine lv_ldc2 hx hb hown (hts (.constantLong RX10 134 (2)) (by decide +kernel)) dX10_untell_15 ?_
    refine lv_ldc2 hx hb hown (hts (.constantLong RX10 116 (3)) (by decide +kernel)) dX10_untell_18 ?_
    refine m_pu (As := [.long (way.toInt64), .long (2 : Int64), .long (3 : Int64)]) (rest := []) ⟨hx, hb, hml, hown, hts⟩ (c_X10_isIn l way.toInt64 (2 : Int64) (3 : Int64) ) (va_cwS 3 hts gX10_untell_X10_isIn rfl rfl rfl (by decide +kernel) ⟨Nat.le_of_ble_eq_true rfl, Nat.le_of_ble_eq_true rfl⟩) hP rfl hl.1 rfl (Nat.le_of_ble_eq_true rfl) dX10_untell_21 ⟨Nat.le_of_ble_eq_true rfl, Nat.le_of_ble_eq_true rfl⟩ hS (fun r21 H locs q21 hP hS => ?_)
    have q21 := q21
    simp only [k64, show (0 : Int64).toInt = 0 from rfl, show (1 : Int64).toInt = 1 from rfl, show (2 : Int64).toInt = 2 from rfl, show (3 : Int64).toInt = 3 from rfl, show (6 : Int64).toInt = 6 from rfl] at q21
    refine lv_if_ne (tgt := 29) hx hb dX10_untell_24 (by decide) (fun c24 => ?_) (fun c24 => ?_)
    · skip
      have b24 := bo_t q21 c24
      have y24 := b24
      try simp only [k64, show (2 : Int64).toInt = 2 from rfl, show (3 : Int64).toInt = 3 from rfl] at y24
      refine lv_aload_n hx hb dX10_untell_29 rfl (lv_at hl 0 rfl) ?_
      refine m_get (v := .ref (a 6)) hx hb hts hin hown hK hP 6 (by decide) rfl (hts (.fieldLink RX10 22 "ShadowBenchModel" "isTold" "[Z") (by decide +kernel)) rfl dX10_untell_30 ?_
      refine lv_iconst (v := 4) hx hb dX10_untell_33 (by decide) ?_
      refine lv_iload_n hx hb dX10_untell_34 rfl (lv_at hl 1 rfl) ?_
      refine lv_imul hx hb dX10_untell_35 ?_
      refine lv_topi (fun v35 e35 => ?_)
      have i35 : v35.toInt = 4 * j.toInt := by rw [e35]; exact mulcL rfl (by omega) (by omega)
      refine lv_iload_n hx hb dX10_untell_36 rfl (lv_at hl 2 rfl) ?_
      refine lv_iadd hx hb dX10_untell_37 ?_
      refine lv_topi (fun v37 e37 => ?_)
      have i37 : v37.toInt = v35.toInt + way.toInt := by rw [e37]; exact fb_addI (by omega) (by omega)
      refine m_zald (w := (r 6)) hx hb hK hP 5 rfl (vp_in_iff.mpr ⟨by omega, by omega⟩) dX10_untell_38 ?_
      refine lv_topi (fun v38 e38 => ?_)
      have i38 : v38.toInt = ((r 6) v37.toNatClampNeg).toInt := congrArg Int32.toInt e38
      have cj9 := m_cl (x := j) (by omega)
      have cw9 := m_cl (x := way) (by omega)
      have cv9 := m_cl (x := v37) (by omega)
      have f37 : v37.toNatClampNeg = (4 * j.toNatClampNeg + way.toNatClampNeg) := by omega
      refine lv_istore_n (lv' := [(3, .int v38), (0, .ref mo), (1, .int j), (2, .int way)]) hx hb dX10_untell_39 rfl hl (by decide) rfl (fun ls hl => ?_)
      refine lv_aload_n hx hb dX10_untell_40 rfl (lv_at hl 1 rfl) ?_
      refine m_get (v := .ref (a 6)) hx hb hts hin hown hK hP 6 (by decide) rfl (hts (.fieldLink RX10 22 "ShadowBenchModel" "isTold" "[Z") (by decide +kernel)) rfl dX10_untell_41 ?_
      refine lv_iconst (v := 4) hx hb dX10_untell_44 (by decide) ?_
      refine lv_iload_n hx hb dX10_untell_45 rfl (lv_at hl 2 rfl) ?_
      refine lv_imul hx hb dX10_untell_46 ?_
      refine lv_topi (fun v46 e46 => ?_)
      have i46 : v46.toInt = 4 * j.toInt := by rw [e46]; exact mulcL rfl (by omega) (by omega)
      refine lv_iload_n hx hb dX10_untell_47 rfl (lv_at hl 3 rfl) ?_
      refine lv_iadd hx hb dX10_untell_48 ?_
      refine lv_topi (fun v48 e48 => ?_)
      have i48 : v48.toInt = v46.toInt + way.toInt := by rw [e48]; exact fb_addI (by omega) (by omega)
      refine lv_iconst (v := 0) hx hb dX10_untell_49 (by decide) ?_
      refine m_zast (w := (r 6)) hx hb hK hP hD hS 5 rfl (vp_in_iff.mpr ⟨by omega, by omega⟩) (va_up r 6 ((upd (r 6) v48.toNatClampNeg ((0 : Int32) &&& 1)))) rfl dX10_untell_50 (fun H locs hP hS => ?_)
      have cv8 := m_cl (x := v48) (by omega)
      have f48 : v48.toNatClampNeg = (4 * j.toNatClampNeg + way.toNatClampNeg) := by omega
      refine lv_iload_n hx hb dX10_untell_51 rfl (lv_at hl 0 rfl) ?_
      refine lv_if_eq (tgt := 59) hx hb dX10_untell_52 (by decide) (fun c52 => ?_) (fun c52 => ?_)
      · skip
        have d52 := c52
        rw [fa_eq] at d52
        refine lv_iconst (v := 0) hx hb dX10_untell_59 (by decide) ?_
        exact W.iret (v := (0 : Int32)) hx hb hr (fun t ht hW => ⟨⟨_, ((upd f 0 (0 : Int32)), g, (va_up r 6 (((upd (r 6) v48.toNatClampNeg ((0 : Int32) &&& 1))))), q), rfl, ⟨((upd (r 6) v48.toNatClampNeg ((0 : Int32) &&& 1))), rfl, (Or.inl ⟨⟨(by unfold okJob; omega), (by omega)⟩, (by rw [← f37, ← e38]; first | (rw [if_neg c52]; done) | (rw [if_pos c52]; done)), (by rw [f48]; rfl)⟩)⟩, by unfold mB; rw [ht]; exact hP⟩, hS.F ht⟩) hS.2.2 dX10_untell_60
      · skip
        have d52 := c52
        rw [fa_eq] at d52
        refine lv_iconst (v := 1) hx hb dX10_untell_55 (by decide) ?_
        refine lv_goto (tgt := 60) hx hb dX10_untell_56 (by decide) ?_
        exact W.iret (v := (1 : Int32)) hx hb hr (fun t ht hW => ⟨⟨_, ((upd f 0 (0 : Int32)), g, (va_up r 6 (((upd (r 6) v48.toNatClampNeg ((0 : Int32) &&& 1))))), q), rfl, ⟨((upd (r 6) v48.toNatClampNeg ((0 : Int32) &&& 1))), rfl, (Or.inl ⟨⟨(by unfold okJob; omega), (by omega)⟩, (by rw [← f37, ← e38]; first | (rw [if_neg c52]; done) | (rw [if_pos c52]; done)), (by rw [f48]; rfl)⟩)⟩, by unfold mB; rw [ht]; exact hP⟩, hS.F ht⟩) hS.2.2 dX10_untell_60
    · skip
      have b24 := bo_f q21 c24
      refine lv_iconst (v := (-1)) hx hb dX10_untell_27 (by decide) ?_
      exact W.iret (v := ((-1) : Int32)) hx hb hr (fun t ht hW => ⟨⟨_, ((upd f 0 (0 : Int32)), g, (va_up r 6 (r 6)), q), rfl, ⟨(r 6), rfl, (Or.inr ⟨(fun z9 => by have z8 := z9.1; unfold okJob at z8; have z7 := z9.2; first | omega | (have y24 := b24; simp only [k64, show (2 : Int64).toInt = 2 from rfl, show (3 : Int64).toInt = 3 from rfl] at y24; omega)), rfl, rfl⟩)⟩, by unfold mB; rw [ht]; exact hP⟩, hS.F ht⟩) hS.2.2 dX10_untell_28
set_option maxHeartbeats 4000000 in
set_option maxRecDepth 100000 in
theorem c_X10_hold_y (l : Launch) (D : va_G) (cy : Nat → ClassId) (mo : Nat) (a : Nat → Nat) (f : Nat → Int32) (g : Nat → Int64) (r : Nat → Nat → Int32) (q : Nat → Nat → Int64) (j : Int32) (s0 : Int32) (how : Int32) (hD : DM cy mo a) (hI : MI f r) : Mi l D cy mo a yX10_hold wsX10_hold ({ frames := 2, cells := 0, slots := 0, locals := 43 }) f g r q [.int j, .int s0, .int how] (fun r0 u => ∃ (hd : Nat → Int32), u = ((upd f 0 (0 : Int32)), g, (va_up r 7 hd), q) ∧ ((okHold9 (f 1) (r 3 j.toNatClampNeg).toNatClampNeg (r 4 j.toNatClampNeg).toNatClampNeg j s0 how ∧ r0 = r 7 (36 * j.toNatClampNeg + s0.toNatClampNeg) ∧ hd = upd (r 7) (36 * j.toNatClampNeg + s0.toNatClampNeg) how) ∨ (¬ okHold9 (f 1) (r 3 j.toNatClampNeg).toNatClampNeg (r 4 j.toNatClampNeg).toNatClampNeg j s0 how ∧ r0 = -1 ∧ hd = r 7))) := by
  refine Met.ofW (cc := cX10_hold) (maxL := 5) (ret := (some .int)) (by decide) rfl ?_
  intro p e s m args below meth c s₁ B hml hv
  obtain ⟨rfl, hP, hK⟩ := hv
  have hx := B.exec
  have hb := B.bytes
  have hr := B.returns
  have hts := atoms_spec (ws := wsX10_hold) B.pre
  have hin : ∀ w ∈ u_ws RX10 TX10 35, w ∈ wsX10_hold := by decide +kernel
  have hown : s.vm.findClass RX10 = some m.cls := findClass_of_methodNamed B.named
  have hlocks := B.notSynchronized
  have hS : va_S (AM mo a) s.heap s.heap [] := va_S.rf
  have hl := lv_entry ([.ref mo, .int j, .int s0, .int how]) (n := 5) (Nat.le_of_ble_eq_true rfl)
  rw [lg_entry_eq]
  generalize (lg_sl ([.ref mo, .int j, .int s0, .int how]) ++ List.replicate (5 - (lg_sl ([.ref mo, .int j, .int s0, .int how])).length) Slot.unset).toArray = ls at hl ⊢
  have hl : lv_has ls 5 [(0, .ref mo), (1, .int j), (2, .int s0), (3, .int how)] := hl
  have k_m1 : (-1 : Int32).toInt = -1 := by decide
  have k_0 : (0 : Int32).toInt = 0 := by decide
  have k_36 : (36 : Int32).toInt = 36 := by decide
  have k_0L : (0 : Int64).toInt = 0 := by decide
  have k_2L : (2 : Int64).toInt = 2 := by decide
  have hI1 := hI.1
  refine lv_aload_n hx hb dX10_hold_0 rfl (lv_at hl 0 rfl) ?_
  refine lv_iconst (v := 0) hx hb dX10_hold_1 (by decide) ?_
  refine m_put (v := .int (0 : Int32)) (ty := .int) hx hb hts hin hown hK hP hD hS 0 (by decide) rfl (hts (.fieldLink RX10 79 "ShadowBenchModel" "thrown" "I") (by decide +kernel)) rfl (by decide +kernel) rfl rfl (upd f 0 (0 : Int32)) g rfl dX10_hold_2 (fun H locs hP hS => ?_)
  refine lv_aload_n hx hb dX10_hold_5 rfl (lv_at hl 0 rfl) ?_
  refine lv_iload_n hx hb dX10_hold_6 rfl (lv_at hl 1 rfl) ?_
  refine lv_iload_n hx hb dX10_hold_7 rfl (lv_at hl 2 rfl) ?_
  refine m_calli (As := [.int j, .int s0]) (rest := []) ⟨hx, hb, hml, hown, hts⟩ (c_X10_isSquare l D cy mo a (upd f 0 (0 : Int32)) g r q j s0 hD hI) (cwV 2 hts gX10_hold_X10_isSquare rfl rfl rfl (by decide +kernel) ⟨Nat.le_of_ble_eq_true rfl, Nat.le_of_ble_eq_true rfl⟩) hK hP rfl hl.1 rfl (Nat.le_of_ble_eq_true rfl) dX10_hold_8 ⟨Nat.le_of_ble_eq_true rfl, Nat.le_of_ble_eq_true rfl⟩ hS (fun r8 u H locs q8 hP hS => ?_)
  obtain ⟨rfl, q8⟩ := q8
  have hP : va_P D vwCl (WM cy mo a (upd f 0 (0 : Int32)) g r q) H := hP
  have q8 : Bo r8 ((0 ≤ j.toInt ∧ j.toInt < ((f 1)).toInt) ∧ 0 ≤ s0.toInt ∧ s0.toInt < ((r 3) j.toNatClampNeg).toInt * ((r 4) j.toNatClampNeg).toInt) := q8
  refine lv_if_eq (tgt := 26) hx hb dX10_hold_11 (by decide) (fun c11 => ?_) (fun c11 => ?_)
  · skip
    have b11 := bo_f q8 c11
    refine lv_iconst (v := (-1)) hx hb dX10_hold_26 (by decide) ?_
    exact W.iret (v := ((-1) : Int32)) hx hb hr (fun t ht hW => ⟨⟨_, ((upd f 0 (0 : Int32)), g, (va_up r 7 (r 7)), q), rfl, ⟨(r 7), rfl, (Or.inr ⟨(fun z9 => by have z8 := z9.1; unfold okJob at z8; have z7 := z9.2.1; have z6 := z9.2.2; rw [sq_eq hI z8.1 z8.2] at z7; first | exact b11 ⟨z8, z7⟩ | exact b23 z6 | omega | (have y23 := b23; simp only [k64, show (0 : Int64).toInt = 0 from rfl, show (2 : Int64).toInt = 2 from rfl] at y23; omega)), rfl, rfl⟩)⟩, by unfold mB; rw [ht]; exact hP⟩, hS.F ht⟩) hS.2.2 dX10_hold_27
  · skip
    have b11 := bo_t q8 c11
    refine lv_iload_n hx hb dX10_hold_14 rfl (lv_at hl 3 rfl) ?_
    refine lv_i2l (v := how.toInt64) hx hb dX10_hold_15 rfl ?_
    refine lv_lconst (v := 0) hx hb dX10_hold_16 (by decide) ?_
    refine lv_ldc2 hx hb hown (hts (.constantLong RX10 134 (2)) (by decide +kernel)) dX10_hold_17 ?_
    refine m_pu (As := [.long (how.toInt64), .long (0 : Int64), .long (2 : Int64)]) (rest := []) ⟨hx, hb, hml, hown, hts⟩ (c_X10_isIn l how.toInt64 (0 : Int64) (2 : Int64) ) (va_cwS 3 hts gX10_hold_X10_isIn rfl rfl rfl (by decide +kernel) ⟨Nat.le_of_ble_eq_true rfl, Nat.le_of_ble_eq_true rfl⟩) hP rfl hl.1 rfl (Nat.le_of_ble_eq_true rfl) dX10_hold_20 ⟨Nat.le_of_ble_eq_true rfl, Nat.le_of_ble_eq_true rfl⟩ hS (fun r20 H locs q20 hP hS => ?_)
    have q20 := q20
    simp only [k64, show (0 : Int64).toInt = 0 from rfl, show (1 : Int64).toInt = 1 from rfl, show (2 : Int64).toInt = 2 from rfl, show (3 : Int64).toInt = 3 from rfl, show (6 : Int64).toInt = 6 from rfl] at q20
    refine lv_if_ne (tgt := 28) hx hb dX10_hold_23 (by decide) (fun c23 => ?_) (fun c23 => ?_)
    · skip
      have b23 := bo_t q20 c23
      have hsb := mul66 (mi_w hI (x := j) (by omega) (by omega) rfl) (mi_h hI (x := j) (by omega) (by omega) rfl)
      have y23 := b23
      try simp only [k64, show (0 : Int64).toInt = 0 from rfl, show (2 : Int64).toInt = 2 from rfl] at y23
      refine lv_aload_n hx hb dX10_hold_28 rfl (lv_at hl 0 rfl) ?_
      refine m_get (v := .ref (a 7)) hx hb hts hin hown hK hP 7 (by decide) rfl (hts (.fieldLink RX10 26 "ShadowBenchModel" "held" "[I") (by decide +kernel)) rfl dX10_hold_29 ?_
      refine lv_bipush (v := 36) hx hb dX10_hold_32 (by decide) ?_
      refine lv_iload_n hx hb dX10_hold_34 rfl (lv_at hl 1 rfl) ?_
      refine lv_imul hx hb dX10_hold_35 ?_
      refine lv_topi (fun v35 e35 => ?_)
      have i35 : v35.toInt = 36 * j.toInt := by rw [e35]; exact mulcL rfl (by omega) (by omega)
      refine lv_iload_n hx hb dX10_hold_36 rfl (lv_at hl 2 rfl) ?_
      refine lv_iadd hx hb dX10_hold_37 ?_
      refine lv_topi (fun v37 e37 => ?_)
      have i37 : v37.toInt = v35.toInt + s0.toInt := by rw [e37]; exact fb_addI (by omega) (by omega)
      refine m_iald (w := (r 7)) hx hb hK hP 6 rfl (vp_in_iff.mpr ⟨by omega, by omega⟩) dX10_hold_38 ?_
      refine lv_topi (fun v38 e38 => ?_)
      have i38 : v38.toInt = ((r 7) v37.toNatClampNeg).toInt := congrArg Int32.toInt e38
      have cj9 := m_cl (x := j) (by omega)
      have cs9 := m_cl (x := s0) (by omega)
      have cv9 := m_cl (x := v37) (by omega)
      have f37 : v37.toNatClampNeg = 36 * j.toNatClampNeg + s0.toNatClampNeg := by omega
      refine lv_istore (lv' := [(4, .int v38), (0, .ref mo), (1, .int j), (2, .int s0), (3, .int how)]) hx hb dX10_hold_39 hl (by decide) rfl (fun ls hl => ?_)
      refine lv_aload_n hx hb dX10_hold_41 rfl (lv_at hl 1 rfl) ?_
      refine m_get (v := .ref (a 7)) hx hb hts hin hown hK hP 7 (by decide) rfl (hts (.fieldLink RX10 26 "ShadowBenchModel" "held" "[I") (by decide +kernel)) rfl dX10_hold_42 ?_
      refine lv_bipush (v := 36) hx hb dX10_hold_45 (by decide) ?_
      refine lv_iload_n hx hb dX10_hold_47 rfl (lv_at hl 2 rfl) ?_
      refine lv_imul hx hb dX10_hold_48 ?_
      refine lv_topi (fun v48 e48 => ?_)
      have i48 : v48.toInt = 36 * j.toInt := by rw [e48]; exact mulcL rfl (by omega) (by omega)
      refine lv_iload_n hx hb dX10_hold_49 rfl (lv_at hl 3 rfl) ?_
      refine lv_iadd hx hb dX10_hold_50 ?_
      refine lv_topi (fun v50 e50 => ?_)
      have i50 : v50.toInt = v48.toInt + s0.toInt := by rw [e50]; exact fb_addI (by omega) (by omega)
      refine lv_iload_n hx hb dX10_hold_51 rfl (lv_at hl 4 rfl) ?_
      have cv8 := m_cl (x := v50) (by omega)
      have f50 : v50.toNatClampNeg = 36 * j.toNatClampNeg + s0.toNatClampNeg := by omega
      refine m_iast (w := (r 7)) hx hb hK hP hD hS 6 rfl (vp_in_iff.mpr ⟨by omega, by omega⟩) (va_up r 7 ((upd (r 7) v50.toNatClampNeg how))) rfl dX10_hold_52 (fun H locs hP hS => ?_)
      refine lv_iload hx hb dX10_hold_53 (lv_at hl 0 rfl) ?_
      exact W.iret (v := v38) hx hb hr (fun t ht hW => ⟨⟨_, ((upd f 0 (0 : Int32)), g, (va_up r 7 (((upd (r 7) v50.toNatClampNeg how)))), q), rfl, ⟨((upd (r 7) v50.toNatClampNeg how)), rfl, (Or.inl ⟨⟨b11.1, (by rw [sq_eq hI b11.1.1 b11.1.2]; exact b11.2), (by omega)⟩, (by rw [e38, f37]), (by rw [f50])⟩)⟩, by unfold mB; rw [ht]; exact hP⟩, hS.F ht⟩) hS.2.2 dX10_hold_55
    · skip
      have b23 := bo_f q20 c23
      refine lv_iconst (v := (-1)) hx hb dX10_hold_26 (by decide) ?_
      exact W.iret (v := ((-1) : Int32)) hx hb hr (fun t ht hW => ⟨⟨_, ((upd f 0 (0 : Int32)), g, (va_up r 7 (r 7)), q), rfl, ⟨(r 7), rfl, (Or.inr ⟨(fun z9 => by have z8 := z9.1; unfold okJob at z8; have z7 := z9.2.1; have z6 := z9.2.2; rw [sq_eq hI z8.1 z8.2] at z7; first | exact b11 ⟨z8, z7⟩ | exact b23 z6 | omega | (have y23 := b23; simp only [k64, show (0 : Int64).toInt = 0 from rfl, show (2 : Int64).toInt = 2 from rfl] at y23; omega)), rfl, rfl⟩)⟩, by unfold mB; rw [ht]; exact hP⟩, hS.F ht⟩) hS.2.2 dX10_hold_27
set_option maxHeartbeats 4000000 in
set_option maxRecDepth 100000 in
theorem c_X10_told_y (l : Launch) (D : va_G) (cy : Nat → ClassId) (mo : Nat) (a : Nat → Nat) (f : Nat → Int32) (g : Nat → Int64) (r : Nat → Nat → Int32) (q : Nat → Nat → Int64) (j : Int32) (way : Int32) (line : Int32) (hD : DM cy mo a) (hI : MI f r) : Mi l D cy mo a yX10_told wsX10_told ({ frames := 2, cells := 0, slots := 0, locals := 48 }) f g r q [.int j, .int way, .int line] (fun r0 u => u = ((upd f 0 (0 : Int32)), g, r, q) ∧ (toA (f 1) (r 3 j.toNatClampNeg).toNatClampNeg (r 4 j.toNatClampNeg).toNatClampNeg (fun l => if r 6 (4 * j.toNatClampNeg + way.toNatClampNeg) = 0 then -2 else r 5 ((44 * j.toNatClampNeg + 11 * way.toNatClampNeg) + l)) j way line r0)) := by
  refine Met.ofW (cc := cX10_told) (maxL := 4) (ret := (some .int)) (by decide) rfl ?_
  intro p e s m args below meth c s₁ B hml hv
  obtain ⟨rfl, hP, hK⟩ := hv
  have hx := B.exec
  have hb := B.bytes
  have hr := B.returns
  have hts := atoms_spec (ws := wsX10_told) B.pre
  have hin : ∀ w ∈ u_ws RX10 TX10 35, w ∈ wsX10_told := by decide +kernel
  have hown : s.vm.findClass RX10 = some m.cls := findClass_of_methodNamed B.named
  have hlocks := B.notSynchronized
  have hS : va_S (AM mo a) s.heap s.heap [] := va_S.rf
  have hl := lv_entry ([.ref mo, .int j, .int way, .int line]) (n := 4) (Nat.le_of_ble_eq_true rfl)
  rw [lg_entry_eq]
  generalize (lg_sl ([.ref mo, .int j, .int way, .int line]) ++ List.replicate (4 - (lg_sl ([.ref mo, .int j, .int way, .int line])).length) Slot.unset).toArray = ls at hl ⊢
  have hl : lv_has ls 4 [(0, .ref mo), (1, .int j), (2, .int way), (3, .int line)] := hl
  have k_m2 : (-2 : Int32).toInt = -2 := by decide
  have k_m1 : (-1 : Int32).toInt = -1 := by decide
  have k_0 : (0 : Int32).toInt = 0 := by decide
  have k_4 : (4 : Int32).toInt = 4 := by decide
  have k_11 : (11 : Int32).toInt = 11 := by decide
  have k_44 : (44 : Int32).toInt = 44 := by decide
  have hI1 := hI.1
  refine lv_aload_n hx hb dX10_told_0 rfl (lv_at hl 0 rfl) ?_
  refine lv_iconst (v := 0) hx hb dX10_told_1 (by decide) ?_
  refine m_put (v := .int (0 : Int32)) (ty := .int) hx hb hts hin hown hK hP hD hS 0 (by decide) rfl (hts (.fieldLink RX10 79 "ShadowBenchModel" "thrown" "I") (by decide +kernel)) rfl (by decide +kernel) rfl rfl (upd f 0 (0 : Int32)) g rfl dX10_told_2 (fun H locs hP hS => ?_)
  refine lv_aload_n hx hb dX10_told_5 rfl (lv_at hl 0 rfl) ?_
  refine lv_iload_n hx hb dX10_told_6 rfl (lv_at hl 1 rfl) ?_
  refine lv_iload_n hx hb dX10_told_7 rfl (lv_at hl 2 rfl) ?_
  refine lv_iload_n hx hb dX10_told_8 rfl (lv_at hl 3 rfl) ?_
  refine lv_iconst (v := (-1)) hx hb dX10_told_9 (by decide) ?_
  refine lv_icmp_ne (tgt := 17) hx hb dX10_told_10 (by decide) (fun c10 => ?_) (fun c10 => ?_)
  · skip
    have d10 := c10
    rw [fa_eq] at d10
    refine lv_iload_n hx hb dX10_told_17 rfl (lv_at hl 3 rfl) ?_
    refine m_calli (As := [.int j, .int way, .int line]) (rest := []) ⟨hx, hb, hml, hown, hts⟩ (c_X10_isLine l D cy mo a (upd f 0 (0 : Int32)) g r q j way line hD hI) (cwV 3 hts gX10_told_X10_isLine rfl rfl rfl (by decide +kernel) ⟨Nat.le_of_ble_eq_true rfl, Nat.le_of_ble_eq_true rfl⟩) hK hP rfl hl.1 rfl (Nat.le_of_ble_eq_true rfl) dX10_told_18 ⟨Nat.le_of_ble_eq_true rfl, Nat.le_of_ble_eq_true rfl⟩ hS (fun r18 u H locs q18 hP hS => ?_)
    obtain ⟨rfl, q18⟩ := q18
    have hP : va_P D vwCl (WM cy mo a (upd f 0 (0 : Int32)) g r q) H := hP
    have q18 : Bo r18 (((0 ≤ j.toInt ∧ j.toInt < ((f 1)).toInt) ∧ 0 ≤ way.toInt ∧ way.toInt ≤ 3) ∧ 0 ≤ line.toInt ∧ line.toInt < (r_lines ((r 3) j.toNatClampNeg) ((r 4) j.toNatClampNeg) way).toInt) := q18
    refine lv_if_ne (tgt := 26) hx hb dX10_told_21 (by decide) (fun c21 => ?_) (fun c21 => ?_)
    · skip
      have b21 := bo_t q18 c21
      have szw := mi_w hI (x := j) (by omega) (by omega) rfl
      have szh := mi_h hI (x := j) (by omega) (by omega) rfl
      have hLn := rLn szw szh (way := way) (by omega)
      have cj9 := m_cl (x := j) (by omega)
      have cw9 := m_cl (x := way) (by omega)
      
      refine lv_iload_n hx hb dX10_told_26 rfl (lv_at hl 3 rfl) ?_
      refine lv_iconst (v := (-1)) hx hb dX10_told_27 (by decide) ?_
      refine lv_icmp_ne (tgt := 48) hx hb dX10_told_28 (by decide) (fun c28 => ?_) (fun c28 => ?_)
      · skip
        have d28 := c28
        rw [fa_eq] at d28
        have hlb := lines_lt (mi_w hI (x := j) (by omega) (by omega) rfl) (mi_h hI (x := j) (by omega) (by omega) rfl) way
        refine lv_aload_n hx hb dX10_told_48 rfl (lv_at hl 0 rfl) ?_
        refine m_get (v := .ref (a 6)) hx hb hts hin hown hK hP 6 (by decide) rfl (hts (.fieldLink RX10 22 "ShadowBenchModel" "isTold" "[Z") (by decide +kernel)) rfl dX10_told_49 ?_
        refine lv_iconst (v := 4) hx hb dX10_told_52 (by decide) ?_
        refine lv_iload_n hx hb dX10_told_53 rfl (lv_at hl 1 rfl) ?_
        refine lv_imul hx hb dX10_told_54 ?_
        refine lv_topi (fun v54 e54 => ?_)
        have i54 : v54.toInt = 4 * j.toInt := by rw [e54]; exact mulcL rfl (by omega) (by omega)
        refine lv_iload_n hx hb dX10_told_55 rfl (lv_at hl 2 rfl) ?_
        refine lv_iadd hx hb dX10_told_56 ?_
        refine lv_topi (fun v56 e56 => ?_)
        have i56 : v56.toInt = v54.toInt + way.toInt := by rw [e56]; exact fb_addI (by omega) (by omega)
        refine m_zald (w := (r 6)) hx hb hK hP 5 rfl (vp_in_iff.mpr ⟨by omega, by omega⟩) dX10_told_57 ?_
        refine lv_topi (fun v57 e57 => ?_)
        have i57 : v57.toInt = ((r 6) v56.toNatClampNeg).toInt := congrArg Int32.toInt e57
        have cv9 := m_cl (x := v56) (by omega)
        have f56 : v56.toNatClampNeg = (4 * j.toNatClampNeg + way.toNatClampNeg) := by omega
        refine lv_if_eq (tgt := 80) hx hb dX10_told_58 (by decide) (fun c58 => ?_) (fun c58 => ?_)
        · skip
          have d58 := c58
          rw [fa_eq] at d58
          refine lv_bipush (v := (-2)) hx hb dX10_told_80 (by decide) ?_
          exact W.iret (v := ((-2) : Int32)) hx hb hr (fun t ht hW => ⟨⟨_, ((upd f 0 (0 : Int32)), g, r, q), rfl, ⟨rfl, (Or.inl ⟨⟨⟨(by unfold okJob; omega), by omega⟩, Or.inr (by unfold okL; omega)⟩, (by rw [if_neg (by omega)]; show _ = if r 6 (4 * j.toNatClampNeg + way.toNatClampNeg) = 0 then _ else _; rw [← f56, ← e57]; first | (rw [if_neg c58, e76, f75]; done) | (rw [if_pos c58]; done))⟩)⟩, by unfold mB; rw [ht]; exact hP⟩, hS.F ht⟩) hS.2.2 dX10_told_82
        · skip
          have d58 := c58
          rw [fa_eq] at d58
          refine lv_aload_n hx hb dX10_told_61 rfl (lv_at hl 0 rfl) ?_
          refine m_get (v := .ref (a 5)) hx hb hts hin hown hK hP 5 (by decide) rfl (hts (.fieldLink RX10 19 "ShadowBenchModel" "sums" "[I") (by decide +kernel)) rfl dX10_told_62 ?_
          refine lv_bipush (v := 44) hx hb dX10_told_65 (by decide) ?_
          refine lv_iload_n hx hb dX10_told_67 rfl (lv_at hl 1 rfl) ?_
          refine lv_imul hx hb dX10_told_68 ?_
          refine lv_topi (fun v68 e68 => ?_)
          have i68 : v68.toInt = 44 * j.toInt := by rw [e68]; exact mulcL rfl (by omega) (by omega)
          refine lv_bipush (v := 11) hx hb dX10_told_69 (by decide) ?_
          refine lv_iload_n hx hb dX10_told_71 rfl (lv_at hl 2 rfl) ?_
          refine lv_imul hx hb dX10_told_72 ?_
          refine lv_topi (fun v72 e72 => ?_)
          have i72 : v72.toInt = 11 * way.toInt := by rw [e72]; exact mulcL rfl (by omega) (by omega)
          refine lv_iadd hx hb dX10_told_73 ?_
          refine lv_topi (fun v73 e73 => ?_)
          have i73 : v73.toInt = v68.toInt + v72.toInt := by rw [e73]; exact fb_addI (by omega) (by omega)
          refine lv_iload_n hx hb dX10_told_74 rfl (lv_at hl 3 rfl) ?_
          refine lv_iadd hx hb dX10_told_75 ?_
          refine lv_topi (fun v75 e75 => ?_)
          have i75 : v75.toInt = v73.toInt + line.toInt := by rw [e75]; exact fb_addI (by omega) (by omega)
          have cl9 := m_cl (x := line) (by omega)
          have cv8 := m_cl (x := v75) (by omega)
          have f75 : v75.toNatClampNeg = (44 * j.toNatClampNeg + 11 * way.toNatClampNeg) + line.toNatClampNeg := by omega
          refine m_iald (w := (r 5)) hx hb hK hP 4 rfl (vp_in_iff.mpr ⟨by omega, by omega⟩) dX10_told_76 ?_
          refine lv_topi (fun v76 e76 => ?_)
          have i76 : v76.toInt = ((r 5) v75.toNatClampNeg).toInt := congrArg Int32.toInt e76
          refine lv_goto (tgt := 82) hx hb dX10_told_77 (by decide) ?_
          exact W.iret (v := v76) hx hb hr (fun t ht hW => ⟨⟨_, ((upd f 0 (0 : Int32)), g, r, q), rfl, ⟨rfl, (Or.inl ⟨⟨⟨(by unfold okJob; omega), by omega⟩, Or.inr (by unfold okL; omega)⟩, (by rw [if_neg (by omega)]; show _ = if r 6 (4 * j.toNatClampNeg + way.toNatClampNeg) = 0 then _ else _; rw [← f56, ← e57]; first | (rw [if_neg c58, e76, f75]; done) | (rw [if_pos c58]; done))⟩)⟩, by unfold mB; rw [ht]; exact hP⟩, hS.F ht⟩) hS.2.2 dX10_told_82
      · first | exact absurd c28 c10 | exact absurd c10 c28
    · skip
      have b21 := bo_f q18 c21
      refine lv_iconst (v := (-1)) hx hb dX10_told_24 (by decide) ?_
      exact W.iret (v := ((-1) : Int32)) hx hb hr (fun t ht hW => ⟨⟨_, ((upd f 0 (0 : Int32)), g, r, q), rfl, ⟨rfl, (Or.inr ⟨(fun z9 => by have z8 := z9.1.1; unfold okJob at z8; have z7 := z9.1.2; have szw := mi_w hI (x := j) (by omega) (by omega) rfl; have szh := mi_h hI (x := j) (by omega) (by omega) rfl; have hLn := rLn szw szh (way := way) (by omega); have lb9 := lines_lt szw szh way; rcases z9.2 with z6 | z6; exact b21 ⟨⟨z8, by omega⟩, by omega, by omega⟩; (unfold okL at z6; exact b21 ⟨⟨z8, by omega⟩, by omega, by omega⟩)), rfl⟩)⟩, by unfold mB; rw [ht]; exact hP⟩, hS.F ht⟩) hS.2.2 dX10_told_25
  · skip
    have d10 := c10
    rw [fa_eq] at d10
    refine lv_iconst (v := 0) hx hb dX10_told_13 (by decide) ?_
    refine lv_goto (tgt := 18) hx hb dX10_told_14 (by decide) ?_
    refine m_calli (As := [.int j, .int way, .int (0 : Int32)]) (rest := []) ⟨hx, hb, hml, hown, hts⟩ (c_X10_isLine l D cy mo a (upd f 0 (0 : Int32)) g r q j way (0 : Int32) hD hI) (cwV 3 hts gX10_told_X10_isLine rfl rfl rfl (by decide +kernel) ⟨Nat.le_of_ble_eq_true rfl, Nat.le_of_ble_eq_true rfl⟩) hK hP rfl hl.1 rfl (Nat.le_of_ble_eq_true rfl) dX10_told_18 ⟨Nat.le_of_ble_eq_true rfl, Nat.le_of_ble_eq_true rfl⟩ hS (fun r18 u H locs q18 hP hS => ?_)
    obtain ⟨rfl, q18⟩ := q18
    have hP : va_P D vwCl (WM cy mo a (upd f 0 (0 : Int32)) g r q) H := hP
    have q18 : Bo r18 (((0 ≤ j.toInt ∧ j.toInt < ((f 1)).toInt) ∧ 0 ≤ way.toInt ∧ way.toInt ≤ 3) ∧ 0 ≤ (0 : Int32).toInt ∧ (0 : Int32).toInt < (r_lines ((r 3) j.toNatClampNeg) ((r 4) j.toNatClampNeg) way).toInt) := q18
    refine lv_if_ne (tgt := 26) hx hb dX10_told_21 (by decide) (fun c21 => ?_) (fun c21 => ?_)
    · skip
      have b21 := bo_t q18 c21
      have szw := mi_w hI (x := j) (by omega) (by omega) rfl
      have szh := mi_h hI (x := j) (by omega) (by omega) rfl
      have hLn := rLn szw szh (way := way) (by omega)
      have cj9 := m_cl (x := j) (by omega)
      have cw9 := m_cl (x := way) (by omega)
      
      refine lv_iload_n hx hb dX10_told_26 rfl (lv_at hl 3 rfl) ?_
      refine lv_iconst (v := (-1)) hx hb dX10_told_27 (by decide) ?_
      refine lv_icmp_ne (tgt := 48) hx hb dX10_told_28 (by decide) (fun c28 => ?_) (fun c28 => ?_)
      · first | exact absurd c28 c10 | exact absurd c10 c28
      · skip
        have d28 := c28
        rw [fa_eq] at d28
        refine lv_aload_n hx hb dX10_told_31 rfl (lv_at hl 0 rfl) ?_
        refine m_get (v := .ref (a 3)) hx hb hts hin hown hK hP 3 (by decide) rfl (hts (.fieldLink RX10 13 "ShadowBenchModel" "wide" "[I") (by decide +kernel)) rfl dX10_told_32 ?_
        refine lv_iload_n hx hb dX10_told_35 rfl (lv_at hl 1 rfl) ?_
        refine m_iald (w := (r 3)) hx hb hK hP 2 rfl (vp_in_iff.mpr ⟨by omega, by omega⟩) dX10_told_36 ?_
        refine lv_topi (fun v36 e36 => ?_)
        have i36 : v36.toInt = ((r 3) j.toNatClampNeg).toInt := congrArg Int32.toInt e36
        have w36 := mi_w hI (x := j) (by omega) (by omega) e36
        refine lv_aload_n hx hb dX10_told_37 rfl (lv_at hl 0 rfl) ?_
        refine m_get (v := .ref (a 4)) hx hb hts hin hown hK hP 4 (by decide) rfl (hts (.fieldLink RX10 16 "ShadowBenchModel" "high" "[I") (by decide +kernel)) rfl dX10_told_38 ?_
        refine lv_iload_n hx hb dX10_told_41 rfl (lv_at hl 1 rfl) ?_
        refine m_iald (w := (r 4)) hx hb hK hP 3 rfl (vp_in_iff.mpr ⟨by omega, by omega⟩) dX10_told_42 ?_
        refine lv_topi (fun v42 e42 => ?_)
        have i42 : v42.toInt = ((r 4) j.toNatClampNeg).toInt := congrArg Int32.toInt e42
        have w42 := mi_h hI (x := j) (by omega) (by omega) e42
        refine lv_iload_n hx hb dX10_told_43 rfl (lv_at hl 2 rfl) ?_
        refine m_pu (As := [.int v36, .int v42, .int way]) (rest := []) ⟨hx, hb, hml, hown, hts⟩ (c_X10_linesOf l v36 v42 way ) (va_cwS 3 hts gX10_told_X10_linesOf rfl rfl rfl (by decide +kernel) ⟨Nat.le_of_ble_eq_true rfl, Nat.le_of_ble_eq_true rfl⟩) hP rfl hl.1 rfl (Nat.le_of_ble_eq_true rfl) dX10_told_44 ⟨Nat.le_of_ble_eq_true rfl, Nat.le_of_ble_eq_true rfl⟩ hS (fun r44 H locs q44 hP hS => ?_)
        have i44 : r44.toInt = (r_lines v36 v42 way).toInt := congrArg Int32.toInt q44
        exact W.iret (v := r44) hx hb hr (fun t ht hW => ⟨⟨_, ((upd f 0 (0 : Int32)), g, r, q), rfl, ⟨rfl, (Or.inl ⟨⟨⟨(by unfold okJob; omega), by omega⟩, Or.inl (by omega)⟩, (by rw [if_pos (by omega), q44, e36, e42]; exact hLn)⟩)⟩, by unfold mB; rw [ht]; exact hP⟩, hS.F ht⟩) hS.2.2 dX10_told_47
    · skip
      have b21 := bo_f q18 c21
      refine lv_iconst (v := (-1)) hx hb dX10_told_24 (by decide) ?_
      exact W.iret (v := ((-1) : Int32)) hx hb hr (fun t ht hW => ⟨⟨_, ((upd f 0 (0 : Int32)), g, r, q), rfl, ⟨rfl, (Or.inr ⟨(fun z9 => by have z8 := z9.1.1; unfold okJob at z8; have z7 := z9.1.2; have szw := mi_w hI (x := j) (by omega) (by omega) rfl; have szh := mi_h hI (x := j) (by omega) (by omega) rfl; have hLn := rLn szw szh (way := way) (by omega); have lb9 := lines_lt szw szh way; rcases z9.2 with z6 | z6; exact b21 ⟨⟨z8, by omega⟩, by omega, by omega⟩; (unfold okL at z6; exact b21 ⟨⟨z8, by omega⟩, by omega, by omega⟩)), rfl⟩)⟩, by unfold mB; rw [ht]; exact hP⟩, hS.F ht⟩) hS.2.2 dX10_told_25

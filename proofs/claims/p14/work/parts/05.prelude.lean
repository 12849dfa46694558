/-- a static method that touches no cell: it returns an int with 'post', the heap is as it was -/
def Pu (l : Launch) (y : MethodName) (ws : List Cond) (rm : Room) (av : List Value) (post : Int32 → Prop) : Prop :=
  Met l y ws rm (va_Pc av (fun _ => True)) (va_Qi (fun r (_ : Unit) => post r) (fun _ _ => True) (fun _ => False)) 0 0 (fun _ => False)
section PU
variable {p : Program} {l : Launch} {e : Env} {R : Room} {s : State} {m : MethodId} {args : Array Value} {below : List Frame} {meth : Method} {c : Code} {H : Heap} {locs : List Loc} {cells slots : Nat} {Q : State → Prop}
variable {y : MethodName} {bytes cc : ByteArray} {maxL nL n index : Nat} {ret : Option FieldType} {ws : List Cond} {rm : Room} {Ts : List Cond} {own : String} {As rest st0 : List Value} {pc : Nat} {ls : Array Slot} {A0 : Nat → Prop} {H0 : Heap}
theorem pu_call {post : Int32 → Prop} (S : CallFix p m c cc nL s args Ts own) (hM : Pu l y ws rm As post) (cw : CallB R s args own index y bytes maxL ret ws rm 0 0 n ∧ (Cond.static y).before args s = true) (hn : As.length = n) (hsize : ls.size = nL) (hstack : st0 = As.reverse ++ rest) (hW : (rest.map fun v => v.category).sum ≤ 8) (hdg : decode cc pc = .ok (.invokestatic index, 3)) (hf : cells ≤ R.cells ∧ slots ≤ R.slots) (hS : va_S A0 H0 H locs)
    (kk : ∀ (r : Int32) (H1 : Heap) (locs1 : List Loc), post r → va_S A0 H0 H1 locs1 → W p l e R s m args below meth c H1 locs1 cells slots Q (F0 m (pc + 3) ls (.int r :: rest))) : W p l e R s m args below meth c H locs cells slots Q (F0 m pc ls st0) := by
  refine va_calli (va_runS (g := F0 m pc ls st0) S hM cw ⟨fun a U g mk h => h, fun U hU hW => ⟨rfl, trivial⟩⟩ rfl hn hsize hstack (lv_room hW) hdg ⟨hf.1, hf.2⟩) hS (fun q _ h => h.elim) (fun q h => h.elim) (fun r u t H1 locs1 ht hvm hp hB hz hk hS => ?_)
  exact kk r H1 locs1 hp hS
end PU
theorem my_idiv {x y : Int32} (hx : 0 ≤ x.toInt) (hy : 0 < y.toInt) : (x / y).toInt = x.toInt / y.toInt := by
  obtain ⟨a, ha, rfl⟩ := nI_of (x := x) (fun h => by rw [fa_lt] at h; have : (0 : Int32).toInt = 0 := rfl; omega)
  obtain ⟨b, hb, rfl⟩ := nI_of (x := y) (fun h => by rw [fa_lt] at h; have : (0 : Int32).toInt = 0 := rfl; omega)
  rw [nI_toInt ha, nI_toInt hb] at *
  have h0 : 0 < b := by omega
  rw [pk_div ha h0 hb, nI_toInt (Nat.lt_of_le_of_lt (Nat.div_le_self _ _) ha)]
  exact Int.natCast_ediv a b
theorem my_irem {x y : Int32} (hx : 0 ≤ x.toInt) (hy : 0 < y.toInt) : (x - x / y * y).toInt = x.toInt % y.toInt := by
  obtain ⟨a, ha, rfl⟩ := nI_of (x := x) (fun h => by rw [fa_lt] at h; have : (0 : Int32).toInt = 0 := rfl; omega)
  obtain ⟨b, hb, rfl⟩ := nI_of (x := y) (fun h => by rw [fa_lt] at h; have : (0 : Int32).toInt = 0 := rfl; omega)
  rw [nI_toInt ha, nI_toInt hb] at *
  have h0 : 0 < b := by omega
  rw [pk_rem ha h0 hb, nI_toInt (Nat.lt_of_le_of_lt (Nat.mod_le _ _) ha)]
  exact Int.natCast_emod a b
/-- a truth value's number -/
def Bo (r : Int32) (P : Prop) : Prop := (r = 1 ∧ P) ∨ (r = 0 ∧ ¬ P)
theorem bo_f {r : Int32} {P : Prop} (h : Bo r P) (c : r = 0) : ¬ P := by
  rcases h with ⟨h, -⟩ | ⟨-, h⟩
  · rw [h] at c; exact absurd c (by decide)
  · exact h
theorem bo_t {r : Int32} {P : Prop} (h : Bo r P) (c : ¬ r = 0) : P := by
  rcases h with ⟨-, h⟩ | ⟨h, -⟩
  · exact h
  · exact absurd h c
theorem bo_z {r : Int32} {P : Prop} (h : Bo r P) : narrow .boolean (.int r) = .int r := by
  rcases h with ⟨h, -⟩ | ⟨h, -⟩ <;> rw [h] <;> decide
theorem bo_ic {r : Int32} {P Q : Prop} (h : Bo r P) (e : P ↔ Q) : Bo r Q := by
  rcases h with ⟨h, a⟩ | ⟨h, a⟩
  · exact Or.inl ⟨h, e.mp a⟩
  · exact Or.inr ⟨h, fun q => a (e.mpr q)⟩
theorem k64 (w : Int32) : w.toInt64.toInt = w.toInt := Int32.toInt_toInt64 w
theorem mulcL {k x : Int32} {c : Int} (hk : k.toInt = c) (h1 : -2147483648 ≤ c * x.toInt) (h2 : c * x.toInt < 2147483648) : (k * x).toInt = c * x.toInt := by
  subst hk; exact fb_mulI h1 h2
theorem mulcR {k x : Int32} {c : Int} (hk : k.toInt = c) (h1 : -2147483648 ≤ x.toInt * c) (h2 : x.toInt * c < 2147483648) : (x * k).toInt = x.toInt * c := by
  subst hk; exact fb_mulI h1 h2
theorem my_remb {x y : Int32} (hx : 0 ≤ x.toInt) (hy : 0 < y.toInt) : 0 ≤ (x - x / y * y).toInt ∧ (x - x / y * y).toInt < y.toInt ∧ (x - x / y * y).toInt ≤ x.toInt := by
  rw [my_irem hx hy]
  refine ⟨Int.emod_nonneg _ (by omega), Int.emod_lt_of_pos _ hy, ?_⟩
  have h1 := Int.emod_add_mul_ediv x.toInt y.toInt
  have h2 : 0 ≤ y.toInt * (x.toInt / y.toInt) := Int.mul_nonneg (by omega) (Int.ediv_nonneg hx (by omega))
  omega
theorem my_divb {x y : Int32} (hx : 0 ≤ x.toInt) (hy : 0 < y.toInt) : 0 ≤ (x / y).toInt ∧ (x / y).toInt ≤ x.toInt := by
  rw [my_idiv hx hy]
  exact ⟨Int.ediv_nonneg hx (by omega), Int.ediv_le_self _ hx⟩
theorem rem_next {s w h : Int} (hs : 0 ≤ s) (hw : 0 < w) (hl : s < w * h) (hr : s % w + 1 < w) : s + 1 < w * h := by
  have h1 := Int.emod_add_mul_ediv s w
  have h2 : s / w < h := Int.ediv_lt_of_lt_mul hw (by rw [Int.mul_comm]; exact hl)
  have h3 : w * (s / w + 1) ≤ w * h := Int.mul_le_mul_of_nonneg_left (by omega) (by omega)
  rw [Int.mul_add, Int.mul_one] at h3
  omega
theorem in_c {big : List Cond} (ch : List (List Cond)) (hc : ∀ c ∈ ch, ∀ w ∈ c, w ∈ big) (ws : List Cond) (ps : List (Nat × Nat)) (hp : ws = ps.filterMap (fun p => (ch[p.1]?).bind (fun c => c[p.2]?))) : ∀ w ∈ ws, w ∈ big := by
  intro w hw
  rw [hp] at hw
  obtain ⟨p, -, h⟩ := List.mem_filterMap.mp hw
  obtain ⟨c, h1, h2⟩ := Option.bind_eq_some_iff.mp h
  exact hc c (List.mem_of_getElem? h1) w (List.mem_of_getElem? h2)
theorem goodIn_c {big : List Cond} (ch : List (List Cond)) (hc : ∀ c ∈ ch, ∀ w ∈ c, w ∈ big) (ws : List Cond) (ps : List (Nat × Nat)) (hp : ws = ps.filterMap (fun p => (ch[p.1]?).bind (fun c => c[p.2]?))) (h : ws.all goodWord = true) : GoodIn big ws := fun w hw => ⟨in_c ch hc ws ps hp w hw, good_of_word (List.all_eq_true.mp h w hw)⟩
theorem all_c {P : List Cond → Prop} {a : List Cond} {l : List (List Cond)} (h : P a) (t : ∀ c ∈ l, P c) : ∀ c ∈ a :: l, P c := fun c hc => (List.mem_cons.mp hc).elim (fun e => by rw [e]; exact h) (t c)

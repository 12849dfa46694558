
def lw_big : List Cond := [.selects RX1 ⟨"ShadowBench$Job", "hasShadowsAsTold", "(J)Z"⟩ yX3_hasShadowsAsTold, .selects RX4 ⟨"ShadowBench$Job", "hasShadowsAsTold", "(J)Z"⟩ yX3_hasShadowsAsTold, .selects RX5 ⟨"ShadowBench$Job", "hasShadowsAsTold", "(J)Z"⟩ yX3_hasShadowsAsTold] ++ lw_tbl
theorem in_p {big : List Cond} (ws : List Cond) (ps : List Nat) (hp : ws.filter k2_isCode = ps.filterMap (fun i => big[i]?)) (h : (ws.filter (fun w => !k2_isCode w)).all (fun w => decide (w ∈ big)) = true) : ∀ w ∈ ws, w ∈ big := by
  intro w hw
  by_cases hc : k2_isCode w = true
  · have h1 : w ∈ ws.filter k2_isCode := List.mem_filter.mpr ⟨hw, hc⟩
    rw [hp] at h1
    obtain ⟨i, -, hi⟩ := List.mem_filterMap.mp h1
    first | exact List.mem_of_getElem? hi | exact List.getElem?_mem hi
  · have h1 : w ∈ ws.filter (fun w => !k2_isCode w) := List.mem_filter.mpr ⟨hw, by simpa using hc⟩
    exact of_decide_eq_true (List.all_eq_true.mp h w h1)
theorem sel_priv {C : String} {y : MethodName} {s : State} {args : Array Value} {n : Nat} {cC : ClassId} (hcC : s.vm.findClass C = some cC) (hy : y.cls ≠ "java/lang/invoke/MethodHandle" ∧ y.cls ≠ "java/lang/invoke/VarHandle")
    (hins : (Cond.instantiable y.cls n).before args s = true) (hpriv : (Cond.privateMethod y).before args s = true) (hinst : (Cond.instanceMethod y).before args s = true) :
    (Cond.selects C y y).before args s = true := by
  obtain ⟨c, k, hc, hk, -, hniab, -, -⟩ := Cond.instantiable_spec hins
  have hni : k.isInterface = false := (Bool.or_eq_false_iff.mp hniab).1
  obtain ⟨mk, methM, hnamed, hmethM, -, -⟩ := Cond.instanceMethod_spec hinst
  have hfound : s.methodFound? y.cls y.name y.desc = some mk := State.methodFound?_of_named hnamed hy
  have hcls : mk.cls = c := Option.some.inj ((findClass_of_methodNamed hnamed).symm.trans hc)
  have hsel : selectMethod {} s.vm cC mk = .method mk := selectMethod_private hmethM (Cond.privateMethod_at hpriv mk methM hnamed hmethM)
  simp only [Cond.before, Cond.holds, Cond.value, hcC, hfound, hnamed, hsel, hcls, hk]
  simp; exact hni
theorem l_big {D : va_G} {cy : Nat → ClassId} {s : State} {args : Array Value} (hK : va_K D vwCl (cTy cy) s) (hts : ∀ w ∈ lw_tbl, w.before args s = true) : ∀ w ∈ lw_big, w.before args s = true := by
  have h : ∀ C cC, s.vm.findClass C = some cC → (Cond.selects C ⟨"ShadowBench$Job", "hasShadowsAsTold", "(J)Z"⟩ yX3_hasShadowsAsTold).before args s = true := fun C cC hc => sel_priv (y := ⟨"ShadowBench$Job", "hasShadowsAsTold", "(J)Z"⟩) (n := 5) hc (by decide) (hts (.instantiable "ShadowBench$Job" 5) (by decide +kernel)) (hts (.privateMethod ⟨"ShadowBench$Job", "hasShadowsAsTold", "(J)Z"⟩) (by decide +kernel)) (hts (.instanceMethod ⟨"ShadowBench$Job", "hasShadowsAsTold", "(J)Z"⟩) (by decide +kernel))
  intro w hw
  unfold lw_big at hw
  rcases List.mem_append.mp hw with hw | hw
  · simp only [List.mem_cons, List.not_mem_nil, or_false] at hw
    rcases hw with rfl | rfl | rfl
    · exact h _ _ (hK.1 1 _ rfl).2.1
    · exact h _ _ (hK.1 3 _ rfl).2.1
    · exact h _ _ (hK.1 4 _ rfl).2.1
  · exact hts w hw
theorem app_in {a b big : List Cond} (ha : ∀ w ∈ a, w ∈ big) (hb : ∀ w ∈ b, w ∈ big) : ∀ w ∈ a ++ b, w ∈ big := fun w h => (List.mem_append.mp h).elim (ha w) (hb w)


theorem tb_p : ∀ u : Fin 256, isSp (sx (nI u.1)) = isSp (nI u.1) ∧ isLo (sx (nI u.1)) = isLo (nI u.1) ∧ isDg (sx (nI u.1)) = isDg (nI u.1) ∧ (sx (nI u.1) = 59 ↔ nI u.1 = 59) ∧ (isSp (nI u.1) = true ∨ isLo (nI u.1) = true ∨ isDg (nI u.1) = true → sx (nI u.1) = nI u.1) := by decide +kernel
theorem tb_q {y : Int32} (h : rg y 255) : isSp (sx y) = isSp y ∧ isLo (sx y) = isLo y ∧ isDg (sx y) = isDg y ∧ (sx y = 59 ↔ y = 59) ∧ (isSp y = true ∨ isLo y = true ∨ isDg y = true → sx y = y) := by
  obtain ⟨u, hu, rfl⟩ := h
  exact tb_p ⟨u, by omega⟩
theorem BR.sp {b b' : Nat → Int32} (h : BR b b') (n i : Nat) : isSp (byR b n i) = isSp (byR b' n i) := by
  unfold byR
  by_cases c : i < n
  · rw [if_pos c, if_pos c, (h i).1]; exact (tb_q (h i).2).1
  · rw [if_neg c, if_neg c]
theorem BR.lo {b b' : Nat → Int32} (h : BR b b') (n i : Nat) : isLo (byR b n i) = isLo (byR b' n i) := by
  unfold byR
  by_cases c : i < n
  · rw [if_pos c, if_pos c, (h i).1]; exact (tb_q (h i).2).2.1
  · rw [if_neg c, if_neg c]
theorem BR.dg {b b' : Nat → Int32} (h : BR b b') (n i : Nat) : isDg (byR b n i) = isDg (byR b' n i) := by
  unfold byR
  by_cases c : i < n
  · rw [if_pos c, if_pos c, (h i).1]; exact (tb_q (h i).2).2.2.1
  · rw [if_neg c, if_neg c]
theorem run_e {p : Int32 → Bool} {b b' : Nat → Int32} {n : Nat} (h : ∀ i, p (byR b n i) = p (byR b' n i)) : ∀ f a, runR p b n f a = runR p b' n f a
  | 0, _ => rfl
  | f + 1, a => by rw [runR, runR, h a, run_e h f (a + 1)]

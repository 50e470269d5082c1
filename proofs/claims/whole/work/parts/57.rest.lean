def cntP (f : Nat → Bool) (rm : Nat → Int32) (n : Nat) : Nat := cnt (fun j => f j && decide (0 < rm j)) n
theorem cntP_no {f : Nat → Bool} {rm : Nat → Int32} : ∀ {n : Nat}, (∀ j, j < n → f j = true → rm j ≤ 0) → cntP f rm n = 0
  | 0, _ => rfl
  | n + 1, h => by
    have a := cntP_no (n := n) (fun j hj => h j (Nat.lt_succ_of_lt hj))
    simp only [cntP] at a ⊢
    rw [cnt_s, a]
    by_cases c : f n = true
    · have := h n (Nat.lt_succ_self n) c
      rw [if_neg (by simp [c, this])]
    · rw [if_neg (by simp [c])]
theorem rsF_x {f : Nat → Bool} {rm : Nat → Int32} {b : Nat} : rsF (xu f b false) rm = xu (rsF f rm) b 0 := by
  funext j
  by_cases q : j = b
  · subst q; simp only [rsF]; rw [xu_s, xu_s, if_neg (by decide)]
  · simp only [rsF]; rw [xu_n q, xu_n q]; rfl

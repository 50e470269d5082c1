def cntP (f : Nat → Bool) (rm : Nat → Int32) (n : Nat) : Nat := cnt (fun j => f j && decide (0 < rm j)) n
theorem cntP_no {f : Nat → Bool} {rm : Nat → Int32} : ∀ {n : Nat}, (∀ j, j < n → f j = true → rm j ≤ 0) → cntP f rm n = 0
  | 0, _ => rfl
  | n + 1, h => by
    have a := cntP_no (n := n) (fun j hj => h j (Nat.lt_succ_of_lt hj))
    simp only [cntP] at a ⊢
    rw [cnt_s, a]
    by_cases c : f n = true
    · have := h n (Nat.lt_succ_self n) c
      rw [if_neg (by simp [c, this])]
    · rw [if_neg (by simp [c])]
theorem rsF_x {f : Nat → Bool} {rm : Nat → Int32} {b : Nat} : rsF (xu f b false) rm = xu (rsF f rm) b 0 := by
  funext j
  by_cases q : j = b
  · subst q; simp only [rsF]; rw [xu_s, xu_s, if_neg (by decide)]
  · simp only [rsF]; rw [xu_n q, xu_n q]; rfl
theorem prI_h {n : Nat} {x : (Nat → Int32) × (Nat → Int32)} : ∀ t, prI n x (t + 1) = prI n (gvS n x.1 x.2, gvR n x.2) t
  | 0 => rfl
  | t + 1 => by
    have a := prI_h (n := n) (x := x) t
    rw [show prI n x (t + 1 + 1) = (gvS n (prI n x (t + 1)).1 (prI n x (t + 1)).2, gvR n (prI n x (t + 1)).2) from rfl, a]
    rfl
theorem cntP_x {f : Nat → Bool} {rm : Nat → Int32} {b n : Nat} (hf : f b = true) (h0 : 0 < rm b) (hb : b < n) : cntP (xu f b false) rm n + 1 = cntP f rm n := by
  have e : (fun j => xu f b false j && decide (0 < rm j)) = xu (fun j => f j && decide (0 < rm j)) b false := by
    funext j
    by_cases q : j = b
    · subst q; rw [xu_s, xu_s]; rfl
    · rw [xu_n q, xu_n q]
  simp only [cntP]
  rw [e]
  exact cnt_x (f := fun j => f j && decide (0 < rm j)) (by simp [hf, h0]) hb
/-- the reference's rounds are the class's, as long as rests above nought are left -/
theorem gS_prI {rm : Nat → Int32} {n : Nat} : ∀ (l : Nat) (f : Nat → Bool) (so : Nat → Int32), (∀ j, j < n → f j = true → 0 ≤ rm j) → l ≤ cntP f rm n → gS rm n l f so = (prI n (so, rsF f rm) l).1
  | 0, _, _, _, _ => rfl
  | l + 1, f, so, h0, hl => by
    rcases mG_gB h0 n (Nat.le_refl n) with ⟨-, -, a3⟩ | ⟨b, a1, a2, a3, a4⟩
    · rw [cntP_no a3] at hl; omega
    · rw [gS_s a2, prI_h]
      have hb := mG_lt a2
      have hc := cntP_x (mG_f a2) a4 hb
      have e1 : gvS n so (rsF f rm) = xu so b (so b + 1) := by simp only [gvS, a1]
      have e2 : gvR n (rsF f rm) = rsF (xu f b false) rm := by rw [rsF_x]; simp only [gvR, a1]
      simp only []
      rw [e1, e2]
      refine gS_prI l (xu f b false) _ (fun j hj hf => ?_) (by omega)
      by_cases q : j = b
      · subst q; rw [xu_s] at hf; cases hf
      · rw [xu_n q] at hf; exact h0 j hj hf

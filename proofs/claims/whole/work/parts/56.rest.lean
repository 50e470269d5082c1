def rsF (f : Nat → Bool) (rm : Nat → Int32) : Nat → Int32 := fun j => if f j = true then rm j else 0
/-- the class's greatest rest and the reference's are one, while a rest is above nought -/
theorem mG_gB {f : Nat → Bool} {rm : Nat → Int32} {n : Nat} (h0 : ∀ j, j < n → f j = true → 0 ≤ rm j) : ∀ k, k ≤ n → (gB (rsF f rm) k = none ∧ gV (rsF f rm) k = 0 ∧ ∀ j, j < k → f j = true → rm j ≤ 0) ∨ (∃ b, gB (rsF f rm) k = some b ∧ mG f rm k = some b ∧ gV (rsF f rm) k = rm b ∧ 0 < rm b) := by
  intro k
  induction k with
  | zero => intro _; exact Or.inl ⟨rfl, rfl, fun j h => absurd h (Nat.not_lt_zero _)⟩
  | succ k ih =>
    intro hk
    by_cases c : f k = true
    · have e : rsF f rm k = rm k := by simp only [rsF]; rw [if_pos c]
      rcases ih (by omega) with ⟨a1, a2, a3⟩ | ⟨b, a1, a2, a3, a4⟩
      · by_cases d : rm k ≤ 0
        · left
          refine ⟨?_, ?_, fun j hj hf => ?_⟩
          · simp only [gB]; rw [e, a2, if_pos d]; exact a1
          · simp only [gV]; rw [e, a2, if_pos d]
          · by_cases q : j = k
            · subst q; exact d
            · exact a3 j (by omega) hf
        · right
          refine ⟨k, ?_, ?_, ?_, Int32.not_le.mp d⟩
          · simp only [gB]; rw [e, a2, if_neg d]
          · cases q : mG f rm k with
            | none => exact mG_n c q
            | some b => exact mG_g c q (fun z => d (Int32.le_trans z (a3 b (mG_lt q) (mG_f q))))
          · simp only [gV]; rw [e, a2, if_neg d]
      · by_cases d : rm k ≤ rm b
        · right
          refine ⟨b, ?_, mG_l c a2 d, ?_, a4⟩
          · simp only [gB]; rw [e, a3, if_pos d]; exact a1
          · simp only [gV]; rw [e, a3, if_pos d]
        · right
          refine ⟨k, ?_, mG_g c a2 d, ?_, Int32.lt_trans a4 (Int32.not_le.mp d)⟩
          · simp only [gB]; rw [e, a3, if_neg d]
          · simp only [gV]; rw [e, a3, if_neg d]
    · have e : rsF f rm k = 0 := by simp only [rsF]; rw [if_neg c]
      rcases ih (by omega) with ⟨a1, a2, a3⟩ | ⟨b, a1, a2, a3, a4⟩
      · left
        refine ⟨?_, ?_, fun j hj hf => ?_⟩
        · simp only [gB]; rw [e, a2, if_pos (Int32.le_refl _)]; exact a1
        · simp only [gV]; rw [e, a2, if_pos (Int32.le_refl _)]
        · by_cases q : j = k
          · subst q; exact absurd hf c
          · exact a3 j (by omega) hf
      · right
        refine ⟨b, ?_, by rw [mG_no (by simpa using c)]; exact a2, ?_, a4⟩
        · simp only [gB]; rw [e, a3, if_pos (Int32.le_of_lt a4)]; exact a1
        · simp only [gV]; rw [e, a3, if_pos (Int32.le_of_lt a4)]

/-! shares, in plain numbers -/
def nS (g : Nat → Nat) : Nat → Nat
  | 0 => 0
  | k + 1 => nS g k + g k
theorem nS_congr {g h : Nat → Nat} : ∀ {n : Nat}, (∀ j, j < n → g j = h j) → nS g n = nS h n
  | 0, _ => rfl
  | n + 1, q => by simp only [nS]; rw [nS_congr (fun j hj => q j (Nat.lt_succ_of_lt hj)), q n (Nat.lt_succ_self n)]
theorem nS_add (g h : Nat → Nat) : ∀ n, nS (fun j => g j + h j) n = nS g n + nS h n
  | 0 => rfl
  | n + 1 => by simp only [nS]; rw [nS_add g h n]; omega
theorem nS_mul (g : Nat → Nat) (c : Nat) : ∀ n, nS (fun j => c * g j) n = c * nS g n
  | 0 => rfl
  | n + 1 => by simp only [nS]; rw [nS_mul g c n, Nat.mul_add]
theorem nS_le {g h : Nat → Nat} : ∀ {n : Nat}, (∀ j, j < n → g j ≤ h j) → nS g n ≤ nS h n
  | 0, _ => Nat.le_refl _
  | n + 1, q => by
    simp only [nS]
    exact Nat.add_le_add (nS_le (fun j hj => q j (Nat.lt_succ_of_lt hj))) (q n (Nat.lt_succ_self n))
/-- what the whole shares leave is made up by the rests -/
theorem sh_left {m : Nat → Nat} {X T n : Nat} (hT : nS m n = T) (h0 : 0 < T) : nS (fun j => m j * X / T) n ≤ X ∧ nS (fun j => m j * X % T) n = T * (X - nS (fun j => m j * X / T) n) := by
  have e1 : nS (fun j => T * (m j * X / T) + m j * X % T) n = nS (fun j => X * m j) n := nS_congr (fun j _ => by rw [Nat.div_add_mod, Nat.mul_comm])
  rw [nS_add (fun j => T * (m j * X / T)) (fun j => m j * X % T), nS_mul (fun j => m j * X / T) T, nS_mul m X, hT] at e1
  have h1 : T * nS (fun j => m j * X / T) n ≤ T * X := by rw [Nat.mul_comm T X]; omega
  have h2 := Nat.le_of_mul_le_mul_left h1 h0
  refine ⟨h2, ?_⟩
  rw [Nat.mul_sub, Nat.mul_comm T X]
  omega
/-- so there are at least as many rests above nought as are left over -/
theorem sh_cnt {m : Nat → Nat} {X T n : Nat} (hT : nS m n = T) (h0 : 0 < T) : X - nS (fun j => m j * X / T) n ≤ nS (fun j => if m j * X % T = 0 then 0 else 1) n := by
  have a := (sh_left (X := X) hT h0).2
  have b : nS (fun j => m j * X % T) n ≤ nS (fun j => T * (if m j * X % T = 0 then 0 else 1)) n := nS_le (fun j _ => by
    split
    · omega
    · have := Nat.mod_lt (m j * X) h0; omega)
  rw [nS_mul (fun j => if m j * X % T = 0 then 0 else 1) T, a] at b
  exact Nat.le_of_mul_le_mul_left b h0
theorem mG_f {f : Nat → Bool} {rm : Nat → Int32} : ∀ {k b : Nat}, mG f rm k = some b → f b = true := by
  intro k
  induction k with
  | zero => intro b h; simp [mG] at h
  | succ k ih =>
    intro b h
    simp only [mG] at h
    split at h
    · rename_i hf
      split at h
      · cases h; exact hf
      · rename_i c hc
        split at h
        · cases h; exact ih hc
        · cases h; exact hf
    · exact ih h
def cnt (f : Nat → Bool) (n : Nat) : Nat := nS (fun j => if f j = true then 1 else 0) n
theorem cnt_s (f : Nat → Bool) (n : Nat) : cnt f (n + 1) = cnt f n + (if f n = true then 1 else 0) := rfl
theorem mG_ex {f : Nat → Bool} {rm : Nat → Int32} : ∀ {k : Nat}, 0 < cnt f k → ∃ b, mG f rm k = some b := by
  intro k
  induction k with
  | zero => intro h; exact absurd h (Nat.lt_irrefl 0)
  | succ k ih =>
    intro h
    by_cases c : f k = true
    · cases q : mG f rm k with
      | none => exact ⟨k, mG_n c q⟩
      | some b =>
        by_cases d : rm k ≤ rm b
        · exact ⟨b, mG_l c q d⟩
        · exact ⟨k, mG_g c q d⟩
    · rw [cnt_s, if_neg c] at h
      obtain ⟨b, hb⟩ := ih h
      exact ⟨b, by rw [mG_no (by simpa using c)]; exact hb⟩
theorem cnt_same {f g : Nat → Bool} {n : Nat} (h : ∀ j, j < n → f j = g j) : cnt f n = cnt g n := nS_congr (fun j hj => by rw [h j hj])
theorem cnt_x {f : Nat → Bool} {b : Nat} (hf : f b = true) : ∀ {n : Nat}, b < n → cnt (xu f b false) n + 1 = cnt f n := by
  intro n
  induction n with
  | zero => intro h; exact absurd h (Nat.not_lt_zero _)
  | succ n ih =>
    intro h
    rw [cnt_s, cnt_s]
    by_cases q : b = n
    · subst q
      rw [xu_s, if_neg (by decide), if_pos hf, cnt_same (f := xu f b false) (g := f) (fun j hj => xu_n (by omega))]
    · rw [xu_n (show n ≠ b by omega)]
      have := ih (by omega)
      omega
/-- whoever counts at least as often as is left over: gives() finds someone each time -/
theorem gN_of {rm : Nat → Int32} {n : Nat} : ∀ {l : Nat} {f : Nat → Bool}, l ≤ cnt f n → gN rm n l f
  | 0, _, _ => trivial
  | l + 1, f, h => by
    obtain ⟨b, hb⟩ := mG_ex (rm := rm) (show 0 < cnt f n by omega)
    have := cnt_x (mG_f hb) (mG_lt hb)
    exact ⟨b, hb, gN_of (by omega)⟩

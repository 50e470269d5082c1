/-! shares, in plain numbers -/
def nS (g : Nat → Nat) : Nat → Nat
  | 0 => 0
  | k + 1 => nS g k + g k
theorem nS_congr {g h : Nat → Nat} : ∀ {n : Nat}, (∀ j, j < n → g j = h j) → nS g n = nS h n
  | 0, _ => rfl
  | n + 1, q => by simp only [nS]; rw [nS_congr (fun j hj => q j (Nat.lt_succ_of_lt hj)), q n (Nat.lt_succ_self n)]
theorem nS_add (g h : Nat → Nat) : ∀ n, nS (fun j => g j + h j) n = nS g n + nS h n
  | 0 => rfl
  | n + 1 => by simp only [nS]; rw [nS_add g h n]; omega
theorem nS_mul (g : Nat → Nat) (c : Nat) : ∀ n, nS (fun j => c * g j) n = c * nS g n
  | 0 => rfl
  | n + 1 => by simp only [nS]; rw [nS_mul g c n, Nat.mul_add]
theorem nS_le {g h : Nat → Nat} : ∀ {n : Nat}, (∀ j, j < n → g j ≤ h j) → nS g n ≤ nS h n
  | 0, _ => Nat.le_refl _
  | n + 1, q => by
    simp only [nS]
    exact Nat.add_le_add (nS_le (fun j hj => q j (Nat.lt_succ_of_lt hj))) (q n (Nat.lt_succ_self n))
/-- what the whole shares leave is made up by the rests -/
theorem sh_left {m : Nat → Nat} {X T n : Nat} (hT : nS m n = T) (h0 : 0 < T) : nS (fun j => m j * X / T) n ≤ X ∧ nS (fun j => m j * X % T) n = T * (X - nS (fun j => m j * X / T) n) := by
  have e1 : nS (fun j => T * (m j * X / T) + m j * X % T) n = nS (fun j => X * m j) n := nS_congr (fun j _ => by rw [Nat.div_add_mod, Nat.mul_comm])
  rw [nS_add (fun j => T * (m j * X / T)) (fun j => m j * X % T), nS_mul (fun j => m j * X / T) T, nS_mul m X, hT] at e1
  have h1 : T * nS (fun j => m j * X / T) n ≤ T * X := by rw [Nat.mul_comm T X]; omega
  have h2 := Nat.le_of_mul_le_mul_left h1 h0
  refine ⟨h2, ?_⟩
  rw [Nat.mul_sub, Nat.mul_comm T X]
  omega
/-- so there are at least as many rests above nought as are left over -/
theorem sh_cnt {m : Nat → Nat} {X T n : Nat} (hT : nS m n = T) (h0 : 0 < T) : X - nS (fun j => m j * X / T) n ≤ nS (fun j => if m j * X % T = 0 then 0 else 1) n := by
  have a := (sh_left (X := X) hT h0).2
  have b : nS (fun j => m j * X % T) n ≤ nS (fun j => T * (if m j * X % T = 0 then 0 else 1)) n := nS_le (fun j _ => by
    split
    · omega
    · have := Nat.mod_lt (m j * X) h0; omega)
  rw [nS_mul (fun j => if m j * X % T = 0 then 0 else 1) T, a] at b
  exact Nat.le_of_mul_le_mul_left b h0

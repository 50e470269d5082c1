theorem sm_nS {f : Nat → Int32} {g : Nat → Nat} : ∀ {n : Nat}, (∀ j, j < n → f j = nI (g j)) → sm f n = nI (nS g n)
  | 0, _ => rfl
  | n + 1, h => by
    simp only [sm, nS]
    rw [sm_nS (fun j hj => h j (Nat.lt_succ_of_lt hj)), h n (Nat.lt_succ_self n), nI_add]
theorem nS_mono {g : Nat → Nat} {k : Nat} : ∀ {n : Nat}, k ≤ n → nS g k ≤ nS g n
  | 0, h => by rw [show k = 0 by omega]; exact Nat.le_refl _
  | n + 1, h => by
    by_cases q : k = n + 1
    · subst q; exact Nat.le_refl _
    · have := nS_mono (g := g) (k := k) (n := n) (by omega)
      simp only [nS]; omega
theorem nS_bd {g : Nat → Nat} {c : Nat} : ∀ {n : Nat}, (∀ j, j < n → g j ≤ c) → nS g n ≤ c * n
  | 0, _ => by simp [nS]
  | n + 1, h => by
    have a := nS_bd (n := n) (fun j hj => h j (Nat.lt_succ_of_lt hj))
    have b := h n (Nat.lt_succ_self n)
    simp only [nS, Nat.mul_add]; omega
def msk (f : Nat → Bool) (a : Nat → Nat) (j : Nat) : Nat := if f j = true then a j else 0
theorem gT_nI {f : Nat → Bool} {ad : Nat → Int32} {a : Nat → Nat} {n : Nat} (ha : ∀ j, j < n → ad j = nI (a j)) : ∀ j, j < n → gT f ad j = nI (msk f a j) := by
  intro j hj
  simp only [gT, msk]
  split
  · exact ha j hj
  · rfl
theorem gL_nI {f : Nat → Bool} {ad : Nat → Int32} {a : Nat → Nat} {n X T : Nat} (ha : ∀ j, j < n → ad j = nI (a j)) (hb : ∀ j, j < n → a j ≤ 1000) (hX : X ≤ 2000000) (hXT : X < T) (hT : T < 2 ^ 31) (hQ : nS (fun j => msk f a j * X / T) n ≤ X) : ∀ k, k ≤ n → gL f (gSh ad (nI X) (nI T)) (nI X) k = nI (X - nS (fun j => msk f a j * X / T) k) := by
  intro k
  induction k with
  | zero => intro _; rfl
  | succ k ih =>
    intro hk
    have h1 := ih (by omega)
    have hm := nS_mono (g := fun j => msk f a j * X / T) hk
    simp only [nS] at hm
    simp only [gL, nS]
    by_cases c : f k = true
    · rw [if_pos c, h1, gSh_p ((nI_ltI (a := X) (b := T) (by omega) hT).mpr hXT), ha k (by omega), nI_mul]
      have hk1 := hb k (by omega)
      have hp : a k * X ≤ 1000 * 2000000 := Nat.mul_le_mul hk1 hX
      have e : msk f a k = a k := by simp only [msk]; rw [if_pos c]
      rw [e] at hm ⊢
      rw [pk_div (by omega) (by omega) hT, nI_sub (by omega)]
      congr 1
      omega
    · rw [if_neg c, h1]
      have e : msk f a k = 0 := by simp only [msk]; rw [if_neg c]
      rw [e, Nat.zero_mul, Nat.zero_div, Nat.add_zero]
/-- gives() always finds someone -/
theorem GH_of {f : Nat → Bool} {ad : Nat → Int32} {a : Nat → Nat} {n X : Nat} (hn : n ≤ 30) (ha : ∀ j, j < n → ad j = nI (a j)) (hb : ∀ j, j < n → a j ≤ 1000) (hX : X ≤ 2000000) : GH f ad (nI X) n := by
  have eT := sm_nS (gT_nI (f := f) ha)
  have bT : nS (msk f a) n ≤ 1000 * n := nS_bd (fun j hj => by simp only [msk]; split; exact hb j hj; omega)
  have bT2 : nS (msk f a) n ≤ 30000 := by omega
  obtain ⟨T, hT⟩ : ∃ T, nS (msk f a) n = T := ⟨_, rfl⟩
  rw [hT] at eT bT2
  refine ⟨Int32.not_lt.mp (nI_pos (by omega)), fun h => ?_⟩
  rw [eT] at h ⊢
  have hXT := (nI_ltI (a := X) (b := T) (by omega) (by omega)).mp h
  have q := sh_left (X := X) hT (by omega)
  refine ⟨X - nS (fun j => msk f a j * X / T) n, by omega, gL_nI ha hb hX hXT (by omega) q.1 n (Nat.le_refl n), gN_of (Nat.le_trans (sh_cnt (X := X) hT (by omega)) (nS_le (fun j hj => ?_)))⟩
  simp only [msk]
  split
  · split <;> omega
  · simp

/-! ===== giving shares: the class's atS and the reference's gives() ===== -/
theorem fnd_l {l : Nat} : ∀ {n : Nat}, l ≤ n → n < 2 ^ 31 → fnd (fun t => decide (nI l ≤ nI t)) n = l := by
  intro n hl hn
  have h0 : ∀ m, m ≤ l → fnd (fun t => decide (nI l ≤ nI t)) m = m := by
    intro m
    induction m with
    | zero => intro _; rfl
    | succ m ih =>
      intro hm
      refine fnd_no (ih (by omega)) ?_
      refine decide_eq_false (fun q => ?_)
      have := (nI_leI (a := l) (b := m) (by omega) (by omega)).mp q
      omega
  by_cases c : l = n
  · subst c; exact h0 l (Nat.le_refl l)
  · exact fnd_at (h0 l (Nat.le_refl l)) (decide_eq_true Int32.le_rfl) n (by omega)
theorem gS_ne {rm : Nat → Int32} {n : Nat} : ∀ (l : Nat) (f : Nat → Bool) (so : Nat → Int32) (j : Nat), f j = false → gS rm n l f so j = so j
  | 0, _, _, _, _ => rfl
  | l + 1, f, so, j, hj => by
    cases h : mG f rm n with
    | none => simp only [gS, h]
    | some b =>
      rw [gS_s h]
      have hb := mG_f h
      have q : j ≠ b := fun q => by subst q; rw [hj] at hb; cases hb
      rw [gS_ne l _ _ j (by rw [xu_n q]; exact hj), xu_n q]
theorem sm_x {f : Nat → Int32} {b : Nat} {x : Int32} : ∀ {n : Nat}, b < n → sm (xu f b (f b + x)) n = sm f n + x := by
  intro n
  induction n with
  | zero => intro h; omega
  | succ n ih =>
    intro h
    simp only [sm]
    by_cases c : n = b
    · subst c
      have e : sm (xu f n (f n + x)) n = sm f n := sm_congr (fun j hj => xu_n (by omega))
      rw [e, xu_s, Int32.add_assoc]
    · rw [ih (by omega), xu_n c]
      rw [Int32.add_assoc, Int32.add_comm x, ← Int32.add_assoc]
theorem gS_sm {rm : Nat → Int32} {n : Nat} {g : Nat → Bool} : ∀ (l : Nat) (f : Nat → Bool) (so : Nat → Int32), gN rm n l f → (∀ j, f j = true → g j = true) → sm (fun j => if g j = true then gS rm n l f so j else 0) n = sm (fun j => if g j = true then so j else 0) n + nI l
  | 0, f, so, _, _ => by simp only [gS]; rw [show nI 0 = (0 : Int32) from rfl, Int32.add_zero]
  | l + 1, f, so, hN, hg => by
    obtain ⟨b, hb, hN⟩ := hN
    rw [gS_s hb]
    have hf : ∀ j, xu f b false j = true → g j = true := fun j hj => by
      by_cases q : j = b
      · subst q; rw [xu_s] at hj; cases hj
      · rw [xu_n q] at hj; exact hg j hj
    rw [gS_sm l _ _ hN hf]
    have e : (fun j => if g j = true then xu so b (so b + 1) j else 0) = xu (fun j => if g j = true then so j else 0) b ((fun j => if g j = true then so j else 0) b + 1) := by
      funext j
      by_cases q : j = b
      · subst q; rw [xu_s, xu_s]; simp only []; rw [if_pos (hg j (mG_f hb)), if_pos (hg j (mG_f hb))]
      · rw [xu_n q, xu_n q]
    rw [e, sm_x (mG_lt hb), Int32.add_assoc]
    congr 1
    rw [Int32.add_comm, nI_1]
/-- the second half of what gives() does, in one: as many rounds as there are lots left -/
theorem gv_cnt {f : Nat → Bool} {ad : Nat → Int32} {a : Nat → Nat} {n X T : Nat} (hn : n ≤ 30) (ha : ∀ j, j < n → ad j = nI (a j)) (hb : ∀ j, j < n → a j ≤ 1000) (hX : X ≤ 2000000) (hT : nS (msk f a) n = T) (h0 : 0 < T) (hT2 : T < 2 ^ 31) : X - nS (fun j => msk f a j * X / T) n ≤ cntP f (pM_ ad (nI X) (nI T)) n ∧ ∀ j, j < n → f j = true → 0 ≤ pM_ ad (nI X) (nI T) j := by
  have hr : ∀ j, j < n → pM_ ad (nI X) (nI T) j = nI (a j * X % T) := by
    intro j hj
    have hp : a j * X ≤ 1000 * 2000000 := Nat.mul_le_mul (hb j hj) hX
    simp only [pM_]
    rw [ha j hj, nI_mul, pk_div (by omega) h0 hT2, nI_mul, nI_sub (Nat.div_mul_le_self _ _)]
    congr 1
    have := Nat.div_add_mod (a j * X) T
    rw [Nat.mul_comm] at this
    omega
  refine ⟨Nat.le_trans (sh_cnt (X := X) hT h0) (nS_le (fun j hj => ?_)), fun j hj _ => ?_⟩
  · by_cases c : f j = true
    · have em : msk f a j = a j := by simp only [msk]; rw [if_pos c]
      by_cases d : msk f a j * X % T = 0
      · rw [if_pos d]; omega
      · rw [if_neg d]
        rw [em] at d
        have hlt : a j * X % T < T := Nat.mod_lt _ h0
        have e : (0 : Int32) < pM_ ad (nI X) (nI T) j := by
          rw [hr j hj]
          exact (nI_ltI (a := 0) (b := a j * X % T) (by omega) (by omega)).mpr (by omega)
        simp [c, e]
    · have em : msk f a j = 0 := by simp only [msk]; rw [if_neg c]
      rw [if_pos (by rw [em]; simp)]; omega
  · rw [hr j hj]
    have hlt : a j * X % T < T := Nat.mod_lt _ h0
    exact Int32.not_lt.mp (nI_pos (by omega))
theorem ptL_gL {ra ad : Nat → Int32} {f : Nat → Bool} {r x to : Int32} (hx : x < to) : ∀ {n : Nat}, (∀ j, j < n → f j = decide (ra j = r)) → ptL ra ad r x to n = gL f (gSh ad x to) x n
  | 0, _ => rfl
  | n + 1, h => by
    simp only [ptL, gL]
    rw [ptL_gL hx (fun j hj => h j (Nat.lt_succ_of_lt hj)), h n (Nat.lt_succ_self n)]
    by_cases c : ra n = r
    · rw [if_pos c, if_pos (decide_eq_true c), gSh_p hx]; rfl
    · rw [if_neg c, if_neg (by simp [c])]
theorem sm_add (f g : Nat → Int32) : ∀ n, sm (fun j => f j + g j) n = sm f n + sm g n
  | 0 => rfl
  | n + 1 => by
    simp only [sm]
    rw [sm_add f g n]
    ac_rfl
theorem GV_atS {ra ad so so' re so1 : Nat → Int32} {f : Nat → Bool} {r : Int32} {a : Nat → Nat} {n X : Nat} (hn : n ≤ 30) (ha : ∀ j, j < n → ad j = nI (a j)) (hb : ∀ j, j < n → a j ≤ 1000) (hX : X ≤ 2000000) (hf : ∀ j, j < n → f j = decide (ra j = r)) (h : GV f ad so (nI X) n so1) :
    (∀ j, j < n → (ra j = r ∨ so j = so' j) → so1 j = (atS n ra ad so' re r (nI X) (sm (gT f ad) n)).1 j) ∧ (∀ j, j < n → ¬ ra j = r → so1 j = so j) ∧
    (∀ g : Nat → Bool, (∀ j, f j = true → g j = true) → sm (fun j => if g j = true then so1 j else 0) n = sm (fun j => if g j = true then (if f j = true then 0 else so j) else 0) n + if nI X < sm (gT f ad) n then nI X else sm (gT f ad) n) := by
  have eT := sm_nS (gT_nI (f := f) ha)
  have bT : nS (msk f a) n ≤ 1000 * n := nS_bd (fun j hj => by simp only [msk]; split; exact hb j hj; omega)
  have bT2 : nS (msk f a) n ≤ 30000 := by omega
  obtain ⟨T, hT⟩ : ∃ T, nS (msk f a) n = T := ⟨_, rfl⟩
  rw [hT] at eT bT2
  obtain ⟨h1, h2⟩ := h
  rw [eT] at h1 h2 ⊢
  by_cases c : nI X < nI T
  · have hXT := (nI_ltI (a := X) (b := T) (by omega) (by omega)).mp c
    have q := sh_left (X := X) hT (by omega)
    obtain ⟨q1, q2⟩ := gv_cnt (X := X) hn ha hb hX hT (by omega) (by omega)
    have eL := gL_nI ha hb hX hXT (by omega) q.1 n (Nat.le_refl n)
    have hl : X - nS (fun j => msk f a j * X / T) n ≤ n := by
      refine Nat.le_trans q1 ?_
      have := nS_bd (g := fun j => if (f j && decide (0 < pM_ ad (nI X) (nI T) j)) = true then 1 else 0) (c := 1) (n := n) (fun j _ => by split <;> omega)
      simp only [cntP, cnt]
      omega
    have e1 := h2 c _ (by omega) eL
    have e2 := gS_prI (rm := pM_ ad (nI X) (nI T)) (n := n) _ f (cpN n (gF f (gSh ad (nI X) (nI T)) so) so) q2 q1
    refine ⟨fun j hj hm => ?_, fun j hj hm => ?_, fun g hg => ?_⟩
    · rw [e1, e2]
      unfold atS
      have c1 : ¬ nI T ≤ nI X := Int32.not_le.mpr c
      have c2 : ¬ nI T ≤ 0 := Int32.not_le.mpr ((nI_ltI (a := 0) (b := T) (by omega) (by omega)).mpr (by omega))
      rw [if_neg c1, if_neg c2]
      unfold prt
      rw [ptL_gL c hf, eL, show ptN n (nI (X - nS (fun j => msk f a j * X / T) n)) = X - nS (fun j => msk f a j * X / T) n from fnd_l hl (by omega)]
      refine (prI_congr (M := fun j => ra j = r ∨ so j = so' j) (fun i hi hm => ?_) (fun i hi => ?_) _).1 j hj hm
      · simp only [cpN, if_pos hi, ptS, gF]
        rw [hf i hi]
        by_cases d : ra i = r
        · rw [if_pos (decide_eq_true d), if_pos d, gSh_p c]; rfl
        · rw [if_neg (by simp [d]), if_neg d]
          rcases hm with hm | hm
          · exact absurd hm d
          · exact hm
      · simp only [cpN, if_pos hi, ptR, rsF]
        rw [hf i hi]
        by_cases d : ra i = r
        · rw [if_pos (decide_eq_true d), if_pos d]
        · rw [if_neg (by simp [d]), if_neg d]
    · have fj : f j = false := by rw [hf j hj]; exact decide_eq_false hm
      rw [e1, gS_ne _ _ _ j fj]
      simp only [cpN, if_pos hj, gF, fj]
      simp
    · rw [e1]
      rw [gS_sm _ _ _ (gN_of (Nat.le_trans (sh_cnt (X := X) hT (by omega)) (nS_le (fun j hj => ?_)))) hg, if_pos c]
      · have e3 : sm (fun j => if g j = true then cpN n (gF f (gSh ad (nI X) (nI T)) so) so j else 0) n = sm (fun j => if g j = true then (if f j = true then 0 else so j) else 0) n + nI (nS (fun j => msk f a j * X / T) n) := by
          rw [← sm_nS (f := fun j => nI (msk f a j * X / T)) (fun j _ => rfl), ← sm_add]
          refine sm_congr (fun j hj => ?_)
          simp only [cpN, if_pos hj, gF, msk]
          by_cases d : f j = true
          · have hp : a j * X ≤ 1000 * 2000000 := Nat.mul_le_mul (hb j hj) hX
            simp only [if_pos (hg j d), if_pos d]
            rw [gSh_p c, ha j hj, nI_mul, pk_div (by omega) (by omega) (by omega), Int32.zero_add]
          · simp only [if_neg d, Nat.zero_mul, Nat.zero_div]
            exact (Int32.add_zero _).symm
        rw [e3, Int32.add_assoc, nI_add]
        congr 2
        omega
      · simp only [msk]
        split
        · split <;> omega
        · simp
  · have e1 := h1 c
    refine ⟨fun j hj hm => ?_, fun j hj hm => ?_, fun g hg => ?_⟩
    · rw [e1]
      unfold atS
      rw [if_pos (Int32.not_lt.mp c)]
      simp only [cpN, if_pos hj, gF, fulS]
      rw [hf j hj]
      by_cases d : ra j = r
      · rw [if_pos (decide_eq_true d), if_pos d, gSh_n c]
      · rw [if_neg (by simp [d]), if_neg d]
        rcases hm with hm | hm
        · exact absurd hm d
        · exact hm
    · rw [e1]
      have fj : f j = false := by rw [hf j hj]; exact decide_eq_false hm
      simp only [cpN, if_pos hj, gF, fj]
      simp
    · rw [e1, if_neg c, ← eT, ← sm_add]
      refine sm_congr (fun j hj => ?_)
      simp only [cpN, if_pos hj, gF, gT]
      by_cases d : f j = true
      · simp only [if_pos (hg j d), if_pos d]
        rw [gSh_n (by rw [eT]; exact c), Int32.zero_add]
      · simp only [if_neg d]
        exact (Int32.add_zero _).symm
/-! ===== sums over the order ===== -/
theorem nS_one {f g : Nat → Nat} {m : Nat} : ∀ {n : Nat}, m < n → (∀ j, j < n → j ≠ m → f j = g j) → nS f n + g m = nS g n + f m := by
  intro n
  induction n with
  | zero => intro h; omega
  | succ n ih =>
    intro h he
    simp only [nS]
    by_cases c : n = m
    · subst c
      have := nS_congr (g := f) (h := g) (n := n) (fun j hj => he j (by omega) (by omega))
      omega
    · have h1 := ih (by omega) (fun j hj hm => he j (by omega) hm)
      have h2 := he n (by omega) c
      omega
theorem nS_perm : ∀ (n : Nat) (p : Nat → Nat) (g : Nat → Nat), inj n p → nS (fun k => g (p k)) n = nS g n := by
  intro n
  induction n with
  | zero => intro p g _; rfl
  | succ n ih =>
    intro p g hp
    have ne : ∀ i j, i < n + 1 → j < n + 1 → i ≠ j → p i ≠ p j := fun i j hi hj hij => by
      rcases Nat.lt_or_gt_of_ne hij with q | q
      · exact hp.2 i j q hj
      · exact (hp.2 j i q hi).symm
    have hq : inj n (fun k => if p k = n then p n else p k) := by
      refine ⟨fun k hk => ?_, fun i j hij hj => ?_⟩
      · show (if p k = n then p n else p k) < n
        have h1 := hp.1 k (by omega)
        have h2 := hp.1 n (by omega)
        have h3 := ne k n (by omega) (by omega) (by omega)
        split <;> omega
      · show (if p i = n then p n else p i) ≠ (if p j = n then p n else p j)
        have h1 := ne i j (by omega) (by omega) (by omega)
        have h2 := ne i n (by omega) (by omega) (by omega)
        have h3 := ne j n (by omega) (by omega) (by omega)
        split <;> split <;> omega
    have e := ih _ g hq
    simp only [nS]
    by_cases c : p n = n
    · rw [c, ← e]
      congr 1
      exact nS_congr (fun j hj => by rw [if_neg (by have := ne j n (by omega) (by omega) (by omega); omega)])
    · obtain ⟨m, hm, em⟩ := inj_surj (n + 1) p hp n (by omega)
      have hmn : m < n := by
        rcases Nat.lt_or_ge m n with q | q
        · exact q
        · exact absurd (show p n = n by rw [show n = m by omega]; exact em.trans (by omega)) c
      have h1 := nS_one (f := fun k => g (p k)) (g := fun k => g (if p k = n then p n else p k)) (n := n) hmn (fun j hj hjm => by
        have := ne j m (by omega) (by omega) hjm
        rw [if_neg (by omega)])
      simp only [em, if_true] at h1
      omega
/-! ===== what is admitted: naturals ===== -/
theorem xn_le {x y : Int32} (h0 : 0 ≤ x) (h : x ≤ y) : xn x ≤ xn y := by
  simp only [xn, Int32.toNatClampNeg]
  rw [Int32.le_iff_toInt_le] at h
  omega
theorem nI_xn {x : Int32} (h : 0 ≤ x) : x = nI (xn x) := xi_of (m := xn x + 1) ⟨rfl, Int32.not_lt.mpr h, Nat.lt_succ_self _⟩
theorem aI_nn {te ow hs ra lo : Nat → Int32} {p : Nat → Nat} {x : aI_T} {n : Nat} (ip : inj n p) (okw : okOw ow) (okh : okHs hs n) (hl : ∀ b, b < n → 1 ≤ lo b ∧ lo b ≤ 1000) (hx : ∀ o, o < 8 → 0 ≤ x.2.2.1 o) : ∀ k, k ≤ n → (∀ o, o < 8 → 0 ≤ (aI te ow hs ra lo p x k).2.2.1 o) ∧ (∀ i, i < k → 0 ≤ (aI te ow hs ra lo p x k).1 (p i) ∧ (aI te ow hs ra lo p x k).1 (p i) ≤ 1000) := by
  intro k
  induction k with
  | zero => intro _; exact ⟨hx, fun i h => by omega⟩
  | succ k ih =>
    intro hk
    obtain ⟨i1, i2⟩ := ih (by omega)
    have hlt := ip.1 k (by omega)
    have o1 := (okh (p k) hlt).2.2
    have o2 : own ow hs (p k) < 8 := (okw _ o1).2.2
    have r0 := i1 _ o2
    obtain ⟨l1, l2⟩ := hl (p k) hlt
    have a1 : 0 ≤ am te ow hs ra lo (aI te ow hs ra lo p x k).2.2.1 (p k) ∧ am te ow hs ra lo (aI te ow hs ra lo p x k).2.2.1 (p k) ≤ 1000 := by
      simp only [am]
      split
      · exact ⟨by decide, by decide⟩
      · split
        · rename_i h9
          exact ⟨r0, Int32.le_trans (Int32.le_of_lt h9) l2⟩
        · exact ⟨Int32.le_trans (by decide) l1, l2⟩
    simp only [aI]
    refine ⟨fun o ho => ?_, fun i hi => ?_⟩
    · simp only [rl1]
      split
      · exact i1 o ho
      · rename_i h8
        simp only [xu]
        split
        · simp only [am]
          rw [if_neg h8]
          split
          · rw [Int32.sub_self]; exact by decide
          · rename_i h9
            have h9 := Int32.not_lt.mp h9
            have l0 : 0 ≤ lo (p k) := Int32.le_trans (by decide) l1
            rw [nI_xn r0, nI_xn l0, nI_sub (xn_le l0 h9)]
            have := Int32.toNatClampNeg_lt ((aI te ow hs ra lo p x k).2.2.1 (own ow hs (p k)))
            exact Int32.not_lt.mp (nI_pos (Nat.lt_of_le_of_lt (Nat.sub_le _ _) this))
        · exact i1 o ho
    · by_cases e : i = k
      · subst e; simp only [xu_s]; exact a1
      · have hne : p i ≠ p k := ip.2 i k (by omega) (by omega)
        simp only [xu_n hne]
        exact i2 i (by omega)
/-- the two sums of letting in are sums over the order of what each gets -/
theorem aI_sum {te ow hs ra lo : Nat → Int32} {p : Nat → Nat} {x : aI_T} {n : Nat} (ip : inj n p) (h4 : x.2.2.2.1 = 0) (h5 : x.2.2.2.2 = 0) : ∀ k, k ≤ n → (aI te ow hs ra lo p x k).2.2.2.1 = sm (fun i => if ra (p i) = -1 then (aI te ow hs ra lo p x k).1 (p i) else 0) k ∧ (aI te ow hs ra lo p x k).2.2.2.2 = sm (fun i => if ra (p i) = -1 then 0 else (aI te ow hs ra lo p x k).1 (p i)) k := by
  intro k
  induction k with
  | zero => intro _; exact ⟨h4, h5⟩
  | succ k ih =>
    intro hk
    obtain ⟨i1, i2⟩ := ih (by omega)
    have e : ∀ i, i < k → (aI te ow hs ra lo p x (k + 1)).1 (p i) = (aI te ow hs ra lo p x k).1 (p i) := fun i hi => by
      simp only [aI]
      exact xu_n (ip.2 i k (by omega) (by omega))
    have ek : (aI te ow hs ra lo p x (k + 1)).1 (p k) = am te ow hs ra lo (aI te ow hs ra lo p x k).2.2.1 (p k) := by
      simp only [aI]; exact xu_s
    simp only [sm]
    rw [ek, sm_congr (f := fun i => if ra (p i) = -1 then (aI te ow hs ra lo p x (k + 1)).1 (p i) else 0) (g := fun i => if ra (p i) = -1 then (aI te ow hs ra lo p x k).1 (p i) else 0) (fun i hi => by rw [e i hi]), ← i1]
    rw [sm_congr (f := fun i => if ra (p i) = -1 then 0 else (aI te ow hs ra lo p x (k + 1)).1 (p i)) (g := fun i => if ra (p i) = -1 then 0 else (aI te ow hs ra lo p x k).1 (p i)) (fun i hi => by rw [e i hi]), ← i2]
    simp only [aI]
    by_cases c : ra (p k) = -1
    · simp only [if_pos c, Int32.add_zero]; exact ⟨trivial, trivial⟩
    · simp only [if_neg c, Int32.add_zero]; exact ⟨trivial, trivial⟩
/-! ===== the stop ===== -/
def upN (ra : Nat → Int32) (a : Nat → Nat) (x : Int32) (j : Nat) : Nat := if ra j = -1 then 0 else if x < ra j then 0 else a j
def dnN (ra : Nat → Int32) (a : Nat → Nat) (x : Int32) (j : Nat) : Nat := if ra j = -1 then 0 else if x ≤ ra j then 0 else a j
def ntN (ra : Nat → Int32) (a : Nat → Nat) (j : Nat) : Nat := if ra j = -1 then 0 else a j
theorem nS_cut {g : Nat → Nat} {k : Nat} : ∀ {n : Nat}, k ≤ n → (∀ i, k ≤ i → i < n → g i = 0) → nS g n = nS g k := by
  intro n
  induction n with
  | zero => intro h _; rw [show k = 0 by omega]
  | succ n ih =>
    intro h hz
    by_cases c : k = n + 1
    · rw [c]
    · simp only [nS]
      rw [ih (by omega) (fun i h1 h2 => hz i h1 (by omega)), hz n (by omega) (by omega), Nat.add_zero]
theorem srt_le {ra : Nat → Int32} {n : Nat} {p : Nat → Nat} (hs : srt ra n p) {i j : Nat} (h : i ≤ j) (hj : j < n) : ra (p i) ≤ ra (p j) := by
  by_cases c : i = j
  · subst c; exact Int32.le_rfl
  · have := hs i j (by omega) hj
    simp only [ahd, Bool.or_eq_true, decide_eq_true_eq, Bool.and_eq_true] at this
    rcases this with h | ⟨h, -⟩
    · exact Int32.le_of_lt h
    · rw [h]; exact Int32.le_rfl
/-- the reference's stop is the class's -/
theorem sC_fs {ra ad : Nat → Int32} {p : Nat → Nat} {a : Nat → Nat} {n R : Nat} (hn : n ≤ 30) (ip : inj n p) (hs : srt ra n p) (ha : ∀ j, j < n → ad j = nI (a j)) (hb : ∀ j, j < n → a j ≤ 1000) (hr : ∀ j, j < n → -1 ≤ ra j) (hR0 : 0 < R) (hR : R < 2 ^ 31) : ∀ k, k ≤ n →
    sC ra ad p n (nI R) k = fsG ra ad p (nI R) k ∧ ∃ s, fsS ra ad p (nI R) k = nI s ∧ s ≤ 30000 ∧ ((fsG ra ad p (nI R) k = -2 ∧ s = 0 ∧ nS (fun i => ntN ra a (p i)) k = 0) ∨
      (0 ≤ fsG ra ad p (nI R) k ∧ s ≤ nS (upN ra a (fsG ra ad p (nI R) k)) n ∧ nS (dnN ra a (fsG ra ad p (nI R) k)) n < R ∧ (s < R → s = nS (fun i => ntN ra a (p i)) k) ∧ (∃ i, i < k ∧ ra (p i) = fsG ra ad p (nI R) k))) := by
  have rs0 : ¬ nI R ≤ 0 := Int32.not_le.mpr ((nI_ltI (a := 0) (b := R) (by omega) hR).mpr hR0)
  have eA : ∀ x, aTo ra ad n x = nI (nS (upN ra a x) n) := fun x => sm_nS (fun j hj => by
    simp only [upN]
    split
    · rfl
    · split
      · rfl
      · exact ha j hj)
  have bA : ∀ x, nS (upN ra a x) n ≤ 30000 := fun x => by
    have := nS_bd (g := upN ra a x) (c := 1000) (n := n) (fun j hj => by simp only [upN]; split; omega; split; omega; exact hb j hj)
    omega
  intro k
  induction k with
  | zero => intro _; exact ⟨rfl, 0, rfl, by omega, Or.inl ⟨rfl, rfl, rfl⟩⟩
  | succ k ih =>
    intro hk
    obtain ⟨i1, s, i2, i3, i4⟩ := ih (by omega)
    have hlt := ip.1 k (by omega)
    have hbk := hb _ hlt
    have eN : nS (fun i => ntN ra a (p i)) (k + 1) = nS (fun i => ntN ra a (p i)) k + ntN ra a (p k) := rfl
    rw [eN]
    simp only [sC, fsG, fsS]
    rw [if_neg rs0, i1, i2]
    by_cases c1 : ra (p k) = -1
    · have e0 : ntN ra a (p k) = 0 := by simp only [ntN]; rw [if_pos c1]
      rw [e0]
      simp only [if_pos c1, ite_self, Nat.add_zero]
      refine ⟨trivial, s, rfl, i3, ?_⟩
      rcases i4 with h | ⟨h1, h2, h3, h4, i, hi, ei⟩
      · exact Or.inl h
      · exact Or.inr ⟨h1, h2, h3, h4, i, by omega, ei⟩
    · by_cases c2 : a (p k) = 0
      · have e0 : ntN ra a (p k) = 0 := by simp only [ntN]; rw [if_neg c1]; exact c2
        have e1 : ad (p k) = 0 := by rw [ha _ hlt, c2]; rfl
        have e2 : ad (p k) ≤ 0 := by rw [e1]; exact Int32.le_rfl
        rw [e0]
        simp only [if_pos e2, if_pos e1, ite_self, Nat.add_zero]
        refine ⟨trivial, s, rfl, i3, ?_⟩
        rcases i4 with h | ⟨h1, h2, h3, h4, i, hi, ei⟩
        · exact Or.inl h
        · exact Or.inr ⟨h1, h2, h3, h4, i, by omega, ei⟩
      · have e2 : ¬ ad (p k) ≤ 0 := by
          rw [ha _ hlt]
          exact Int32.not_le.mpr ((nI_ltI (a := 0) (b := a (p k)) (by omega) (by omega)).mpr (by omega))
        have e1 : ¬ ad (p k) = 0 := fun q => e2 (by rw [q]; exact Int32.le_rfl)
        have e3 : ntN ra a (p k) = a (p k) := by simp only [ntN]; rw [if_neg c1]
        rw [if_neg c1, if_neg c1, if_neg c1, if_neg e1, if_neg e2, if_neg e2, e3]
        have hra0 : 0 ≤ ra (p k) := by
          have := hr _ hlt
          rw [Int32.le_iff_toInt_le] at this ⊢
          have c1 : ¬ (ra (p k)).toInt = (-1 : Int32).toInt := fun q => c1 (Int32.toInt_inj.mp q)
          simp at this c1 ⊢
          omega
        by_cases c3 : nI R ≤ nI s
        · have hRs := (nI_leI (a := R) (b := s) hR (by omega)).mp c3
          rcases i4 with ⟨-, h, -⟩ | ⟨h1, h2, h3, h4, i, hi, ei⟩
          · omega
          · have g2 : ¬ fsG ra ad p (nI R) k = -2 := fun q => by rw [q] at h1; exact absurd h1 (by decide)
            have g3 : nI R ≤ aTo ra ad n (fsG ra ad p (nI R) k) := by
              rw [eA]
              have := bA (fsG ra ad p (nI R) k)
              exact (nI_leI hR (by omega)).mpr (by omega)
            rw [if_neg g2, if_pos g3, if_pos c3, if_pos c3]
            exact ⟨rfl, s, rfl, i3, Or.inr ⟨h1, h2, h3, fun q => by omega, i, by omega, ei⟩⟩
        · have hsR : s < R := by
            rcases Nat.lt_or_ge s R with q | q
            · exact q
            · exact absurd ((nI_leI (a := R) (b := s) hR (by omega)).mpr q) c3
          rw [if_neg c3, if_neg c3]
          have hsU : s = nS (fun i => ntN ra a (p i)) k := by
            rcases i4 with ⟨-, h, h'⟩ | ⟨-, -, -, h4, -⟩
            · omega
            · exact h4 hsR
          have up1 : s + a (p k) ≤ nS (upN ra a (ra (p k))) n := by
            rw [← nS_perm n p _ ip]
            have m1 := nS_mono (g := fun i => upN ra a (ra (p k)) (p i)) (k := k + 1) (n := n) hk
            have m2 : nS (fun i => ntN ra a (p i)) (k + 1) ≤ nS (fun i => upN ra a (ra (p k)) (p i)) (k + 1) := nS_le (fun i hi => by
              simp only [ntN, upN]
              split
              · exact Nat.le_refl _
              · rw [if_neg (Int32.not_lt.mpr (srt_le hs (by omega) (by omega)))]; exact Nat.le_refl _)
            rw [eN, e3] at m2
            omega
          have dn1 : nS (dnN ra a (ra (p k))) n < R := by
            rw [← nS_perm n p _ ip]
            rw [nS_cut (k := k) (by omega) (fun i h1 h2 => by
              simp only [dnN]
              split
              · rfl
              · rw [if_pos (srt_le hs h1 h2)])]
            have m2 : nS (fun i => dnN ra a (ra (p k)) (p i)) k ≤ nS (fun i => ntN ra a (p i)) k := nS_le (fun i hi => by
              simp only [ntN, dnN]
              split
              · exact Nat.le_refl _
              · split <;> omega)
            omega
          have b2 := bA (ra (p k))
          have tail : ∃ s', nI s + ad (p k) = nI s' ∧ s' ≤ 30000 ∧ ((ra (p k) = -2 ∧ s' = 0 ∧ nS (fun i => ntN ra a (p i)) k + a (p k) = 0) ∨ (0 ≤ ra (p k) ∧ s' ≤ nS (upN ra a (ra (p k))) n ∧ nS (dnN ra a (ra (p k))) n < R ∧ (s' < R → s' = nS (fun i => ntN ra a (p i)) k + a (p k)) ∧ (∃ i, i < k + 1 ∧ ra (p i) = ra (p k)))) :=
            ⟨s + a (p k), by rw [ha _ hlt, nI_add], by omega, Or.inr ⟨hra0, up1, dn1, fun _ => by omega, k, by omega, rfl⟩⟩
          refine ⟨?_, tail⟩
          rcases i4 with ⟨h, -, -⟩ | ⟨h1, h2, h3, h4, i, hi, ei⟩
          · rw [if_pos h]
          · have g2 : ¬ fsG ra ad p (nI R) k = -2 := fun q => by rw [q] at h1; exact absurd h1 (by decide)
            rw [if_neg g2]
            by_cases c4 : nI R ≤ aTo ra ad n (fsG ra ad p (nI R) k)
            · rw [if_pos c4]
              rw [eA] at c4
              have b3 := bA (fsG ra ad p (nI R) k)
              have c4 := (nI_leI hR (by omega)).mp c4
              have hle : fsG ra ad p (nI R) k ≤ ra (p k) := by rw [← ei]; exact srt_le hs (by omega) (by omega)
              by_cases c5 : fsG ra ad p (nI R) k = ra (p k)
              · exact c5
              · exfalso
                have hlt2 : fsG ra ad p (nI R) k < ra (p k) := Int32.lt_of_le_of_ne hle c5
                rw [← nS_perm n p _ ip] at c4
                rw [nS_cut (k := k) (by omega) (fun i h1 h2 => by
                  simp only [upN]
                  split
                  · rfl
                  · rw [if_pos (Int32.lt_of_lt_of_le hlt2 (srt_le hs h1 h2))])] at c4
                have m2 : nS (fun i => upN ra a (fsG ra ad p (nI R) k) (p i)) k ≤ nS (fun i => ntN ra a (p i)) k := nS_le (fun i hi => by
                  simp only [ntN, upN]
                  split
                  · exact Nat.le_refl _
                  · split <;> omega)
                omega
            · rw [if_neg c4]

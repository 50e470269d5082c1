/-! ===== the order is always there, and so is the sale ===== -/
theorem ex_place (q : Nat → Bool) : ∀ k, ∃ a, a ≤ k ∧ (∀ j, a ≤ j → j < k → q j = true) ∧ (a = 0 ∨ q (a - 1) = false)
  | 0 => ⟨0, Nat.le_refl 0, fun j h1 h2 => by omega, Or.inl rfl⟩
  | k + 1 => by
    cases h : q k with
    | false => exact ⟨k + 1, Nat.le_refl _, fun j h1 h2 => by omega, Or.inr h⟩
    | true =>
      obtain ⟨a, h1, h2, h3⟩ := ex_place q k
      refine ⟨a, by omega, fun j h4 h5 => ?_, h3⟩
      by_cases c : j = k
      · rw [c]; exact h
      · exact h2 j h4 (by omega)
theorem srt_ex (ra : Nat → Int32) : ∀ n, ∃ p, inj n p ∧ srt ra n p
  | 0 => ⟨fun k => k, id_inj 0, fun i j _ h => by omega⟩
  | n + 1 => by
    obtain ⟨p, h1, h2⟩ := srt_ex ra n
    obtain ⟨a, h3, h4, h5⟩ := ex_place (fun j => decide (ra n < ra (p j))) n
    refine ⟨ins1 a n (xu p n n), ins1_inj h3 (Nat.lt_succ_self n) (inj_x h1), srt_ins2 h1 h2 h3 (fun j h6 h7 => of_decide_eq_true (h4 j h6 h7)) ?_⟩
    rcases h5 with h5 | h5
    · exact Or.inl h5
    · exact Or.inr (Int32.not_lt.mp (of_decide_eq_false h5))
theorem kR_is (B : bk_T) (n : Nat) : RecS B n sl_0 (kR B n) := by
  obtain ⟨p, h1, h2⟩ := srt_ex (bk_ra B) n
  obtain ⟨R', h⟩ := Rec_at h1 h2 sl_0
  exact kR_rec h
theorem kR_eq {B A : bk_T} {n : Nat} (he : eqB n B A) (okw : okOw (bk_ow B)) (okh : okHs (bk_hs B) n) : agS n (kR B n) (kR A n) := Rec_uniq he okw okh (kR_is B n) (kR_is A n)
/-! ===== bounds of what is sold ===== -/
theorem gS_bd {rm : Nat → Int32} {n : Nat} : ∀ (l : Nat) (f : Nat → Bool) (so : Nat → Int32), (∀ j, j < n → f j = true → 0 ≤ rm j) → l ≤ cntP f rm n → ∀ j, j < n → gS rm n l f so j = so j ∨ (f j = true ∧ 0 < rm j ∧ gS rm n l f so j = so j + 1)
  | 0, _, _, _, _ => fun j _ => Or.inl rfl
  | l + 1, f, so, h0, hl => by
    intro j hj
    rcases mG_gB h0 n (Nat.le_refl n) with ⟨-, -, a3⟩ | ⟨b, a1, a2, a3, a4⟩
    · rw [cntP_no a3] at hl; omega
    · rw [gS_s a2]
      have hb := mG_lt a2
      have hc := cntP_x (mG_f a2) a4 hb
      have ih := gS_bd l (xu f b false) (xu so b (so b + 1)) (fun j hj hf => by
        by_cases q : j = b
        · subst q; rw [xu_s] at hf; cases hf
        · rw [xu_n q] at hf; exact h0 j hj hf) (by omega) j hj
      by_cases q : j = b
      · subst q
        rcases ih with e | ⟨e, -⟩
        · rw [e, xu_s]; exact Or.inr ⟨mG_f a2, a4, rfl⟩
        · rw [xu_s] at e; cases e
      · rw [xu_n q, xu_n q] at ih; exact ih
theorem GV_ex {ad so : Nat → Int32} {f : Nat → Bool} {a : Nat → Nat} {n X : Nat} (hn : n ≤ 30) (ha : ∀ j, j < n → ad j = nI (a j)) (hb : ∀ j, j < n → a j ≤ 1000) (hX : X ≤ 2000000) : ∃ so1, GV f ad so (nI X) n so1 ∧ ∀ j, j < n → f j = true → ∃ c, so1 j = nI c ∧ c ≤ a j := by
  have eT := sm_nS (gT_nI (f := f) ha)
  have bT : nS (msk f a) n ≤ 1000 * n := nS_bd (fun j hj => by simp only [msk]; split; exact hb j hj; omega)
  have bT2 : nS (msk f a) n ≤ 30000 := by omega
  obtain ⟨T, hT⟩ : ∃ T, nS (msk f a) n = T := ⟨_, rfl⟩
  rw [hT] at eT bT2
  simp only [GV]
  rw [eT]
  by_cases c : nI X < nI T
  · have hXT := (nI_ltI (a := X) (b := T) (by omega) (by omega)).mp c
    have q := sh_left (X := X) hT (by omega)
    obtain ⟨q1, q2⟩ := gv_cnt (X := X) hn ha hb hX hT (by omega) (by omega)
    have eL := gL_nI ha hb hX hXT (by omega) q.1 n (Nat.le_refl n)
    refine ⟨gS (pM_ ad (nI X) (nI T)) n (X - nS (fun j => msk f a j * X / T) n) f (cpN n (gF f (gSh ad (nI X) (nI T)) so) so), ⟨fun h => absurd c h, fun _ l hl el => ?_⟩, fun j hj hf => ?_⟩
    · rw [eL] at el
      rw [(nI_eq (a := X - nS (fun j => msk f a j * X / T) n) (b := l) (by omega) hl).mp el]
    · have hp : a j * X ≤ 1000 * 2000000 := Nat.mul_le_mul (hb j hj) hX
      have e0 : cpN n (gF f (gSh ad (nI X) (nI T)) so) so j = nI (a j * X / T) := by
        simp only [cpN, if_pos hj]
        rw [gF_y hf, gSh_p c, ha j hj, nI_mul, pk_div (by omega) (by omega) (by omega)]
      have hle : a j * X / T ≤ a j := by
        have : a j * X ≤ a j * T := Nat.mul_le_mul_left _ (by omega)
        exact Nat.le_trans (Nat.div_le_div_right this) (by rw [Nat.mul_div_cancel _ (by omega)]; exact Nat.le_refl _)
      rcases gS_bd _ f (cpN n (gF f (gSh ad (nI X) (nI T)) so) so) q2 q1 j hj with e | ⟨-, e1, e2⟩
      · exact ⟨a j * X / T, by rw [e, e0], hle⟩
      · refine ⟨a j * X / T + 1, by rw [e2, e0, nI_1], ?_⟩
        have hr : pM_ ad (nI X) (nI T) j = nI (a j * X % T) := by
          simp only [pM_]
          rw [ha j hj, nI_mul, pk_div (by omega) (by omega) (by omega), nI_mul, nI_sub (Nat.div_mul_le_self _ _)]
          congr 1
          have := Nat.div_add_mod (a j * X) T
          rw [Nat.mul_comm] at this
          omega
        rw [hr] at e1
        have hpos : 0 < a j * X % T := by
          rcases Nat.eq_zero_or_pos (a j * X % T) with z | z
          · rw [z] at e1; exact absurd e1 (by decide)
          · exact z
        rcases Nat.lt_or_ge (a j * X / T) (a j) with z | z
        · omega
        · exfalso
          have h1 := Nat.div_add_mod (a j * X) T
          have h2 : T * a j ≤ T * (a j * X / T) := Nat.mul_le_mul_left _ z
          have h3 : a j * X ≤ a j * T := Nat.mul_le_mul_left _ (by omega)
          rw [Nat.mul_comm] at h2
          omega
  · refine ⟨_, ⟨fun _ => rfl, fun h => absurd h c⟩, fun j hj hf => ⟨a j, ?_, Nat.le_refl _⟩⟩
    simp only [cpN, if_pos hj]
    rw [gF_y hf, gSh_n c, ha j hj]
theorem atS_bd {ra ad so re : Nat → Int32} {f : Nat → Bool} {r : Int32} {a : Nat → Nat} {n X : Nat} (hn : n ≤ 30) (ha : ∀ j, j < n → ad j = nI (a j)) (hb : ∀ j, j < n → a j ≤ 1000) (hX : X ≤ 2000000) (hf : ∀ j, f j = true ↔ ra j = r) :
    (∀ j, j < n → ra j = r → ∃ c, (atS n ra ad so re r (nI X) (sm (gT f ad) n)).1 j = nI c ∧ c ≤ a j) ∧ (∀ j, j < n → ¬ ra j = r → (atS n ra ad so re r (nI X) (sm (gT f ad) n)).1 j = so j) ∧
    sm (atS n ra ad so re r (nI X) (sm (gT f ad) n)).1 n = sm (fun j => if ra j = r then 0 else so j) n + if nI X < sm (gT f ad) n then nI X else sm (gT f ad) n := by
  have hf2 : ∀ j, j < n → f j = decide (ra j = r) := fun j _ => by
    by_cases c : ra j = r
    · rw [(hf j).mpr c]; exact (decide_eq_true c).symm
    · rw [decide_eq_false c]
      cases h : f j with
      | false => rfl
      | true => exact absurd ((hf j).mp h) c
  obtain ⟨so1, h1, h2⟩ := GV_ex (f := f) (so := so) hn ha hb hX
  obtain ⟨q1, q2, q3⟩ := GV_atS (so' := so) (re := re) hn ha hb hX hf2 h1
  refine ⟨fun j hj hr => ?_, fun j hj hr => ?_, ?_⟩
  · rw [← q1 j hj (Or.inr rfl)]; exact h2 j hj ((hf j).mpr hr)
  · rw [← q1 j hj (Or.inr rfl)]; exact q2 j hj hr
  · have q4 := q3 (fun _ => true) (fun _ _ => rfl)
    simp only [if_true] at q4
    rw [sm_congr (g := so1) (fun j hj => (q1 j hj (Or.inr rfl)).symm), show sm so1 n = sm (fun j => so1 j) n from rfl, q4]
    congr 1
    refine sm_congr (fun j hj => ?_)
    by_cases c : ra j = r
    · rw [if_pos ((hf j).mpr c), if_pos c]
    · rw [if_neg (fun h => c ((hf j).mp h)), if_neg c]
theorem aI_lo {te ow hs ra lo : Nat → Int32} {p : Nat → Nat} {x : aI_T} {n : Nat} (ip : inj n p) (hl : ∀ b, b < n → 1 ≤ lo b ∧ lo b ≤ 1000) : ∀ k, k ≤ n → ∀ i, i < k → (aI te ow hs ra lo p x k).1 (p i) ≤ lo (p i) := by
  intro k
  induction k with
  | zero => intro _ i h; omega
  | succ k ih =>
    intro hk i hi
    simp only [aI]
    by_cases e : i = k
    · subst e
      rw [xu_s]
      have l0 := (hl (p i) (ip.1 i (by omega))).1
      simp only [am]
      split
      · exact Int32.le_trans (by decide) l0
      · split
        · rename_i h; exact Int32.le_of_lt h
        · exact Int32.le_rfl
    · rw [xu_n (ip.2 i k (by omega) (by omega))]
      exact ih (by omega) i (by omega)
/-- what is admitted under an owner and what is left of its room are the room -/
theorem aI_own {te ow hs ra lo : Nat → Int32} {p : Nat → Nat} {x : aI_T} {n o : Nat} (ip : inj n p) (okw : okOw ow) (okh : okHs hs n) (ho : o < 8) : ∀ k, k ≤ n → (aI te ow hs ra lo p x k).2.2.1 o + sm (fun i => if own ow hs (p i) = o then (aI te ow hs ra lo p x k).1 (p i) else 0) k = x.2.2.1 o := by
  intro k
  induction k with
  | zero => intro _; exact Int32.add_zero _
  | succ k ih =>
    intro hk
    have h1 := ih (by omega)
    have e : ∀ i, i < k → (aI te ow hs ra lo p x (k + 1)).1 (p i) = (aI te ow hs ra lo p x k).1 (p i) := fun i hi => by
      simp only [aI]
      exact xu_n (ip.2 i k (by omega) (by omega))
    have ek : (aI te ow hs ra lo p x (k + 1)).1 (p k) = am te ow hs ra lo (aI te ow hs ra lo p x k).2.2.1 (p k) := by
      simp only [aI]; exact xu_s
    simp only [sm]
    rw [ek, sm_congr (f := fun i => if own ow hs (p i) = o then (aI te ow hs ra lo p x (k + 1)).1 (p i) else 0) (g := fun i => if own ow hs (p i) = o then (aI te ow hs ra lo p x k).1 (p i) else 0) (fun i hi => by rw [e i hi])]
    have e3 : (aI te ow hs ra lo p x (k + 1)).2.2.1 = rl1 te ow hs ra lo (aI te ow hs ra lo p x k).2.2.1 (p k) := rfl
    rw [e3]
    simp only [rl1]
    by_cases c : oob te (ra (p k)) = true
    · rw [if_pos c]
      have : am te ow hs ra lo (aI te ow hs ra lo p x k).2.2.1 (p k) = 0 := by simp only [am]; rw [if_pos c]
      rw [this, ite_self, Int32.add_zero]
      exact h1
    · rw [if_neg c]
      by_cases d : own ow hs (p k) = o
      · rw [if_pos d, d, xu_s]
        rw [← h1]
        generalize (aI te ow hs ra lo p x k).2.2.1 o = y
        generalize sm _ k = s
        generalize am te ow hs ra lo (aI te ow hs ra lo p x k).2.2.1 (p k) = w
        rw [Int32.sub_eq_add_neg, Int32.add_comm s w, ← Int32.add_assoc, Int32.add_assoc y, Int32.add_left_neg, Int32.add_zero]
      · rw [if_neg d, xu_n (fun q => d q.symm), Int32.add_zero]
        exact h1
/-- what holds of every sale -/
def kF (B : bk_T) (n : Nat) (K : sl_T) : Prop :=
  (∀ j, j < n → ∃ c a, sl_so K j = nI c ∧ sl_ad K j = nI a ∧ c ≤ a ∧ a ≤ 1000 ∧ nI a ≤ bk_lo B j) ∧
  (sl_ap K = sm (fun j => if bk_ra B j = -1 then sl_ad K j else 0) n) ∧
  (sl_ar K = sm (fun j => if bk_ra B j = -1 then 0 else sl_ad K j) n) ∧
  (sm (sl_so K) n = sl_sp K + sl_sr K) ∧
  (∃ P s, sl_sp K = nI P ∧ sl_sr K = nI s ∧ P + s ≤ 2000) ∧
  ((0 ≤ sl_st K ∧ sl_st K ≤ 999) ∨ sl_st K = -2) ∧
  (sl_pt K = 0 ∨ sl_pt K = 1) ∧
  (∀ o, o < 8 → sl_ro K o = rm8 (bk_te B) (bk_ho B) (bk_ow B) o) ∧
  (∀ o, o < 8 → ∃ l m, sm (fun j => if own (bk_ow B) (bk_hs B) j = o then sl_so K j else 0) n = nI l ∧ sl_ro K o = nI m ∧ l ≤ m ∧ m < 2 ^ 31)
theorem kF_ad {B : bk_T} {n : Nat} {K : sl_T} (h : kF B n K) : ∀ j, j < n → ∃ c a, sl_so K j = nI c ∧ sl_ad K j = nI a ∧ c ≤ a ∧ a ≤ 1000 ∧ nI a ≤ bk_lo B j := h.1
theorem kF_ap {B : bk_T} {n : Nat} {K : sl_T} (h : kF B n K) : sl_ap K = sm (fun j => if bk_ra B j = -1 then sl_ad K j else 0) n := h.2.1
theorem kF_ar {B : bk_T} {n : Nat} {K : sl_T} (h : kF B n K) : sl_ar K = sm (fun j => if bk_ra B j = -1 then 0 else sl_ad K j) n := h.2.2.1
theorem kF_sum {B : bk_T} {n : Nat} {K : sl_T} (h : kF B n K) : sm (sl_so K) n = sl_sp K + sl_sr K := h.2.2.2.1
theorem kF_nat {B : bk_T} {n : Nat} {K : sl_T} (h : kF B n K) : ∃ P s, sl_sp K = nI P ∧ sl_sr K = nI s ∧ P + s ≤ 2000 := h.2.2.2.2.1
theorem kF_st {B : bk_T} {n : Nat} {K : sl_T} (h : kF B n K) : (0 ≤ sl_st K ∧ sl_st K ≤ 999) ∨ sl_st K = -2 := h.2.2.2.2.2.1
theorem kF_pt {B : bk_T} {n : Nat} {K : sl_T} (h : kF B n K) : sl_pt K = 0 ∨ sl_pt K = 1 := h.2.2.2.2.2.2.1
theorem kF_ro {B : bk_T} {n : Nat} {K : sl_T} (h : kF B n K) : ∀ o, o < 8 → sl_ro K o = rm8 (bk_te B) (bk_ho B) (bk_ow B) o := h.2.2.2.2.2.2.2.1
theorem kF_own {B : bk_T} {n : Nat} {K : sl_T} (h : kF B n K) : ∀ o, o < 8 → ∃ l m, sm (fun j => if own (bk_ow B) (bk_hs B) j = o then sl_so K j else 0) n = nI l ∧ sl_ro K o = nI m ∧ l ≤ m ∧ m < 2 ^ 31 := h.2.2.2.2.2.2.2.2
theorem nI_32 {x y : Nat} (hx : x < 2 ^ 32) (hy : y < 2 ^ 32) (h : nI x = nI y) : x = y := by
  have h := congrArg (fun q => q.toBitVec.toNat) h
  have e : ∀ q, (nI q).toBitVec.toNat = q % 2 ^ 32 := fun q => by
    show (Int32.ofNat q).toBitVec.toNat = q % 2 ^ 32
    rw [show (Int32.ofNat q).toBitVec = BitVec.ofNat 32 q from rfl, BitVec.toNat_ofNat]
  simp only [e] at h
  omega
theorem kF_of {B : bk_T} {n : Nat} (hn : n ≤ 30) (hv : vT (bk_te B)) (hl : vL (bk_ra B) (bk_lo B) n) (okw : okOw (bk_ow B)) (okh : okHs (bk_hs B) n) : kF B n (kR B n) := by
  obtain ⟨p, so1, re1, a1, hi, hs, a4, a5, a6, a7, a8, a9, a10, a11, a12, a13, a14, a15⟩ := kR_is B n
  generalize kR B n = K at *
  obtain ⟨X, O, hX, hO, b1, b2, b3⟩ := po_nI hv
  have nn' := aI_nn (te := bk_te B) (ra := bk_ra B) (x := (sl_ad sl_0, sl_wy sl_0, cpN 8 (rm8 (bk_te B) (bk_ho B) (bk_ow B)) (sl_rl sl_0), 0, 0)) hi okw okh (fun b hb => (hl b hb).2) (fun o h => by simp only [cpN, if_pos h]; exact mx0_nn _) n (Nat.le_refl n)
  have lo' := aI_lo (te := bk_te B) (ow := bk_ow B) (hs := bk_hs B) (ra := bk_ra B) (x := (sl_ad sl_0, sl_wy sl_0, cpN 8 (rm8 (bk_te B) (bk_ho B) (bk_ow B)) (sl_rl sl_0), 0, 0)) hi (fun b hb => (hl b hb).2) n (Nat.le_refl n)
  have sm' := aI_sum (te := bk_te B) (ow := bk_ow B) (hs := bk_hs B) (ra := bk_ra B) (lo := bk_lo B) (x := (sl_ad sl_0, sl_wy sl_0, cpN 8 (rm8 (bk_te B) (bk_ho B) (bk_ow B)) (sl_rl sl_0), 0, 0)) hi rfl rfl n (Nat.le_refl n)
  have ow' := fun o ho => aI_own (te := bk_te B) (ra := bk_ra B) (lo := bk_lo B) (x := (sl_ad sl_0, sl_wy sl_0, cpN 8 (rm8 (bk_te B) (bk_ho B) (bk_ow B)) (sl_rl sl_0), 0, 0)) (o := o) hi okw okh ho n (Nat.le_refl n)
  rw [a5] at nn' lo' sm' ow'
  simp only [] at nn' lo' sm' ow'
  have nn : ∀ j, j < n → 0 ≤ sl_ad K j ∧ sl_ad K j ≤ 1000 := fun j hj => by
    obtain ⟨k, hk, e⟩ := inj_surj n p hi j hj
    rw [← e]; exact nn'.2 k hk
  have hlo : ∀ j, j < n → sl_ad K j ≤ bk_lo B j := fun j hj => by
    obtain ⟨k, hk, e⟩ := inj_surj n p hi j hj
    rw [← e]; exact lo' k hk
  obtain ⟨a, ha, hb⟩ := ad_nat nn
  have hap : sl_ap K = sm (gT (fP (bk_ra B)) (sl_ad K)) n := by rw [← sm_ps hi ha]; exact sm'.1
  have har : sl_ar K = sm (fun j => if bk_ra B j = -1 then 0 else sl_ad K j) n := by
    rw [sm'.2, sm_nS (g := fun i => ntN (bk_ra B) a (p i)) (fun i hi' => by
      simp only [ntN]
      split
      · rfl
      · exact ha _ (hi.1 i hi')), nS_perm n p (ntN (bk_ra B) a) hi]
    exact (sm_nS (fun j hj => by
      simp only [ntN]
      split
      · rfl
      · exact ha j hj)).symm
  -- the plain ones
  have A1 := atS_bd (so := sl_so sl_0) (re := sl_re sl_0) (f := fP (bk_ra B)) (ra := bk_ra B) (r := -1) hn ha hb (X := X) (by omega) (fun j => by simp [fP])
  rw [← hX, ← a7, ← hap, a8] at A1
  obtain ⟨A2, A3, A4⟩ := A1
  simp only [] at A2 A3 A4
  rw [sm_congr (f := fun j => if bk_ra B j = -1 then 0 else sl_so sl_0 j) (g := fun _ => 0) (fun j _ => by split <;> rfl), sm_z, Int32.zero_add] at A4
  have eT := sm_nS (gT_nI (f := fP (bk_ra B)) ha)
  have bT : nS (msk (fP (bk_ra B)) a) n ≤ 1000 * n := nS_bd (fun j hj => by simp only [msk]; split; exact hb j hj; omega)
  obtain ⟨T, hT⟩ : ∃ T, nS (msk (fP (bk_ra B)) a) n = T := ⟨_, rfl⟩
  rw [hT, ← hap] at eT
  rw [hT] at bT
  have hpo : sl_po K = nI X := by rw [a7, hX]
  have hsp : sl_sp K = sm so1 n := by
    rw [a9, A4, hpo, eT]
    by_cases c : nI X < nI T
    · rw [if_pos c, if_neg (Int32.not_lt.mpr (Int32.le_of_lt c))]
    · rw [if_neg c]
      by_cases d : nI T < nI X
      · rw [if_pos d]
      · rw [if_neg d]; exact Int32.le_antisymm (Int32.not_lt.mp d) (Int32.not_lt.mp c)
  obtain ⟨P, hP, hPO⟩ : ∃ P, sm so1 n = nI P ∧ P ≤ O := by
    rw [A4, hpo, eT]
    by_cases d : nI X < nI T
    · rw [if_pos d]; exact ⟨X, rfl, b1⟩
    · rw [if_neg d]
      have := (nI_leI (a := T) (b := X) (by omega) (by omega)).mp (Int32.not_lt.mp d)
      exact ⟨T, rfl, by omega⟩
  have z1 : ∀ j, j < n → ¬ bk_ra B j = -1 → so1 j = 0 := fun j hj h => A3 j hj h
  -- the stop
  obtain ⟨-, hst⟩ := st_vals (te := bk_te B) hn hi hs ha hb (fun j hj => (hl j hj).1.1) hO b3 hP hPO
  rw [← hsp, ← a10, ← a11] at hst
  have ers : sl_rs K = nI (O - P) := by rw [a10, hsp, hO, hP, nI_sub hPO]
  have hst9 : (0 ≤ sl_st K ∧ sl_st K ≤ 999) ∨ sl_st K = -2 := by
    rcases hst with h | ⟨h, L, -, -, -, -, -, j, hj, ej⟩
    · exact Or.inr h
    · exact Or.inl ⟨h, by rw [← ej]; exact (hl j hj).1.2⟩
  have hne1 : ¬ sl_st K = -1 := fun q => by
    rcases hst9 with ⟨h, -⟩ | h
    · rw [q] at h; exact absurd h (by decide)
    · rw [q] at h; exact absurd h (by decide)
  obtain ⟨L, eL, hbl, hLO⟩ : ∃ L, sl_rs K - sm (blw (bk_ra B) (sl_ad K) (sl_st K)) n = nI L ∧ sm (blw (bk_ra B) (sl_ad K) (sl_st K)) n = nI (O - P - L) ∧ L ≤ O - P := by
    rcases hst with h | ⟨h, L, hL, -, hbl, hLO, -⟩
    · have eb : sm (blw (bk_ra B) (sl_ad K) (sl_st K)) n = 0 := by
        rw [sm_congr (g := fun _ => 0) (fun j hj => by simp only [blw]; rw [if_pos (show sl_st K ≤ bk_ra B j by rw [h]; exact Int32.le_trans (by decide) (hl j hj).1.1)]; split <;> rfl)]
        exact sm_z n
      refine ⟨O - P, ?_, ?_, Nat.le_refl _⟩
      · rw [eb, ers, Int32.sub_zero]
      · rw [eb, Nat.sub_self]; rfl
    · exact ⟨L, by rw [← lD_sm]; exact hL, hbl, hLO⟩
  -- the others
  have eats : sm (ats (bk_ra B) (sl_ad K) (sl_st K)) n = sm (gT (fun j => decide (bk_ra B j = sl_st K)) (sl_ad K)) n := sm_congr (fun j hj => by
    simp only [ats, gT]
    by_cases d : bk_ra B j = sl_st K
    · rw [if_neg (by rw [d]; exact hne1), if_pos d, if_pos (decide_eq_true d)]
    · rw [if_neg d, ite_self, if_neg (by simp [d])])
  have A5 := atS_bd (so := cpN n (rtS (bk_ra B) (sl_ad K) so1 (sl_st K)) so1) (re := re1) (f := fun j => decide (bk_ra B j = sl_st K)) (ra := bk_ra B) (r := sl_st K) hn ha hb (X := L) (by omega) (fun j => by simp)
  rw [← eats, ← eL, a12] at A5
  obtain ⟨A6, A7, A8⟩ := A5
  simp only [] at A6 A7 A8
  have soc : ∀ j, j < n → ∃ c, sl_so K j = nI c ∧ c ≤ a j := fun j hj => by
    by_cases d : bk_ra B j = sl_st K
    · exact A6 j hj d
    · rw [A7 j hj d]
      simp only [cpN, if_pos hj, rtS]
      by_cases d1 : bk_ra B j = -1
      · rw [if_pos d1]; exact A2 j hj d1
      · rw [if_neg d1]
        by_cases d2 : sl_st K ≤ bk_ra B j
        · rw [if_pos d2]; exact ⟨0, rfl, Nat.zero_le _⟩
        · rw [if_neg d2]; exact ⟨a j, ha j hj, Nat.le_refl _⟩
  have bT2 : nS (msk (fun j => decide (bk_ra B j = sl_st K)) a) n ≤ 1000 * n := nS_bd (fun j hj => by simp only [msk]; split; exact hb j hj; omega)
  have eT2 := sm_nS (gT_nI (f := fun j => decide (bk_ra B j = sl_st K)) ha)
  rw [← eats] at eT2
  obtain ⟨T2, hT2⟩ : ∃ T, nS (msk (fun j => decide (bk_ra B j = sl_st K)) a) n = T := ⟨_, rfl⟩
  rw [hT2] at bT2 eT2
  obtain ⟨m, hm, m1, m2⟩ : ∃ m, m ≤ L ∧ (if nI L < nI T2 then nI L else nI T2) = nI m ∧ (if nI T2 < nI L then nI T2 else nI L) = nI m := by
    by_cases d : nI L < nI T2
    · exact ⟨L, Nat.le_refl L, if_pos d, if_neg (Int32.not_lt.mpr (Int32.le_of_lt d))⟩
    · have d' : T2 ≤ L := (nI_leI (a := T2) (b := L) (by omega) (by omega)).mp (Int32.not_lt.mp d)
      refine ⟨T2, d', if_neg d, ?_⟩
      by_cases d2 : nI T2 < nI L
      · exact if_pos d2
      · rw [if_neg d2]; exact Int32.le_antisymm (Int32.not_lt.mp d2) (Int32.not_lt.mp d)
  have hsr : sl_sr K = nI (O - P - L + m) := by rw [a14, eL, eT2, m2, hbl, nI_add]
  have hap' : sl_ap K = sm (fun j => if bk_ra B j = -1 then sl_ad K j else 0) n := by
    rw [hap]
    refine sm_congr (fun j hj => ?_)
    simp only [gT, fP, decide_eq_true_eq]
  refine ⟨fun j hj => ?_, hap', har, ?_, ⟨P, O - P - L + m, hsp.trans hP, hsr, by omega⟩, hst9, ?_, ?_, ?_⟩
  · obtain ⟨c, hc, hc2⟩ := soc j hj
    refine ⟨c, a j, hc, ha j hj, hc2, hb j hj, ?_⟩
    rw [← ha j hj]; exact hlo j hj
  · rw [A8, eL, eT2, m1]
    have e1 : sm (fun j => if bk_ra B j = sl_st K then 0 else cpN n (rtS (bk_ra B) (sl_ad K) so1 (sl_st K)) so1 j) n = sm so1 n + sm (blw (bk_ra B) (sl_ad K) (sl_st K)) n := by
      rw [← sm_add]
      refine sm_congr (fun j hj => ?_)
      simp only [cpN, if_pos hj, rtS, blw]
      by_cases d1 : bk_ra B j = -1
      · rw [if_pos d1, if_pos d1, if_neg (by rw [d1]; exact fun q => hne1 q.symm), Int32.add_zero]
      · rw [if_neg d1, if_neg d1, z1 j hj d1]
        by_cases d : bk_ra B j = sl_st K
        · rw [if_pos d, if_pos (by rw [d]; exact Int32.le_rfl)]; rfl
        · rw [if_neg d, Int32.zero_add]
    rw [e1, hsp, hsr, hbl, Int32.add_assoc, nI_add]
  · rw [a13]
    split
    · exact Or.inl rfl
    · exact Or.inr rfl
  · intro o ho
    rw [a6]; simp only [orR, cpN, if_pos ho]
  · intro o ho
    have h1 := ow' o ho
    have h2 := nn'.1 o ho
    have h3 : sl_ro K o = rm8 (bk_te B) (bk_ho B) (bk_ow B) o := by rw [a6]; simp only [orR, cpN, if_pos ho]
    simp only [cpN, if_pos ho] at h1
    have e2 : sm (fun i => if own (bk_ow B) (bk_hs B) (p i) = o then sl_ad K (p i) else 0) n = nI (nS (fun j => if own (bk_ow B) (bk_hs B) j = o then a j else 0) n) := by
      rw [← nS_perm n p _ hi]
      refine sm_nS (fun i hi' => ?_)
      by_cases d : own (bk_ow B) (bk_hs B) (p i) = o
      · rw [if_pos d, if_pos d]; exact ha _ (hi.1 i hi')
      · rw [if_neg d, if_neg d]; rfl
    have bA : nS (fun j => if own (bk_ow B) (bk_hs B) j = o then a j else 0) n ≤ 1000 * n := nS_bd (fun j hj => by split; exact hb j hj; omega)
    have hm0 : 0 ≤ rm8 (bk_te B) (bk_ho B) (bk_ow B) o := mx0_nn _
    have b1' := Int32.toNatClampNeg_lt (sl_rl K o)
    have b2' := Int32.toNatClampNeg_lt (rm8 (bk_te B) (bk_ho B) (bk_ow B) o)
    rw [e2, nI_xn h2, nI_add, nI_xn hm0] at h1
    have h1 := nI_32 (by simp only [xn]; omega) (by simp only [xn]; omega) h1
    obtain ⟨c, hc⟩ : ∃ c : Nat → Nat, ∀ j, j < n → sl_so K j = nI (c j) ∧ c j ≤ a j := ⟨fun j => xn (sl_so K j), fun j hj => by
      obtain ⟨c, e, h⟩ := soc j hj
      have := hb j hj
      show sl_so K j = nI (xn (sl_so K j)) ∧ xn (sl_so K j) ≤ a j
      rw [e, xn_nI (by omega)]; exact ⟨rfl, h⟩⟩
    refine ⟨nS (fun j => if own (bk_ow B) (bk_hs B) j = o then c j else 0) n, xn (rm8 (bk_te B) (bk_ho B) (bk_ow B) o), sm_nS (fun j hj => ?_), by rw [h3]; exact nI_xn hm0, ?_, b2'⟩
    · split
      · exact (hc j hj).1
      · rfl
    · refine Nat.le_trans (nS_le (h := fun j => if own (bk_ow B) (bk_hs B) j = o then a j else 0) (fun j hj => ?_)) (by omega)
      split
      · exact (hc j hj).2
      · exact Nat.le_refl _

/-! ===== what reckon() leaves depends on the book alone ===== -/
def eqB (n : Nat) (B A : bk_T) : Prop := (∀ j, j < 7 → bk_te B j = bk_te A j) ∧ (∀ h, h < 8 → bk_ho B h = bk_ho A h ∧ bk_ow B h = bk_ow A h) ∧ (∀ b, b < n → bk_hs B b = bk_hs A b ∧ bk_ra B b = bk_ra A b ∧ bk_lo B b = bk_lo A b)
def agS (n : Nat) (S R : sl_T) : Prop := (∀ b, b < n → sl_od S b = sl_od R b ∧ sl_ad S b = sl_ad R b ∧ sl_wy S b = sl_wy R b ∧ sl_so S b = sl_so R b) ∧ (∀ o, o < 8 → sl_ro S o = sl_ro R o) ∧ sl_io S = sl_io R ∧ sl_ap S = sl_ap R ∧ sl_ar S = sl_ar R ∧ sl_po S = sl_po R ∧ sl_sp S = sl_sp R ∧ sl_rs S = sl_rs R ∧ sl_st S = sl_st R ∧ sl_sr S = sl_sr R ∧ sl_pt S = sl_pt R ∧ sl_av S = sl_av R
theorem eqB.symm {n : Nat} {B A : bk_T} (h : eqB n B A) : eqB n A B := ⟨fun j hj => (h.1 j hj).symm, fun j hj => ⟨(h.2.1 j hj).1.symm, (h.2.1 j hj).2.symm⟩, fun b hb => ⟨(h.2.2 b hb).1.symm, (h.2.2 b hb).2.1.symm, (h.2.2 b hb).2.2.symm⟩⟩
theorem eqB.rf {n : Nat} {B : bk_T} : eqB n B B := ⟨fun _ _ => rfl, fun _ _ => ⟨rfl, rfl⟩, fun _ _ => ⟨rfl, rfl, rfl⟩⟩
theorem sm_congr {f g : Nat → Int32} : ∀ {n : Nat}, (∀ j, j < n → f j = g j) → sm f n = sm g n
  | 0, _ => rfl
  | n + 1, h => by
    simp only [sm]
    rw [sm_congr (fun j hj => h j (by omega)), h n (by omega)]
theorem sml_congr {f g : Nat → Int64} : ∀ {n : Nat}, (∀ j, j < n → f j = g j) → sml f n = sml g n
  | 0, _ => rfl
  | n + 1, h => by
    simp only [sml]
    rw [sml_congr (fun j hj => h j (by omega)), h n (by omega)]
theorem inj_surj : ∀ (n : Nat) (p : Nat → Nat), inj n p → ∀ b, b < n → ∃ k, k < n ∧ p k = b := by
  intro n
  induction n with
  | zero => intro p _ b hb; omega
  | succ n ih =>
    intro p hp b hb
    have ne : ∀ i j, i < n + 1 → j < n + 1 → i ≠ j → p i ≠ p j := fun i j hi hj hij => by
      rcases Nat.lt_or_gt_of_ne hij with q | q
      · exact hp.2 i j q hj
      · exact (hp.2 j i q hi).symm
    have hq : inj n (fun k => if p k = n then p n else p k) := by
      refine ⟨fun k hk => ?_, fun i j hij hj => ?_⟩
      · show (if p k = n then p n else p k) < n
        have h1 := hp.1 k (by omega)
        have h2 := hp.1 n (by omega)
        have h3 := ne k n (by omega) (by omega) (by omega)
        split <;> omega
      · show (if p i = n then p n else p i) ≠ (if p j = n then p n else p j)
        have h1 := ne i j (by omega) (by omega) (by omega)
        have h2 := ne i n (by omega) (by omega) (by omega)
        have h3 := ne j n (by omega) (by omega) (by omega)
        split <;> split <;> omega
    by_cases h1 : b = p n
    · exact ⟨n, by omega, h1.symm⟩
    · by_cases h2 : b = n
      · have hm : p n < n := by have := hp.1 n (by omega); omega
        obtain ⟨k, hk, e⟩ := ih _ hq (p n) hm
        have e : (if p k = n then p n else p k) = p n := e
        by_cases h3 : p k = n
        · exact ⟨k, by omega, by omega⟩
        · rw [if_neg h3] at e
          exact absurd e (ne k n (by omega) (by omega) (by omega))
      · obtain ⟨k, hk, e⟩ := ih _ hq b (by omega)
        have e : (if p k = n then p n else p k) = b := e
        by_cases h3 : p k = n
        · rw [if_pos h3] at e; exact absurd e.symm h1
        · rw [if_neg h3] at e; exact ⟨k, by omega, e⟩
theorem ahd_congr {ra ra' : Nat → Int32} {x y : Nat} (hx : ra x = ra' x) (hy : ra y = ra' y) : ahd ra x y = ahd ra' x y := by simp [ahd, hx, hy]
theorem srt_uniq {n : Nat} {ra ra' : Nat → Int32} {p q : Nat → Nat} (hr : ∀ b, b < n → ra b = ra' b) (hp : inj n p) (hq : inj n q) (sp : srt ra n p) (sq : srt ra' n q) : ∀ k, k < n → p k = q k := by
  have main : ∀ m k, k < m → k < n → p k = q k := by
    intro m
    induction m with
    | zero => intro k h; omega
    | succ m ih =>
      intro k hk hkn
      by_cases e : p k = q k
      · exact e
      · exfalso
        obtain ⟨i, hi, ei⟩ := inj_surj n q hq (p k) (hp.1 k hkn)
        obtain ⟨j, hj, ej⟩ := inj_surj n p hp (q k) (hq.1 k hkn)
        have hik : k < i := by
          rcases Nat.lt_trichotomy i k with h | h | h
          · have := ih i (by omega) (by omega)
            exact absurd (this.trans ei) (hp.2 i k h hkn)
          · subst h; exact absurd ei.symm e
          · exact h
        have hjk : k < j := by
          rcases Nat.lt_trichotomy j k with h | h | h
          · have := ih j (by omega) (by omega)
            exact absurd (this.symm.trans ej) (hq.2 j k h hkn)
          · subst h; exact absurd ej e
          · exact h
        have a1 := sq k i hik hi
        rw [ei] at a1
        have a2 := sp k j hjk hj
        rw [ej] at a2
        have a3 := ahd_irr a2
        rw [ahd_congr (hr _ (hq.1 k hkn)) (hr _ (hp.1 k hkn))] at a3
        rw [a3] at a1
        cases a1
  intro k hk
  exact main (k + 1) k (by omega) hk
theorem rmR_congr {te te' ho ho' ow ow' : Nat → Int32} {o : Nat} (h0 : te 0 = te' 0) (h1 : te 1 = te' 1) (hh : ∀ h, h < 8 → ho h = ho' h ∧ ow h = ow' h) : ∀ h, h ≤ 8 → rmR te ho ow o h = rmR te' ho' ow' o h := by
  intro h
  induction h with
  | zero => intro _; simp [rmR, h0, h1]
  | succ h ih =>
    intro hle
    obtain ⟨a, b⟩ := hh h (by omega)
    simp only [rmR, ih (by omega), a, b]
theorem gBV_congr {re re' : Nat → Int32} : ∀ {n : Nat}, (∀ j, j < n → re j = re' j) → gB re n = gB re' n ∧ gV re n = gV re' n
  | 0, _ => ⟨rfl, rfl⟩
  | n + 1, h => by
    obtain ⟨a, b⟩ := gBV_congr (fun j hj => h j (Nat.lt_succ_of_lt hj))
    simp only [gB, gV, a, b, h n (Nat.lt_succ_self n)]
    exact ⟨trivial, trivial⟩
/-- giving one more goes alike where the rests are alike -/
theorem prI_congr {n : Nat} {so so' re re' : Nat → Int32} {M : Nat → Prop} (hs : ∀ j, j < n → M j → so j = so' j) (hr : ∀ j, j < n → re j = re' j) : ∀ t, (∀ j, j < n → M j → (prI n (so, re) t).1 j = (prI n (so', re') t).1 j) ∧ ∀ j, j < n → (prI n (so, re) t).2 j = (prI n (so', re') t).2 j := by
  intro t
  induction t with
  | zero => exact ⟨hs, hr⟩
  | succ t ih =>
    obtain ⟨i1, i2⟩ := ih
    have e := (gBV_congr i2).1
    simp only [prI, gvS, gvR]
    rw [e]
    cases hg : gB (prI n (so', re') t).2 n with
    | none => exact ⟨i1, i2⟩
    | some k =>
      refine ⟨fun j hj hm => ?_, fun j hj => ?_⟩
      · simp only [xu]
        by_cases h : j = k
        · subst h; simp [i1 j hj hm]
        · simp [h, i1 j hj hm]
      · simp only [xu]
        by_cases h : j = k
        · simp [h]
        · simp [h, i2 j hj]
theorem ptL_congr {ra ra' ad ad' : Nat → Int32} {r am to : Int32} : ∀ {n : Nat}, (∀ j, j < n → ra j = ra' j ∧ ad j = ad' j) → ptL ra ad r am to n = ptL ra' ad' r am to n
  | 0, _ => rfl
  | n + 1, h => by
    obtain ⟨a, b⟩ := h n (Nat.lt_succ_self n)
    simp only [ptL, pQ, a, b, ptL_congr (fun j hj => h j (Nat.lt_succ_of_lt hj))]
theorem atS_congr {n : Nat} {ra ra' ad ad' so so' re re' : Nat → Int32} {r am to : Int32} (hr : ∀ j, j < n → ra j = ra' j ∧ ad j = ad' j) : ∀ j, j < n → (ra j = r ∨ so j = so' j) → (atS n ra ad so re r am to).1 j = (atS n ra' ad' so' re' r am to).1 j := by
  intro j hj hm
  obtain ⟨a, b⟩ := hr j hj
  unfold atS
  by_cases c1 : to ≤ am
  · rw [if_pos c1, if_pos c1]
    simp only [cpN, fulS, if_pos hj, ← a, b]
    rcases hm with h | h
    · rw [if_pos h, if_pos h]
    · rw [h]
  · rw [if_neg c1, if_neg c1]
    by_cases c2 : to ≤ 0
    · rw [if_pos c2, if_pos c2]
      simp only [cpN, fulS, if_pos hj, ← a, b]
      rcases hm with h | h
      · rw [if_pos h, if_pos h]
      · rw [h]
    · rw [if_neg c2, if_neg c2]
      unfold prt
      rw [ptL_congr hr]
      refine (prI_congr (M := fun j => ra j = r ∨ so j = so' j) (fun i hi hm => ?_) (fun i hi => ?_) _).1 j hj hm
      · obtain ⟨a, b⟩ := hr i hi
        simp only [cpN, ptS, pQ, if_pos hi, ← a, b]
        rcases hm with h | h
        · rw [if_pos h, if_pos h]
        · rw [h]
      · obtain ⟨a, b⟩ := hr i hi
        simp only [cpN, ptR, pM_, if_pos hi, ← a, b]
theorem fs_congr {ra ra' ad ad' : Nat → Int32} {p p' : Nat → Nat} {rs : Int32} : ∀ {n : Nat}, (∀ j, j < n → ra (p j) = ra' (p' j) ∧ ad (p j) = ad' (p' j)) → fsS ra ad p rs n = fsS ra' ad' p' rs n ∧ fsG ra ad p rs n = fsG ra' ad' p' rs n
  | 0, _ => ⟨rfl, rfl⟩
  | n + 1, h => by
    obtain ⟨a, b⟩ := fs_congr (rs := rs) (fun j hj => h j (Nat.lt_succ_of_lt hj))
    obtain ⟨c, d⟩ := h n (Nat.lt_succ_self n)
    simp only [fsS, fsG, a, b, c, d]
    exact ⟨trivial, trivial⟩
/-- letting in goes alike -/
theorem aI_congr {n : Nat} {te te' ow ow' hs hs' ra ra' lo lo' : Nat → Int32} {p p' : Nat → Nat} {x x' : aI_T} (h3 : te 3 = te' 3) (h4 : te 4 = te' 4) (ho : ∀ h, h < 8 → ow h = ow' h) (hb : ∀ b, b < n → hs b = hs' b ∧ ra b = ra' b ∧ lo b = lo' b) (hp : ∀ k, k < n → p k = p' k) (ip : inj n p) (okw : okOw ow) (okh : okHs hs n)
    (hx : ∀ o, o < 8 → x.2.2.1 o = x'.2.2.1 o) (hy : x.2.2.2.1 = x'.2.2.2.1) (hz : x.2.2.2.2 = x'.2.2.2.2) : ∀ k, k ≤ n → (∀ o, o < 8 → (aI te ow hs ra lo p x k).2.2.1 o = (aI te' ow' hs' ra' lo' p' x' k).2.2.1 o) ∧ (aI te ow hs ra lo p x k).2.2.2.1 = (aI te' ow' hs' ra' lo' p' x' k).2.2.2.1 ∧ (aI te ow hs ra lo p x k).2.2.2.2 = (aI te' ow' hs' ra' lo' p' x' k).2.2.2.2 ∧ ∀ j, j < k → (aI te ow hs ra lo p x k).1 (p j) = (aI te' ow' hs' ra' lo' p' x' k).1 (p j) ∧ (aI te ow hs ra lo p x k).2.1 (p j) = (aI te' ow' hs' ra' lo' p' x' k).2.1 (p j) := by
  intro k
  induction k with
  | zero => intro _; exact ⟨hx, hy, hz, fun j h => by omega⟩
  | succ k ih =>
    intro hk
    obtain ⟨i1, i2, i3, i4⟩ := ih (by omega)
    have hpk := hp k (by omega)
    have hl := ip.1 k (by omega)
    obtain ⟨b1, b2, b3⟩ := hb (p k) hl
    have o1 := (okh (p k) hl).2.2
    have eo : own ow hs (p k) = own ow' hs' (p k) := by simp only [own]; rw [← b1, ho _ o1]
    have o2 : own ow hs (p k) < 8 := (okw _ o1).2.2
    have eb : oob te (ra (p k)) = oob te' (ra' (p k)) := by simp only [oob, b2, h3, h4]
    have ea : am te ow hs ra lo (aI te ow hs ra lo p x k).2.2.1 (p k) = am te' ow' hs' ra' lo' (aI te' ow' hs' ra' lo' p' x' k).2.2.1 (p k) := by
      simp only [am]
      rw [eb, ← eo, i1 _ o2, b3]
    have ew : wv te ow hs ra lo (aI te ow hs ra lo p x k).2.2.1 (p k) = wv te' ow' hs' ra' lo' (aI te' ow' hs' ra' lo' p' x' k).2.2.1 (p k) := by
      simp only [wv]
      rw [eb, ea, b3]
    simp only [aI]
    rw [← hpk, ea, ew, b2, i2, i3]
    refine ⟨fun o h8 => ?_, rfl, rfl, fun j hj => ?_⟩
    · simp only [rl1]
      rw [eb, ← eo, ea, i1 _ o2]
      split
      · exact i1 o h8
      · simp only [xu]
        split
        · rfl
        · exact i1 o h8
    · by_cases e : j = k
      · subst e; exact ⟨by simp [xu], by simp [xu]⟩
      · have hne : p j ≠ p k := ip.2 j k (by omega) (by omega)
        obtain ⟨q1, q2⟩ := i4 j (by omega)
        simp only [xu, if_neg hne]
        exact ⟨q1, q2⟩
theorem Rec_uniq {n : Nat} {B A : bk_T} {S S' R R' : sl_T} (he : eqB n B A) (okw : okOw (bk_ow B)) (okh : okHs (bk_hs B) n) (h1 : RecS B n S S') (h2 : RecS A n R R') : agS n S' R' := by
  obtain ⟨p, so1, re1, a1, a2, a3, a4, a5, a6, a7, a8, a9, a10, a11, a12, a13, a14, a15⟩ := h1
  obtain ⟨q, so2, re2, b1, b2, b3, b4, b5, b6, b7, b8, b9, b10, b11, b12, b13, b14, b15⟩ := h2
  obtain ⟨e1, e2, e3⟩ := he
  have hpq := srt_uniq (fun b hb => (e3 b hb).2.1) a2 b2 a3 b3
  have hrm : ∀ o, o < 8 → rm8 (bk_te B) (bk_ho B) (bk_ow B) o = rm8 (bk_te A) (bk_ho A) (bk_ow A) o := fun o _ => by simp only [rm8]; rw [rmR_congr (e1 0 (by omega)) (e1 1 (by omega)) e2 8 (by omega)]
  have hA := aI_congr (x := (sl_ad S, sl_wy S, cpN 8 (rm8 (bk_te B) (bk_ho B) (bk_ow B)) (sl_rl S), 0, 0)) (x' := (sl_ad R, sl_wy R, cpN 8 (rm8 (bk_te A) (bk_ho A) (bk_ow A)) (sl_rl R), 0, 0)) (e1 3 (by omega)) (e1 4 (by omega)) (fun h hh => (e2 h hh).2) e3 hpq a2 okw okh (fun o ho => by simp only [cpN, if_pos ho]; exact hrm o ho) rfl rfl n (Nat.le_refl n)
  rw [a5, b5] at hA
  obtain ⟨c1, c2, c3, c4⟩ := hA
  have c2 : sl_ap S' = sl_ap R' := c2
  have c3 : sl_ar S' = sl_ar R' := c3
  have hadw : ∀ b, b < n → sl_ad S' b = sl_ad R' b ∧ sl_wy S' b = sl_wy R' b := by
    intro b hb
    obtain ⟨k, hk, e⟩ := inj_surj n p a2 b hb
    have := c4 k hk
    rw [e] at this
    exact this
  have hra : ∀ j, j < n → bk_ra B j = bk_ra A j ∧ sl_ad S' j = sl_ad R' j := fun j hj => ⟨(e3 j hj).2.1, (hadw j hj).1⟩
  have hpo : sl_po S' = sl_po R' := by rw [a7, b7, e1 2 (by omega), e1 0 (by omega)]
  have hso1 : ∀ j, j < n → bk_ra B j = -1 → so1 j = so2 j := by
    intro j hj hm
    have := atS_congr (n := n) (so := sl_so S) (so' := sl_so R) (re := sl_re S) (re' := sl_re R) (r := -1) (am := sl_po S') (to := sl_ap S') hra j hj (Or.inl hm)
    rw [a8] at this
    rw [hpo, c2, b8] at this
    exact this
  have hsp : sl_sp S' = sl_sp R' := by rw [a9, b9, c2, hpo]
  have hrs : sl_rs S' = sl_rs R' := by rw [a10, b10, hsp, e1 0 (by omega)]
  have hst : sl_st S' = sl_st R' := by
    rw [a11, b11, hrs]
    refine (fs_congr (fun j hj => ?_)).2
    rw [← hpq j hj]
    exact hra _ (a2.1 j hj)
  have hbl : sm (blw (bk_ra B) (sl_ad S') (sl_st S')) n = sm (blw (bk_ra A) (sl_ad R') (sl_st R')) n := sm_congr (fun j hj => by obtain ⟨u, w⟩ := hra j hj; simp only [blw, u, w, hst])
  have has : sm (ats (bk_ra B) (sl_ad S') (sl_st S')) n = sm (ats (bk_ra A) (sl_ad R') (sl_st R')) n := sm_congr (fun j hj => by obtain ⟨u, w⟩ := hra j hj; simp only [ats, u, w, hst])
  have hso : ∀ j, j < n → sl_so S' j = sl_so R' j := by
    intro j hj
    have := atS_congr (n := n) (so := cpN n (rtS (bk_ra B) (sl_ad S') so1 (sl_st S')) so1) (so' := cpN n (rtS (bk_ra A) (sl_ad R') so2 (sl_st R')) so2) (re := re1) (re' := re2) (r := sl_st S') (am := sl_rs S' - sm (blw (bk_ra B) (sl_ad S') (sl_st S')) n) (to := sm (ats (bk_ra B) (sl_ad S') (sl_st S')) n) hra j hj (Or.inr (by
      obtain ⟨u, w⟩ := hra j hj
      simp only [cpN, if_pos hj, rtS, ← u, w, hst]
      split
      · rename_i h9; exact hso1 j hj h9
      · rfl))
    rw [a12] at this
    rw [hst, hrs] at this
    rw [hst] at hbl has
    rw [hbl, has, b12] at this
    exact this
  have hsr : sl_sr S' = sl_sr R' := by rw [a14, b14, hbl, has, hrs]
  refine ⟨fun b hb => ⟨?_, (hadw b hb).1, (hadw b hb).2, hso b hb⟩, fun o ho => ?_, by rw [a4, b4], c2, c3, hpo, hsp, hrs, hst, hsr, by rw [a13, b13, hbl, has, hrs], ?_⟩
  · rw [a1 b hb, b1 b hb, hpq b hb]
  · rw [a6, b6]; simp only [orR, cpN, if_pos ho]; exact hrm o ho
  · rw [a15, b15, hsr]
    simp only [avr, e1 3 (by omega)]
    rw [sm_congr (f := fun j => if bk_ra B j = -1 then 0 else bk_ra B j * sl_so S' j) (g := fun j => if bk_ra A j = -1 then 0 else bk_ra A j * sl_so R' j) (fun j hj => by rw [(hra j hj).1, hso j hj])]
def sl_0 : sl_T := (fun _ => 0, fun _ => 0, fun _ => 0, fun _ => 0, fun _ => 0, fun _ => 0, fun _ => 0, 0, 0, 0, 0, 0, 0, 0, 0, 0, 0)
/-- what is reckoned of a book -/
noncomputable def kR (B : bk_T) (n : Nat) : sl_T := Classical.epsilon (fun S' => RecS B n sl_0 S')
theorem Rec_any {B : bk_T} {n : Nat} {S S' : sl_T} (h : RecS B n S S') (R : sl_T) : ∃ R', RecS B n R R' := by
  obtain ⟨p, so1, re1, a1, a2, a3, a4, -⟩ := h
  obtain ⟨⟨ad, wy, rl, ap, ar⟩, hA⟩ : ∃ x, aI (bk_te B) (bk_ow B) (bk_hs B) (bk_ra B) (bk_lo B) p (sl_ad R, sl_wy R, cpN 8 (rm8 (bk_te B) (bk_ho B) (bk_ow B)) (sl_rl R), 0, 0) n = x := ⟨_, rfl⟩
  obtain ⟨po, hpo⟩ : ∃ x, x = bk_te B 2 * bk_te B 0 / 100 := ⟨_, rfl⟩
  obtain ⟨⟨s1, r1⟩, h1⟩ : ∃ x, atS n (bk_ra B) ad (sl_so R) (sl_re R) (-1) po ap = x := ⟨_, rfl⟩
  obtain ⟨sp, hsp⟩ : ∃ x : Int32, x = (if ap < po then ap else po) := ⟨_, rfl⟩
  obtain ⟨rs, hrs⟩ : ∃ x, x = bk_te B 0 - sp := ⟨_, rfl⟩
  obtain ⟨st, hst⟩ : ∃ x, x = fsG (bk_ra B) ad p rs n := ⟨_, rfl⟩
  obtain ⟨⟨so, re⟩, h2⟩ : ∃ x, atS n (bk_ra B) ad (cpN n (rtS (bk_ra B) ad s1 st) s1) r1 st (rs - sm (blw (bk_ra B) ad st) n) (sm (ats (bk_ra B) ad st) n) = x := ⟨_, rfl⟩
  obtain ⟨pt, hpt⟩ : ∃ x : Int32, x = (if sm (ats (bk_ra B) ad st) n ≤ rs - sm (blw (bk_ra B) ad st) n then 0 else 1) := ⟨_, rfl⟩
  obtain ⟨sr, hsr⟩ : ∃ x : Int32, x = sm (blw (bk_ra B) ad st) n + (if sm (ats (bk_ra B) ad st) n < rs - sm (blw (bk_ra B) ad st) n then sm (ats (bk_ra B) ad st) n else rs - sm (blw (bk_ra B) ad st) n) := ⟨_, rfl⟩
  obtain ⟨av, hav⟩ : ∃ x, x = avr n (bk_te B) (bk_ra B) so sr := ⟨_, rfl⟩
  obtain ⟨ro, hro⟩ : ∃ x, x = orR (bk_te B) (bk_ho B) (bk_ow B) (sl_ro R) := ⟨_, rfl⟩
  exact ⟨(fun k => nI (p k), ad, wy, so, re, ro, rl, nI n, ap, ar, po, sp, rs, st, sr, pt, av), p, s1, r1, fun j _ => rfl, a2, a3, rfl, hA, hro, hpo, h1, hsp, hrs, hst, h2, hpt, hsr, hav⟩
theorem kR_rec {B : bk_T} {n : Nat} {S S' : sl_T} (h : RecS B n S S') : RecS B n sl_0 (kR B n) := Classical.epsilon_spec (p := fun S' => RecS B n sl_0 S') (Rec_any h sl_0)
theorem kR_ag {B : bk_T} {n : Nat} {S S' : sl_T} (okw : okOw (bk_ow B)) (okh : okHs (bk_hs B) n) (h : RecS B n S S') : agS n S' (kR B n) := Rec_uniq eqB.rf okw okh h (kR_rec h)
theorem Rec_okO {B : bk_T} {n : Nat} {S S' : sl_T} (hn : n ≤ 30) (h : RecS B n S S') : okO S' := by
  obtain ⟨p, so1, re1, a1, a2, a3, a4, -⟩ := h
  exact ⟨n, p, hn, a4, a1, a2⟩

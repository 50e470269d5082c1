/-! ===== the acts: rows and books stay alike ===== -/
theorem eqB.tr {n : Nat} {B A C : bk_T} (h : eqB n B A) (q : eqB n A C) : eqB n B C := ⟨fun j hj => (h.1 j hj).trans (q.1 j hj), fun j hj => ⟨(h.2.1 j hj).1.trans (q.2.1 j hj).1, (h.2.1 j hj).2.trans (q.2.1 j hj).2⟩, fun j hj => ⟨(h.2.2 j hj).1.trans (q.2.2 j hj).1, (h.2.2 j hj).2.1.trans (q.2.2 j hj).2.1, (h.2.2 j hj).2.2.trans (q.2.2 j hj).2.2⟩⟩
theorem RB_C {B C : bk_T} {n r : Nat} {N : Nat → Int32} {pt : Nat → Int64} (h : RB B n r N pt) (hC : EQB n B C) : RB C n r N pt := by
  obtain ⟨ok, te, ho, ow, hs, ra, lo, st, av, so, he, hl, hV, hN⟩ := h
  have hr := hV.2.2
  refine ⟨EQB_ok hC ok, te, ho, ow, hs, ra, lo, st, av, so, hC.1.symm.tr he, fun k hk => ?_, hV, hN⟩
  obtain ⟨a, b, c, d⟩ := hC.2.2.1 k (by omega)
  rw [← a, ← b, ← c, ← d]
  exact hl k hk
theorem RB_N {B : bk_T} {n r : Nat} {N N' : Nat → Int32} {pt pt' : Nat → Int64} (hN : ∀ k, k < 139 → N' k = N k) (hp : ∀ k, k < 8 → pt' k = pt k) (h : RB B n r N pt) : RB B n r N' pt' := by
  obtain ⟨ok, te, ho, ow, hs, ra, lo, st, av, so, he, hl, hV, hN9⟩ := h
  have hr := hV.2.2
  refine ⟨ok, te, ho, ow, hs, ra, lo, st, av, so, he, fun k hk => ?_, hV, fun k hk => (hN k hk).trans (hN9 k hk)⟩
  obtain ⟨a, b, c, d⟩ := hl k hk
  refine ⟨a, b, c, d.trans ?_⟩
  exact (hp (r - 1 - k) (by omega)).symm
theorem PB_keep {K : Nat → bk_T} {e a n r : Nat} {be be1 N : Nat → Int32} {pb pb1 pt : Nat → Int64} {B C : bk_T} (hP : PB K e a be pb) (he : e < 12) (ha : a ≤ 12) (hB : RB B n r N pt) (hC : EQB n B C) (hK : KP a N be pt pb be1 pb1) : PB (xu K e C) ((e + 1) % 12) (min 12 (a + 1)) be1 pb1 := by
  intro i hi
  by_cases c : a = 12
  · subst c
    obtain ⟨e1, e2⟩ := hK.1 rfl
    subst e1 e2
    have hi : i < 12 := by omega
    by_cases d : i = 11
    · subst d
      refine ⟨n, r, ?_⟩
      rw [show ((e + 1) % 12 + 12 - min 12 (12 + 1) + 11) % 12 = e by omega, xu_s]
      refine RB_N (fun k hk => ?_) (fun k hk => ?_) (RB_C hB hC)
      · simp only [wrB]; rw [if_pos (by omega), show 139 * 11 + k - 139 * 11 = k by omega]
      · simp only [wrB]; rw [if_pos (by omega), show 8 * 11 + k - 8 * 11 = k by omega]
    · obtain ⟨nj, rj, h⟩ := hP (i + 1) (by omega)
      refine ⟨nj, rj, ?_⟩
      rw [show ((e + 1) % 12 + 12 - min 12 (12 + 1) + i) % 12 = (e + 12 - 12 + (i + 1)) % 12 by omega, xu_n (by omega)]
      refine RB_N (fun k hk => ?_) (fun k hk => ?_) h
      · simp only [wrB, shB]; rw [if_neg (by omega), if_pos (by omega), show 139 * i + k + 139 = 139 * (i + 1) + k by omega]
      · simp only [wrB, shB]; rw [if_neg (by omega), if_pos (by omega), show 8 * i + k + 8 = 8 * (i + 1) + k by omega]
  · obtain ⟨e1, e2⟩ := hK.2 (by omega)
    subst e1 e2
    by_cases d : i = a
    · subst d
      refine ⟨n, r, ?_⟩
      rw [show ((e + 1) % 12 + 12 - min 12 (i + 1) + i) % 12 = e by omega, xu_s]
      refine RB_N (fun k hk => ?_) (fun k hk => ?_) (RB_C hB hC)
      · simp only [wrB]; rw [if_pos (by omega), show 139 * i + k - 139 * i = k by omega]
      · simp only [wrB]; rw [if_pos (by omega), show 8 * i + k - 8 * i = k by omega]
    · obtain ⟨nj, rj, h⟩ := hP i (by omega)
      refine ⟨nj, rj, ?_⟩
      rw [show ((e + 1) % 12 + 12 - min 12 (a + 1) + i) % 12 = (e + 12 - a + i) % 12 by omega, xu_n (by omega)]
      refine RB_N (fun k hk => ?_) (fun k hk => ?_) h
      · simp only [wrB]; rw [if_neg (by omega)]
      · simp only [wrB]; rw [if_neg (by omega)]
theorem PB_undo {K : Nat → bk_T} {e a : Nat} {be : Nat → Int32} {pb : Nat → Int64} (hP : PB K e a be pb) (he : e < 12) (ha : a ≤ 12) (h1 : 1 ≤ a) : (∃ nj rj, RB (K ((e + 11) % 12)) nj rj (fun k => be (139 * (a - 1) + k)) (fun k => pb (8 * (a - 1) + k))) ∧ PB K ((e + 11) % 12) (a - 1) be pb := by
  constructor
  · have h := hP (a - 1) (by omega)
    rw [show (e + 12 - a + (a - 1)) % 12 = (e + 11) % 12 by omega] at h
    exact h
  · intro i hi
    have h := hP i (by omega)
    rw [show ((e + 11) % 12 + 12 - (a - 1) + i) % 12 = (e + 12 - a + i) % 12 by omega]
    exact h
theorem PB_0 {K : Nat → bk_T} {e : Nat} {be : Nat → Int32} {pb : Nat → Int64} : PB K e 0 be pb := fun i hi => absurd hi (Nat.not_lt_zero i)
/-! what may be done -/
theorem n30_eq {n : Nat} (hn : n ≤ 30) : decide (nI n < 30) = !(decide (n = 30)) := by
  by_cases c : n = 30
  · subst c; rfl
  · rw [decide_eq_false c]
    refine decide_eq_true ?_
    exact Int32.not_le.mp (fun q => absurd ((nI_leI (a := 30) (b := n) (by decide) (by omega)).mp q) (by omega))
theorem e_bid {n : Nat} (hn : n ≤ 30) (h x q : Int32) : canBid n h x q = mcBid n h x q := by
  simp only [canBid, mcBid]
  rw [mIn_isH, n30_eq hn]; rfl
theorem e_term {B A : bk_T} {n : Nat} (he : eqB n B A) (hv : vT (bk_te A)) (w v : Int32) : canTerm B w v = mcTerm (bk_te A) w v := by
  simp only [canTerm, mcTerm]
  rw [mayB_t hv, cg_tfit he]
  by_cases c : tfit (bk_te A) w v = true
  · rw [c, he.1 _ (tfit_7 c)]
  · have c : tfit (bk_te A) w v = false := by simpa using c
    rw [c]; rfl
theorem e_own {B A : bk_T} {n : Nat} (he : eqB n B A) (h x : Int32) : canOwn B h x = mcOwn (bk_ow A) h x := by
  simp only [canOwn, mcOwn]
  rw [mIn_isH, mIn_isH]
  by_cases c : isH h = true
  · rw [(he.2.1 _ (isH_xn c)).2]
  · have c : isH h = false := by simpa using c
    rw [c]; rfl
theorem e_hold {B A : bk_T} {n : Nat} (he : eqB n B A) (h q : Int32) : canHold B h q = mcHold (bk_ho A) h q := by
  simp only [canHold, mcHold]
  rw [mIn_isH]
  by_cases c : isH h = true
  · rw [(he.2.1 _ (isH_xn c)).1]; simp only [mIn, Bool.and_assoc]
  · have c : isH h = false := by simpa using c
    rw [c]; rfl
theorem lt_m1 {x y : Int32} (h1 : 1 ≤ y) (h2 : y ≤ 1000) : decide (x < y) = !(decide (y - 1 < x)) := by
  obtain ⟨k, e⟩ : ∃ k : Nat, y = nI k := ⟨_, nI_xn (Int32.le_trans (by decide) h1)⟩
  have h1 : 1 ≤ y.toInt := Int32.le_iff_toInt_le.mp h1
  have h2 : y.toInt ≤ 1000 := Int32.le_iff_toInt_le.mp h2
  have e1 : (y - 1).toInt = y.toInt - 1 := by
    rw [Int32.toInt_sub, show (1 : Int32).toInt = 1 from by decide]
    exact Int.bmod_eq_of_le (by omega) (by omega)
  by_cases c : x < y
  · rw [decide_eq_true c, decide_eq_false]; rfl
    rw [Int32.lt_iff_toInt_lt] at c ⊢
    omega
  · rw [decide_eq_false c, decide_eq_true]; rfl
    rw [Int32.lt_iff_toInt_lt] at c ⊢
    omega
theorem e_split {B A : bk_T} {n : Nat} (he : eqB n B A) (hb : bk_bi B = nI n) (hn : n ≤ 30) (hl : vL (bk_ra A) (bk_lo A) n) (b q : Int32) : canSplit B n b q = mcSplit n (bk_lo A) b q := by
  simp only [canSplit, mcSplit]
  rw [hb, mIn_bid hn]
  by_cases c : hasB (nI n) b = true
  · have hx := hasB_xn hn c
    have h30 := n30_eq hn
    rw [(he.2.2 _ hx).2.2, lt_m1 (hl _ hx).2.1 (hl _ hx).2.2]
    simp only [mIn]
    rw [show (!(decide ((30 : Int32) ≤ nI n))) = decide (nI n < 30) from by rw [← decide_not]; exact decide_eq_decide.mpr Int32.not_le, h30]
    simp only [Bool.and_assoc]
  · have c : hasB (nI n) b = false := by simpa using c
    rw [c]; rfl
theorem e_move {B : bk_T} {n : Nat} (hb : bk_bi B = nI n) (hn : n ≤ 30) (b x : Int32) : canMove B b x = mcMove n b x := by
  simp only [canMove, mcMove]
  rw [hb, mIn_bid hn, mIn_bid hn]
theorem e_ch {B A : bk_T} {n : Nat} (he : eqB n B A) (hb : bk_bi B = nI n) (hn : n ≤ 30) (b w v : Int32) : canCh B b w v = mcCh n (bk_ra A) (bk_lo A) b w v := by
  simp only [canCh, mcCh, canChL, canChR, mcChL, mcChR]
  rw [hb, mIn_bid hn]
  by_cases c : hasB (nI n) b = true
  · have hx := he.2.2 _ (hasB_xn hn c)
    rw [c, hx.2.1, hx.2.2]
    simp only [Bool.true_and]
    rfl
  · have c : hasB (nI n) b = false := by simpa using c
    rw [c]
    simp only [Bool.false_and, ite_self]
/-! the bids -/
theorem xu_cg {α : Type} {f g : Nat → α} {k j : Nat} {x : α} (h : j ≠ k → f j = g j) : xu f k x j = xu g k x j := by
  by_cases c : j = k
  · subst c; rw [xu_s, xu_s]
  · rw [xu_n c, xu_n c]; exact h c
theorem bid_eqB {B A : bk_T} {n : Nat} (he : eqB n B A) (h x q b1 b2 : Int32) : eqB (n + 1) (bk_w3 B (insR n n h (bk_hs B)) (insR n n x (bk_ra B)) (insR n n q (bk_lo B)) b1) (bk_w3 A (xu (bk_hs A) n h) (xu (bk_ra A) n x) (xu (bk_lo A) n q) b2) := by
  refine ⟨he.1, he.2.1, fun j hj => ?_⟩
  show insR n n h (bk_hs B) j = xu (bk_hs A) n h j ∧ insR n n x (bk_ra B) j = xu (bk_ra A) n x j ∧ insR n n q (bk_lo B) j = xu (bk_lo A) n q j
  rw [insR_s, insR_s, insR_s]
  exact ⟨xu_cg (fun c => (he.2.2 j (by omega)).1), xu_cg (fun c => (he.2.2 j (by omega)).2.1), xu_cg (fun c => (he.2.2 j (by omega)).2.2)⟩
theorem isH_xi {x : Int32} (h : isH x = true) : xi x (xn x) 8 := by
  obtain ⟨j, hj, rfl⟩ := isH_of h
  exact hs_xi (Int32.not_lt.mp (nI_pos (by omega))) ((nI_leI (a := j) (b := 7) (by omega) (by decide)).mpr (by omega))
theorem bid_MV {te ow hs ra lo : Nat → Int32} {n : Nat} {h x q : Int32} (hq : MV te ow hs ra lo n) (c : mcBid n h x q = true) : MV te ow (xu hs n h) (xu ra n x) (xu lo n q) (n + 1) := by
  simp only [mcBid, Bool.and_eq_true, Bool.or_eq_true, Bool.not_eq_true', decide_eq_false_iff_not, decide_eq_true_eq] at c
  obtain ⟨⟨⟨c1, c2⟩, c3⟩, c4⟩ := c
  rw [mIn_isH] at c1
  have h30 := hq.1
  refine ⟨by omega, hq.2.1, fun b hb => ?_, hq.2.2.2.1, fun b hb => ?_⟩
  · by_cases d : b = n
    · subst d; rw [xu_s]; exact isH_xi c1
    · rw [xu_n d]; exact hq.2.2.1 b (by omega)
  · by_cases d : b = n
    · subst d; rw [xu_s, xu_s]
      simp only [mIn, Bool.and_eq_true, Bool.not_eq_true', decide_eq_false_iff_not] at c2 c3
      refine ⟨?_, Int32.not_lt.mp c3.1, Int32.not_lt.mp c3.2⟩
      rcases c2 with c2 | c2
      · subst c2; decide
      · exact ⟨Int32.le_trans (by decide) (Int32.not_lt.mp c2.1), Int32.not_lt.mp c2.2⟩
    · rw [xu_n d, xu_n d]; exact hq.2.2.2.2 b (by omega)
/-- a row of bids that is made out of the places of another -/
theorem mv_MV {te ow hs ra lo hs' ra' lo' : Nat → Int32} {n m : Nat} (hq : MV te ow hs ra lo n) (hm : m ≤ 30) (h : ∀ j, j < m → ∃ c, c < n ∧ hs' j = hs c ∧ ra' j = ra c ∧ lo' j = lo c) : MV te ow hs' ra' lo' m := by
  refine ⟨hm, hq.2.1, fun b hb => ?_, hq.2.2.2.1, fun b hb => ?_⟩
  · obtain ⟨c, hc, e, -, -⟩ := h b hb
    rw [e]; exact hq.2.2.1 c hc
  · obtain ⟨c, hc, -, e1, e2⟩ := h b hb
    rw [e1, e2]; exact hq.2.2.2.2 c hc
theorem rm_eq {B A : bk_T} {n a : Nat} (he : eqB n B A) (b1 b2 : Int32) : eqB (n - 1) (bk_w3 B (shD a (n - 1) (bk_hs B)) (shD a (n - 1) (bk_ra B)) (shD a (n - 1) (bk_lo B)) b1) (bk_w3 A (shD a (n - 1) (bk_hs A)) (shD a (n - 1) (bk_ra A)) (shD a (n - 1) (bk_lo A)) b2) := ⟨he.1, he.2.1, fun _ hj => ⟨shD_ag (fun j hj => (he.2.2 j hj).1) hj, shD_ag (fun j hj => (he.2.2 j hj).2.1) hj, shD_ag (fun j hj => (he.2.2 j hj).2.2) hj⟩⟩
def mvF (n b x : Nat) (f : Nat → Int32) : Nat → Int32 := xu (shU x (n - 1) (shD b (n - 1) f)) x (f b)
theorem mv_at {n b x j : Nat} (hb : b < n) (hx : x < n) (hj : j < n) : ∃ c, c < n ∧ ∀ f : Nat → Int32, mvF n b x f j = f c := by
  by_cases d : j = x
  · subst d; exact ⟨b, hb, fun f => xu_s⟩
  · by_cases q : x < j
    · by_cases w : b ≤ j - 1
      · exact ⟨j, hj, fun f => by simp only [mvF]; rw [xu_n d]; simp only [shU, shD]; rw [if_pos (by omega), if_pos (by omega), show j - 1 + 1 = j by omega]⟩
      · exact ⟨j - 1, by omega, fun f => by simp only [mvF]; rw [xu_n d]; simp only [shU, shD]; rw [if_pos (by omega), if_neg (by omega)]⟩
    · by_cases w : b ≤ j
      · exact ⟨j + 1, by omega, fun f => by simp only [mvF]; rw [xu_n d]; simp only [shU, shD]; rw [if_neg (by omega), if_pos (by omega)]⟩
      · exact ⟨j, hj, fun f => by simp only [mvF]; rw [xu_n d]; simp only [shU, shD]; rw [if_neg (by omega), if_neg (by omega)]⟩
theorem mv_eqB {B A : bk_T} {n b x : Nat} (he : eqB n B A) (hb : b < n) (hx : x < n) (b1 b2 : Int32) : eqB n (bk_w3 B (mvF n b x (bk_hs B)) (mvF n b x (bk_ra B)) (mvF n b x (bk_lo B)) b1) (bk_w3 A (mvF n b x (bk_hs A)) (mvF n b x (bk_ra A)) (mvF n b x (bk_lo A)) b2) := by
  refine ⟨he.1, he.2.1, fun j hj => ?_⟩
  obtain ⟨c, hc, e⟩ := mv_at hb hx hj
  show mvF n b x (bk_hs B) j = mvF n b x (bk_hs A) j ∧ mvF n b x (bk_ra B) j = mvF n b x (bk_ra A) j ∧ mvF n b x (bk_lo B) j = mvF n b x (bk_lo A) j
  rw [e, e, e, e, e, e]
  exact he.2.2 c hc
def spF (n b : Nat) (y : Int32) (f : Nat → Int32) : Nat → Int32 := xu (shU (b + 1) n f) (b + 1) y
theorem sp_at {n b j : Nat} (hb : b < n) (hj : j < n + 1) (d : j ≠ b + 1) : ∃ c, c < n ∧ ∀ (f : Nat → Int32) (y : Int32), spF n b y f j = f c := by
  by_cases q : b + 1 < j
  · exact ⟨j - 1, by omega, fun f y => by simp only [spF]; rw [xu_n d]; simp only [shU]; rw [if_pos (by omega)]⟩
  · exact ⟨j, by omega, fun f y => by simp only [spF]; rw [xu_n d]; simp only [shU]; rw [if_neg (by omega)]⟩
theorem sp_cg {n b j : Nat} {f g : Nat → Int32} {y : Int32} (hb : b < n) (hj : j < n + 1) (h : ∀ c, c < n → f c = g c) : spF n b y f j = spF n b y g j := by
  by_cases d : j = b + 1
  · subst d; simp only [spF]; rw [xu_s, xu_s]
  · obtain ⟨c, hc, e⟩ := sp_at hb hj d
    rw [e, e]; exact h c hc
theorem sp_row {n b : Nat} {f : Nat → Int32} : xu (xu (shU (b + 1) n f) (b + 1) (shU (b + 1) n f b)) b (xu (shU (b + 1) n f) (b + 1) (shU (b + 1) n f b) b) = spF n b (f b) f := by
  rw [xu_id, show shU (b + 1) n f b = f b from by simp only [shU]; rw [if_neg (by omega)]]; rfl
theorem sp_eqB {B A : bk_T} {n b : Nat} {q : Int32} (he : eqB n B A) (hb : b < n) (b1 b2 : Int32) : eqB (n + 1) (bk_w3 B (spF n b (bk_hs B b) (bk_hs B)) (spF n b (bk_ra B b) (bk_ra B)) (xu (spF n b (bk_lo B b - q) (bk_lo B)) b q) b1) (bk_w3 A (spF n b (bk_hs A b) (bk_hs A)) (spF n b (bk_ra A b) (bk_ra A)) (xu (spF n b (bk_lo A b - q) (bk_lo A)) b q) b2) := by
  refine ⟨he.1, he.2.1, fun j hj => ?_⟩
  have h := he.2.2 b hb
  show spF n b (bk_hs B b) (bk_hs B) j = spF n b (bk_hs A b) (bk_hs A) j ∧ spF n b (bk_ra B b) (bk_ra B) j = spF n b (bk_ra A b) (bk_ra A) j ∧ xu (spF n b (bk_lo B b - q) (bk_lo B)) b q j = xu (spF n b (bk_lo A b - q) (bk_lo A)) b q j
  rw [h.1, h.2.1, h.2.2]
  exact ⟨sp_cg hb hj (fun c hc => (he.2.2 c hc).1), sp_cg hb hj (fun c hc => (he.2.2 c hc).2.1), xu_cg (fun _ => sp_cg hb hj (fun c hc => (he.2.2 c hc).2.2))⟩
theorem sub_le {x y : Int32} (h1 : 1 ≤ x) (h2 : x < y) (h3 : y ≤ 1000) : 1 ≤ y - x ∧ y - x ≤ 1000 := by
  have a1 : 1 ≤ x.toInt := Int32.le_iff_toInt_le.mp h1
  have a2 : x.toInt < y.toInt := Int32.lt_iff_toInt_lt.mp h2
  have a3 : y.toInt ≤ 1000 := Int32.le_iff_toInt_le.mp h3
  have e1 : (y - x).toInt = y.toInt - x.toInt := by
    rw [Int32.toInt_sub]
    exact Int.bmod_eq_of_le (by omega) (by omega)
  rw [Int32.le_iff_toInt_le, Int32.le_iff_toInt_le, e1]
  have b1 : (1 : Int32).toInt = 1 := by decide
  have b2 : (1000 : Int32).toInt = 1000 := by decide
  omega
theorem sp_MV {te ow hs ra lo : Nat → Int32} {n b : Nat} {q : Int32} (hq : MV te ow hs ra lo n) (hn : n < 30) (hb : b < n) (h1 : 1 ≤ q) (h2 : q < lo b) : MV te ow (spF n b (hs b) hs) (spF n b (ra b) ra) (xu (spF n b (lo b - q) lo) b q) (n + 1) := by
  have hv := hq.2.2.2.2 b hb
  have hs1 := sub_le h1 h2 hv.2.2
  refine ⟨by omega, hq.2.1, fun j hj => ?_, hq.2.2.2.1, fun j hj => ?_⟩
  · by_cases d : j = b + 1
    · subst d; rw [show spF n b (hs b) hs (b + 1) = hs b from xu_s]; exact hq.2.2.1 b hb
    · obtain ⟨c, hc, e⟩ := sp_at hb hj d
      rw [e]; exact hq.2.2.1 c hc
  · by_cases d : j = b + 1
    · subst d; rw [show spF n b (ra b) ra (b + 1) = ra b from xu_s, xu_n (by omega), show spF n b (lo b - q) lo (b + 1) = lo b - q from xu_s]
      exact ⟨hv.1, hs1⟩
    · obtain ⟨c, hc, e⟩ := sp_at hb hj d
      have hc9 := hq.2.2.2.2 c hc
      rw [e]
      by_cases w : j = b
      · subst w; rw [xu_s]
        exact ⟨hc9.1, h1, Int32.le_trans (Int32.le_of_lt h2) hv.2.2⟩
      · rw [xu_n w, e]; exact hc9

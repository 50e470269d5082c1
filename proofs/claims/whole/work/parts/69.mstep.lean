/-- the least rate above one at which something is admitted -/
def rA (ra ad : Nat → Int32) (x : Int32) : Nat → Int32
  | 0 => -1
  | k + 1 => if ad k ≤ 0 then rA ra ad x k else if ra k ≤ x then rA ra ad x k else if rA ra ad x k = -1 then ra k else if rA ra ad x k ≤ ra k then rA ra ad x k else ra k
theorem rA_is {ra ad : Nat → Int32} {x : Int32} (hx : -1 ≤ x) : ∀ n, (rA ra ad x n = -1 ∧ ∀ j, j < n → 0 < ad j → ra j ≤ x) ∨ (x < rA ra ad x n ∧ (∃ j, j < n ∧ 0 < ad j ∧ ra j = rA ra ad x n) ∧ ∀ j, j < n → 0 < ad j → x < ra j → rA ra ad x n ≤ ra j)
  | 0 => Or.inl ⟨rfl, fun j h => by omega⟩
  | n + 1 => by
    have ih := rA_is (ra := ra) (ad := ad) hx n
    simp only [rA]
    by_cases c : ad n ≤ 0
    · rw [if_pos c]
      have hc : ¬ 0 < ad n := Int32.not_lt.mpr c
      rcases ih with ⟨a, b⟩ | ⟨a, ⟨i, h1, h2, h3⟩, b⟩
      · refine Or.inl ⟨a, fun j hj h0 => ?_⟩
        by_cases e : j = n
        · subst e; exact absurd h0 hc
        · exact b j (by omega) h0
      · refine Or.inr ⟨a, ⟨i, by omega, h2, h3⟩, fun j hj h0 hl => ?_⟩
        by_cases e : j = n
        · subst e; exact absurd h0 hc
        · exact b j (by omega) h0 hl
    · rw [if_neg c]
      have c0 : 0 < ad n := Int32.not_le.mp c
      by_cases d : ra n ≤ x
      · rw [if_pos d]
        rcases ih with ⟨a, b⟩ | ⟨a, ⟨i, h1, h2, h3⟩, b⟩
        · refine Or.inl ⟨a, fun j hj h0 => ?_⟩
          by_cases e : j = n
          · subst e; exact d
          · exact b j (by omega) h0
        · refine Or.inr ⟨a, ⟨i, by omega, h2, h3⟩, fun j hj h0 hl => ?_⟩
          by_cases e : j = n
          · subst e; exact absurd hl (Int32.not_lt.mpr d)
          · exact b j (by omega) h0 hl
      · rw [if_neg d]
        have d0 : x < ra n := Int32.not_le.mp d
        rcases ih with ⟨a, b⟩ | ⟨a, ⟨i, h1, h2, h3⟩, b⟩
        · rw [if_pos a]
          refine Or.inr ⟨d0, ⟨n, by omega, c0, rfl⟩, fun j hj h0 hl => ?_⟩
          by_cases e : j = n
          · subst e; exact Int32.le_rfl
          · exact absurd hl (Int32.not_lt.mpr (b j (by omega) h0))
        · rw [if_neg (fun q => by rw [q] at a; exact absurd (Int32.lt_of_le_of_lt hx a) (by decide))]
          by_cases g : rA ra ad x n ≤ ra n
          · rw [if_pos g]
            refine Or.inr ⟨a, ⟨i, by omega, h2, h3⟩, fun j hj h0 hl => ?_⟩
            by_cases e : j = n
            · subst e; exact g
            · exact b j (by omega) h0 hl
          · rw [if_neg g]
            refine Or.inr ⟨d0, ⟨n, by omega, c0, rfl⟩, fun j hj h0 hl => ?_⟩
            by_cases e : j = n
            · subst e; exact Int32.le_rfl
            · exact Int32.le_trans (Int32.le_of_lt (Int32.not_le.mp g)) (b j (by omega) h0 hl)
def rN (ra ad : Nat → Int32) (n : Nat) : Nat → Int32
  | 0 => rA ra ad (-1) n
  | k + 1 => if rN ra ad n k = -1 then -1 else rA ra ad (rN ra ad n k) n
theorem rN_end {ra ad : Nat → Int32} {n i : Nat} (h : rN ra ad n i = -1) : ∀ m, rN ra ad n (i + m) = -1
  | 0 => h
  | m + 1 => by
    rw [show i + (m + 1) = (i + m) + 1 by omega]
    simp only [rN]
    rw [rN_end h m, if_pos rfl]
/-- the k-th step of the order is the k-th rate from below -/
theorem rs_rN {ra ad : Nat → Int32} {p : Nat → Nat} {n : Nat} (hn : n ≤ 30) (ip : inj n p) (hs : srt ra n p) (h0 : ∀ j, j < n → 0 ≤ ad j) (hr : ∀ j, j < n → -1 ≤ ra j) : ∀ i, i ≤ n → ∃ m, (rsK ra ad p i).1 = nI m ∧ m ≤ i ∧ -1 ≤ (rsK ra ad p i).2 ∧ (rsK ra ad p i).2 = (match m with
      | 0 => -1
      | q + 1 => rN ra ad n q) ∧ (0 < m → ¬ (rsK ra ad p i).2 = -1) ∧ (∀ i', i' < i → 0 < ad (p i') → ra (p i') ≤ (rsK ra ad p i).2) ∧ ((rsK ra ad p i).2 = -1 ∨ ∃ i', i' < i ∧ ra (p i') = (rsK ra ad p i).2) ∧
      ∀ k, k < 2 ^ 31 → (k < m → fnd (rsP ra ad p (nI k)) i < i ∧ ra (p (fnd (rsP ra ad p (nI k)) i)) = rN ra ad n k) ∧ (m ≤ k → fnd (rsP ra ad p (nI k)) i = i) := by
  intro i
  induction i with
  | zero => intro _; exact ⟨0, rfl, Nat.le_refl 0, Int32.le_rfl, rfl, fun h => by omega, fun i' h => by omega, Or.inl rfl, fun k _ => ⟨fun h => by omega, fun _ => rfl⟩⟩
  | succ i ih =>
    intro hi
    obtain ⟨m, a1, a2, a3, a4, a5, a6, a7, a8⟩ := ih (by omega)
    have hlt := ip.1 i (by omega)
    by_cases c : ra (p i) = -1 ∨ ra (p i) = (rsK ra ad p i).2 ∨ ad (p i) = 0
    · have e1 : rsK ra ad p (i + 1) = rsK ra ad p i := by
        simp only [rsK]
        rcases c with c | c | c
        · rw [if_pos c]
        · rw [if_pos c, ite_self]
        · rw [if_pos c, ite_self, ite_self]
      have e2 : ∀ k, rsP ra ad p k i = false := fun k => by
        simp only [rsP]
        rcases c with c | c | c
        · simp [c]
        · rw [decide_eq_true c]; simp
        · simp [c]
      rw [e1]
      refine ⟨m, a1, by omega, a3, a4, a5, fun i' h1 h2 => ?_, ?_, fun k hk => ⟨fun h => ?_, fun h => ?_⟩⟩
      · by_cases e : i' = i
        · subst e
          rcases c with c | c | c
          · rw [c]; exact a3
          · rw [c]; exact Int32.le_rfl
          · rw [c] at h2; exact absurd h2 (by decide)
        · exact a6 i' (by omega) h2
      · rcases a7 with a7 | ⟨i', h1, h2⟩
        · exact Or.inl a7
        · exact Or.inr ⟨i', by omega, h2⟩
      · obtain ⟨b1, b2⟩ := (a8 k hk).1 h
        have : fnd (rsP ra ad p (nI k)) (i + 1) = fnd (rsP ra ad p (nI k)) i := by simp only [fnd]; rw [if_pos b1]
        rw [this]
        exact ⟨by omega, b2⟩
      · exact fnd_no ((a8 k hk).2 h) (e2 _)
    · have c1 : ¬ ra (p i) = -1 := fun q => c (Or.inl q)
      have c2 : ¬ ra (p i) = (rsK ra ad p i).2 := fun q => c (Or.inr (Or.inl q))
      have c3 : ¬ ad (p i) = 0 := fun q => c (Or.inr (Or.inr q))
      have e1 : rsK ra ad p (i + 1) = ((rsK ra ad p i).1 + 1, ra (p i)) := by
        simp only [rsK]
        rw [if_neg c1, if_neg c2, if_neg c3]
      have ad0 : 0 < ad (p i) := Int32.lt_of_le_of_ne (h0 _ hlt) (fun q => c3 q.symm)
      have gt : (rsK ra ad p i).2 < ra (p i) := by
        rcases a7 with a7 | ⟨i', h1, h2⟩
        · rw [a7]; exact Int32.lt_of_le_of_ne (hr _ hlt) (fun q => c1 q.symm)
        · refine Int32.lt_of_le_of_ne ?_ (fun q => c2 q.symm)
          rw [← h2]; exact srt_le hs (by omega) (by omega)
      have least : ra (p i) = rA ra ad (rsK ra ad p i).2 n := by
        rcases rA_is (ra := ra) (ad := ad) a3 n with ⟨-, b⟩ | ⟨b1, ⟨j, g1, g2, g3⟩, b⟩
        · exact absurd gt (Int32.not_lt.mpr (b _ hlt ad0))
        · refine Int32.le_antisymm ?_ (b _ hlt ad0 gt)
          rw [← g3]
          obtain ⟨q, hq, eq⟩ := inj_surj n p ip j g1
          rw [← eq] at g2 g3 ⊢
          rcases Nat.lt_or_ge q i with z | z
          · have := a6 q z g2
            rw [g3] at this
            exact absurd b1 (Int32.not_lt.mpr this)
          · exact srt_le hs z hq
      have em : ra (p i) = rN ra ad n m := by
        rw [least]
        cases m with
        | zero => simp only [] at a4; rw [a4]; rfl
        | succ q =>
          simp only [] at a4
          have := a5 (by omega)
          rw [a4] at this ⊢
          simp only [rN]
          rw [if_neg this]
      rw [e1]
      refine ⟨m + 1, ?_, by omega, Int32.le_trans a3 (Int32.le_of_lt gt), em, fun _ => c1, fun i' h1 h2 => ?_, Or.inr ⟨i, by omega, rfl⟩, fun k hk => ⟨fun h => ?_, fun h => ?_⟩⟩
      · show (rsK ra ad p i).1 + 1 = nI (m + 1)
        rw [a1, nI_1]
      · exact srt_le hs (by omega) (by omega)
      · by_cases e : k = m
        · subst e
          have f1 := (a8 k hk).2 (Nat.le_refl k)
          have f2 : rsP ra ad p (nI k) i = true := by
            simp only [rsP]
            rw [decide_eq_false c1, decide_eq_false c2, decide_eq_false c3, decide_eq_true a1]; rfl
          have f3 : fnd (rsP ra ad p (nI k)) (i + 1) = i := fnd_at f1 f2 (i + 1) (by omega)
          rw [f3]
          exact ⟨by omega, em⟩
        · obtain ⟨b1, b2⟩ := (a8 k hk).1 (by omega)
          have : fnd (rsP ra ad p (nI k)) (i + 1) = fnd (rsP ra ad p (nI k)) i := by simp only [fnd]; rw [if_pos b1]
          rw [this]
          exact ⟨by omega, b2⟩
      · refine fnd_no ((a8 k hk).2 (by omega)) ?_
        simp only [rsP]
        rw [a1, decide_eq_false (fun q : nI m = nI k => by have := (nI_eq (a := m) (b := k) (by omega) hk).mp q; omega)]
        simp
theorem rsV_rN {ra ad : Nat → Int32} {p : Nat → Nat} {n k : Nat} (hn : n ≤ 30) (ip : inj n p) (hs : srt ra n p) (h0 : ∀ j, j < n → 0 ≤ ad j) (hr : ∀ j, j < n → -1 ≤ ra j) (hk : k < 2 ^ 31) : rsV ra ad p (nI k) n = rN ra ad n k := by
  obtain ⟨m, a1, a2, a3, a4, a5, a6, a7, a8⟩ := rs_rN hn ip hs h0 hr n (Nat.le_refl n)
  simp only [rsV]
  rcases Nat.lt_or_ge k m with c | c
  · obtain ⟨b1, b2⟩ := (a8 k hk).1 c
    rw [if_pos b1, b2]
  · rw [if_neg (by rw [(a8 k hk).2 c]; omega)]
    have e : rA ra ad (rsK ra ad p n).2 n = -1 := by
      rcases rA_is (ra := ra) (ad := ad) a3 n with ⟨b, -⟩ | ⟨b1, ⟨j, g1, g2, g3⟩, -⟩
      · exact b
      · obtain ⟨q, hq, eq⟩ := inj_surj n p ip j g1
        rw [← eq] at g2 g3
        have := a6 q hq g2
        rw [g3] at this
        exact absurd b1 (Int32.not_lt.mpr this)
    have e2 : rN ra ad n m = -1 := by
      cases m with
      | zero => simp only [] at a4; rw [a4] at e; exact e
      | succ q =>
        simp only [] at a4
        simp only [rN]
        rw [a4] at e
        rw [e, ite_self]
    rw [show k = m + (k - m) by omega, rN_end e2]
theorem rsV_neg {ra ad : Nat → Int32} {p : Nat → Nat} {n : Nat} {k : Int32} (hn : n ≤ 30) (ip : inj n p) (hs : srt ra n p) (h0 : ∀ j, j < n → 0 ≤ ad j) (hr : ∀ j, j < n → -1 ≤ ra j) (hk : k < 0) : rsV ra ad p k n = -1 := by
  have : fnd (rsP ra ad p k) n = n := by
    rcases Nat.lt_or_ge (fnd (rsP ra ad p k) n) n with c | c
    · have h := fnd_spec c
      obtain ⟨m, a1, a2, -⟩ := rs_rN hn ip hs h0 hr (fnd (rsP ra ad p k) n) (by omega)
      simp only [rsP, Bool.and_eq_true, decide_eq_true_eq] at h
      have h := h.2
      rw [a1] at h
      rw [← h] at hk
      exact absurd hk (nI_pos (by omega))
    · have := fnd_le (rsP ra ad p k) n; omega
  simp only [rsV]
  rw [if_neg (by omega)]
set_option maxHeartbeats 1000000 in
set_option maxRecDepth 10000 in
theorem l_X8_rateAbove_4 {v : xw_V} {κ : xk_K} {post : Option Value → xw_G → Prop} {z : Nat × Nat × Nat} {G : xw_G} {M : md_T} {te ho ow hs ra lo st av so : Nat → Int32} {ln : Int32} {n : Nat} (hk : xk_Ok v κ yX8_rateAbove cX8_rateAbove 4 (some .int) 1 21) (hz : xk_zf κ = z) (hM : G 21 = pM v (md_th M) (nR te ho ow hs ra lo (nI n) st av so ln) (md_pt M) (md_re M) (md_sd M) (md_be M) (md_pb M) (md_ac M) (md_od M) (md_ad M) (md_wy M) (md_so M) (md_rl M) (md_io M) (md_po M) (md_sp M) (md_rs M) (md_st M) (md_av M) (md_ip M) (md_tx M) (md_tm M) (md_ta M) (md_td M) (md_wo M) (md_sq M) (md_tk M) (md_bg M) (md_nu M) (md_wr M)) (hn30 : n ≤ 30) (x : Int32) (kx : xj v κ post z G 56 [some (.ref (xw_ad v 21 0)), some (.int x), some (.int (rA ra (md_ad M) x n)), some (.int (nI n))] []) : ∀ (m : Nat) (k : Nat), n - k < m → k ≤ n → xj v κ post z G 4 [some (.ref (xw_ad v 21 0)), some (.int x), some (.int (rA ra (md_ad M) x k)), some (.int (nI k))] [] := by
  intro m
  induction m with
  | zero => intro k h; exact absurd h (Nat.not_lt_zero _)
  | succ m ih =>
    intro k hm hi
    refine xj_iload_n (i := 3) hk dX8_rateAbove_4 rfl rfl ?_
    refine xj_aload_n (i := 0) hk dX8_rateAbove_5 rfl rfl ?_
    refine xj_callV hk hz (fr1 := 0) (lo1 := 0) (r1 := some (.int (nI n))) (As := []) (st := [.int (nI k)]) (st2 := [.int (nI n), .int (nI k)]) (G1 := G) ml_X8_73 (c_X8_many (M := M) (show G 21 = pM v (md_th M) (nR te ho ow hs ra lo (nI n) st av so ln) (md_pt M) (md_re M) (md_sd M) (md_be M) (md_pb M) (md_ac M) (md_od M) (md_ad M) (md_wy M) (md_so M) (md_rl M) (md_io M) (md_po M) (md_sp M) (md_rs M) (md_st M) (md_av M) (md_ip M) (md_tx M) (md_tm M) (md_ta M) (md_td M) (md_wo M) (md_sq M) (md_tk M) (md_bg M) (md_nu M) (md_wr M) from hM)) (xw_at hM rfl) rfl dX8_rateAbove_6 ⟨Nat.le_of_ble_eq_true rfl, Nat.le_of_ble_eq_true rfl⟩ rfl (Nat.le_of_ble_eq_true rfl) rfl rfl ?_
    refine xj_icmp_ge (tgt := 56) hk dX8_rateAbove_9 (by decide) (fun c9 => ?_) (fun c9 => ?_)
    · have c9 : n ≤ k := (nI_leI (a := n) (b := k) (by omega) (by omega)).mp c9
      have e9 : k = n := by omega
      subst e9
      exact kx
    · have c9 : ¬ n ≤ k := fun q => c9 ((nI_leI (a := n) (b := k) (by omega) (by omega)).mpr q)
      refine xj_aload_n (i := 0) hk dX8_rateAbove_12 rfl rfl ?_
      refine xj_getfield hk dX8_rateAbove_13 fl_X8_36 (xw_at hM rfl) rfl ?_
      refine xj_iload_n (i := 3) hk dX8_rateAbove_16 rfl rfl ?_
      refine xj_iaload (k := k) hk dX8_rateAbove_17 (xw_at hM rfl) (xi_n (by omega) (by decide)) ?_
      refine xj_if_le (tgt := 50) hk dX8_rateAbove_18 (by decide) (fun c18 => ?_) (fun c18 => ?_)
      · refine xj_iinc (i := 3) (x2 := nI (k + 1)) (ls2 := [some (.ref (xw_ad v 21 0)), some (.int x), some (.int (rA ra (md_ad M) x k)), some (.int (nI (k + 1)))]) hk dX8_rateAbove_50 rfl (nI_1 k) (by decide) rfl rfl ?_
        refine xj_goto (tgt := 4) hk dX8_rateAbove_53 (by decide) ?_
        refine xj.to (ls' := [some (.ref (xw_ad v 21 0)), some (.int x), some (.int (rA ra (md_ad M) x ((k + 1)))), some (.int (nI ((k + 1))))]) (by simp only [rA]; first | (rw [if_pos c18]) | (rw [if_neg c18, if_pos c27]) | (rw [if_neg c18, if_neg c27, if_pos c32]) | (rw [if_neg c18, if_neg c27, if_neg c32, if_pos c41]) | (rw [if_neg c18, if_neg c27, if_neg c32, if_neg c41])) (ih (k + 1) (by omega) (by omega))
      · refine xj_aload_n (i := 0) hk dX8_rateAbove_21 rfl rfl ?_
        refine xj_iload_n (i := 3) hk dX8_rateAbove_22 rfl rfl ?_
        refine xj_callV hk hz (fr1 := 0) (lo1 := 0) (r1 := some (.int (ra k))) (As := [.int (nI k)]) (st := []) (st2 := [.int (ra k)]) (G1 := G) ml_X8_77 (c_X8_rateOf (b := k) (M := M) (show G 21 = pM v (md_th M) (nR te ho ow hs ra lo (nI n) st av so ln) (md_pt M) (md_re M) (md_sd M) (md_be M) (md_pb M) (md_ac M) (md_od M) (md_ad M) (md_wy M) (md_so M) (md_rl M) (md_io M) (md_po M) (md_sp M) (md_rs M) (md_st M) (md_av M) (md_ip M) (md_tx M) (md_tm M) (md_ta M) (md_td M) (md_wo M) (md_sq M) (md_tk M) (md_bg M) (md_nu M) (md_wr M) from hM) (by omega)) (xw_at hM rfl) rfl dX8_rateAbove_23 ⟨Nat.le_of_ble_eq_true rfl, Nat.le_of_ble_eq_true rfl⟩ rfl (Nat.le_of_ble_eq_true rfl) rfl rfl ?_
        refine xj_iload_n (i := 1) hk dX8_rateAbove_26 rfl rfl ?_
        refine xj_icmp_le (tgt := 50) hk dX8_rateAbove_27 (by decide) (fun c27 => ?_) (fun c27 => ?_)
        · refine xj_iinc (i := 3) (x2 := nI (k + 1)) (ls2 := [some (.ref (xw_ad v 21 0)), some (.int x), some (.int (rA ra (md_ad M) x k)), some (.int (nI (k + 1)))]) hk dX8_rateAbove_50 rfl (nI_1 k) (by decide) rfl rfl ?_
          refine xj_goto (tgt := 4) hk dX8_rateAbove_53 (by decide) ?_
          refine xj.to (ls' := [some (.ref (xw_ad v 21 0)), some (.int x), some (.int (rA ra (md_ad M) x ((k + 1)))), some (.int (nI ((k + 1))))]) (by simp only [rA]; first | (rw [if_pos c18]) | (rw [if_neg c18, if_pos c27]) | (rw [if_neg c18, if_neg c27, if_pos c32]) | (rw [if_neg c18, if_neg c27, if_neg c32, if_pos c41]) | (rw [if_neg c18, if_neg c27, if_neg c32, if_neg c41])) (ih (k + 1) (by omega) (by omega))
        · refine xj_iload_n (i := 2) hk dX8_rateAbove_30 rfl rfl ?_
          refine xj_iconst (x := (-1)) hk dX8_rateAbove_31 (by decide) ?_
          refine xj_icmp_eq (tgt := 44) hk dX8_rateAbove_32 (by decide) (fun c32 => ?_) (fun c32 => ?_)
          · refine xj_aload_n (i := 0) hk dX8_rateAbove_44 rfl rfl ?_
            refine xj_iload_n (i := 3) hk dX8_rateAbove_45 rfl rfl ?_
            refine xj_callV hk hz (fr1 := 0) (lo1 := 0) (r1 := some (.int (ra k))) (As := [.int (nI k)]) (st := []) (st2 := [.int (ra k)]) (G1 := G) ml_X8_77 (c_X8_rateOf (b := k) (M := M) (show G 21 = pM v (md_th M) (nR te ho ow hs ra lo (nI n) st av so ln) (md_pt M) (md_re M) (md_sd M) (md_be M) (md_pb M) (md_ac M) (md_od M) (md_ad M) (md_wy M) (md_so M) (md_rl M) (md_io M) (md_po M) (md_sp M) (md_rs M) (md_st M) (md_av M) (md_ip M) (md_tx M) (md_tm M) (md_ta M) (md_td M) (md_wo M) (md_sq M) (md_tk M) (md_bg M) (md_nu M) (md_wr M) from hM) (by omega)) (xw_at hM rfl) rfl dX8_rateAbove_46 ⟨Nat.le_of_ble_eq_true rfl, Nat.le_of_ble_eq_true rfl⟩ rfl (Nat.le_of_ble_eq_true rfl) rfl rfl ?_
            refine xj_istore_n (i := 2) (ls2 := [some (.ref (xw_ad v 21 0)), some (.int x), some (.int (ra k)), some (.int (nI k))]) hk dX8_rateAbove_49 rfl (by decide) rfl rfl ?_
            refine xj_iinc (i := 3) (x2 := nI (k + 1)) (ls2 := [some (.ref (xw_ad v 21 0)), some (.int x), some (.int (ra k)), some (.int (nI (k + 1)))]) hk dX8_rateAbove_50 rfl (nI_1 k) (by decide) rfl rfl ?_
            refine xj_goto (tgt := 4) hk dX8_rateAbove_53 (by decide) ?_
            refine xj.to (ls' := [some (.ref (xw_ad v 21 0)), some (.int x), some (.int (rA ra (md_ad M) x ((k + 1)))), some (.int (nI ((k + 1))))]) (by simp only [rA]; first | (rw [if_pos c18]) | (rw [if_neg c18, if_pos c27]) | (rw [if_neg c18, if_neg c27, if_pos c32]) | (rw [if_neg c18, if_neg c27, if_neg c32, if_pos c41]) | (rw [if_neg c18, if_neg c27, if_neg c32, if_neg c41])) (ih (k + 1) (by omega) (by omega))
          · refine xj_aload_n (i := 0) hk dX8_rateAbove_35 rfl rfl ?_
            refine xj_iload_n (i := 3) hk dX8_rateAbove_36 rfl rfl ?_
            refine xj_callV hk hz (fr1 := 0) (lo1 := 0) (r1 := some (.int (ra k))) (As := [.int (nI k)]) (st := []) (st2 := [.int (ra k)]) (G1 := G) ml_X8_77 (c_X8_rateOf (b := k) (M := M) (show G 21 = pM v (md_th M) (nR te ho ow hs ra lo (nI n) st av so ln) (md_pt M) (md_re M) (md_sd M) (md_be M) (md_pb M) (md_ac M) (md_od M) (md_ad M) (md_wy M) (md_so M) (md_rl M) (md_io M) (md_po M) (md_sp M) (md_rs M) (md_st M) (md_av M) (md_ip M) (md_tx M) (md_tm M) (md_ta M) (md_td M) (md_wo M) (md_sq M) (md_tk M) (md_bg M) (md_nu M) (md_wr M) from hM) (by omega)) (xw_at hM rfl) rfl dX8_rateAbove_37 ⟨Nat.le_of_ble_eq_true rfl, Nat.le_of_ble_eq_true rfl⟩ rfl (Nat.le_of_ble_eq_true rfl) rfl rfl ?_
            refine xj_iload_n (i := 2) hk dX8_rateAbove_40 rfl rfl ?_
            refine xj_icmp_ge (tgt := 50) hk dX8_rateAbove_41 (by decide) (fun c41 => ?_) (fun c41 => ?_)
            · refine xj_iinc (i := 3) (x2 := nI (k + 1)) (ls2 := [some (.ref (xw_ad v 21 0)), some (.int x), some (.int (rA ra (md_ad M) x k)), some (.int (nI (k + 1)))]) hk dX8_rateAbove_50 rfl (nI_1 k) (by decide) rfl rfl ?_
              refine xj_goto (tgt := 4) hk dX8_rateAbove_53 (by decide) ?_
              refine xj.to (ls' := [some (.ref (xw_ad v 21 0)), some (.int x), some (.int (rA ra (md_ad M) x ((k + 1)))), some (.int (nI ((k + 1))))]) (by simp only [rA]; first | (rw [if_pos c18]) | (rw [if_neg c18, if_pos c27]) | (rw [if_neg c18, if_neg c27, if_pos c32]) | (rw [if_neg c18, if_neg c27, if_neg c32, if_pos c41]) | (rw [if_neg c18, if_neg c27, if_neg c32, if_neg c41])) (ih (k + 1) (by omega) (by omega))
            · refine xj_aload_n (i := 0) hk dX8_rateAbove_44 rfl rfl ?_
              refine xj_iload_n (i := 3) hk dX8_rateAbove_45 rfl rfl ?_
              refine xj_callV hk hz (fr1 := 0) (lo1 := 0) (r1 := some (.int (ra k))) (As := [.int (nI k)]) (st := []) (st2 := [.int (ra k)]) (G1 := G) ml_X8_77 (c_X8_rateOf (b := k) (M := M) (show G 21 = pM v (md_th M) (nR te ho ow hs ra lo (nI n) st av so ln) (md_pt M) (md_re M) (md_sd M) (md_be M) (md_pb M) (md_ac M) (md_od M) (md_ad M) (md_wy M) (md_so M) (md_rl M) (md_io M) (md_po M) (md_sp M) (md_rs M) (md_st M) (md_av M) (md_ip M) (md_tx M) (md_tm M) (md_ta M) (md_td M) (md_wo M) (md_sq M) (md_tk M) (md_bg M) (md_nu M) (md_wr M) from hM) (by omega)) (xw_at hM rfl) rfl dX8_rateAbove_46 ⟨Nat.le_of_ble_eq_true rfl, Nat.le_of_ble_eq_true rfl⟩ rfl (Nat.le_of_ble_eq_true rfl) rfl rfl ?_
              refine xj_istore_n (i := 2) (ls2 := [some (.ref (xw_ad v 21 0)), some (.int x), some (.int (ra k)), some (.int (nI k))]) hk dX8_rateAbove_49 rfl (by decide) rfl rfl ?_
              refine xj_iinc (i := 3) (x2 := nI (k + 1)) (ls2 := [some (.ref (xw_ad v 21 0)), some (.int x), some (.int (ra k)), some (.int (nI (k + 1)))]) hk dX8_rateAbove_50 rfl (nI_1 k) (by decide) rfl rfl ?_
              refine xj_goto (tgt := 4) hk dX8_rateAbove_53 (by decide) ?_
              refine xj.to (ls' := [some (.ref (xw_ad v 21 0)), some (.int x), some (.int (rA ra (md_ad M) x ((k + 1)))), some (.int (nI ((k + 1))))]) (by simp only [rA]; first | (rw [if_pos c18]) | (rw [if_neg c18, if_pos c27]) | (rw [if_neg c18, if_neg c27, if_pos c32]) | (rw [if_neg c18, if_neg c27, if_neg c32, if_pos c41]) | (rw [if_neg c18, if_neg c27, if_neg c32, if_neg c41])) (ih (k + 1) (by omega) (by omega))

set_option maxHeartbeats 1000000 in
set_option maxRecDepth 10000 in
theorem c_X8_rateAbove {v : xw_V} {G : xw_G} {M : md_T} {te ho ow hs ra lo st av so : Nat → Int32} {ln : Int32} {n : Nat} (hM : G 21 = pM v (md_th M) (nR te ho ow hs ra lo (nI n) st av so ln) (md_pt M) (md_re M) (md_sd M) (md_be M) (md_pb M) (md_ac M) (md_od M) (md_ad M) (md_wy M) (md_so M) (md_rl M) (md_io M) (md_po M) (md_sp M) (md_rs M) (md_st M) (md_av M) (md_ip M) (md_tx M) (md_tm M) (md_ta M) (md_td M) (md_wo M) (md_sq M) (md_tk M) (md_bg M) (md_nu M) (md_wr M)) (hn30 : n ≤ 30) (x : Int32) : xk_Con v yX8_rateAbove cX8_rateAbove 4 (some .int) 1 21 [.ref (xw_ad v 21 0), .int x] G (xk_ret (some (.int (rA ra (md_ad M) x n))) G) := by
  refine xk_of (ls0 := [some (.ref (xw_ad v 21 0)), some (.int x), none, none]) (by decide) rfl (Nat.le_of_ble_eq_true rfl) ?_
  intro κ z hk hz
  refine xj_iconst (x := (-1)) hk dX8_rateAbove_0 (by decide) ?_
  refine xj_istore_n (i := 2) (ls2 := [some (.ref (xw_ad v 21 0)), some (.int x), some (.int ((-1))), none]) hk dX8_rateAbove_1 rfl (by decide) rfl rfl ?_
  refine xj_iconst (x := 0) hk dX8_rateAbove_2 (by decide) ?_
  refine xj_istore_n (i := 3) (ls2 := [some (.ref (xw_ad v 21 0)), some (.int x), some (.int ((-1))), some (.int 0)]) hk dX8_rateAbove_3 rfl (by decide) rfl rfl ?_
  refine l_X8_rateAbove_4 hk hz hM hn30 x ?_ (n + 1) 0 (by omega) (by omega)
  refine xj_iload_n (i := 2) hk dX8_rateAbove_56 rfl rfl ?_
  refine xj_ireturn hk hz dX8_rateAbove_57 ?_
  exact ⟨rfl, rfl⟩

set_option maxHeartbeats 1000000 in
set_option maxRecDepth 10000 in
theorem l_X8_step_28 {v : xw_V} {κ : xk_K} {post : Option Value → xw_G → Prop} {z : Nat × Nat × Nat} {G : xw_G} {M : md_T} {te ho ow hs ra lo st av so : Nat → Int32} {ln : Int32} {n kq : Nat} (hk : xk_Ok v κ yX8_step cX8_step 8 (some .int) 4 89) (hz : xk_zf κ = z) (hM : G 21 = pM v (md_th M) (nR te ho ow hs ra lo (nI n) st av so ln) (md_pt M) (md_re M) (md_sd M) (md_be M) (md_pb M) (md_ac M) (md_od M) (md_ad M) (md_wy M) (md_so M) (md_rl M) (md_io M) (md_po M) (md_sp M) (md_rs M) (md_st M) (md_av M) (md_ip M) (md_tx M) (md_tm M) (md_ta M) (md_td M) (md_wo M) (md_sq M) (md_tk M) (md_bg M) (md_nu M) (md_wr M)) (hn30 : n ≤ 30) (hq31 : kq < 2 ^ 31) (w : Int32) (kx : xj v κ post z G 51 [some (.ref (xw_ad v 21 0)), some (.int (nI kq)), some (.int w), some (.int (rN ra (md_ad M) n kq)), none, none, none, none] []) : ∀ (m : Nat) (k : Nat), kq - k < m → k ≤ kq → xj v κ post z G 28 [some (.ref (xw_ad v 21 0)), some (.int (nI kq)), some (.int w), some (.int (rN ra (md_ad M) n k)), some (.int (nI k)), none, none, none] [] := by
  intro m
  induction m with
  | zero => intro k h; exact absurd h (Nat.not_lt_zero _)
  | succ m ih =>
    intro k hm hi
    refine xj_iload hk dX8_step_28 rfl ?_
    refine xj_iload_n (i := 1) hk dX8_step_30 rfl rfl ?_
    refine xj_icmp_ge (tgt := 51) hk dX8_step_31 (by decide) (fun c31 => ?_) (fun c31 => ?_)
    · have c31 : kq ≤ k := (nI_leI (a := kq) (b := k) (by omega) (by omega)).mp c31
      refine xj.le (ls' := [some (.ref (xw_ad v 21 0)), some (.int (nI kq)), some (.int w), some (.int (rN ra (md_ad M) n k)), none, none, none, none]) (by simp [xl_le] <;> rfl) ?_
      have e9 : k = kq := by omega
      subst e9
      exact kx
    · have c31 : ¬ kq ≤ k := fun q => c31 ((nI_leI (a := kq) (b := k) (by omega) (by omega)).mpr q)
      refine xj_iload_n (i := 3) hk dX8_step_34 rfl rfl ?_
      refine xj_iconst (x := (-1)) hk dX8_step_35 (by decide) ?_
      refine xj_icmp_eq (tgt := 51) hk dX8_step_36 (by decide) (fun c36 => ?_) (fun c36 => ?_)
      · refine xj.le (ls' := [some (.ref (xw_ad v 21 0)), some (.int (nI kq)), some (.int w), some (.int (rN ra (md_ad M) n k)), none, none, none, none]) (by simp [xl_le] <;> rfl) ?_
        refine xj.to (ls' := [some (.ref (xw_ad v 21 0)), some (.int (nI kq)), some (.int w), some (.int (rN ra (md_ad M) n kq)), none, none, none, none]) (by rw [show rN ra (md_ad M) n kq = -1 from by rw [show kq = k + (kq - k) by omega, rN_end c36], c36]) kx
      · refine xj_aload_n (i := 0) hk dX8_step_39 rfl rfl ?_
        refine xj_iload_n (i := 3) hk dX8_step_40 rfl rfl ?_
        refine xj_callV hk hz (fr1 := 1) (lo1 := 21) (r1 := some (.int (rA ra (md_ad M) (rN ra (md_ad M) n k) n))) (As := [.int (rN ra (md_ad M) n k)]) (st := []) (st2 := [.int (rA ra (md_ad M) (rN ra (md_ad M) n k) n)]) (G1 := G) ml_X8_209 (c_X8_rateAbove (n := n) (M := M) (show G 21 = pM v (md_th M) (nR te ho ow hs ra lo (nI n) st av so ln) (md_pt M) (md_re M) (md_sd M) (md_be M) (md_pb M) (md_ac M) (md_od M) (md_ad M) (md_wy M) (md_so M) (md_rl M) (md_io M) (md_po M) (md_sp M) (md_rs M) (md_st M) (md_av M) (md_ip M) (md_tx M) (md_tm M) (md_ta M) (md_td M) (md_wo M) (md_sq M) (md_tk M) (md_bg M) (md_nu M) (md_wr M) from hM) hn30 (rN ra (md_ad M) n k)) (xw_at hM rfl) rfl dX8_step_41 ⟨Nat.le_of_ble_eq_true rfl, Nat.le_of_ble_eq_true rfl⟩ rfl (Nat.le_of_ble_eq_true rfl) rfl rfl ?_
        refine xj_istore_n (i := 3) (ls2 := [some (.ref (xw_ad v 21 0)), some (.int (nI kq)), some (.int w), some (.int (rA ra (md_ad M) (rN ra (md_ad M) n k) n)), some (.int (nI k)), none, none, none]) hk dX8_step_44 rfl (by decide) rfl rfl ?_
        refine xj_iinc (i := 4) (x2 := nI (k + 1)) (ls2 := [some (.ref (xw_ad v 21 0)), some (.int (nI kq)), some (.int w), some (.int (rA ra (md_ad M) (rN ra (md_ad M) n k) n)), some (.int (nI (k + 1))), none, none, none]) hk dX8_step_45 rfl (nI_1 k) (by decide) rfl rfl ?_
        refine xj_goto (tgt := 28) hk dX8_step_48 (by decide) ?_
        refine xj.to (ls' := [some (.ref (xw_ad v 21 0)), some (.int (nI kq)), some (.int w), some (.int (rN ra (md_ad M) n (k + 1))), some (.int (nI (k + 1))), none, none, none]) (by simp only [rN]; rw [if_neg c36]) (ih (k + 1) (by omega) (by omega))

set_option maxHeartbeats 1000000 in
set_option maxRecDepth 10000 in
theorem l_X8_step_70 {v : xw_V} {κ : xk_K} {post : Option Value → xw_G → Prop} {z : Nat × Nat × Nat} {G : xw_G} {M : md_T} {te ho ow hs ra lo st av so : Nat → Int32} {ln : Int32} {n : Nat} (hk : xk_Ok v κ yX8_step cX8_step 8 (some .int) 4 89) (hz : xk_zf κ = z) (hM : G 21 = pM v (md_th M) (nR te ho ow hs ra lo (nI n) st av so ln) (md_pt M) (md_re M) (md_sd M) (md_be M) (md_pb M) (md_ac M) (md_od M) (md_ad M) (md_wy M) (md_so M) (md_rl M) (md_io M) (md_po M) (md_sp M) (md_rs M) (md_st M) (md_av M) (md_ip M) (md_tx M) (md_tm M) (md_ta M) (md_td M) (md_wo M) (md_sq M) (md_tk M) (md_bg M) (md_nu M) (md_wr M)) (hn30 : n ≤ 30) (y w x : Int32) (kx : xj v κ post z G 135 [some (.ref (xw_ad v 21 0)), some (.int y), some (.int w), some (.int x), some (.int (sm (fun j => if ra j = x then (if md_ad M j = 0 then 0 else md_ad M j) else 0) n)), some (.int (sm (fun j => if ra j = x then (if md_ad M j = 0 then 0 else md_so M j) else 0) n)), some (.int (sm (fun j => if ra j = x then (if md_ad M j = 0 then 0 else 1) else 0) n)), some (.int (nI n))] []) : ∀ (m : Nat) (k : Nat), n - k < m → k ≤ n → xj v κ post z G 70 [some (.ref (xw_ad v 21 0)), some (.int y), some (.int w), some (.int x), some (.int (sm (fun j => if ra j = x then (if md_ad M j = 0 then 0 else md_ad M j) else 0) k)), some (.int (sm (fun j => if ra j = x then (if md_ad M j = 0 then 0 else md_so M j) else 0) k)), some (.int (sm (fun j => if ra j = x then (if md_ad M j = 0 then 0 else 1) else 0) k)), some (.int (nI k))] [] := by
  intro m
  induction m with
  | zero => intro k h; exact absurd h (Nat.not_lt_zero _)
  | succ m ih =>
    intro k hm hi
    refine xj_iload hk dX8_step_70 rfl ?_
    refine xj_aload_n (i := 0) hk dX8_step_72 rfl rfl ?_
    refine xj_callV hk hz (fr1 := 0) (lo1 := 0) (r1 := some (.int (nI n))) (As := []) (st := [.int (nI k)]) (st2 := [.int (nI n), .int (nI k)]) (G1 := G) ml_X8_73 (c_X8_many (M := M) (show G 21 = pM v (md_th M) (nR te ho ow hs ra lo (nI n) st av so ln) (md_pt M) (md_re M) (md_sd M) (md_be M) (md_pb M) (md_ac M) (md_od M) (md_ad M) (md_wy M) (md_so M) (md_rl M) (md_io M) (md_po M) (md_sp M) (md_rs M) (md_st M) (md_av M) (md_ip M) (md_tx M) (md_tm M) (md_ta M) (md_td M) (md_wo M) (md_sq M) (md_tk M) (md_bg M) (md_nu M) (md_wr M) from hM)) (xw_at hM rfl) rfl dX8_step_73 ⟨Nat.le_of_ble_eq_true rfl, Nat.le_of_ble_eq_true rfl⟩ rfl (Nat.le_of_ble_eq_true rfl) rfl rfl ?_
    refine xj_icmp_ge (tgt := 135) hk dX8_step_76 (by decide) (fun c76 => ?_) (fun c76 => ?_)
    · have c76 : n ≤ k := (nI_leI (a := n) (b := k) (by omega) (by omega)).mp c76
      have e9 : k = n := by omega
      subst e9
      exact kx
    · have c76 : ¬ n ≤ k := fun q => c76 ((nI_leI (a := n) (b := k) (by omega) (by omega)).mpr q)
      refine xj_aload_n (i := 0) hk dX8_step_79 rfl rfl ?_
      refine xj_iload hk dX8_step_80 rfl ?_
      refine xj_callV hk hz (fr1 := 0) (lo1 := 0) (r1 := some (.int (ra k))) (As := [.int (nI k)]) (st := []) (st2 := [.int (ra k)]) (G1 := G) ml_X8_77 (c_X8_rateOf (b := k) (M := M) (show G 21 = pM v (md_th M) (nR te ho ow hs ra lo (nI n) st av so ln) (md_pt M) (md_re M) (md_sd M) (md_be M) (md_pb M) (md_ac M) (md_od M) (md_ad M) (md_wy M) (md_so M) (md_rl M) (md_io M) (md_po M) (md_sp M) (md_rs M) (md_st M) (md_av M) (md_ip M) (md_tx M) (md_tm M) (md_ta M) (md_td M) (md_wo M) (md_sq M) (md_tk M) (md_bg M) (md_nu M) (md_wr M) from hM) (by omega)) (xw_at hM rfl) rfl dX8_step_82 ⟨Nat.le_of_ble_eq_true rfl, Nat.le_of_ble_eq_true rfl⟩ rfl (Nat.le_of_ble_eq_true rfl) rfl rfl ?_
      refine xj_iload_n (i := 3) hk dX8_step_85 rfl rfl ?_
      refine xj_icmp_ne (tgt := 129) hk dX8_step_86 (by decide) (fun c86 => ?_) (fun c86 => ?_)
      · refine xj_iinc (i := 7) (x2 := nI (k + 1)) (ls2 := [some (.ref (xw_ad v 21 0)), some (.int y), some (.int w), some (.int x), some (.int (sm (fun j => if ra j = x then (if md_ad M j = 0 then 0 else md_ad M j) else 0) k)), some (.int (sm (fun j => if ra j = x then (if md_ad M j = 0 then 0 else md_so M j) else 0) k)), some (.int (sm (fun j => if ra j = x then (if md_ad M j = 0 then 0 else 1) else 0) k)), some (.int (nI (k + 1)))]) hk dX8_step_129 rfl (nI_1 k) (by decide) rfl rfl ?_
        refine xj_goto (tgt := 70) hk dX8_step_132 (by decide) ?_
        refine xj.to (ls' := [some (.ref (xw_ad v 21 0)), some (.int y), some (.int w), some (.int x), some (.int (sm (fun j => if ra j = x then (if md_ad M j = 0 then 0 else md_ad M j) else 0) ((k + 1)))), some (.int (sm (fun j => if ra j = x then (if md_ad M j = 0 then 0 else md_so M j) else 0) ((k + 1)))), some (.int (sm (fun j => if ra j = x then (if md_ad M j = 0 then 0 else 1) else 0) ((k + 1)))), some (.int (nI ((k + 1))))]) (by simp only [sm]; first | (rw [if_neg c86, if_neg c86, if_neg c86, Int32.add_zero, Int32.add_zero, Int32.add_zero]) | (rw [if_pos c86, if_pos c86, if_pos c86, if_pos c96, if_pos c96, if_pos c96, Int32.add_zero, Int32.add_zero, Int32.add_zero]) | (rw [if_pos c86, if_pos c86, if_pos c86, if_neg c96, if_neg c96, if_neg c96])) (ih (k + 1) (by omega) (by omega))
      · refine xj_aload_n (i := 0) hk dX8_step_89 rfl rfl ?_
        refine xj_getfield hk dX8_step_90 fl_X8_36 (xw_at hM rfl) rfl ?_
        refine xj_iload hk dX8_step_93 rfl ?_
        refine xj_iaload (k := k) hk dX8_step_95 (xw_at hM rfl) (xi_n (by omega) (by decide)) ?_
        refine xj_if_ne (tgt := 102) hk dX8_step_96 (by decide) (fun c96 => ?_) (fun c96 => ?_)
        · refine xj_iload hk dX8_step_102 rfl ?_
          refine xj_aload_n (i := 0) hk dX8_step_104 rfl rfl ?_
          refine xj_getfield hk dX8_step_105 fl_X8_36 (xw_at hM rfl) rfl ?_
          refine xj_iload hk dX8_step_108 rfl ?_
          refine xj_iaload (k := k) hk dX8_step_110 (xw_at hM rfl) (xi_n (by omega) (by decide)) ?_
          refine xj_iadd hk dX8_step_111 ?_
          refine xj_istore (i := 4) (ls2 := [some (.ref (xw_ad v 21 0)), some (.int y), some (.int w), some (.int x), some (.int ((sm (fun j => if ra j = x then (if md_ad M j = 0 then 0 else md_ad M j) else 0) k) + (md_ad M k))), some (.int (sm (fun j => if ra j = x then (if md_ad M j = 0 then 0 else md_so M j) else 0) k)), some (.int (sm (fun j => if ra j = x then (if md_ad M j = 0 then 0 else 1) else 0) k)), some (.int (nI k))]) hk dX8_step_112 (by decide) rfl rfl ?_
          refine xj_iload hk dX8_step_114 rfl ?_
          refine xj_aload_n (i := 0) hk dX8_step_116 rfl rfl ?_
          refine xj_getfield hk dX8_step_117 fl_X8_42 (xw_at hM rfl) rfl ?_
          refine xj_iload hk dX8_step_120 rfl ?_
          refine xj_iaload (k := k) hk dX8_step_122 (xw_at hM rfl) (xi_n (by omega) (by decide)) ?_
          refine xj_iadd hk dX8_step_123 ?_
          refine xj_istore (i := 5) (ls2 := [some (.ref (xw_ad v 21 0)), some (.int y), some (.int w), some (.int x), some (.int ((sm (fun j => if ra j = x then (if md_ad M j = 0 then 0 else md_ad M j) else 0) k) + (md_ad M k))), some (.int ((sm (fun j => if ra j = x then (if md_ad M j = 0 then 0 else md_so M j) else 0) k) + (md_so M k))), some (.int (sm (fun j => if ra j = x then (if md_ad M j = 0 then 0 else 1) else 0) k)), some (.int (nI k))]) hk dX8_step_124 (by decide) rfl rfl ?_
          refine xj_iinc (i := 6) (x2 := (sm (fun j => if ra j = x then (if md_ad M j = 0 then 0 else 1) else 0) k) + 1) (ls2 := [some (.ref (xw_ad v 21 0)), some (.int y), some (.int w), some (.int x), some (.int ((sm (fun j => if ra j = x then (if md_ad M j = 0 then 0 else md_ad M j) else 0) k) + (md_ad M k))), some (.int ((sm (fun j => if ra j = x then (if md_ad M j = 0 then 0 else md_so M j) else 0) k) + (md_so M k))), some (.int ((sm (fun j => if ra j = x then (if md_ad M j = 0 then 0 else 1) else 0) k) + 1)), some (.int (nI k))]) hk dX8_step_126 rfl rfl (by decide) rfl rfl ?_
          refine xj_iinc (i := 7) (x2 := nI (k + 1)) (ls2 := [some (.ref (xw_ad v 21 0)), some (.int y), some (.int w), some (.int x), some (.int ((sm (fun j => if ra j = x then (if md_ad M j = 0 then 0 else md_ad M j) else 0) k) + (md_ad M k))), some (.int ((sm (fun j => if ra j = x then (if md_ad M j = 0 then 0 else md_so M j) else 0) k) + (md_so M k))), some (.int ((sm (fun j => if ra j = x then (if md_ad M j = 0 then 0 else 1) else 0) k) + 1)), some (.int (nI (k + 1)))]) hk dX8_step_129 rfl (nI_1 k) (by decide) rfl rfl ?_
          refine xj_goto (tgt := 70) hk dX8_step_132 (by decide) ?_
          refine xj.to (ls' := [some (.ref (xw_ad v 21 0)), some (.int y), some (.int w), some (.int x), some (.int (sm (fun j => if ra j = x then (if md_ad M j = 0 then 0 else md_ad M j) else 0) ((k + 1)))), some (.int (sm (fun j => if ra j = x then (if md_ad M j = 0 then 0 else md_so M j) else 0) ((k + 1)))), some (.int (sm (fun j => if ra j = x then (if md_ad M j = 0 then 0 else 1) else 0) ((k + 1)))), some (.int (nI ((k + 1))))]) (by simp only [sm]; first | (rw [if_neg c86, if_neg c86, if_neg c86, Int32.add_zero, Int32.add_zero, Int32.add_zero]) | (rw [if_pos c86, if_pos c86, if_pos c86, if_pos c96, if_pos c96, if_pos c96, Int32.add_zero, Int32.add_zero, Int32.add_zero]) | (rw [if_pos c86, if_pos c86, if_pos c86, if_neg c96, if_neg c96, if_neg c96])) (ih (k + 1) (by omega) (by omega))
        · refine xj_goto (tgt := 129) hk dX8_step_99 (by decide) ?_
          refine xj_iinc (i := 7) (x2 := nI (k + 1)) (ls2 := [some (.ref (xw_ad v 21 0)), some (.int y), some (.int w), some (.int x), some (.int (sm (fun j => if ra j = x then (if md_ad M j = 0 then 0 else md_ad M j) else 0) k)), some (.int (sm (fun j => if ra j = x then (if md_ad M j = 0 then 0 else md_so M j) else 0) k)), some (.int (sm (fun j => if ra j = x then (if md_ad M j = 0 then 0 else 1) else 0) k)), some (.int (nI (k + 1)))]) hk dX8_step_129 rfl (nI_1 k) (by decide) rfl rfl ?_
          refine xj_goto (tgt := 70) hk dX8_step_132 (by decide) ?_
          refine xj.to (ls' := [some (.ref (xw_ad v 21 0)), some (.int y), some (.int w), some (.int x), some (.int (sm (fun j => if ra j = x then (if md_ad M j = 0 then 0 else md_ad M j) else 0) ((k + 1)))), some (.int (sm (fun j => if ra j = x then (if md_ad M j = 0 then 0 else md_so M j) else 0) ((k + 1)))), some (.int (sm (fun j => if ra j = x then (if md_ad M j = 0 then 0 else 1) else 0) ((k + 1)))), some (.int (nI ((k + 1))))]) (by simp only [sm]; first | (rw [if_neg c86, if_neg c86, if_neg c86, Int32.add_zero, Int32.add_zero, Int32.add_zero]) | (rw [if_pos c86, if_pos c86, if_pos c86, if_pos c96, if_pos c96, if_pos c96, Int32.add_zero, Int32.add_zero, Int32.add_zero]) | (rw [if_pos c86, if_pos c86, if_pos c86, if_neg c96, if_neg c96, if_neg c96])) (ih (k + 1) (by omega) (by omega))

theorem kR_ord (B : bk_T) (n : Nat) (hn : n ≤ 30) : inj n (fun j => xn (sl_od (kR B n) j)) ∧ srt (bk_ra B) n (fun j => xn (sl_od (kR B n) j)) := by
  obtain ⟨p, so1, re1, b1, b2, b3, -⟩ := kR_is B n
  have e : ∀ j, j < n → xn (sl_od (kR B n) j) = p j := fun j hj => by
    have := b2.1 j hj
    rw [b1 j hj, xn_nI (by omega)]
  refine ⟨⟨fun j hj => ?_, fun i j hi hj => ?_⟩, fun i j hi hj => ?_⟩
  · simp only [e j hj]; exact b2.1 j hj
  · simp only [e j hj, e i (by omega)]; exact b2.2 i j hi hj
  · simp only [e j hj, e i (by omega)]; exact b3 i j hi hj
theorem kF_nn {B : bk_T} {n : Nat} {K : sl_T} (h : kF B n K) : ∀ j, j < n → 0 ≤ sl_ad K j := fun j hj => by
  obtain ⟨c, a, -, e, -, h2, -⟩ := kF_ad h j hj
  rw [e]; exact Int32.not_lt.mp (nI_pos (by omega))
theorem step_ne {te ho ow hs ra lo : Nat → Int32} {n : Nat} (hq : MV te ow hs ra lo n) {k : Int32} (hk : k < 0) : stepR (mB te ho ow hs ra lo n) (kM te ho ow hs ra lo n) n k = -1 :=
  rsV_neg hq.1 (kR_ord (mB te ho ow hs ra lo n) n hq.1).1 (kR_ord (mB te ho ow hs ra lo n) n hq.1).2 (kF_nn (kMF (ho := ho) hq)) (fun j hj => (hq.2.2.2.2 j hj).1.1) hk
theorem step_is {te ho ow hs ra lo : Nat → Int32} {n q : Nat} (hq : MV te ow hs ra lo n) (hk : q < 2 ^ 31) : stepR (mB te ho ow hs ra lo n) (kM te ho ow hs ra lo n) n (nI q) = rN ra (sl_ad (kM te ho ow hs ra lo n)) n q :=
  rsV_rN hq.1 (kR_ord (mB te ho ow hs ra lo n) n hq.1).1 (kR_ord (mB te ho ow hs ra lo n) n hq.1).2 (kF_nn (kMF (ho := ho) hq)) (fun j hj => (hq.2.2.2.2 j hj).1.1) hk
theorem rA_congr {ra ad ad' : Nat → Int32} {x : Int32} : ∀ {n : Nat}, (∀ j, j < n → ad j = ad' j) → rA ra ad x n = rA ra ad' x n
  | 0, _ => rfl
  | n + 1, h => by
    simp only [rA]
    rw [rA_congr (fun j hj => h j (by omega)), h n (by omega)]
theorem rN_congr {ra ad ad' : Nat → Int32} {n : Nat} (h : ∀ j, j < n → ad j = ad' j) : ∀ k, rN ra ad n k = rN ra ad' n k
  | 0 => rA_congr h
  | k + 1 => by
    simp only [rN]
    rw [rN_congr h k, rA_congr h]
set_option maxHeartbeats 1000000 in
set_option maxRecDepth 10000 in
theorem c_X8_step {v : xw_V} {G : xw_G} {M : md_T} {te ho ow hs ra lo st av so : Nat → Int32} {ln : Int32} {n : Nat} (hM : G 21 = pM v (md_th M) (nR te ho ow hs ra lo (nI n) st av so ln) (md_pt M) (md_re M) (md_sd M) (md_be M) (md_pb M) (md_ac M) (md_od M) (md_ad M) (md_wy M) (md_so M) (md_rl M) (md_io M) (md_po M) (md_sp M) (md_rs M) (md_st M) (md_av M) (md_ip M) (md_tx M) (md_tm M) (md_ta M) (md_td M) (md_wo M) (md_sq M) (md_tk M) (md_bg M) (md_nu M) (md_wr M)) (hq : MV te ow hs ra lo n) (k : Int32) (w : Int32) : xk_Con v yX8_step cX8_step 8 (some .int) 4 89 [.ref (xw_ad v 21 0), .int k, .int w] G (fun r9 G' => r9 = some (.int (q_step (mB te ho ow hs ra lo n) (kM te ho ow hs ra lo n) n k w)) ∧ mQ v G G' (nR te ho ow hs ra lo (nI n) st av so ln) M) := by
  refine xk_of (ls0 := [some (.ref (xw_ad v 21 0)), some (.int k), some (.int w), none, none, none, none, none]) (by decide) rfl (Nat.le_of_ble_eq_true rfl) ?_
  intro κ z hk hz
  have hn30 : n ≤ 30 := hq.1
  refine xj_iload_n (i := 1) hk dX8_step_0 rfl rfl ?_
  refine xj_if_lt (tgt := 13) hk dX8_step_1 (by decide) (fun c1 => ?_) (fun c1 => ?_)
  · refine xj_iconst (x := (-1)) hk dX8_step_13 (by decide) ?_
    refine xj_ireturn hk hz dX8_step_14 ?_
    refine ⟨?_, ⟨⟨M, hM, rfl, rfl, rfl, rfl, rfl, rfl, rfl⟩, fun _ _ => rfl⟩⟩
    · simp only [q_step]
      rw [if_pos (step_ne hq c1)]
  · refine xj_iload_n (i := 2) hk dX8_step_4 rfl rfl ?_
    refine xj_iconst (x := 0) hk dX8_step_5 (by decide) ?_
    refine xj_iconst (x := 4) hk dX8_step_6 (by decide) ?_
    refine xj_callS hk hz (fr1 := 0) (lo1 := 0) (r1 := some (.int (xb (mIn w 0 4)))) (As := [.int w, .int 0, .int 4]) (st := []) (st2 := [.int (xb (mIn w 0 4))]) (G1 := G) ml_X8_69 (c_X8_in w 0 4) dX8_step_7 ⟨Nat.le_of_ble_eq_true rfl, Nat.le_of_ble_eq_true rfl⟩ rfl (Nat.le_of_ble_eq_true rfl) rfl rfl ?_
    refine xj_ifb_ne (tgt := 15) hk dX8_step_10 (by decide) (fun c10 => ?_) (fun c10 => ?_)
    · obtain ⟨kq, hq31, rfl⟩ := nI_of c1
      refine xj_aload_n (i := 0) hk dX8_step_15 rfl rfl ?_
      refine xj_callVE hk hz (fr1 := 3) (lo1 := 65) (As := []) (st := []) ml_X8_174 (c_sellsK (n := n) (M := M) (show G 21 = pM v (md_th M) (nR te ho ow hs ra lo (nI n) st av so ln) (md_pt M) (md_re M) (md_sd M) (md_be M) (md_pb M) (md_ac M) (md_od M) (md_ad M) (md_wy M) (md_so M) (md_rl M) (md_io M) (md_po M) (md_sp M) (md_rs M) (md_st M) (md_av M) (md_ip M) (md_tx M) (md_tm M) (md_ta M) (md_td M) (md_wo M) (md_sq M) (md_tk M) (md_bg M) (md_nu M) (md_wr M) from hM) hq) (xw_at hM rfl) rfl dX8_step_16 ⟨Nat.le_of_ble_eq_true rfl, Nat.le_of_ble_eq_true rfl⟩ rfl (Nat.le_of_ble_eq_true rfl) rfl ?_
      rintro _ _ ⟨rfl, od, ad, wy, rl, so3, io3, hag, rfl⟩
      have hag : agS n (sl_w (kM te ho ow hs ra lo n) od ad wy so3) (kM te ho ow hs ra lo n) := hag
      show xj v κ _ z (xw_up G 21 (pM v (md_th M) (nR te ho ow hs ra lo (nI n) st av so ln) (md_pt M) (md_re M) (md_sd M) (md_be M) (md_pb M) (md_ac M) od ad wy so3 rl io3 (sl_po (kM te ho ow hs ra lo n)) (sl_sp (kM te ho ow hs ra lo n)) (sl_rs (kM te ho ow hs ra lo n)) (sl_st (kM te ho ow hs ra lo n)) (sl_av (kM te ho ow hs ra lo n)) (sl_pt (kM te ho ow hs ra lo n)) (md_tx M) (md_tm M) (md_ta M) (md_td M) (md_wo M) (md_sq M) (md_tk M) (md_bg M) (md_nu M) (md_wr M))) 19 _ []
      refine xj_aload_n (i := 0) hk dX8_step_19 rfl rfl ?_
      refine xj_iconst (x := (-1)) hk dX8_step_20 (by decide) ?_
      refine xj_callV hk hz (fr1 := 1) (lo1 := 21) (r1 := some (.int (rA ra ad ((-1)) n))) (As := [.int ((-1))]) (st := []) (st2 := [.int (rA ra ad ((-1)) n)]) (G1 := xw_up G 21 (pM v (md_th M) (nR te ho ow hs ra lo (nI n) st av so ln) (md_pt M) (md_re M) (md_sd M) (md_be M) (md_pb M) (md_ac M) od ad wy so3 rl io3 (sl_po (kM te ho ow hs ra lo n)) (sl_sp (kM te ho ow hs ra lo n)) (sl_rs (kM te ho ow hs ra lo n)) (sl_st (kM te ho ow hs ra lo n)) (sl_av (kM te ho ow hs ra lo n)) (sl_pt (kM te ho ow hs ra lo n)) (md_tx M) (md_tm M) (md_ta M) (md_td M) (md_wo M) (md_sq M) (md_tk M) (md_bg M) (md_nu M) (md_wr M))) ml_X8_209 (c_X8_rateAbove (n := n) (M := (md_th M, nR te ho ow hs ra lo (nI n) st av so ln, md_pt M, md_re M, md_sd M, md_be M, md_pb M, md_ac M, od, ad, wy, so3, rl, io3, sl_po (kM te ho ow hs ra lo n), sl_sp (kM te ho ow hs ra lo n), sl_rs (kM te ho ow hs ra lo n), sl_st (kM te ho ow hs ra lo n), sl_av (kM te ho ow hs ra lo n), sl_pt (kM te ho ow hs ra lo n), md_tx M, md_tm M, md_ta M, md_td M, md_wo M, md_sq M, md_tk M, md_bg M, md_nu M, md_wr M)) (show (xw_up G 21 (pM v (md_th M) (nR te ho ow hs ra lo (nI n) st av so ln) (md_pt M) (md_re M) (md_sd M) (md_be M) (md_pb M) (md_ac M) od ad wy so3 rl io3 (sl_po (kM te ho ow hs ra lo n)) (sl_sp (kM te ho ow hs ra lo n)) (sl_rs (kM te ho ow hs ra lo n)) (sl_st (kM te ho ow hs ra lo n)) (sl_av (kM te ho ow hs ra lo n)) (sl_pt (kM te ho ow hs ra lo n)) (md_tx M) (md_tm M) (md_ta M) (md_td M) (md_wo M) (md_sq M) (md_tk M) (md_bg M) (md_nu M) (md_wr M))) 21 = pM v (md_th M) (nR te ho ow hs ra lo (nI n) st av so ln) (md_pt M) (md_re M) (md_sd M) (md_be M) (md_pb M) (md_ac M) od ad wy so3 rl io3 (sl_po (kM te ho ow hs ra lo n)) (sl_sp (kM te ho ow hs ra lo n)) (sl_rs (kM te ho ow hs ra lo n)) (sl_st (kM te ho ow hs ra lo n)) (sl_av (kM te ho ow hs ra lo n)) (sl_pt (kM te ho ow hs ra lo n)) (md_tx M) (md_tm M) (md_ta M) (md_td M) (md_wo M) (md_sq M) (md_tk M) (md_bg M) (md_nu M) (md_wr M) from xw_up_s) hn30 ((-1))) (xw_at xw_up_s rfl) rfl dX8_step_21 ⟨Nat.le_of_ble_eq_true rfl, Nat.le_of_ble_eq_true rfl⟩ rfl (Nat.le_of_ble_eq_true rfl) rfl rfl ?_
      refine xj_istore_n (i := 3) (ls2 := [some (.ref (xw_ad v 21 0)), some (.int (nI kq)), some (.int w), some (.int (rA ra ad ((-1)) n)), none, none, none, none]) hk dX8_step_24 rfl (by decide) rfl rfl ?_
      refine xj_iconst (x := 0) hk dX8_step_25 (by decide) ?_
      refine xj_istore (i := 4) (ls2 := [some (.ref (xw_ad v 21 0)), some (.int (nI kq)), some (.int w), some (.int (rA ra ad ((-1)) n)), some (.int 0), none, none, none]) hk dX8_step_26 (by decide) rfl rfl ?_
      refine xj.to (ls' := [some (.ref (xw_ad v 21 0)), some (.int (nI kq)), some (.int w), some (.int (rN ra ad n 0)), some (.int (nI 0)), none, none, none]) (by first | rfl | simp [rN]) ?_
      refine l_X8_step_28 (M := (md_th M, nR te ho ow hs ra lo (nI n) st av so ln, md_pt M, md_re M, md_sd M, md_be M, md_pb M, md_ac M, od, ad, wy, so3, rl, io3, sl_po (kM te ho ow hs ra lo n), sl_sp (kM te ho ow hs ra lo n), sl_rs (kM te ho ow hs ra lo n), sl_st (kM te ho ow hs ra lo n), sl_av (kM te ho ow hs ra lo n), sl_pt (kM te ho ow hs ra lo n), md_tx M, md_tm M, md_ta M, md_td M, md_wo M, md_sq M, md_tk M, md_bg M, md_nu M, md_wr M)) hk hz (show (xw_up G 21 (pM v (md_th M) (nR te ho ow hs ra lo (nI n) st av so ln) (md_pt M) (md_re M) (md_sd M) (md_be M) (md_pb M) (md_ac M) od ad wy so3 rl io3 (sl_po (kM te ho ow hs ra lo n)) (sl_sp (kM te ho ow hs ra lo n)) (sl_rs (kM te ho ow hs ra lo n)) (sl_st (kM te ho ow hs ra lo n)) (sl_av (kM te ho ow hs ra lo n)) (sl_pt (kM te ho ow hs ra lo n)) (md_tx M) (md_tm M) (md_ta M) (md_td M) (md_wo M) (md_sq M) (md_tk M) (md_bg M) (md_nu M) (md_wr M))) 21 = pM v (md_th M) (nR te ho ow hs ra lo (nI n) st av so ln) (md_pt M) (md_re M) (md_sd M) (md_be M) (md_pb M) (md_ac M) od ad wy so3 rl io3 (sl_po (kM te ho ow hs ra lo n)) (sl_sp (kM te ho ow hs ra lo n)) (sl_rs (kM te ho ow hs ra lo n)) (sl_st (kM te ho ow hs ra lo n)) (sl_av (kM te ho ow hs ra lo n)) (sl_pt (kM te ho ow hs ra lo n)) (md_tx M) (md_tm M) (md_ta M) (md_td M) (md_wo M) (md_sq M) (md_tk M) (md_bg M) (md_nu M) (md_wr M) from xw_up_s) hn30 hq31 w ?_ (kq + 1) 0 (by omega) (by omega)
      refine xj.to (ls' := [some (.ref (xw_ad v 21 0)), some (.int (nI kq)), some (.int w), some (.int (rN ra ad n kq)), none, none, none, none]) rfl ?_
      refine xj_iload_n (i := 3) hk dX8_step_51 rfl rfl ?_
      refine xj_iconst (x := (-1)) hk dX8_step_52 (by decide) ?_
      refine xj_icmp_ne (tgt := 58) hk dX8_step_53 (by decide) (fun c53 => ?_) (fun c53 => ?_)
      · refine xj_iconst (x := 0) hk dX8_step_58 (by decide) ?_
        refine xj_istore (i := 4) (ls2 := [some (.ref (xw_ad v 21 0)), some (.int (nI kq)), some (.int w), some (.int (rN ra ad n kq)), some (.int 0), none, none, none]) hk dX8_step_59 (by decide) rfl rfl ?_
        refine xj_iconst (x := 0) hk dX8_step_61 (by decide) ?_
        refine xj_istore (i := 5) (ls2 := [some (.ref (xw_ad v 21 0)), some (.int (nI kq)), some (.int w), some (.int (rN ra ad n kq)), some (.int 0), some (.int 0), none, none]) hk dX8_step_62 (by decide) rfl rfl ?_
        refine xj_iconst (x := 0) hk dX8_step_64 (by decide) ?_
        refine xj_istore (i := 6) (ls2 := [some (.ref (xw_ad v 21 0)), some (.int (nI kq)), some (.int w), some (.int (rN ra ad n kq)), some (.int 0), some (.int 0), some (.int 0), none]) hk dX8_step_65 (by decide) rfl rfl ?_
        refine xj_iconst (x := 0) hk dX8_step_67 (by decide) ?_
        refine xj_istore (i := 7) (ls2 := [some (.ref (xw_ad v 21 0)), some (.int (nI kq)), some (.int w), some (.int (rN ra ad n kq)), some (.int 0), some (.int 0), some (.int 0), some (.int 0)]) hk dX8_step_68 (by decide) rfl rfl ?_
        refine xj.to (ls' := [some (.ref (xw_ad v 21 0)), some (.int (nI kq)), some (.int w), some (.int (rN ra ad n kq)), some (.int (sm (fun j => if ra j = rN ra ad n kq then (if ad j = 0 then 0 else ad j) else 0) 0)), some (.int (sm (fun j => if ra j = rN ra ad n kq then (if ad j = 0 then 0 else so3 j) else 0) 0)), some (.int (sm (fun j => if ra j = rN ra ad n kq then (if ad j = 0 then 0 else 1) else 0) 0)), some (.int (nI 0))]) (by first | rfl | simp [sm]) ?_
        refine l_X8_step_70 (M := (md_th M, nR te ho ow hs ra lo (nI n) st av so ln, md_pt M, md_re M, md_sd M, md_be M, md_pb M, md_ac M, od, ad, wy, so3, rl, io3, sl_po (kM te ho ow hs ra lo n), sl_sp (kM te ho ow hs ra lo n), sl_rs (kM te ho ow hs ra lo n), sl_st (kM te ho ow hs ra lo n), sl_av (kM te ho ow hs ra lo n), sl_pt (kM te ho ow hs ra lo n), md_tx M, md_tm M, md_ta M, md_td M, md_wo M, md_sq M, md_tk M, md_bg M, md_nu M, md_wr M)) hk hz (show (xw_up G 21 (pM v (md_th M) (nR te ho ow hs ra lo (nI n) st av so ln) (md_pt M) (md_re M) (md_sd M) (md_be M) (md_pb M) (md_ac M) od ad wy so3 rl io3 (sl_po (kM te ho ow hs ra lo n)) (sl_sp (kM te ho ow hs ra lo n)) (sl_rs (kM te ho ow hs ra lo n)) (sl_st (kM te ho ow hs ra lo n)) (sl_av (kM te ho ow hs ra lo n)) (sl_pt (kM te ho ow hs ra lo n)) (md_tx M) (md_tm M) (md_ta M) (md_td M) (md_wo M) (md_sq M) (md_tk M) (md_bg M) (md_nu M) (md_wr M))) 21 = pM v (md_th M) (nR te ho ow hs ra lo (nI n) st av so ln) (md_pt M) (md_re M) (md_sd M) (md_be M) (md_pb M) (md_ac M) od ad wy so3 rl io3 (sl_po (kM te ho ow hs ra lo n)) (sl_sp (kM te ho ow hs ra lo n)) (sl_rs (kM te ho ow hs ra lo n)) (sl_st (kM te ho ow hs ra lo n)) (sl_av (kM te ho ow hs ra lo n)) (sl_pt (kM te ho ow hs ra lo n)) (md_tx M) (md_tm M) (md_ta M) (md_td M) (md_wo M) (md_sq M) (md_tk M) (md_bg M) (md_nu M) (md_wr M) from xw_up_s) hn30 _ w _ ?_ (n + 1) 0 (by omega) (by omega)
        refine xj.to (ls' := [some (.ref (xw_ad v 21 0)), some (.int (nI kq)), some (.int w), some (.int (rN ra ad n kq)), some (.int (sm (fun j => if ra j = rN ra ad n kq then (if ad j = 0 then 0 else ad j) else 0) n)), some (.int (sm (fun j => if ra j = rN ra ad n kq then (if ad j = 0 then 0 else so3 j) else 0) n)), some (.int (sm (fun j => if ra j = rN ra ad n kq then (if ad j = 0 then 0 else 1) else 0) n)), some (.int (nI n))]) rfl ?_
        refine xj_iload_n (i := 2) hk dX8_step_135 rfl rfl ?_
        refine xj_if_ne (tgt := 143) hk dX8_step_136 (by decide) (fun c136 => ?_) (fun c136 => ?_)
        · refine xj_iload_n (i := 2) hk dX8_step_143 rfl rfl ?_
          refine xj_iconst (x := 1) hk dX8_step_144 (by decide) ?_
          refine xj_icmp_ne (tgt := 153) hk dX8_step_145 (by decide) (fun c145 => ?_) (fun c145 => ?_)
          · refine xj_iload_n (i := 2) hk dX8_step_153 rfl rfl ?_
            refine xj_iconst (x := 2) hk dX8_step_154 (by decide) ?_
            refine xj_icmp_ne (tgt := 166) hk dX8_step_155 (by decide) (fun c155 => ?_) (fun c155 => ?_)
            · refine xj_iload_n (i := 2) hk dX8_step_166 rfl rfl ?_
              refine xj_iconst (x := 3) hk dX8_step_167 (by decide) ?_
              refine xj_icmp_ne (tgt := 176) hk dX8_step_168 (by decide) (fun c168 => ?_) (fun c168 => ?_)
              · refine xj_iload hk dX8_step_176 rfl ?_
                refine xj_ireturn hk hz dX8_step_178 ?_
                refine ⟨?_, ⟨⟨(md_th M, nR te ho ow hs ra lo (nI n) st av so ln, md_pt M, md_re M, md_sd M, md_be M, md_pb M, md_ac M, od, ad, wy, so3, rl, io3, sl_po (kM te ho ow hs ra lo n), sl_sp (kM te ho ow hs ra lo n), sl_rs (kM te ho ow hs ra lo n), sl_st (kM te ho ow hs ra lo n), sl_av (kM te ho ow hs ra lo n), sl_pt (kM te ho ow hs ra lo n), md_tx M, md_tm M, md_ta M, md_td M, md_wo M, md_sq M, md_tk M, md_bg M, md_nu M, md_wr M), xw_up_s, rfl, rfl, rfl, rfl, rfl, rfl, rfl⟩, fun g h => xw_up_n h⟩⟩
                · have eN : rN ra ad n kq = stepR (mB te ho ow hs ra lo n) (kM te ho ow hs ra lo n) n (nI kq) := (rN_congr (fun j hj => (hag.1 j hj).2.1) kq).trans (step_is hq hq31).symm
                  rw [eN] at c53
                  try rw [eN]
                  simp only [q_step]
                  rw [if_neg c53]
                  have e1 : ∀ j, j < n → ad j = sl_ad (kM te ho ow hs ra lo n) j := fun j hj => (hag.1 j hj).2.1
                  have e2 : ∀ j, j < n → so3 j = sl_so (kM te ho ow hs ra lo n) j := fun j hj => (hag.1 j hj).2.2.2
                  have kf := kMF (ho := ho) hq
                  first
                    | (rw [if_neg c136, if_neg c145, if_neg c155, if_pos c168]
                       refine congrArg (fun q => some (Value.int q)) (sm_congr (fun j hj => ?_))
                       show (if ra j = _ then _ else _) = (if ra j = _ then _ else _)
                       by_cases c : ra j = stepR (mB te ho ow hs ra lo n) (kM te ho ow hs ra lo n) n (nI kq)
                       · rw [if_pos c, if_pos c, e1 j hj, e2 j hj]
                         split
                         · rename_i h9
                           obtain ⟨c9, a9, z1, z2, z3, z4, -⟩ := kF_ad kf j hj
                           rw [z2] at h9
                           have := (nI_eq (a := a9) (b := 0) (by omega) (by decide)).mp h9
                           rw [z1, show c9 = 0 by omega]; rfl
                         · rfl
                       · rw [if_neg c, if_neg c])
                    | (rw [if_neg c136, if_neg c145, if_neg c155, if_neg c168, if_pos (show w = 4 from by rcases mIn4 c10 with h | h | h | h | h <;> first | contradiction | exact h)]
                       refine congrArg (fun q => some (Value.int q)) (sm_congr (fun j hj => ?_))
                       show (if ra j = _ then _ else _) = (if ra j = _ then _ else _)
                       by_cases c : ra j = stepR (mB te ho ow hs ra lo n) (kM te ho ow hs ra lo n) n (nI kq)
                       · rw [if_pos c, if_pos c, e1 j hj]
                         by_cases d : sl_ad (kM te ho ow hs ra lo n) j = 0
                         · rw [if_pos d, if_pos (by rw [d]; exact Int32.le_rfl)]
                         · rw [if_neg d, if_neg (fun q => d (Int32.le_antisymm q (kF_nn kf j hj)))]
                       · rw [if_neg c, if_neg c])
              · refine xj_iload hk dX8_step_171 rfl ?_
                refine xj_goto (tgt := 178) hk dX8_step_173 (by decide) ?_
                refine xj_ireturn hk hz dX8_step_178 ?_
                refine ⟨?_, ⟨⟨(md_th M, nR te ho ow hs ra lo (nI n) st av so ln, md_pt M, md_re M, md_sd M, md_be M, md_pb M, md_ac M, od, ad, wy, so3, rl, io3, sl_po (kM te ho ow hs ra lo n), sl_sp (kM te ho ow hs ra lo n), sl_rs (kM te ho ow hs ra lo n), sl_st (kM te ho ow hs ra lo n), sl_av (kM te ho ow hs ra lo n), sl_pt (kM te ho ow hs ra lo n), md_tx M, md_tm M, md_ta M, md_td M, md_wo M, md_sq M, md_tk M, md_bg M, md_nu M, md_wr M), xw_up_s, rfl, rfl, rfl, rfl, rfl, rfl, rfl⟩, fun g h => xw_up_n h⟩⟩
                · have eN : rN ra ad n kq = stepR (mB te ho ow hs ra lo n) (kM te ho ow hs ra lo n) n (nI kq) := (rN_congr (fun j hj => (hag.1 j hj).2.1) kq).trans (step_is hq hq31).symm
                  rw [eN] at c53
                  try rw [eN]
                  simp only [q_step]
                  rw [if_neg c53]
                  have e1 : ∀ j, j < n → ad j = sl_ad (kM te ho ow hs ra lo n) j := fun j hj => (hag.1 j hj).2.1
                  have e2 : ∀ j, j < n → so3 j = sl_so (kM te ho ow hs ra lo n) j := fun j hj => (hag.1 j hj).2.2.2
                  have kf := kMF (ho := ho) hq
                  first
                    | (rw [if_neg c136, if_neg c145, if_neg c155, if_pos c168]
                       refine congrArg (fun q => some (Value.int q)) (sm_congr (fun j hj => ?_))
                       show (if ra j = _ then _ else _) = (if ra j = _ then _ else _)
                       by_cases c : ra j = stepR (mB te ho ow hs ra lo n) (kM te ho ow hs ra lo n) n (nI kq)
                       · rw [if_pos c, if_pos c, e1 j hj, e2 j hj]
                         split
                         · rename_i h9
                           obtain ⟨c9, a9, z1, z2, z3, z4, -⟩ := kF_ad kf j hj
                           rw [z2] at h9
                           have := (nI_eq (a := a9) (b := 0) (by omega) (by decide)).mp h9
                           rw [z1, show c9 = 0 by omega]; rfl
                         · rfl
                       · rw [if_neg c, if_neg c])
                    | (rw [if_neg c136, if_neg c145, if_neg c155, if_neg c168, if_pos (show w = 4 from by rcases mIn4 c10 with h | h | h | h | h <;> first | contradiction | exact h)]
                       refine congrArg (fun q => some (Value.int q)) (sm_congr (fun j hj => ?_))
                       show (if ra j = _ then _ else _) = (if ra j = _ then _ else _)
                       by_cases c : ra j = stepR (mB te ho ow hs ra lo n) (kM te ho ow hs ra lo n) n (nI kq)
                       · rw [if_pos c, if_pos c, e1 j hj]
                         by_cases d : sl_ad (kM te ho ow hs ra lo n) j = 0
                         · rw [if_pos d, if_pos (by rw [d]; exact Int32.le_rfl)]
                         · rw [if_neg d, if_neg (fun q => d (Int32.le_antisymm q (kF_nn kf j hj)))]
                       · rw [if_neg c, if_neg c])
            · refine xj_aload_n (i := 0) hk dX8_step_158 rfl rfl ?_
              refine xj_iload_n (i := 3) hk dX8_step_159 rfl rfl ?_
              refine xj_callV hk hz (fr1 := 2) (lo1 := 42) (r1 := some (.int (sm (fun j => if ra j = -1 then 0 else if rN ra ad n kq < ra j then 0 else ad j) n))) (As := [.int (rN ra ad n kq)]) (st := []) (st2 := [.int (sm (fun j => if ra j = -1 then 0 else if rN ra ad n kq < ra j then 0 else ad j) n)]) (G1 := xw_up G 21 (pM v (md_th M) (nR te ho ow hs ra lo (nI n) st av so ln) (md_pt M) (md_re M) (md_sd M) (md_be M) (md_pb M) (md_ac M) od ad wy so3 rl io3 (sl_po (kM te ho ow hs ra lo n)) (sl_sp (kM te ho ow hs ra lo n)) (sl_rs (kM te ho ow hs ra lo n)) (sl_st (kM te ho ow hs ra lo n)) (sl_av (kM te ho ow hs ra lo n)) (sl_pt (kM te ho ow hs ra lo n)) (md_tx M) (md_tm M) (md_ta M) (md_td M) (md_wo M) (md_sq M) (md_tk M) (md_bg M) (md_nu M) (md_wr M))) ml_X8_160 (c_X8_admittedTo (n := n) (M := (md_th M, nR te ho ow hs ra lo (nI n) st av so ln, md_pt M, md_re M, md_sd M, md_be M, md_pb M, md_ac M, od, ad, wy, so3, rl, io3, sl_po (kM te ho ow hs ra lo n), sl_sp (kM te ho ow hs ra lo n), sl_rs (kM te ho ow hs ra lo n), sl_st (kM te ho ow hs ra lo n), sl_av (kM te ho ow hs ra lo n), sl_pt (kM te ho ow hs ra lo n), md_tx M, md_tm M, md_ta M, md_td M, md_wo M, md_sq M, md_tk M, md_bg M, md_nu M, md_wr M)) (show (xw_up G 21 (pM v (md_th M) (nR te ho ow hs ra lo (nI n) st av so ln) (md_pt M) (md_re M) (md_sd M) (md_be M) (md_pb M) (md_ac M) od ad wy so3 rl io3 (sl_po (kM te ho ow hs ra lo n)) (sl_sp (kM te ho ow hs ra lo n)) (sl_rs (kM te ho ow hs ra lo n)) (sl_st (kM te ho ow hs ra lo n)) (sl_av (kM te ho ow hs ra lo n)) (sl_pt (kM te ho ow hs ra lo n)) (md_tx M) (md_tm M) (md_ta M) (md_td M) (md_wo M) (md_sq M) (md_tk M) (md_bg M) (md_nu M) (md_wr M))) 21 = pM v (md_th M) (nR te ho ow hs ra lo (nI n) st av so ln) (md_pt M) (md_re M) (md_sd M) (md_be M) (md_pb M) (md_ac M) od ad wy so3 rl io3 (sl_po (kM te ho ow hs ra lo n)) (sl_sp (kM te ho ow hs ra lo n)) (sl_rs (kM te ho ow hs ra lo n)) (sl_st (kM te ho ow hs ra lo n)) (sl_av (kM te ho ow hs ra lo n)) (sl_pt (kM te ho ow hs ra lo n)) (md_tx M) (md_tm M) (md_ta M) (md_td M) (md_wo M) (md_sq M) (md_tk M) (md_bg M) (md_nu M) (md_wr M) from xw_up_s) hn30 (rN ra ad n kq)) (xw_at xw_up_s rfl) rfl dX8_step_160 ⟨Nat.le_of_ble_eq_true rfl, Nat.le_of_ble_eq_true rfl⟩ rfl (Nat.le_of_ble_eq_true rfl) rfl rfl ?_
              refine xj_goto (tgt := 178) hk dX8_step_163 (by decide) ?_
              refine xj_ireturn hk hz dX8_step_178 ?_
              refine ⟨?_, ⟨⟨(md_th M, nR te ho ow hs ra lo (nI n) st av so ln, md_pt M, md_re M, md_sd M, md_be M, md_pb M, md_ac M, od, ad, wy, so3, rl, io3, sl_po (kM te ho ow hs ra lo n), sl_sp (kM te ho ow hs ra lo n), sl_rs (kM te ho ow hs ra lo n), sl_st (kM te ho ow hs ra lo n), sl_av (kM te ho ow hs ra lo n), sl_pt (kM te ho ow hs ra lo n), md_tx M, md_tm M, md_ta M, md_td M, md_wo M, md_sq M, md_tk M, md_bg M, md_nu M, md_wr M), xw_up_s, rfl, rfl, rfl, rfl, rfl, rfl, rfl⟩, fun g h => xw_up_n h⟩⟩
              · have eN : rN ra ad n kq = stepR (mB te ho ow hs ra lo n) (kM te ho ow hs ra lo n) n (nI kq) := (rN_congr (fun j hj => (hag.1 j hj).2.1) kq).trans (step_is hq hq31).symm
                rw [eN] at c53
                try rw [eN]
                simp only [q_step]
                rw [if_neg c53]
                have e1 : ∀ j, j < n → ad j = sl_ad (kM te ho ow hs ra lo n) j := fun j hj => (hag.1 j hj).2.1
                have e2 : ∀ j, j < n → so3 j = sl_so (kM te ho ow hs ra lo n) j := fun j hj => (hag.1 j hj).2.2.2
                rw [if_neg c136, if_neg c145, if_pos c155]
                refine congrArg (fun q => some (Value.int q)) (sm_congr (fun j hj => ?_))
                rw [e1 j hj]
                rfl
          · refine xj_iload hk dX8_step_148 rfl ?_
            refine xj_goto (tgt := 178) hk dX8_step_150 (by decide) ?_
            refine xj_ireturn hk hz dX8_step_178 ?_
            refine ⟨?_, ⟨⟨(md_th M, nR te ho ow hs ra lo (nI n) st av so ln, md_pt M, md_re M, md_sd M, md_be M, md_pb M, md_ac M, od, ad, wy, so3, rl, io3, sl_po (kM te ho ow hs ra lo n), sl_sp (kM te ho ow hs ra lo n), sl_rs (kM te ho ow hs ra lo n), sl_st (kM te ho ow hs ra lo n), sl_av (kM te ho ow hs ra lo n), sl_pt (kM te ho ow hs ra lo n), md_tx M, md_tm M, md_ta M, md_td M, md_wo M, md_sq M, md_tk M, md_bg M, md_nu M, md_wr M), xw_up_s, rfl, rfl, rfl, rfl, rfl, rfl, rfl⟩, fun g h => xw_up_n h⟩⟩
            · have eN : rN ra ad n kq = stepR (mB te ho ow hs ra lo n) (kM te ho ow hs ra lo n) n (nI kq) := (rN_congr (fun j hj => (hag.1 j hj).2.1) kq).trans (step_is hq hq31).symm
              rw [eN] at c53
              try rw [eN]
              simp only [q_step]
              rw [if_neg c53]
              have e1 : ∀ j, j < n → ad j = sl_ad (kM te ho ow hs ra lo n) j := fun j hj => (hag.1 j hj).2.1
              have e2 : ∀ j, j < n → so3 j = sl_so (kM te ho ow hs ra lo n) j := fun j hj => (hag.1 j hj).2.2.2
              rw [if_neg c136, if_pos c145]
              refine congrArg (fun q => some (Value.int q)) (sm_congr (fun j hj => ?_))
              show (if ra j = _ then _ else _) = (if ra j = _ then _ else _)
              by_cases c : ra j = stepR (mB te ho ow hs ra lo n) (kM te ho ow hs ra lo n) n (nI kq)
              · rw [if_pos c, if_pos c, e1 j hj]
                split
                · rename_i h9; rw [h9]
                · rfl
              · rw [if_neg c, if_neg c]
        · refine xj_iload_n (i := 3) hk dX8_step_139 rfl rfl ?_
          refine xj_goto (tgt := 178) hk dX8_step_140 (by decide) ?_
          refine xj_ireturn hk hz dX8_step_178 ?_
          refine ⟨?_, ⟨⟨(md_th M, nR te ho ow hs ra lo (nI n) st av so ln, md_pt M, md_re M, md_sd M, md_be M, md_pb M, md_ac M, od, ad, wy, so3, rl, io3, sl_po (kM te ho ow hs ra lo n), sl_sp (kM te ho ow hs ra lo n), sl_rs (kM te ho ow hs ra lo n), sl_st (kM te ho ow hs ra lo n), sl_av (kM te ho ow hs ra lo n), sl_pt (kM te ho ow hs ra lo n), md_tx M, md_tm M, md_ta M, md_td M, md_wo M, md_sq M, md_tk M, md_bg M, md_nu M, md_wr M), xw_up_s, rfl, rfl, rfl, rfl, rfl, rfl, rfl⟩, fun g h => xw_up_n h⟩⟩
          · have eN : rN ra ad n kq = stepR (mB te ho ow hs ra lo n) (kM te ho ow hs ra lo n) n (nI kq) := (rN_congr (fun j hj => (hag.1 j hj).2.1) kq).trans (step_is hq hq31).symm
            rw [eN] at c53
            try rw [eN]
            simp only [q_step]
            rw [if_neg c53]
            have e1 : ∀ j, j < n → ad j = sl_ad (kM te ho ow hs ra lo n) j := fun j hj => (hag.1 j hj).2.1
            have e2 : ∀ j, j < n → so3 j = sl_so (kM te ho ow hs ra lo n) j := fun j hj => (hag.1 j hj).2.2.2
            rw [if_pos c136]
      · refine xj_iconst (x := (-1)) hk dX8_step_56 (by decide) ?_
        refine xj_ireturn hk hz dX8_step_57 ?_
        refine ⟨?_, ⟨⟨(md_th M, nR te ho ow hs ra lo (nI n) st av so ln, md_pt M, md_re M, md_sd M, md_be M, md_pb M, md_ac M, od, ad, wy, so3, rl, io3, sl_po (kM te ho ow hs ra lo n), sl_sp (kM te ho ow hs ra lo n), sl_rs (kM te ho ow hs ra lo n), sl_st (kM te ho ow hs ra lo n), sl_av (kM te ho ow hs ra lo n), sl_pt (kM te ho ow hs ra lo n), md_tx M, md_tm M, md_ta M, md_td M, md_wo M, md_sq M, md_tk M, md_bg M, md_nu M, md_wr M), xw_up_s, rfl, rfl, rfl, rfl, rfl, rfl, rfl⟩, fun g h => xw_up_n h⟩⟩
        · have eN : rN ra ad n kq = stepR (mB te ho ow hs ra lo n) (kM te ho ow hs ra lo n) n (nI kq) := (rN_congr (fun j hj => (hag.1 j hj).2.1) kq).trans (step_is hq hq31).symm
          rw [eN] at c53
          try rw [eN]
          simp only [q_step]
          rw [if_pos c53]
    · refine xj_iconst (x := (-1)) hk dX8_step_13 (by decide) ?_
      refine xj_ireturn hk hz dX8_step_14 ?_
      refine ⟨?_, ⟨⟨M, hM, rfl, rfl, rfl, rfl, rfl, rfl, rfl⟩, fun _ _ => rfl⟩⟩
      · obtain ⟨u0, u1, u2, u3, u4⟩ := mOut4 c10
        simp only [q_step]
        rw [if_neg u0, if_neg u1, if_neg u2, if_neg u3, if_neg u4, ite_self]


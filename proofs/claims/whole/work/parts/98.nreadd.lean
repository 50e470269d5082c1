theorem c_takes {v : xw_V} {G : xw_G} {M : md_T} {l : Nat} {w : Nat} {p : Nat} {fa sq tk bg nu wr : Int32} (hM : G 21 = pM v (md_th M) (md_no M) (md_pt M) (md_re M) (md_sd M) (md_be M) (md_pb M) (md_ac M) (md_od M) (md_ad M) (md_wy M) (md_so M) (md_rl M) (md_io M) (md_po M) (md_sp M) (md_rs M) (md_st M) (md_av M) (md_ip M) (md_tx M) (md_tm M) (md_ta M) (md_td M) (md_wo M) sq tk bg nu wr) (htd : md_td M = nI l) (hl7 : l ≤ 700) (hwo : okW (md_wo M)) (hw : w < 13) (hL : LXs (md_ta M) l p fa sq tk bg nu wr) (hp : p ≤ l) (hby : okBy (md_ta M) l) : xk_Con v yX8_takesWord cX8_takesWord 4 (some .boolean) 2 46 [.ref (xw_ad v 21 0), .int (nI w)] G (fun r9 G' => r9 = some (.int (xb (decide (fa = -1) && wIs (md_ta M) (sbk (md_ta M) l p) (wdE (md_ta M) l p) (wdS w)))) ∧ ∃ sq1 tk1 bg1 nu1 wr1 : Int32, ((decide (fa = -1) && wIs (md_ta M) (sbk (md_ta M) l p) (wdE (md_ta M) l p) (wdS w)) = true → LXs (md_ta M) l ((wdE (md_ta M) l p)) ((-1)) sq1 tk1 bg1 nu1 wr1) ∧ ((decide (fa = -1) && wIs (md_ta M) (sbk (md_ta M) l p) (wdE (md_ta M) l p) (wdS w)) = false → sq1 = sq ∧ tk1 = tk ∧ bg1 = bg ∧ nu1 = nu ∧ wr1 = wr) ∧ G' = xw_up G 21 (pM v (md_th M) (md_no M) (md_pt M) (md_re M) (md_sd M) (md_be M) (md_pb M) (md_ac M) (md_od M) (md_ad M) (md_wy M) (md_so M) (md_rl M) (md_io M) (md_po M) (md_sp M) (md_rs M) (md_st M) (md_av M) (md_ip M) (md_tx M) (md_tm M) (md_ta M) (md_td M) (md_wo M) sq1 tk1 bg1 nu1 wr1)) := by
  by_cases hfa : fa = -1
  · obtain ⟨h1, h2, h3, h4, h5⟩ := hL.1 hfa
    subst h1 h2 h3 h4
    refine xk_mono ?_ (c_takesO hM htd hl7 hwo hw hp hby)
    rintro _ _ (⟨a, rfl, nu0, rfl⟩ | ⟨a, rfl, rfl⟩)
    · rw [decide_eq_true hfa, a]
      exact ⟨rfl, _, _, _, _, _, fun _ => LXs_go, fun h => (by cases h), rfl⟩
    · rw [decide_eq_true hfa, a]
      exact ⟨rfl, _, _, _, _, _, fun h => (by cases h), fun _ => ⟨rfl, rfl, rfl, rfl, rfl⟩, (xw_up_same hM).symm⟩
  · obtain ⟨h1, h2⟩ := hL.2 hfa
    subst h1
    refine xk_mono ?_ (c_takesW (l := l) hM _)
    rintro _ _ ⟨rfl, rfl⟩
    rw [decide_eq_false hfa, Bool.false_and]
    exact ⟨rfl, _, _, _, _, _, fun h => (by cases h), fun _ => ⟨rfl, rfl, rfl, rfl, rfl⟩, (xw_up_same hM).symm⟩
theorem nI_n1 {k : Nat} (h : k < 2 ^ 31) : ¬ nI k = -1 := fun q => by
  have := nI_pos h
  rw [q] at this
  exact this (by decide)
set_option maxHeartbeats 1000000 in
set_option maxRecDepth 10000 in
theorem c_X8_needs {v : xw_V} {G : xw_G} {M : md_T} {l : Nat} {w : Nat} {p : Nat} {fa sq tk bg nu wr : Int32} (hM : G 21 = pM v (md_th M) (md_no M) (md_pt M) (md_re M) (md_sd M) (md_be M) (md_pb M) (md_ac M) (md_od M) (md_ad M) (md_wy M) (md_so M) (md_rl M) (md_io M) (md_po M) (md_sp M) (md_rs M) (md_st M) (md_av M) (md_ip M) (md_tx M) (md_tm M) (md_ta M) (md_td M) (md_wo M) sq tk bg nu wr) (htd : md_td M = nI l) (hl7 : l ≤ 700) (hwo : okW (md_wo M)) (hw : w < 13) (hL : LXs (md_ta M) l p fa sq tk bg nu wr) (hp : p ≤ l) (hby : okBy (md_ta M) l) : xk_Con v yX8_needs cX8_needs 2 none 3 69 [.ref (xw_ad v 21 0), .int (nI w)] G (fun r9 G' => r9 = none ∧ ∃ sq1 tk1 bg1 nu1 wr1 : Int32, LXs (md_ta M) l ((wdE (md_ta M) l p)) (exF (md_ta M) l p (wdS w) fa) sq1 tk1 bg1 nu1 wr1 ∧ G' = xw_up G 21 (pM v (md_th M) (md_no M) (md_pt M) (md_re M) (md_sd M) (md_be M) (md_pb M) (md_ac M) (md_od M) (md_ad M) (md_wy M) (md_so M) (md_rl M) (md_io M) (md_po M) (md_sp M) (md_rs M) (md_st M) (md_av M) (md_ip M) (md_tx M) (md_tm M) (md_ta M) (md_td M) (md_wo M) sq1 tk1 bg1 nu1 wr1)) := by
  refine xk_of (ls0 := [some (.ref (xw_ad v 21 0)), some (.int (nI w))]) (by decide) rfl (Nat.le_of_ble_eq_true rfl) ?_
  intro κ z hk hz
  refine xj_aload_n (i := 0) hk dX8_needs_0 rfl rfl ?_
  refine xj_iload_n (i := 1) hk dX8_needs_1 rfl rfl ?_
  refine xj_callVE hk hz (fr1 := 2) (lo1 := 46) (As := [.int (nI w)]) (st := []) ml_X8_277 (c_takes (M := M) (p := p) (fa := fa) (w := w) hM htd hl7 hwo hw hL hp hby) (xw_at hM rfl) rfl dX8_needs_2 ⟨Nat.le_of_ble_eq_true rfl, Nat.le_of_ble_eq_true rfl⟩ rfl (Nat.le_of_ble_eq_true rfl) rfl ?_
  rintro _ _ ⟨rfl, sq1, tk1, bg1, nu1, wr1, hT, hF, rfl⟩
  show xj v κ _ z (xw_up G 21 (pM v (md_th M) (md_no M) (md_pt M) (md_re M) (md_sd M) (md_be M) (md_pb M) (md_ac M) (md_od M) (md_ad M) (md_wy M) (md_so M) (md_rl M) (md_io M) (md_po M) (md_sp M) (md_rs M) (md_st M) (md_av M) (md_ip M) (md_tx M) (md_tm M) (md_ta M) (md_td M) (md_wo M) sq1 tk1 bg1 nu1 wr1)) 5 _ [.int (xb ((decide (fa = -1) && wIs (md_ta M) (sbk (md_ta M) l p) (wdE (md_ta M) l p) (wdS w))))]
  refine xj_ifb_ne (tgt := 13) hk dX8_needs_5 (by decide) (fun c5 => ?_) (fun c5 => ?_)
  · refine xj_return hk hz dX8_needs_13 ?_
    simp only [Bool.and_eq_true, decide_eq_true_eq] at c5
    refine ⟨rfl, _, _, _, _, _, ?_, rfl⟩
    simp only [exF]
    rw [if_pos c5.2, c5.1]
    exact hT (by rw [decide_eq_true c5.1, c5.2]; rfl)
  · refine xj_aload_n (i := 0) hk dX8_needs_8 rfl rfl ?_
    refine xj_iconst (x := 1) hk dX8_needs_9 (by decide) ?_
    refine xj_putfield (G2 := xw_up G 21 (pM v (md_th M) (md_no M) (md_pt M) (md_re M) (md_sd M) (md_be M) (md_pb M) (md_ac M) (md_od M) (md_ad M) (md_wy M) (md_so M) (md_rl M) (md_io M) (md_po M) (md_sp M) (md_rs M) (md_st M) (md_av M) (md_ip M) (md_tx M) (md_tm M) (md_ta M) (md_td M) (md_wo M) sq1 tk1 bg1 nu1 1)) hk dX8_needs_10 fl_X8_271 (by decide) (by decide) (xw_at xw_up_s rfl) (Nat.le_of_ble_eq_true rfl) (xw_wr2 rfl) ?_
    refine xj_return hk hz dX8_needs_13 ?_
    obtain ⟨q1, q2, q3, q4, q5⟩ := hF c5
    subst q1 q2 q3 q4 q5
    refine ⟨rfl, _, _, _, _, _, ?_, rfl⟩
    simp only [exF, ffa]
    by_cases hfa : fa = -1
    · have c5 : ¬ wIs (md_ta M) (sbk (md_ta M) l p) (wdE (md_ta M) l p) (wdS w) = true := fun q => by rw [decide_eq_true hfa, q] at c5; cases c5
      rw [if_neg c5, if_pos hfa]
      exact ⟨fun q => absurd q (nI_n1 (by have := (sbk_le (f := md_ta M) hp).2; omega)), fun _ => ⟨rfl, (hL.1 hfa).2.2.1⟩⟩
    · rw [if_neg hfa, ite_self]
      exact ⟨fun q => absurd q hfa, fun _ => ⟨rfl, (hL.2 hfa).2⟩⟩

set_option maxHeartbeats 1000000 in
set_option maxRecDepth 10000 in
theorem c_numW {v : xw_V} {G : xw_G} {M : md_T} {l : Nat} {sq tk bg nu : Int32} (hM : G 21 = pM v (md_th M) (md_no M) (md_pt M) (md_re M) (md_sd M) (md_be M) (md_pb M) (md_ac M) (md_od M) (md_ad M) (md_wy M) (md_so M) (md_rl M) (md_io M) (md_po M) (md_sp M) (md_rs M) (md_st M) (md_av M) (md_ip M) (md_tx M) (md_tm M) (md_ta M) (md_td M) (md_wo M) sq tk bg nu 1) (x1 x2 : Int32) : xk_Con v yX8_needsNumber cX8_needsNumber 4 (some .int) 2 46 [.ref (xw_ad v 21 0), .int x1, .int x2] G (xk_ret (some (.int x1)) (xw_up G 21 (pM v (md_th M) (md_no M) (md_pt M) (md_re M) (md_sd M) (md_be M) (md_pb M) (md_ac M) (md_od M) (md_ad M) (md_wy M) (md_so M) (md_rl M) (md_io M) (md_po M) (md_sp M) (md_rs M) (md_st M) (md_av M) (md_ip M) (md_tx M) (md_tm M) (md_ta M) (md_td M) (md_wo M) sq tk bg nu 1))) := by
  refine xk_of (ls0 := [some (.ref (xw_ad v 21 0)), some (.int x1), some (.int x2), none]) (by decide) rfl (Nat.le_of_ble_eq_true rfl) ?_
  intro κ z hk hz
  refine xj_aload_n (i := 0) hk dX8_needsNumber_0 rfl rfl ?_
  refine xj_getfield hk dX8_needsNumber_1 fl_X8_271 (xw_at hM rfl) rfl ?_
  refine xj_if_ne (tgt := 27) hk dX8_needsNumber_4 (by decide) (fun c4 => ?_) (fun c4 => False.elim (by revert c4; decide))
  refine xj_aload_n (i := 0) hk dX8_needsNumber_27 rfl rfl ?_
  refine xj_iconst (x := 1) hk dX8_needsNumber_28 (by decide) ?_
  refine xj_putfield (G2 := xw_up G 21 (pM v (md_th M) (md_no M) (md_pt M) (md_re M) (md_sd M) (md_be M) (md_pb M) (md_ac M) (md_od M) (md_ad M) (md_wy M) (md_so M) (md_rl M) (md_io M) (md_po M) (md_sp M) (md_rs M) (md_st M) (md_av M) (md_ip M) (md_tx M) (md_tm M) (md_ta M) (md_td M) (md_wo M) sq tk bg nu 1)) hk dX8_needsNumber_29 fl_X8_271 (by decide) (by decide) (xw_at hM rfl) (Nat.le_of_ble_eq_true rfl) (xw_wr hM rfl) ?_
  refine xj_iload_n (i := 1) hk dX8_needsNumber_32 rfl rfl ?_
  refine xj_ireturn hk hz dX8_needsNumber_33 ?_
  exact ⟨rfl, rfl⟩

theorem dig_let {x : Int32} (h : isDig x = true) : ¬ isLet x = true := by
  simp only [isDig, Bool.and_eq_true, Bool.not_eq_true', decide_eq_false_iff_not] at h
  simp only [isLet, Bool.and_eq_true, Bool.not_eq_true', decide_eq_false_iff_not]
  exact fun q => q.1 (Int32.lt_of_le_of_lt (Int32.not_lt.mp h.2) (by decide))
theorem okN_tk {f : Nat → Int32} {l p : Nat} {lo hi : Int32} (hp : p ≤ l) : okN f (sbk f l p) (nuE f l p) lo hi = (decide (tkN f l (sbk f l p) = 2) && mIn (nv f (sbk f l p) (run f l isDig (sbk f l p) - sbk f l p)) lo hi) := by
  have hb := (sbk_le (f := f) hp).2
  simp only [nuE]
  generalize sbk f l p = b at *
  by_cases c : tkN f l b = 2
  · obtain ⟨a1, a2, a3, a4, a5⟩ := tk_num.mp c
    have h1 := run_1 (g := isDig) a1 a3
    rw [decide_eq_true c, Bool.true_and]
    simp only [okN, mIn]
    rw [decide_eq_true h1, decide_eq_true a5, a4]
    simp only [Bool.not_false, Bool.true_and, Bool.and_true]
    by_cases d : hi < nv f b (run f l isDig b - b)
    · rw [decide_eq_true d, decide_eq_false (Int32.not_le.mpr d)]; rfl
    · rw [decide_eq_false d, decide_eq_true (Int32.not_lt.mp d)]; rfl
  · rw [decide_eq_false c, Bool.false_and, Bool.eq_false_iff]
    intro q
    simp only [okN, Bool.and_eq_true, Bool.not_eq_true', decide_eq_false_iff_not, decide_eq_true_eq] at q
    obtain ⟨⟨⟨⟨q1, q2⟩, q3⟩, q4⟩, q5⟩ := q
    have h : b < l ∧ isDig (f b) = true := by
      rcases Classical.em (b < l ∧ isDig (f b) = true) with h | h
      · exact h
      · rw [run_0 h] at q1; omega
    exact c (tk_num.mpr ⟨h.1, dig_let h.2, h.2, q3, q2⟩)
set_option maxHeartbeats 1000000 in
set_option maxRecDepth 10000 in
theorem c_numO {v : xw_V} {G : xw_G} {M : md_T} {l : Nat} {p : Nat} {nu : Int32} (hM : G 21 = pM v (md_th M) (md_no M) (md_pt M) (md_re M) (md_sd M) (md_be M) (md_pb M) (md_ac M) (md_od M) (md_ad M) (md_wy M) (md_so M) (md_rl M) (md_io M) (md_po M) (md_sp M) (md_rs M) (md_st M) (md_av M) (md_ip M) (md_tx M) (md_tm M) (md_ta M) (md_td M) (md_wo M) (nI (sqN (md_ta M) l (sbk (md_ta M) l p))) (tkN (md_ta M) l (sbk (md_ta M) l p)) (nI (sbk (md_ta M) l p)) nu 0) (htd : md_td M = nI l) (hl7 : l ≤ 700) (hp : p ≤ l) (hby : okBy (md_ta M) l) (hnu : tkN (md_ta M) l (sbk (md_ta M) l p) = 2 → nu = nv (md_ta M) (sbk (md_ta M) l p) (run (md_ta M) l isDig (sbk (md_ta M) l p) - sbk (md_ta M) l p)) (x1 x2 : Int32) : xk_Con v yX8_needsNumber cX8_needsNumber 4 (some .int) 2 46 [.ref (xw_ad v 21 0), .int x1, .int x2] G (fun r9 G' => r9 = some (.int (nuV (md_ta M) l p x1 x2)) ∧ ((okN (md_ta M) (sbk (md_ta M) l p) (nuE (md_ta M) l p) x1 x2 = true ∧ ∃ nu0 : Int32, G' = xw_up G 21 (pM v (md_th M) (md_no M) (md_pt M) (md_re M) (md_sd M) (md_be M) (md_pb M) (md_ac M) (md_od M) (md_ad M) (md_wy M) (md_so M) (md_rl M) (md_io M) (md_po M) (md_sp M) (md_rs M) (md_st M) (md_av M) (md_ip M) (md_tx M) (md_tm M) (md_ta M) (md_td M) (md_wo M) (nI (sqN (md_ta M) l (sbk (md_ta M) l (nuE (md_ta M) l p)))) (tkN (md_ta M) l (sbk (md_ta M) l (nuE (md_ta M) l p))) (nI (sbk (md_ta M) l (nuE (md_ta M) l p))) (nuN (md_ta M) l (sbk (md_ta M) l (nuE (md_ta M) l p)) nu0) 0)) ∨ (okN (md_ta M) (sbk (md_ta M) l p) (nuE (md_ta M) l p) x1 x2 = false ∧ G' = xw_up G 21 (pM v (md_th M) (md_no M) (md_pt M) (md_re M) (md_sd M) (md_be M) (md_pb M) (md_ac M) (md_od M) (md_ad M) (md_wy M) (md_so M) (md_rl M) (md_io M) (md_po M) (md_sp M) (md_rs M) (md_st M) (md_av M) (md_ip M) (md_tx M) (md_tm M) (md_ta M) (md_td M) (md_wo M) (nI (sqN (md_ta M) l (sbk (md_ta M) l p))) (tkN (md_ta M) l (sbk (md_ta M) l p)) (nI (sbk (md_ta M) l p)) nu 1)))) := by
  refine xk_of (ls0 := [some (.ref (xw_ad v 21 0)), some (.int x1), some (.int x2), none]) (by decide) rfl (Nat.le_of_ble_eq_true rfl) ?_
  intro κ z hk hz
  refine xj_aload_n (i := 0) hk dX8_needsNumber_0 rfl rfl ?_
  refine xj_getfield hk dX8_needsNumber_1 fl_X8_271 (xw_at hM rfl) rfl ?_
  refine xj_if_ne (tgt := 27) hk dX8_needsNumber_4 (by decide) (fun c4 => False.elim (by revert c4; decide)) (fun c4 => ?_)
  refine xj_aload_n (i := 0) hk dX8_needsNumber_7 rfl rfl ?_
  refine xj_getfield hk dX8_needsNumber_8 fl_X8_259 (xw_at hM rfl) rfl ?_
  refine xj_iconst (x := 2) hk dX8_needsNumber_11 (by decide) ?_
  refine xj_icmp_ne (tgt := 27) hk dX8_needsNumber_12 (by decide) (fun c12 => ?_) (fun c12 => ?_)
  · refine xj_aload_n (i := 0) hk dX8_needsNumber_27 rfl rfl ?_
    refine xj_iconst (x := 1) hk dX8_needsNumber_28 (by decide) ?_
    refine xj_putfield (G2 := xw_up G 21 (pM v (md_th M) (md_no M) (md_pt M) (md_re M) (md_sd M) (md_be M) (md_pb M) (md_ac M) (md_od M) (md_ad M) (md_wy M) (md_so M) (md_rl M) (md_io M) (md_po M) (md_sp M) (md_rs M) (md_st M) (md_av M) (md_ip M) (md_tx M) (md_tm M) (md_ta M) (md_td M) (md_wo M) (nI (sqN (md_ta M) l (sbk (md_ta M) l p))) (tkN (md_ta M) l (sbk (md_ta M) l p)) (nI (sbk (md_ta M) l p)) nu 1)) hk dX8_needsNumber_29 fl_X8_271 (by decide) (by decide) (xw_at hM rfl) (Nat.le_of_ble_eq_true rfl) (xw_wr hM rfl) ?_
    refine xj_iload_n (i := 1) hk dX8_needsNumber_32 rfl rfl ?_
    refine xj_ireturn hk hz dX8_needsNumber_33 ?_
    have hk9 := okN_tk (f := md_ta M) (lo := x1) (hi := x2) hp
    rw [decide_eq_false c12, Bool.false_and] at hk9
    refine ⟨?_, Or.inr ⟨hk9, rfl⟩⟩
    simp only [nuV]; rw [if_neg (by rw [hk9]; decide)]
  · refine xj_aload_n (i := 0) hk dX8_needsNumber_15 rfl rfl ?_
    refine xj_getfield hk dX8_needsNumber_16 fl_X8_268 (xw_at hM rfl) rfl ?_
    refine xj_iload_n (i := 1) hk dX8_needsNumber_19 rfl rfl ?_
    refine xj_iload_n (i := 2) hk dX8_needsNumber_20 rfl rfl ?_
    refine xj_callS hk hz (fr1 := 0) (lo1 := 0) (r1 := some (.int (xb (mIn nu x1 x2)))) (As := [.int nu, .int x1, .int x2]) (st := []) (st2 := [.int (xb (mIn nu x1 x2))]) (G1 := G) ml_X8_69 (c_X8_in nu x1 x2) dX8_needsNumber_21 ⟨Nat.le_of_ble_eq_true rfl, Nat.le_of_ble_eq_true rfl⟩ rfl (Nat.le_of_ble_eq_true rfl) rfl rfl ?_
    refine xj_ifb_ne (tgt := 34) hk dX8_needsNumber_24 (by decide) (fun c24 => ?_) (fun c24 => ?_)
    · have hb9 := (sbk_le (f := md_ta M) hp).2
      obtain ⟨a1, a2, a3, a4, a5⟩ := tk_num.mp c12
      have hsq : sqN (md_ta M) l (sbk (md_ta M) l p) = nuE (md_ta M) l p := by simp only [sqN, nuE]; rw [if_pos a1, if_neg a2, if_pos a3]
      have hr1 := run_1 (g := isDig) a1 a3
      have hgl : (decide (tkN (md_ta M) l (sbk (md_ta M) l p) = 1) || decide (tkN (md_ta M) l (sbk (md_ta M) l p) = 2)) = glu (md_ta M) (sqN (md_ta M) l (sbk (md_ta M) l p)) := by
        rw [hsq, show glu (md_ta M) (nuE (md_ta M) l p) = true from glu_dig hr1, decide_eq_true c12, Bool.or_true]
      have hsl := (sq_le (f := md_ta M) hb9).2
      refine xj_aload_n (i := 0) hk dX8_needsNumber_34 rfl rfl ?_
      refine xj_getfield hk dX8_needsNumber_35 fl_X8_268 (xw_at hM rfl) rfl ?_
      refine xj_istore_n (i := 3) (ls2 := [some (.ref (xw_ad v 21 0)), some (.int x1), some (.int x2), some (.int nu)]) hk dX8_needsNumber_38 rfl (by decide) rfl rfl ?_
      refine xj_aload_n (i := 0) hk dX8_needsNumber_39 rfl rfl ?_
      refine xj_callV hk hz (fr1 := 1) (lo1 := 22) (r1 := none) (As := []) (st := []) (st2 := []) (G1 := xw_up G 21 (pM v (md_th M) (md_no M) (md_pt M) (md_re M) (md_sd M) (md_be M) (md_pb M) (md_ac M) (md_od M) (md_ad M) (md_wy M) (md_so M) (md_rl M) (md_io M) (md_po M) (md_sp M) (md_rs M) (md_st M) (md_av M) (md_ip M) (md_tx M) (md_tm M) (md_ta M) (md_td M) (md_wo M) (nI (sqN (md_ta M) l (sbk (md_ta M) l (sqN (md_ta M) l (sbk (md_ta M) l p))))) (tkN (md_ta M) l (sbk (md_ta M) l (sqN (md_ta M) l (sbk (md_ta M) l p)))) (nI (sbk (md_ta M) l (sqN (md_ta M) l (sbk (md_ta M) l p)))) (nuN (md_ta M) l (sbk (md_ta M) l (sqN (md_ta M) l (sbk (md_ta M) l p))) nu) 0)) ml_X8_274 (c_X8_goesOn (p := sqN (md_ta M) l (sbk (md_ta M) l p)) (tk := tkN (md_ta M) l (sbk (md_ta M) l p)) (bg := nI (sbk (md_ta M) l p)) (nu := nu) (wr := 0) (M := M) (show G 21 = pM v (md_th M) (md_no M) (md_pt M) (md_re M) (md_sd M) (md_be M) (md_pb M) (md_ac M) (md_od M) (md_ad M) (md_wy M) (md_so M) (md_rl M) (md_io M) (md_po M) (md_sp M) (md_rs M) (md_st M) (md_av M) (md_ip M) (md_tx M) (md_tm M) (md_ta M) (md_td M) (md_wo M) (nI (sqN (md_ta M) l (sbk (md_ta M) l p))) (tkN (md_ta M) l (sbk (md_ta M) l p)) (nI (sbk (md_ta M) l p)) nu 0 from hM) htd hl7 hsl hby hgl) (xw_at hM rfl) rfl dX8_needsNumber_40 ⟨Nat.le_of_ble_eq_true rfl, Nat.le_of_ble_eq_true rfl⟩ rfl (Nat.le_of_ble_eq_true rfl) rfl rfl ?_
      refine xj_iload_n (i := 3) hk dX8_needsNumber_43 rfl rfl ?_
      refine xj_ireturn hk hz dX8_needsNumber_44 ?_
      have hk9 := okN_tk (f := md_ta M) (lo := x1) (hi := x2) hp
      rw [decide_eq_true c12, Bool.true_and, ← hnu c12, c24] at hk9
      refine ⟨?_, Or.inl ⟨hk9, nu, ?_⟩⟩
      · simp only [nuV]; rw [if_pos hk9, hnu c12]; rfl
      · rw [hsq]
    · refine xj_aload_n (i := 0) hk dX8_needsNumber_27 rfl rfl ?_
      refine xj_iconst (x := 1) hk dX8_needsNumber_28 (by decide) ?_
      refine xj_putfield (G2 := xw_up G 21 (pM v (md_th M) (md_no M) (md_pt M) (md_re M) (md_sd M) (md_be M) (md_pb M) (md_ac M) (md_od M) (md_ad M) (md_wy M) (md_so M) (md_rl M) (md_io M) (md_po M) (md_sp M) (md_rs M) (md_st M) (md_av M) (md_ip M) (md_tx M) (md_tm M) (md_ta M) (md_td M) (md_wo M) (nI (sqN (md_ta M) l (sbk (md_ta M) l p))) (tkN (md_ta M) l (sbk (md_ta M) l p)) (nI (sbk (md_ta M) l p)) nu 1)) hk dX8_needsNumber_29 fl_X8_271 (by decide) (by decide) (xw_at hM rfl) (Nat.le_of_ble_eq_true rfl) (xw_wr hM rfl) ?_
      refine xj_iload_n (i := 1) hk dX8_needsNumber_32 rfl rfl ?_
      refine xj_ireturn hk hz dX8_needsNumber_33 ?_
      have hk9 := okN_tk (f := md_ta M) (lo := x1) (hi := x2) hp
      rw [decide_eq_true c12, Bool.true_and, ← hnu c12, c24] at hk9
      refine ⟨?_, Or.inr ⟨hk9, rfl⟩⟩
      simp only [nuV]; rw [if_neg (by rw [hk9]; decide)]

theorem c_num {v : xw_V} {G : xw_G} {M : md_T} {l : Nat} {p : Nat} {fa sq tk bg nu wr : Int32} (hM : G 21 = pM v (md_th M) (md_no M) (md_pt M) (md_re M) (md_sd M) (md_be M) (md_pb M) (md_ac M) (md_od M) (md_ad M) (md_wy M) (md_so M) (md_rl M) (md_io M) (md_po M) (md_sp M) (md_rs M) (md_st M) (md_av M) (md_ip M) (md_tx M) (md_tm M) (md_ta M) (md_td M) (md_wo M) sq tk bg nu wr) (htd : md_td M = nI l) (hl7 : l ≤ 700) (hL : LXs (md_ta M) l p fa sq tk bg nu wr) (hp : p ≤ l) (hby : okBy (md_ta M) l) (x1 x2 : Int32) : xk_Con v yX8_needsNumber cX8_needsNumber 4 (some .int) 2 46 [.ref (xw_ad v 21 0), .int x1, .int x2] G (fun r9 G' => r9 = some (.int (if fa = -1 then nuV (md_ta M) l p x1 x2 else x1)) ∧ ∃ sq1 tk1 bg1 nu1 wr1 : Int32, LXs (md_ta M) l ((nuE (md_ta M) l p)) ((nuF (md_ta M) l p x1 x2 fa)) sq1 tk1 bg1 nu1 wr1 ∧ G' = xw_up G 21 (pM v (md_th M) (md_no M) (md_pt M) (md_re M) (md_sd M) (md_be M) (md_pb M) (md_ac M) (md_od M) (md_ad M) (md_wy M) (md_so M) (md_rl M) (md_io M) (md_po M) (md_sp M) (md_rs M) (md_st M) (md_av M) (md_ip M) (md_tx M) (md_tm M) (md_ta M) (md_td M) (md_wo M) sq1 tk1 bg1 nu1 wr1)) := by
  by_cases hfa : fa = -1
  · obtain ⟨h1, h2, h3, h4, h5⟩ := hL.1 hfa
    subst h1 h2 h3 h4
    refine xk_mono ?_ (c_numO hM htd hl7 hp hby h5 x1 x2)
    rintro _ _ ⟨rfl, ⟨a, nu0, rfl⟩ | ⟨a, rfl⟩⟩
    · rw [if_pos hfa]
      refine ⟨rfl, _, _, _, _, _, ?_, rfl⟩
      simp only [nuF]
      rw [if_pos a, hfa]
      exact LXs_go
    · rw [if_pos hfa]
      refine ⟨rfl, _, _, _, _, _, ?_, rfl⟩
      simp only [nuF, ffa]
      rw [if_neg (by rw [a]; decide), if_pos hfa]
      exact ⟨fun q => absurd q (nI_n1 (by have := (sbk_le (f := md_ta M) hp).2; omega)), fun _ => ⟨rfl, rfl⟩⟩
  · obtain ⟨h1, h2⟩ := hL.2 hfa
    subst h1
    refine xk_mono ?_ (c_numW (l := l) hM x1 x2)
    rintro _ _ ⟨rfl, rfl⟩
    rw [if_neg hfa]
    refine ⟨rfl, _, _, _, _, _, ?_, rfl⟩
    simp only [nuF, ffa]
    rw [if_neg hfa, ite_self]
    exact ⟨fun q => absurd q hfa, fun _ => ⟨rfl, h2⟩⟩

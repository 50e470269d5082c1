theorem mQ_rf {v : xw_V} {G : xw_G} {N : Nat → Int32} {M : md_T} (h : MS v G N M) : mQ v G G N M := ⟨⟨M, h, rfl, rfl, rfl, rfl, rfl, rfl, rfl⟩, fun _ _ => rfl⟩
theorem LI_act {v : xw_V} {G1 G2 : xw_G} {B B' C : bk_T} {n r e a l n' r' : Nat} {K : Nat → bk_T} {t : tp_T} {M : md_T} {te ho ow hs ra lo st av so te' ho' ow' hs' ra' lo' st' av' so' be1 N' : Nat → Int32} {pt' pb1 : Nat → Int64} (hX1 : XB v G1 B' n' r' ((e + 1) % 12) (min 12 (a + 1)) (xu K e C) t l) (hok : okB B n r) (he : eqB n B (mBL te ho ow hs ra lo n st av so (md_pt M) r)) (hl : eqL r B (mBL te ho ow hs ra lo n st av so (md_pt M) r)) (hV : VB te ho ow hs ra lo n r) (hC : EQB n B C) (he12 : e < 12) (ha12 : a ≤ 12) (hP : PB K e a (md_be M) (md_pb M)) (hT : TA t l (md_ta M) (md_td M) (md_wo M)) (hK : KP a (nR te ho ow hs ra lo (nI n) st av so (nI r)) (md_be M) (md_pt M) (md_pb M) be1 pb1) (he' : eqB n' B' (mBL te' ho' ow' hs' ra' lo' n' st' av' so' pt' r')) (hl' : eqL r' B' (mBL te' ho' ow' hs' ra' lo' n' st' av' so' pt' r')) (hV' : VB te' ho' ow' hs' ra' lo' n' r') (hN : N' = nR te' ho' ow' hs' ra' lo' (nI n') st' av' so' (nI r')) (hQ : mAc v G1 G2 N' pt' be1 pb1 (nI (min a 11 + 1)) (md_ta M) (md_td M) (md_wo M)) : LI v G2 :=
  LI_c hX1 hN he' hl' hV' (PB_keep hP he12 ha12 ⟨hok, te, ho, ow, hs, ra, lo, st, av, so, he, hl, hV, fun _ _ => rfl⟩ hC hK) (by rw [show min a 11 + 1 = min 12 (a + 1) by omega]) hT hQ
theorem tfit_0 {te : Nat → Int32} {w v : Int32} (c : tfit te w v = true) : 0 ≤ w := by
  simp only [tfit] at c
  by_cases d : w < 0
  · rw [if_pos d] at c; cases c
  · exact Int32.not_lt.mp d
theorem ow_ok {ow : Nat → Int32} {k : Nat} {x : Int32} (h : okOw ow) (hx : xi x (xn x) 8) : okOw (xu ow k x) := fun j hj => by
  by_cases c : j = k
  · subst c; rw [xu_s]; exact hx
  · rw [xu_n c]; exact h j hj
theorem ho_ok {ho : Nat → Int32} {k : Nat} {x : Int32} (h : vH ho) (hx : mIn x 0 9999 = true) : vH (xu ho k x) := fun j hj => by
  simp only [mIn, Bool.and_eq_true, Bool.not_eq_true', decide_eq_false_iff_not] at hx
  by_cases c : j = k
  · subst c; rw [xu_s]; exact ⟨Int32.not_lt.mp hx.1, Int32.not_lt.mp hx.2⟩
  · rw [xu_n c]; exact h j hj
theorem sp_of {n : Nat} {ra lo : Nat → Int32} {b q : Int32} (hn : n ≤ 30) (hl : vL ra lo n) (h : mcSplit n lo b q = true) : xn b < n ∧ n < 30 ∧ 1 ≤ q ∧ q < lo (xn b) := by
  simp only [mcSplit, Bool.and_eq_true, Bool.not_eq_true', decide_eq_false_iff_not] at h
  obtain ⟨⟨h1, h2⟩, h3⟩ := h
  rw [mIn_bid hn] at h1
  have hb := hasB_xn hn h1
  have e := lt_m1 (x := q) (hl _ hb).2.1 (hl _ hb).2.2
  simp only [mIn, Bool.and_eq_true, Bool.not_eq_true', decide_eq_false_iff_not] at h3
  refine ⟨hb, by omega, Int32.not_lt.mp h3.1, ?_⟩
  rw [decide_eq_false h3.2] at e
  exact of_decide_eq_true e
theorem p_bid {v : xw_V} {G : xw_G} (hI : LI v G) (h : Int32) (x : Int32) (q : Int32) : xk_Con v yX7_bid cX7_bid 5 (some .int) 3 66 [.ref (xw_ad v 0 0), .int h, .int x, .int q] G (fun r9 G1 => ∃ x9 : Int32, r9 = some (.int x9) ∧ mO G1 ∧ xk_Con v yX8_bid cX8_bid 4 (some .int) 2 42 [.ref (xw_ad v 21 0), .int h, .int x, .int q] G1 (fun r9 G2 => r9 = some (.int x9) ∧ LI v G2)) := by
  obtain ⟨B, n, r, e, a, l, K, t, M, te, ho, ow, hs, ra, lo, st, av, so, hX, hM, he, hl, hV, hP, hac, hT⟩ := hI
  have hok := hX.1
  have hn := hok.2.1
  have okw := hok.2.2.1
  have okh := hok.2.2.2.1
  have hm : eqB n B (mB te ho ow hs ra lo n) := he
  have hag := kR_eq hm okw okh
  have he12 := hX.2.1
  have ha12 := hX.2.2.1
  have ev := e_bid hn h x q
  refine xk_mono ?_ (c_X7_bid hX h x q)
  rintro _ G1 (⟨hc, C, hC, rfl, hX1, hF1⟩ | ⟨hc, rfl, hX1, hF1⟩)
  · have hd := ev ▸ hc
    refine ⟨_, rfl, mO_of (MS_f hF1 hM), xk_mono ?_ (c_X8_bid (MS_f hF1 hM) hn hac ha12 h x q)⟩
    rintro _ G2 (⟨hd2, be1, pb1, hK, rfl, rfl⟩ | ⟨hd2, rfl, rfl⟩)
    · have hMV := hV.1
      refine ⟨rfl, LI_act hX1 hok he hl hV hC he12 ha12 hP hT hK (bid_eqB he h x q _ _) hl (⟨bid_MV hMV hd, hV.2⟩) rfl ⟨⟨(md_th M, nR te ho ow (xu hs n h) (xu ra n x) (xu lo n q) (nI (n + 1)) st av so (nI r), md_pt M, md_re M, md_sd M, be1, pb1, nI (min a 11 + 1), md_od M, md_ad M, md_wy M, md_so M, md_rl M, md_io M, md_po M, md_sp M, md_rs M, md_st M, md_av M, md_ip M, md_tx M, md_tm M, md_ta M, md_td M, md_wo M, md_sq M, md_tk M, md_bg M, md_nu M, md_wr M), xw_up_s, rfl, rfl, rfl, rfl, rfl, rfl, rfl⟩, fun g h => xw_up_n h⟩⟩
    · exact absurd (hd.symm.trans hd2) (by decide)
  · have hd := ev ▸ hc
    refine ⟨_, rfl, mO_of (MS_f hF1 hM), xk_mono ?_ (c_X8_bid (MS_f hF1 hM) hn hac ha12 h x q)⟩
    rintro _ G2 (⟨hd2, be1, pb1, hK, rfl, rfl⟩ | ⟨hd2, rfl, rfl⟩)
    · exact absurd (hd.symm.trans hd2) (by decide)
    · exact ⟨rfl, LI_q hX1 he hl hV hP hac hT (mQ_rf (MS_f hF1 hM))⟩
theorem p_withdraw {v : xw_V} {G : xw_G} (hI : LI v G) (b : Int32) : xk_Con v yX7_withdraw cX7_withdraw 2 (some .boolean) 3 66 [.ref (xw_ad v 0 0), .int b] G (fun r9 G1 => ∃ x9 : Int32, r9 = some (.int x9) ∧ mO G1 ∧ xk_Con v yX8_withdraw cX8_withdraw 2 (some .boolean) 3 68 [.ref (xw_ad v 21 0), .int b] G1 (fun r9 G2 => r9 = some (.int x9) ∧ LI v G2)) := by
  obtain ⟨B, n, r, e, a, l, K, t, M, te, ho, ow, hs, ra, lo, st, av, so, hX, hM, he, hl, hV, hP, hac, hT⟩ := hI
  have hok := hX.1
  have hn := hok.2.1
  have okw := hok.2.2.1
  have okh := hok.2.2.2.1
  have hm : eqB n B (mB te ho ow hs ra lo n) := he
  have hag := kR_eq hm okw okh
  have he12 := hX.2.1
  have ha12 := hX.2.2.1
  have ev := (show hasB (bk_bi B) b = mIn b 0 (nI n - 1) from by rw [hok.1, mIn_bid hn])
  refine xk_mono ?_ (c_X7_withdraw hX b)
  rintro _ G1 (⟨hc, C, hC, rfl, hX1, hF1⟩ | ⟨hc, rfl, hX1, hF1⟩)
  · have hd := ev ▸ hc
    refine ⟨_, rfl, mO_of (MS_f hF1 hM), xk_mono ?_ (c_X8_withdraw (MS_f hF1 hM) hn hac ha12 b)⟩
    rintro _ G2 (⟨hd2, be1, pb1, hK, rfl, rfl⟩ | ⟨hd2, rfl, rfl⟩)
    · have hMV := hV.1
      refine ⟨rfl, LI_act hX1 hok he hl hV hC he12 ha12 hP hT hK (rm_eq he _ _) hl (⟨MV_rm hMV, hV.2⟩) rfl ⟨⟨(md_th M, nR te ho ow (shD (xn b) (n - 1) hs) (shD (xn b) (n - 1) ra) (shD (xn b) (n - 1) lo) (nI (n - 1)) st av so (nI r), md_pt M, md_re M, md_sd M, be1, pb1, nI (min a 11 + 1), md_od M, md_ad M, md_wy M, md_so M, md_rl M, md_io M, md_po M, md_sp M, md_rs M, md_st M, md_av M, md_ip M, md_tx M, md_tm M, md_ta M, md_td M, md_wo M, md_sq M, md_tk M, md_bg M, md_nu M, md_wr M), xw_up_s, rfl, rfl, rfl, rfl, rfl, rfl, rfl⟩, fun g h => xw_up_n h⟩⟩
    · exact absurd (hd.symm.trans hd2) (by decide)
  · have hd := ev ▸ hc
    refine ⟨_, rfl, mO_of (MS_f hF1 hM), xk_mono ?_ (c_X8_withdraw (MS_f hF1 hM) hn hac ha12 b)⟩
    rintro _ G2 (⟨hd2, be1, pb1, hK, rfl, rfl⟩ | ⟨hd2, rfl, rfl⟩)
    · exact absurd (hd.symm.trans hd2) (by decide)
    · exact ⟨rfl, LI_q hX1 he hl hV hP hac hT (mQ_rf (MS_f hF1 hM))⟩
theorem p_term {v : xw_V} {G : xw_G} (hI : LI v G) (w1 : Int32) (v1 : Int32) : xk_Con v yX7_term cX7_term 4 (some .int) 3 66 [.ref (xw_ad v 0 0), .int w1, .int v1] G (fun r9 G1 => ∃ x9 : Int32, r9 = some (.int x9) ∧ mO G1 ∧ xk_Con v yX8_term cX8_term 3 (some .int) 2 44 [.ref (xw_ad v 21 0), .int w1, .int v1] G1 (fun r9 G2 => r9 = some (.int x9) ∧ LI v G2)) := by
  obtain ⟨B, n, r, e, a, l, K, t, M, te, ho, ow, hs, ra, lo, st, av, so, hX, hM, he, hl, hV, hP, hac, hT⟩ := hI
  have hok := hX.1
  have hn := hok.2.1
  have okw := hok.2.2.1
  have okh := hok.2.2.2.1
  have hm : eqB n B (mB te ho ow hs ra lo n) := he
  have hag := kR_eq hm okw okh
  have he12 := hX.2.1
  have ha12 := hX.2.2.1
  have ev := e_term hm hV.1.2.2.2.1 w1 v1
  refine xk_mono ?_ (c_X7_term hX w1 v1)
  rintro _ G1 (⟨hc, C, hC, rfl, hX1, hF1⟩ | ⟨hc, rfl, hX1, hF1⟩)
  · have hd := ev ▸ hc
    refine ⟨_, rfl, mO_of (MS_f hF1 hM), xk_mono ?_ (c_X8_term (MS_f hF1 hM) hn hac ha12 w1 v1)⟩
    rintro _ G2 (⟨hd2, be1, pb1, hK, rfl, rfl⟩ | ⟨hd2, rfl, rfl⟩)
    · have hMV := hV.1
      have hd9 : mcTerm te w1 v1 = true := hd
      simp only [mcTerm, Bool.and_eq_true] at hd9
      have ht : tfit te w1 v1 = true := by rw [← mayB_t hV.1.2.2.2.1]; exact hd9.1
      have h7 := tfit_7 ht
      have h0 := tfit_0 ht
      refine ⟨congrArg (fun x => some (Value.int x)) (hm.1 _ h7).symm, LI_act hX1 hok he hl hV hC he12 ha12 hP hT hK (eqB_wte he _ _) hl (⟨MV_te h7 hMV (by rw [← nI_xn h0]; exact ht), hV.2⟩) rfl ⟨⟨(md_th M, nR (xu te (xn w1) v1) ho ow hs ra lo (nI n) st av so (nI r), md_pt M, md_re M, md_sd M, be1, pb1, nI (min a 11 + 1), md_od M, md_ad M, md_wy M, md_so M, md_rl M, md_io M, md_po M, md_sp M, md_rs M, md_st M, md_av M, md_ip M, md_tx M, md_tm M, md_ta M, md_td M, md_wo M, md_sq M, md_tk M, md_bg M, md_nu M, md_wr M), xw_up_s, rfl, rfl, rfl, rfl, rfl, rfl, rfl⟩, fun g h => xw_up_n h⟩⟩
    · exact absurd (hd.symm.trans hd2) (by decide)
  · have hd := ev ▸ hc
    refine ⟨_, rfl, mO_of (MS_f hF1 hM), xk_mono ?_ (c_X8_term (MS_f hF1 hM) hn hac ha12 w1 v1)⟩
    rintro _ G2 (⟨hd2, be1, pb1, hK, rfl, rfl⟩ | ⟨hd2, rfl, rfl⟩)
    · exact absurd (hd.symm.trans hd2) (by decide)
    · exact ⟨rfl, LI_q hX1 he hl hV hP hac hT (mQ_rf (MS_f hF1 hM))⟩
theorem p_own {v : xw_V} {G : xw_G} (hI : LI v G) (h : Int32) (x : Int32) : xk_Con v yX7_own cX7_own 4 (some .int) 3 66 [.ref (xw_ad v 0 0), .int h, .int x] G (fun r9 G1 => ∃ x9 : Int32, r9 = some (.int x9) ∧ mO G1 ∧ xk_Con v yX8_own cX8_own 3 (some .int) 2 44 [.ref (xw_ad v 21 0), .int h, .int x] G1 (fun r9 G2 => r9 = some (.int x9) ∧ LI v G2)) := by
  obtain ⟨B, n, r, e, a, l, K, t, M, te, ho, ow, hs, ra, lo, st, av, so, hX, hM, he, hl, hV, hP, hac, hT⟩ := hI
  have hok := hX.1
  have hn := hok.2.1
  have okw := hok.2.2.1
  have okh := hok.2.2.2.1
  have hm : eqB n B (mB te ho ow hs ra lo n) := he
  have hag := kR_eq hm okw okh
  have he12 := hX.2.1
  have ha12 := hX.2.2.1
  have ev := e_own hm h x
  refine xk_mono ?_ (c_X7_own hX h x)
  rintro _ G1 (⟨hc, C, hC, rfl, hX1, hF1⟩ | ⟨hc, rfl, hX1, hF1⟩)
  · have hd := ev ▸ hc
    refine ⟨_, rfl, mO_of (MS_f hF1 hM), xk_mono ?_ (c_X8_own (MS_f hF1 hM) hn hac ha12 h x)⟩
    rintro _ G2 (⟨hd2, be1, pb1, hK, rfl, rfl⟩ | ⟨hd2, rfl, rfl⟩)
    · have hMV := hV.1
      have hd9 : mcOwn ow h x = true := hd
      simp only [mcOwn, Bool.and_eq_true] at hd9
      obtain ⟨⟨q1, q2⟩, -⟩ := hd9
      rw [mIn_isH] at q1 q2
      have h8 := isH_xn q1
      have hx := isH_xi q2
      refine ⟨congrArg (fun x => some (Value.int x)) ((hm.2.1 _ h8).2).symm, LI_act hX1 hok he hl hV hC he12 ha12 hP hT hK (eqB_wow he (fun j hj => xu_cg (fun _ => (he.2.1 j hj).2))) hl (⟨⟨hMV.1, ow_ok hMV.2.1 hx, hMV.2.2⟩, hV.2⟩) rfl ⟨⟨(md_th M, nR te ho (xu ow (xn h) x) hs ra lo (nI n) st av so (nI r), md_pt M, md_re M, md_sd M, be1, pb1, nI (min a 11 + 1), md_od M, md_ad M, md_wy M, md_so M, md_rl M, md_io M, md_po M, md_sp M, md_rs M, md_st M, md_av M, md_ip M, md_tx M, md_tm M, md_ta M, md_td M, md_wo M, md_sq M, md_tk M, md_bg M, md_nu M, md_wr M), xw_up_s, rfl, rfl, rfl, rfl, rfl, rfl, rfl⟩, fun g h => xw_up_n h⟩⟩
    · exact absurd (hd.symm.trans hd2) (by decide)
  · have hd := ev ▸ hc
    refine ⟨_, rfl, mO_of (MS_f hF1 hM), xk_mono ?_ (c_X8_own (MS_f hF1 hM) hn hac ha12 h x)⟩
    rintro _ G2 (⟨hd2, be1, pb1, hK, rfl, rfl⟩ | ⟨hd2, rfl, rfl⟩)
    · exact absurd (hd.symm.trans hd2) (by decide)
    · exact ⟨rfl, LI_q hX1 he hl hV hP hac hT (mQ_rf (MS_f hF1 hM))⟩
theorem p_hold {v : xw_V} {G : xw_G} (hI : LI v G) (h : Int32) (q : Int32) : xk_Con v yX7_hold cX7_hold 4 (some .int) 3 66 [.ref (xw_ad v 0 0), .int h, .int q] G (fun r9 G1 => ∃ x9 : Int32, r9 = some (.int x9) ∧ mO G1 ∧ xk_Con v yX8_hold cX8_hold 3 (some .int) 2 44 [.ref (xw_ad v 21 0), .int h, .int q] G1 (fun r9 G2 => r9 = some (.int x9) ∧ LI v G2)) := by
  obtain ⟨B, n, r, e, a, l, K, t, M, te, ho, ow, hs, ra, lo, st, av, so, hX, hM, he, hl, hV, hP, hac, hT⟩ := hI
  have hok := hX.1
  have hn := hok.2.1
  have okw := hok.2.2.1
  have okh := hok.2.2.2.1
  have hm : eqB n B (mB te ho ow hs ra lo n) := he
  have hag := kR_eq hm okw okh
  have he12 := hX.2.1
  have ha12 := hX.2.2.1
  have ev := e_hold hm h q
  refine xk_mono ?_ (c_X7_hold hX h q)
  rintro _ G1 (⟨hc, C, hC, rfl, hX1, hF1⟩ | ⟨hc, rfl, hX1, hF1⟩)
  · have hd := ev ▸ hc
    refine ⟨_, rfl, mO_of (MS_f hF1 hM), xk_mono ?_ (c_X8_hold (MS_f hF1 hM) hn hac ha12 h q)⟩
    rintro _ G2 (⟨hd2, be1, pb1, hK, rfl, rfl⟩ | ⟨hd2, rfl, rfl⟩)
    · have hMV := hV.1
      have hd9 : mcHold ho h q = true := hd
      simp only [mcHold, Bool.and_eq_true] at hd9
      obtain ⟨⟨q1, q2⟩, -⟩ := hd9
      rw [mIn_isH] at q1
      have h8 := isH_xn q1
      refine ⟨congrArg (fun x => some (Value.int x)) ((hm.2.1 _ h8).1).symm, LI_act hX1 hok he hl hV hC he12 ha12 hP hT hK (eqB_who he (fun j hj => xu_cg (fun _ => (he.2.1 j hj).1))) hl (⟨hMV, ho_ok hV.2.1 q2, hV.2.2⟩) rfl ⟨⟨(md_th M, nR te (xu ho (xn h) q) ow hs ra lo (nI n) st av so (nI r), md_pt M, md_re M, md_sd M, be1, pb1, nI (min a 11 + 1), md_od M, md_ad M, md_wy M, md_so M, md_rl M, md_io M, md_po M, md_sp M, md_rs M, md_st M, md_av M, md_ip M, md_tx M, md_tm M, md_ta M, md_td M, md_wo M, md_sq M, md_tk M, md_bg M, md_nu M, md_wr M), xw_up_s, rfl, rfl, rfl, rfl, rfl, rfl, rfl⟩, fun g h => xw_up_n h⟩⟩
    · exact absurd (hd.symm.trans hd2) (by decide)
  · have hd := ev ▸ hc
    refine ⟨_, rfl, mO_of (MS_f hF1 hM), xk_mono ?_ (c_X8_hold (MS_f hF1 hM) hn hac ha12 h q)⟩
    rintro _ G2 (⟨hd2, be1, pb1, hK, rfl, rfl⟩ | ⟨hd2, rfl, rfl⟩)
    · exact absurd (hd.symm.trans hd2) (by decide)
    · exact ⟨rfl, LI_q hX1 he hl hV hP hac hT (mQ_rf (MS_f hF1 hM))⟩
theorem p_split {v : xw_V} {G : xw_G} (hI : LI v G) (b : Int32) (q : Int32) : xk_Con v yX7_split cX7_split 3 (some .boolean) 3 66 [.ref (xw_ad v 0 0), .int b, .int q] G (fun r9 G1 => ∃ x9 : Int32, r9 = some (.int x9) ∧ mO G1 ∧ xk_Con v yX8_split cX8_split 4 (some .boolean) 3 68 [.ref (xw_ad v 21 0), .int b, .int q] G1 (fun r9 G2 => r9 = some (.int x9) ∧ LI v G2)) := by
  obtain ⟨B, n, r, e, a, l, K, t, M, te, ho, ow, hs, ra, lo, st, av, so, hX, hM, he, hl, hV, hP, hac, hT⟩ := hI
  have hok := hX.1
  have hn := hok.2.1
  have okw := hok.2.2.1
  have okh := hok.2.2.2.1
  have hm : eqB n B (mB te ho ow hs ra lo n) := he
  have hag := kR_eq hm okw okh
  have he12 := hX.2.1
  have ha12 := hX.2.2.1
  have ev := e_split hm hok.1 hn hV.1.2.2.2.2 b q
  refine xk_mono ?_ (c_X7_split hX b q)
  rintro _ G1 (⟨hc, C, hC, rfl, hX1, hF1⟩ | ⟨hc, rfl, hX1, hF1⟩)
  · have hd := ev ▸ hc
    refine ⟨_, rfl, mO_of (MS_f hF1 hM), xk_mono ?_ (c_X8_split (MS_f hF1 hM) hn hac ha12 b q)⟩
    rintro _ G2 (⟨hd2, be1, pb1, hK, rfl, rfl⟩ | ⟨hd2, rfl, rfl⟩)
    · have hMV := hV.1
      obtain ⟨hb, h30, q1, q2⟩ := sp_of hn hV.1.2.2.2.2 hd
      refine ⟨rfl, LI_act hX1 hok he hl hV hC he12 ha12 hP hT hK (sp_eqB he hb _ _) hl (⟨sp_MV hMV h30 hb q1 q2, hV.2⟩) (by rw [sp_row, sp_row]; rfl) ⟨⟨(md_th M, nR te ho ow (xu (xu (shU (xn b + 1) n hs) (xn b + 1) (shU (xn b + 1) n hs (xn b))) (xn b) (xu (shU (xn b + 1) n hs) (xn b + 1) (shU (xn b + 1) n hs (xn b)) (xn b))) (xu (xu (shU (xn b + 1) n ra) (xn b + 1) (shU (xn b + 1) n ra (xn b))) (xn b) (xu (shU (xn b + 1) n ra) (xn b + 1) (shU (xn b + 1) n ra (xn b)) (xn b))) (xu (xu (shU (xn b + 1) n lo) (xn b + 1) (lo (xn b) - q)) (xn b) q) (nI (n + 1)) st av so (nI r), md_pt M, md_re M, md_sd M, be1, pb1, nI (min a 11 + 1), md_od M, md_ad M, md_wy M, md_so M, md_rl M, md_io M, md_po M, md_sp M, md_rs M, md_st M, md_av M, md_ip M, md_tx M, md_tm M, md_ta M, md_td M, md_wo M, md_sq M, md_tk M, md_bg M, md_nu M, md_wr M), xw_up_s, rfl, rfl, rfl, rfl, rfl, rfl, rfl⟩, fun g h => xw_up_n h⟩⟩
    · exact absurd (hd.symm.trans hd2) (by decide)
  · have hd := ev ▸ hc
    refine ⟨_, rfl, mO_of (MS_f hF1 hM), xk_mono ?_ (c_X8_split (MS_f hF1 hM) hn hac ha12 b q)⟩
    rintro _ G2 (⟨hd2, be1, pb1, hK, rfl, rfl⟩ | ⟨hd2, rfl, rfl⟩)
    · exact absurd (hd.symm.trans hd2) (by decide)
    · exact ⟨rfl, LI_q hX1 he hl hV hP hac hT (mQ_rf (MS_f hF1 hM))⟩
theorem p_move {v : xw_V} {G : xw_G} (hI : LI v G) (b : Int32) (x : Int32) : xk_Con v yX7_move cX7_move 6 (some .boolean) 3 66 [.ref (xw_ad v 0 0), .int b, .int x] G (fun r9 G1 => ∃ x9 : Int32, r9 = some (.int x9) ∧ mO G1 ∧ xk_Con v yX8_move cX8_move 6 (some .boolean) 3 68 [.ref (xw_ad v 21 0), .int b, .int x] G1 (fun r9 G2 => r9 = some (.int x9) ∧ LI v G2)) := by
  obtain ⟨B, n, r, e, a, l, K, t, M, te, ho, ow, hs, ra, lo, st, av, so, hX, hM, he, hl, hV, hP, hac, hT⟩ := hI
  have hok := hX.1
  have hn := hok.2.1
  have okw := hok.2.2.1
  have okh := hok.2.2.2.1
  have hm : eqB n B (mB te ho ow hs ra lo n) := he
  have hag := kR_eq hm okw okh
  have he12 := hX.2.1
  have ha12 := hX.2.2.1
  have ev := e_move hok.1 hn b x
  refine xk_mono ?_ (c_X7_move hX b x)
  rintro _ G1 (⟨hc, C, hC, rfl, hX1, hF1⟩ | ⟨hc, rfl, hX1, hF1⟩)
  · have hd := ev ▸ hc
    refine ⟨_, rfl, mO_of (MS_f hF1 hM), xk_mono ?_ (c_X8_move (MS_f hF1 hM) hn hac ha12 b x)⟩
    rintro _ G2 (⟨hd2, be1, pb1, hK, rfl, rfl⟩ | ⟨hd2, rfl, rfl⟩)
    · have hMV := hV.1
      have hd9 : mcMove n b x = true := hd
      simp only [mcMove, Bool.and_eq_true] at hd9
      rw [mIn_bid hn, mIn_bid hn] at hd9
      have hb := hasB_xn hn hd9.1.1
      have hx := hasB_xn hn hd9.1.2
      refine ⟨rfl, LI_act hX1 hok he hl hV hC he12 ha12 hP hT hK (mv_eqB he hb hx _ _) hl (⟨mv_MV hMV hn (fun j hj => by obtain ⟨c, hc, e9⟩ := mv_at hb hx hj; exact ⟨c, hc, e9 hs, e9 ra, e9 lo⟩), hV.2⟩) (by rw [show n - 1 + 1 = n by omega]; rfl) ⟨⟨(md_th M, nR te ho ow (xu (shU (xn x) (n - 1) (shD (xn b) (n - 1) hs)) (xn x) (hs (xn b))) (xu (shU (xn x) (n - 1) (shD (xn b) (n - 1) ra)) (xn x) (ra (xn b))) (xu (shU (xn x) (n - 1) (shD (xn b) (n - 1) lo)) (xn x) (lo (xn b))) (nI (n - 1 + 1)) st av so (nI r), md_pt M, md_re M, md_sd M, be1, pb1, nI (min a 11 + 1), md_od M, md_ad M, md_wy M, md_so M, md_rl M, md_io M, md_po M, md_sp M, md_rs M, md_st M, md_av M, md_ip M, md_tx M, md_tm M, md_ta M, md_td M, md_wo M, md_sq M, md_tk M, md_bg M, md_nu M, md_wr M), xw_up_s, rfl, rfl, rfl, rfl, rfl, rfl, rfl⟩, fun g h => xw_up_n h⟩⟩
    · exact absurd (hd.symm.trans hd2) (by decide)
  · have hd := ev ▸ hc
    refine ⟨_, rfl, mO_of (MS_f hF1 hM), xk_mono ?_ (c_X8_move (MS_f hF1 hM) hn hac ha12 b x)⟩
    rintro _ G2 (⟨hd2, be1, pb1, hK, rfl, rfl⟩ | ⟨hd2, rfl, rfl⟩)
    · exact absurd (hd.symm.trans hd2) (by decide)
    · exact ⟨rfl, LI_q hX1 he hl hV hP hac hT (mQ_rf (MS_f hF1 hM))⟩

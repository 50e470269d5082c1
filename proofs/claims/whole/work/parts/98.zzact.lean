theorem mac_of {v : xw_V} {G G' : xw_G} {a_th : Int32} {a_no : Nat → Int32} {a_pt : Nat → Int64} {a_re : Nat → Int32} {a_sd : Nat → Int32} {a_be : Nat → Int32} {a_pb : Nat → Int64} {a_ac : Int32} {a_od : Nat → Int32} {a_ad : Nat → Int32} {a_wy : Nat → Int32} {a_so : Nat → Int32} {a_rl : Nat → Int32} {a_io : Nat → Int32} {a_po : Int32} {a_sp : Int32} {a_rs : Int32} {a_st : Int32} {a_av : Int32} {a_ip : Int32} {a_tx : Nat → Int32} {a_tm : Int32} {a_ta : Nat → Int32} {a_td : Int32} {a_wo : Nat → Int32} {a_sq : Int32} {a_tk : Int32} {a_bg : Int32} {a_nu : Int32} {a_wr : Int32} (h : G' = xw_up G 21 (pM v a_th a_no a_pt a_re a_sd a_be a_pb a_ac a_od a_ad a_wy a_so a_rl a_io a_po a_sp a_rs a_st a_av a_ip a_tx a_tm a_ta a_td a_wo a_sq a_tk a_bg a_nu a_wr)) : mAc v G G' a_no a_pt a_be a_pb a_ac a_ta a_td a_wo := by
  subst h
  exact ⟨⟨(a_th, a_no, a_pt, a_re, a_sd, a_be, a_pb, a_ac, a_od, a_ad, a_wy, a_so, a_rl, a_io, a_po, a_sp, a_rs, a_st, a_av, a_ip, a_tx, a_tm, a_ta, a_td, a_wo, a_sq, a_tk, a_bg, a_nu, a_wr), xw_up_s, rfl, rfl, rfl, rfl, rfl, rfl, rfl⟩, fun g h => xw_up_n h⟩
theorem MS_pc {v : xw_V} {G : xw_G} {N : Nat → Int32} {M : md_T} (h : MS v G N M) : ∃ M1 : md_T, G 21 = pc_M v M1 ∧ md_no M1 = N ∧ md_pt M1 = md_pt M ∧ md_be M1 = md_be M ∧ md_pb M1 = md_pb M ∧ md_ac M1 = md_ac M ∧ md_ta M1 = md_ta M ∧ md_td M1 = md_td M ∧ md_wo M1 = md_wo M := by
  obtain ⟨a_th, a_no, a_pt, a_re, a_sd, a_be, a_pb, a_ac, a_od, a_ad, a_wy, a_so, a_rl, a_io, a_po, a_sp, a_rs, a_st, a_av, a_ip, a_tx, a_tm, a_ta, a_td, a_wo, a_sq, a_tk, a_bg, a_nu, a_wr⟩ := M
  exact ⟨(a_th, N, a_pt, a_re, a_sd, a_be, a_pb, a_ac, a_od, a_ad, a_wy, a_so, a_rl, a_io, a_po, a_sp, a_rs, a_st, a_av, a_ip, a_tx, a_tm, a_ta, a_td, a_wo, a_sq, a_tk, a_bg, a_nu, a_wr), h, rfl, rfl, rfl, rfl, rfl, rfl, rfl, rfl⟩
theorem p_change {v : xw_V} {G : xw_G} (hI : LI v G) (b : Int32) (w1 : Int32) (v1 : Int32) : xk_Con v yX7_change cX7_change 4 (some .int) 4 89 [.ref (xw_ad v 0 0), .int b, .int w1, .int v1] G (fun r9 G1 => ∃ x9 : Int32, r9 = some (.int x9) ∧ mO G1 ∧ xk_Con v yX8_change cX8_change 5 (some .int) 2 44 [.ref (xw_ad v 21 0), .int b, .int w1, .int v1] G1 (fun r9 G2 => r9 = some (.int x9) ∧ LI v G2)) := by
  obtain ⟨B, n, r, e, a, l, K, t, M, te, ho, ow, hs, ra, lo, st, av, so, hX, hM, he, hl, hV, hP, hac, hT⟩ := hI
  have hok := hX.1
  have hn := hok.2.1
  have okw := hok.2.2.1
  have okh := hok.2.2.2.1
  have hm : eqB n B (mB te ho ow hs ra lo n) := he
  have hag := kR_eq hm okw okh
  have he12 := hX.2.1
  have ha12 := hX.2.2.1
  have ev := e_ch hm hok.1 hn b w1 v1
  refine xk_mono ?_ (c_X7_change hX b w1 v1)
  rintro _ G1 (⟨hc, C, hC, rfl, hX1, hF1⟩ | ⟨hc, rfl, hX1, hF1⟩)
  · have hd : mcCh n ra lo b w1 v1 = true := ev ▸ hc
    have hb : xn b < n := by
      simp only [canCh, Bool.and_eq_true] at hc
      have := hc.1
      rw [hok.1] at this
      exact hasB_xn hn this
    refine ⟨_, rfl, mO_of (MS_f hF1 hM), xk_mono ?_ (c_X8_change (MS_f hF1 hM) hn hac ha12 b w1 v1)⟩
    rintro _ G2 (⟨hd2, hw, be1, pb1, hK, rfl, rfl⟩ | ⟨hd2, hw, be1, pb1, hK, rfl, rfl⟩ | ⟨hd2, rfl, rfl⟩)
    · subst hw
      have q : mIn v1 1 1000 = true := by
        simp only [mcCh, mcChL, if_true, Bool.and_eq_true] at hd
        exact hd.1.2
      refine ⟨?_, LI_act hX1 hok he hl hV hC he12 ha12 hP hT hK (eqB_wlo he _ _) hl ⟨MV_lo hV.1 q, hV.2⟩ rfl ⟨⟨(md_th M, nR te ho ow hs ra (xu lo (xn b) v1) (nI n) st av so (nI r), md_pt M, md_re M, md_sd M, be1, pb1, nI (min a 11 + 1), md_od M, md_ad M, md_wy M, md_so M, md_rl M, md_io M, md_po M, md_sp M, md_rs M, md_st M, md_av M, md_ip M, md_tx M, md_tm M, md_ta M, md_td M, md_wo M, md_sq M, md_tk M, md_bg M, md_nu M, md_wr M), xw_up_s, rfl, rfl, rfl, rfl, rfl, rfl, rfl⟩, fun g h => xw_up_n h⟩⟩
      show some (Value.int (lo (xn b))) = some (Value.int (bk_lo B (xn b)))
      rw [(hm.2.2 _ hb).2.2]; rfl
    · have q : mIn v1 0 999 = true := by
        simp only [mcCh, mcChR] at hd
        rw [if_neg hw] at hd
        by_cases w : w1 = 1
        · rw [if_pos w] at hd
          simp only [Bool.and_eq_true] at hd
          exact hd.1.2
        · rw [if_neg w] at hd; cases hd
      have eb : bk_ch B b w1 v1 = bk_wra B (xu (bk_ra B) (xn b) v1) := by simp only [bk_ch]; rw [if_neg hw]; rfl
      rw [eb] at hX1
      refine ⟨?_, LI_act hX1 hok he hl hV hC he12 ha12 hP hT hK (eqB_wra he _ _) hl ⟨MV_ra hV.1 q, hV.2⟩ rfl ⟨⟨(md_th M, nR te ho ow hs (xu ra (xn b) v1) lo (nI n) st av so (nI r), md_pt M, md_re M, md_sd M, be1, pb1, nI (min a 11 + 1), md_od M, md_ad M, md_wy M, md_so M, md_rl M, md_io M, md_po M, md_sp M, md_rs M, md_st M, md_av M, md_ip M, md_tx M, md_tm M, md_ta M, md_td M, md_wo M, md_sq M, md_tk M, md_bg M, md_nu M, md_wr M), xw_up_s, rfl, rfl, rfl, rfl, rfl, rfl, rfl⟩, fun g h => xw_up_n h⟩⟩
      simp only [chWas]
      rw [if_neg hw, (hm.2.2 _ hb).2.1]; rfl
    · exact absurd (hd.symm.trans hd2) (by decide)
  · have hd : mcCh n ra lo b w1 v1 = false := ev ▸ hc
    refine ⟨_, rfl, mO_of (MS_f hF1 hM), xk_mono ?_ (c_X8_change (MS_f hF1 hM) hn hac ha12 b w1 v1)⟩
    rintro _ G2 (⟨hd2, hw, be1, pb1, hK, rfl, rfl⟩ | ⟨hd2, hw, be1, pb1, hK, rfl, rfl⟩ | ⟨hd2, rfl, rfl⟩)
    · exact absurd (hd.symm.trans hd2) (by decide)
    · exact absurd (hd.symm.trans hd2) (by decide)
    · exact ⟨rfl, LI_q hX1 he hl hV hP hac hT (mQ_rf (MS_f hF1 hM))⟩
theorem okB_u {B : bk_T} {n r n' r' : Nat} (h : okB B n r) (h' : okB B n' r') : n = n' ∧ r = r' := by
  obtain ⟨a1, a2, -, -, a5, a6⟩ := h
  obtain ⟨b1, b2, -, -, b5, b6⟩ := h'
  exact ⟨(nI_eq (by omega) (by omega)).mp (a1.symm.trans b1), (nI_eq (by omega) (by omega)).mp (a5.symm.trans b5)⟩
theorem p_undo {v : xw_V} {G : xw_G} (hI : LI v G) : xk_Con v yX7_undo cX7_undo 1 (some .int) 3 67 [.ref (xw_ad v 0 0)] G (fun r9 G1 => ∃ x9 : Int32, r9 = some (.int x9) ∧ mO G1 ∧ xk_Con v yX8_undo cX8_undo 2 (some .int) 0 0 [.ref (xw_ad v 21 0)] G1 (fun r9 G2 => r9 = some (.int x9) ∧ LI v G2)) := by
  obtain ⟨B, n, r, e, a, l, K, t, M, te, ho, ow, hs, ra, lo, st, av, so, hX, hM, he, hl, hV, hP, hac, hT⟩ := hI
  have hok := hX.1
  have hn := hok.2.1
  have okw := hok.2.2.1
  have okh := hok.2.2.2.1
  have hm : eqB n B (mB te ho ow hs ra lo n) := he
  have hag := kR_eq hm okw okh
  have he12 := hX.2.1
  have ha12 := hX.2.2.1
  refine xk_mono ?_ (c_X7_undo hX)
  rintro _ G1 (⟨h1, rfl, n1, r1, C, hok1, hC, hX1, hF1⟩ | ⟨h0, rfl, hX1, hF1⟩)
  · obtain ⟨M1, hM1, e1, e2, e3, e4, e5, e6, e7, e8⟩ := MS_pc (MS_f hF1 hM)
    refine ⟨_, rfl, mO_of (MS_f hF1 hM), xk_mono ?_ (c_X8_undo (M := M1) hM1 (e5.trans hac) ha12)⟩
    rintro _ G2 (⟨-, rfl, hG⟩ | ⟨h0, -, -⟩)
    · have hQ := mac_of hG
      rw [e1, e2, e3, e4, e6, e7, e8] at hQ
      obtain ⟨⟨nj, rj, hR⟩, hP2⟩ := PB_undo hP he12 ha12 h1
      obtain ⟨q1, q2⟩ := okB_u hok1 hR.1
      subst q1 q2
      obtain ⟨ok9, te', ho', ow', hs', ra', lo', st', av', so', he', hl', hV', hN'⟩ := RB_N (N' := cpN 139 (fun i => md_be M (139 * (a - 1) + i)) (nR te ho ow hs ra lo (nI n) st av so (nI r))) (pt' := cpN 8 (fun i => md_pb M (8 * (a - 1) + i)) (md_pt M)) (fun k hk => if_pos hk) (fun k hk => if_pos hk) (RB_C hR hC)
      refine ⟨rfl, LI_c hX1 (te := te') (ho := ho') (ow := ow') (hs := hs') (ra := ra') (lo := lo') (st := st') (av := av') (so := so') ?_ he' hl' hV' hP2 rfl hT hQ⟩
      funext x
      by_cases q : x < 139
      · exact hN' x q
      · rw [show cpN 139 (fun i => md_be M (139 * (a - 1) + i)) (nR te ho ow hs ra lo (nI n) st av so (nI r)) x = (nR te ho ow hs ra lo (nI n) st av so (nI r)) x from if_neg q, nR_hi (by omega), nR_hi (by omega)]
    · omega
  · obtain ⟨M1, hM1, e1, e2, e3, e4, e5, e6, e7, e8⟩ := MS_pc (MS_f hF1 hM)
    refine ⟨_, rfl, mO_of (MS_f hF1 hM), xk_mono ?_ (c_X8_undo (M := M1) hM1 (e5.trans hac) ha12)⟩
    rintro _ G2 (⟨h1, -, -⟩ | ⟨-, rfl, rfl⟩)
    · omega
    · exact ⟨rfl, LI_q hX1 he hl hV hP hac hT (mQ_rf (MS_f hF1 hM))⟩
theorem p_feed {v : xw_V} {G : xw_G} (hI : LI v G) (x1 : Int32) (x2 : Int32) (x3 : Int32) (x4 : Int32) (x5 : Int32) : xk_Con v yX7_feed cX7_feed 6 (some .int) 1 22 [.ref (xw_ad v 0 0), .int x1, .int x2, .int x3, .int x4, .int x5] G (fun r9 G1 => ∃ x9 : Int32, r9 = some (.int x9) ∧ mO G1 ∧ xk_Con v yX8_feed cX8_feed 8 (some .int) 0 0 [.ref (xw_ad v 21 0), .int x1, .int x2, .int x3, .int x4, .int x5] G1 (fun r9 G2 => r9 = some (.int x9) ∧ LI v G2)) := by
  obtain ⟨B, n, r, e, a, l, K, t, M, te, ho, ow, hs, ra, lo, st, av, so, hX, hM, he, hl, hV, hP, hac, hT⟩ := hI
  have hok := hX.1
  have hn := hok.2.1
  have okw := hok.2.2.1
  have okh := hok.2.2.2.1
  have hm : eqB n B (mB te ho ow hs ra lo n) := he
  have hag := kR_eq hm okw okh
  have he12 := hX.2.1
  have ha12 := hX.2.2.1
  have hl7 := hX.2.2.2.2.1
  refine xk_mono ?_ (c_X7_feed hX x1 x2 x3 x4 x5)
  rintro _ G1 (⟨h20, rfl, hX1, hF1⟩ | ⟨h20, rfl, hX1, hF1⟩)
  · refine ⟨_, rfl, mO_of (MS_f hF1 hM), xk_mono ?_ (c_X8_feed (MS_f hF1 hM) hT.1 hl7 x1 x2 x3 x4 x5)⟩
    rintro _ G2 (⟨-, rfl, hQ⟩ | ⟨q, -, -⟩)
    · refine ⟨rfl, LI_c hX1 rfl he hl hV hP hac ⟨rfl, ?_, feed_nn hT.2.2.1, hT.2.2.2⟩ hQ⟩
      show ad4 _ _ _ = _
      rw [feed_eq, hT.2.1]
    · exact absurd h20 q
  · refine ⟨_, rfl, mO_of (MS_f hF1 hM), xk_mono ?_ (c_X8_feed (MS_f hF1 hM) hT.1 hl7 x1 x2 x3 x4 x5)⟩
    rintro _ G2 (⟨q, -, -⟩ | ⟨-, rfl, hQ⟩)
    · exact absurd q h20
    · exact ⟨rfl, LI_q hX1 he hl hV hP hac hT hQ⟩
theorem p_back {v : xw_V} {G : xw_G} (hI : LI v G) (x : Int32) : xk_Con v yX7_back cX7_back 2 (some .int) 0 0 [.ref (xw_ad v 0 0), .int x] G (fun r9 G1 => ∃ x9 : Int32, r9 = some (.int x9) ∧ mO G1 ∧ xk_Con v yX8_back cX8_back 2 (some .int) 1 22 [.ref (xw_ad v 21 0), .int x] G1 (fun r9 G2 => r9 = some (.int x9) ∧ LI v G2)) := by
  obtain ⟨B, n, r, e, a, l, K, t, M, te, ho, ow, hs, ra, lo, st, av, so, hX, hM, he, hl, hV, hP, hac, hT⟩ := hI
  have hok := hX.1
  have hn := hok.2.1
  have okw := hok.2.2.1
  have okh := hok.2.2.2.1
  have hm : eqB n B (mB te ho ow hs ra lo n) := he
  have hag := kR_eq hm okw okh
  have he12 := hX.2.1
  have ha12 := hX.2.2.1
  have hl7 := hX.2.2.2.2.1
  refine xk_mono ?_ (c_X7_back hX x)
  rintro _ G1 (⟨hc, rfl, hX1, hF1⟩ | ⟨hc, rfl, hX1, hF1⟩)
  · obtain ⟨M1, hM1, e1, e2, e3, e4, e5, e6, e7, e8⟩ := MS_pc (MS_f hF1 hM)
    refine ⟨_, rfl, mO_of (MS_f hF1 hM), xk_mono ?_ (c_X8_back (M := M1) hM1 (e7.trans hT.1) hl7 x)⟩
    rintro _ G2 (⟨-, rfl, hG⟩ | ⟨q, -, -⟩)
    · have hQ := mac_of hG
      rw [e1, e2, e3, e4, e5, e6, e8] at hQ
      exact ⟨rfl, LI_c hX1 rfl he hl hV hP hac ⟨rfl, hT.2.1, hT.2.2.1, hT.2.2.2⟩ hQ⟩
    · rw [mIn_l, hc] at q; cases q
  · obtain ⟨M1, hM1, e1, e2, e3, e4, e5, e6, e7, e8⟩ := MS_pc (MS_f hF1 hM)
    refine ⟨_, rfl, mO_of (MS_f hF1 hM), xk_mono ?_ (c_X8_back (M := M1) hM1 (e7.trans hT.1) hl7 x)⟩
    rintro _ G2 (⟨q, -, -⟩ | ⟨-, rfl, rfl⟩)
    · rw [mIn_l, hc] at q; cases q
    · exact ⟨rfl, LI_q hX1 he hl hV hP hac hT (mQ_rf (MS_f hF1 hM))⟩
theorem p_settle {v : xw_V} {G : xw_G} (hI : LI v G) : xk_Con v yX7_settle cX7_settle 4 (some .int) 6 137 [.ref (xw_ad v 0 0)] G (fun r9 G1 => ∃ x9 : Int32, r9 = some (.int x9) ∧ mO G1 ∧ xk_Con v yX8_settle cX8_settle 6 (some .int) 4 89 [.ref (xw_ad v 21 0)] G1 (fun r9 G2 => r9 = some (.int x9) ∧ LI v G2)) := by
  obtain ⟨B, n, r, e, a, l, K, t, M, te, ho, ow, hs, ra, lo, st, av, so, hX, hM, he, hl, hV, hP, hac, hT⟩ := hI
  have hok := hX.1
  have hn := hok.2.1
  have okw := hok.2.2.1
  have okh := hok.2.2.2.1
  have hm : eqB n B (mB te ho ow hs ra lo n) := he
  have hag := kR_eq hm okw okh
  have he12 := hX.2.1
  have ha12 := hX.2.2.1
  refine xk_mono ?_ (c_X7_settle hX)
  rintro _ G1 (⟨hn0, C, hC, rfl, hX1, hF1⟩ | ⟨hn0, rfl, hX1, hF1⟩)
  · refine ⟨_, rfl, mO_of (MS_f hF1 hM), xk_mono ?_ (c_X8_settle (MS_f hF1 hM) hV.1 hV.2.2 hac ha12)⟩
    rintro _ G2 (⟨-, be1, pb1, hK, rfl, hQ⟩ | ⟨q, -, -⟩)
    · have hr8 := hV.2.2
      have e9 : min 8 (r + 1) = min r 7 + 1 := by omega
      rw [e9] at hX1
      have g1 : sl_st (kR B n) = sl_st (kM te ho ow hs ra lo n) := agS_st hag
      have g2 : sl_av (kR B n) = sl_av (kM te ho ow hs ra lo n) := agS_av hag
      have g3 : sl_sp (kR B n) = sl_sp (kM te ho ow hs ra lo n) := agS_sp hag
      have g4 : sl_sr (kR B n) = sl_sr (kM te ho ow hs ra lo n) := agS_sr hag
      have g5 : sml (payF B (kR B n)) n = sml (payF (mB te ho ow hs ra lo n) (kM te ho ow hs ra lo n)) n := pa_eq hm.symm hag
      refine ⟨by rw [g3, g4], LI_act hX1 hok he hl hV hC he12 ha12 hP hT hK ⟨he.1, fun h hh => ⟨set_ho hm hag hh, (he.2.1 h hh).2⟩, fun b hb => absurd hb (Nat.not_lt_zero b)⟩ (fun k hk => ⟨?_, ?_, ?_, ?_⟩) ⟨⟨Nat.zero_le 30, hV.1.2.1, fun b hb => absurd hb (Nat.not_lt_zero b), hV.1.2.2.2.1, fun b hb => absurd hb (Nat.not_lt_zero b)⟩, set_vH hV.1 hV.2.1, by omega⟩ rfl hQ⟩
      · rw [← g1]; exact set_line (x := sl_st (kR B n)) hr8 (fun k hk => (hl k hk).1) hk
      · rw [← g2]; exact set_line (x := sl_av (kR B n)) hr8 (fun k hk => (hl k hk).2.1) hk
      · rw [← g3, ← g4]; exact set_line (x := sl_sp (kR B n) + sl_sr (kR B n)) hr8 (fun k hk => (hl k hk).2.2.1) hk
      · rw [← g5]; exact set_line (x := sml (payF B (kR B n)) n) hr8 (fun k hk => (hl k hk).2.2.2) hk
    · exact absurd q hn0
  · refine ⟨_, rfl, mO_of (MS_f hF1 hM), xk_mono ?_ (c_X8_settle (MS_f hF1 hM) hV.1 hV.2.2 hac ha12)⟩
    rintro _ G2 (⟨q, -⟩ | ⟨-, rfl, hQ⟩)
    · exact absurd hn0 q
    · exact ⟨rfl, LI_q hX1 he hl hV hP hac hT hQ⟩
theorem MV_cl {te ow hs ra lo lo' : Nat → Int32} {n : Nat} (hq : MV te ow hs ra lo n) (h : ∀ j, j < n → lo' j = lo j) : MV te ow hs ra lo' n := ⟨hq.1, hq.2.1, hq.2.2.1, hq.2.2.2.1, fun b hb => by rw [h b hb]; exact hq.2.2.2.2 b hb⟩
theorem p_merge {v : xw_V} {G : xw_G} (hI : LI v G) (h : Int32) : xk_Con v yX7_merge cX7_merge 3 (some .int) 3 66 [.ref (xw_ad v 0 0), .int h] G (fun r9 G1 => ∃ x9 : Int32, r9 = some (.int x9) ∧ mO G1 ∧ xk_Con v yX8_merge cX8_merge 6 (some .int) 3 68 [.ref (xw_ad v 21 0), .int h] G1 (fun r9 G2 => r9 = some (.int x9) ∧ LI v G2)) := by
  obtain ⟨B, n, r, e, a, l, K, t, M, te, ho, ow, hs, ra, lo, st, av, so, hX, hM, he, hl, hV, hP, hac, hT⟩ := hI
  have hok := hX.1
  have hn := hok.2.1
  have okw := hok.2.2.1
  have okh := hok.2.2.2.1
  have hm : eqB n B (mB te ho ow hs ra lo n) := he
  have hag := kR_eq hm okw okh
  have he12 := hX.2.1
  have ha12 := hX.2.2.1
  have jq : bdag (bd_jn h n (bk_bd B n)) (bd_jn h n (n, hs, ra, lo)) := jn_ag (h := h) (bd_of hm) (Nat.le_refl n)
  refine xk_mono ?_ (c_X7_merge hX h)
  rintro _ G1 (⟨h1, h2, C, hC, D, hD, rfl, hX1, hF1⟩ | ⟨h1, rfl, hX1, hF1⟩)
  · refine ⟨_, rfl, mO_of (MS_f hF1 hM), xk_mono ?_ (c_X8_merge (MS_f hF1 hM) hV.1 hac ha12 h)⟩
    rintro _ G2 (⟨-, -, be1, pb1, l9, hK, hl9, rfl, hQ⟩ | ⟨q, -, -⟩)
    · have hr8 := hV.2.2
      have hD1 := hD.1
      have hD3 := hD.2.2.1
      have j2 := jq.2
      rw [jq.1] at hX1 hD1 j2
      refine ⟨by rw [jq.1], LI_act hX1 hok he hl hV hC he12 ha12 hP hT hK (hD1.symm.tr ⟨he.1, he.2.1, fun j hj => ⟨(j2 j hj).1, (j2 j hj).2.1, (j2 j hj).2.2.trans (hl9 j hj).symm⟩⟩) (fun k hk => ?_) ⟨MV_cl (MV_jn n (n, hs, ra, lo) (Nat.le_refl n) hV.1) hl9, hV.2⟩ rfl hQ⟩
      obtain ⟨a1, a2, a3, a4⟩ := hD3 k (by omega)
      rw [← a1, ← a2, ← a3, ← a4]
      exact hl k hk
    · exfalso
      rcases q with q | q
      · rw [h1] at q; cases q
      · exact h2 (by rw [jq.1]; exact q)
  · refine ⟨_, rfl, mO_of (MS_f hF1 hM), xk_mono ?_ (c_X8_merge (MS_f hF1 hM) hV.1 hac ha12 h)⟩
    rintro _ G2 (⟨q1, q2, -⟩ | ⟨-, rfl, hQ⟩)
    · exfalso
      rcases h1 with q | q
      · rw [q1] at q; cases q
      · exact q2 (by rw [← jq.1]; exact q)
    · exact ⟨rfl, LI_q hX1 he hl hV hP hac hT hQ⟩
theorem p_text {v : xw_V} {G : xw_G} (hI : LI v G) : xk_Con v yX7_text cX7_text 2 (some .int) 10 214 [.ref (xw_ad v 0 0)] G (fun r9 G1 => ∃ x9 : Int32, r9 = some (.int x9) ∧ mO G1 ∧ xk_Con v yX8_text cX8_text 2 (some .int) 6 135 [.ref (xw_ad v 21 0)] G1 (fun r9 G2 => r9 = some (.int x9) ∧ LI v G2)) := by
  obtain ⟨B, n, r, e, a, l, K, t, M, te, ho, ow, hs, ra, lo, st, av, so, hX, hM, he, hl, hV, hP, hac, hT⟩ := hI
  have hok := hX.1
  have hn := hok.2.1
  have okw := hok.2.2.1
  have okh := hok.2.2.2.1
  have hm : eqB n B (mB te ho ow hs ra lo n) := he
  have hag := kR_eq hm okw okh
  have he12 := hX.2.1
  have ha12 := hX.2.2.1
  have hl7 := hX.2.2.2.2.1
  have hby : okBy (md_ta M) l := fun j _ => hT.2.2.1 j
  refine xk_mono ?_ (c_X7_text hX)
  rw [hT.2.1]
  rintro _ G1 ⟨A, ⟨h1, D, hD, rfl, hX1, hF1⟩ | ⟨h1, rfl, hX1, hF1⟩⟩
  · obtain ⟨p1, p2, p3, p4⟩ := LP_cg (f := md_ta M) (l := l) A
    obtain ⟨-, o1, o2, o3, o4, o5, o6, o7, o8⟩ := LPM_ok (f := md_ta M) hl7
    have hD1 := hD.1
    rw [p3] at hD1 hX1 p4
    refine ⟨_, rfl, mO_of (MS_f hF1 hM), xk_mono ?_ (c_X8_text (MS_f hF1 hM) hT.1 hl7 hT.2.2.2 hby)⟩
    rintro _ G2 (⟨q, rfl, hQ⟩ | ⟨q, -, -⟩)
    · exact ⟨by rw [p3], LI_c (r := 0) hX1 rfl (hD1.symm.tr p4) (fun k hk => absurd hk (Nat.not_lt_zero k)) ⟨⟨o2, o3, o4, o5, o6⟩, o7, Nat.zero_le 8⟩ PB_0 rfl ⟨rfl, rfl, hT.2.2.1, hT.2.2.2⟩ hQ⟩
    · exact absurd (p2.symm.trans h1) q
  · obtain ⟨p1, p2, p3, p4⟩ := LP_cg (f := md_ta M) (l := l) A
    refine ⟨_, rfl, mO_of (MS_f hF1 hM), xk_mono ?_ (c_X8_text (MS_f hF1 hM) hT.1 hl7 hT.2.2.2 hby)⟩
    rintro _ G2 (⟨q, -, -⟩ | ⟨q, rfl, hQ⟩)
    · exact absurd (p2.trans q) h1
    · exact ⟨by rw [p2], LI_c hX1 rfl he hl hV hP hac ⟨rfl, rfl, hT.2.2.1, hT.2.2.2⟩ hQ⟩

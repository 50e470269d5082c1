set_option maxHeartbeats 1000000 in
set_option maxRecDepth 10000 in
theorem c_X8_of {v : xw_V} {G : xw_G} {M : md_T} {te ho ow hs ra lo st av so : Nat → Int32} {ln : Int32} {n : Nat} (hM : G 21 = pM v (md_th M) (nR te ho ow hs ra lo (nI n) st av so ln) (md_pt M) (md_re M) (md_sd M) (md_be M) (md_pb M) (md_ac M) (md_od M) (md_ad M) (md_wy M) (md_so M) (md_rl M) (md_io M) (md_po M) (md_sp M) (md_rs M) (md_st M) (md_av M) (md_ip M) (md_tx M) (md_tm M) (md_ta M) (md_td M) (md_wo M) (md_sq M) (md_tk M) (md_bg M) (md_nu M) (md_wr M)) (hq : MV te ow hs ra lo n) (b : Int32) (w : Int32) : xk_Con v yX8_of cX8_of 3 (some .int) 4 89 [.ref (xw_ad v 21 0), .int b, .int w] G (fun r9 G' => r9 = some (.int (q_of (mB te ho ow hs ra lo n) (kM te ho ow hs ra lo n) b w)) ∧ mQ v G G' (nR te ho ow hs ra lo (nI n) st av so ln) M) := by
  refine xk_of (ls0 := [some (.ref (xw_ad v 21 0)), some (.int b), some (.int w)]) (by decide) rfl (Nat.le_of_ble_eq_true rfl) ?_
  intro κ z hk hz
  have hn30 : n ≤ 30 := hq.1
  refine xj_aload_n (i := 0) hk dX8_of_0 rfl rfl ?_
  refine xj_iload_n (i := 1) hk dX8_of_1 rfl rfl ?_
  refine xj_callV hk hz (fr1 := 1) (lo1 := 22) (r1 := some (.int (xb (mIn b 0 ((nI n) - 1))))) (As := [.int b]) (st := []) (st2 := [.int (xb (mIn b 0 ((nI n) - 1)))]) (G1 := G) ml_X8_108 (c_X8_isBid (M := M) (show G 21 = pM v (md_th M) (nR te ho ow hs ra lo (nI n) st av so ln) (md_pt M) (md_re M) (md_sd M) (md_be M) (md_pb M) (md_ac M) (md_od M) (md_ad M) (md_wy M) (md_so M) (md_rl M) (md_io M) (md_po M) (md_sp M) (md_rs M) (md_st M) (md_av M) (md_ip M) (md_tx M) (md_tm M) (md_ta M) (md_td M) (md_wo M) (md_sq M) (md_tk M) (md_bg M) (md_nu M) (md_wr M) from hM) b) (xw_at hM rfl) rfl dX8_of_2 ⟨Nat.le_of_ble_eq_true rfl, Nat.le_of_ble_eq_true rfl⟩ rfl (Nat.le_of_ble_eq_true rfl) rfl rfl ?_
  refine xj_ifb_eq (tgt := 17) hk dX8_of_5 (by decide) (fun c5 => ?_) (fun c5 => ?_)
  · refine xj_iconst (x := (-1)) hk dX8_of_17 (by decide) ?_
    refine xj_ireturn hk hz dX8_of_18 ?_
    refine ⟨?_, ⟨⟨M, hM, rfl, rfl, rfl, rfl, rfl, rfl, rfl⟩, fun _ _ => rfl⟩⟩
    · rw [show q_of (mB te ho ow hs ra lo n) (kM te ho ow hs ra lo n) b w = -1 from by simp only [q_of]; rw [show hasB (bk_bi (mB te ho ow hs ra lo n)) b = false from hb_f hn30 c5]; rfl]
  · obtain ⟨j, hj_j, rfl⟩ := hasB_of (n := n) rfl hn30 (by rw [← mIn_bid hn30]; exact c5)
    refine xj_iload_n (i := 2) hk dX8_of_8 rfl rfl ?_
    refine xj_iconst (x := 0) hk dX8_of_9 (by decide) ?_
    refine xj_iconst (x := 5) hk dX8_of_10 (by decide) ?_
    refine xj_callS hk hz (fr1 := 0) (lo1 := 0) (r1 := some (.int (xb (mIn w 0 5)))) (As := [.int w, .int 0, .int 5]) (st := []) (st2 := [.int (xb (mIn w 0 5))]) (G1 := G) ml_X8_69 (c_X8_in w 0 5) dX8_of_11 ⟨Nat.le_of_ble_eq_true rfl, Nat.le_of_ble_eq_true rfl⟩ rfl (Nat.le_of_ble_eq_true rfl) rfl rfl ?_
    refine xj_ifb_ne (tgt := 19) hk dX8_of_14 (by decide) (fun c14 => ?_) (fun c14 => ?_)
    · refine xj_aload_n (i := 0) hk dX8_of_19 rfl rfl ?_
      refine xj_callVE hk hz (fr1 := 3) (lo1 := 65) (As := []) (st := []) ml_X8_174 (c_sellsK (n := n) (M := M) (show G 21 = pM v (md_th M) (nR te ho ow hs ra lo (nI n) st av so ln) (md_pt M) (md_re M) (md_sd M) (md_be M) (md_pb M) (md_ac M) (md_od M) (md_ad M) (md_wy M) (md_so M) (md_rl M) (md_io M) (md_po M) (md_sp M) (md_rs M) (md_st M) (md_av M) (md_ip M) (md_tx M) (md_tm M) (md_ta M) (md_td M) (md_wo M) (md_sq M) (md_tk M) (md_bg M) (md_nu M) (md_wr M) from hM) hq) (xw_at hM rfl) rfl dX8_of_20 ⟨Nat.le_of_ble_eq_true rfl, Nat.le_of_ble_eq_true rfl⟩ rfl (Nat.le_of_ble_eq_true rfl) rfl ?_
      rintro _ _ ⟨rfl, od, ad, wy, rl, so3, io3, hag, rfl⟩
      have hag : agS n (sl_w (kM te ho ow hs ra lo n) od ad wy so3) (kM te ho ow hs ra lo n) := hag
      show xj v κ _ z (xw_up G 21 (pM v (md_th M) (nR te ho ow hs ra lo (nI n) st av so ln) (md_pt M) (md_re M) (md_sd M) (md_be M) (md_pb M) (md_ac M) od ad wy so3 rl io3 (sl_po (kM te ho ow hs ra lo n)) (sl_sp (kM te ho ow hs ra lo n)) (sl_rs (kM te ho ow hs ra lo n)) (sl_st (kM te ho ow hs ra lo n)) (sl_av (kM te ho ow hs ra lo n)) (sl_pt (kM te ho ow hs ra lo n)) (md_tx M) (md_tm M) (md_ta M) (md_td M) (md_wo M) (md_sq M) (md_tk M) (md_bg M) (md_nu M) (md_wr M))) 23 _ []
      refine xj_iload_n (i := 2) hk dX8_of_23 rfl rfl ?_
      by_cases s24_0 : w = 0
      · refine xj_swIn (tgt := 60) (off := 36) hk dX8_of_24 (by rw [s24_0]; decide) (by rw [s24_0]; decide) (by rw [s24_0]; decide) (by decide) ?_
        refine xj_aload_n (i := 0) hk dX8_of_60 rfl rfl ?_
        refine xj_iload_n (i := 1) hk dX8_of_61 rfl rfl ?_
        refine xj_callV hk hz (fr1 := 0) (lo1 := 0) (r1 := some (.int (hs j))) (As := [.int (nI j)]) (st := []) (st2 := [.int (hs j)]) (G1 := xw_up G 21 (pM v (md_th M) (nR te ho ow hs ra lo (nI n) st av so ln) (md_pt M) (md_re M) (md_sd M) (md_be M) (md_pb M) (md_ac M) od ad wy so3 rl io3 (sl_po (kM te ho ow hs ra lo n)) (sl_sp (kM te ho ow hs ra lo n)) (sl_rs (kM te ho ow hs ra lo n)) (sl_st (kM te ho ow hs ra lo n)) (sl_av (kM te ho ow hs ra lo n)) (sl_pt (kM te ho ow hs ra lo n)) (md_tx M) (md_tm M) (md_ta M) (md_td M) (md_wo M) (md_sq M) (md_tk M) (md_bg M) (md_nu M) (md_wr M))) ml_X8_81 (c_X8_houseOf (b := j) (M := (md_th M, nR te ho ow hs ra lo (nI n) st av so ln, md_pt M, md_re M, md_sd M, md_be M, md_pb M, md_ac M, od, ad, wy, so3, rl, io3, sl_po (kM te ho ow hs ra lo n), sl_sp (kM te ho ow hs ra lo n), sl_rs (kM te ho ow hs ra lo n), sl_st (kM te ho ow hs ra lo n), sl_av (kM te ho ow hs ra lo n), sl_pt (kM te ho ow hs ra lo n), md_tx M, md_tm M, md_ta M, md_td M, md_wo M, md_sq M, md_tk M, md_bg M, md_nu M, md_wr M)) (show (xw_up G 21 (pM v (md_th M) (nR te ho ow hs ra lo (nI n) st av so ln) (md_pt M) (md_re M) (md_sd M) (md_be M) (md_pb M) (md_ac M) od ad wy so3 rl io3 (sl_po (kM te ho ow hs ra lo n)) (sl_sp (kM te ho ow hs ra lo n)) (sl_rs (kM te ho ow hs ra lo n)) (sl_st (kM te ho ow hs ra lo n)) (sl_av (kM te ho ow hs ra lo n)) (sl_pt (kM te ho ow hs ra lo n)) (md_tx M) (md_tm M) (md_ta M) (md_td M) (md_wo M) (md_sq M) (md_tk M) (md_bg M) (md_nu M) (md_wr M))) 21 = pM v (md_th M) (nR te ho ow hs ra lo (nI n) st av so ln) (md_pt M) (md_re M) (md_sd M) (md_be M) (md_pb M) (md_ac M) od ad wy so3 rl io3 (sl_po (kM te ho ow hs ra lo n)) (sl_sp (kM te ho ow hs ra lo n)) (sl_rs (kM te ho ow hs ra lo n)) (sl_st (kM te ho ow hs ra lo n)) (sl_av (kM te ho ow hs ra lo n)) (sl_pt (kM te ho ow hs ra lo n)) (md_tx M) (md_tm M) (md_ta M) (md_td M) (md_wo M) (md_sq M) (md_tk M) (md_bg M) (md_nu M) (md_wr M) from xw_up_s) (by omega)) (xw_at xw_up_s rfl) rfl dX8_of_62 ⟨Nat.le_of_ble_eq_true rfl, Nat.le_of_ble_eq_true rfl⟩ rfl (Nat.le_of_ble_eq_true rfl) rfl rfl ?_
        refine xj_ireturn hk hz dX8_of_65 ?_
        refine ⟨?_, ⟨⟨(md_th M, nR te ho ow hs ra lo (nI n) st av so ln, md_pt M, md_re M, md_sd M, md_be M, md_pb M, md_ac M, od, ad, wy, so3, rl, io3, sl_po (kM te ho ow hs ra lo n), sl_sp (kM te ho ow hs ra lo n), sl_rs (kM te ho ow hs ra lo n), sl_st (kM te ho ow hs ra lo n), sl_av (kM te ho ow hs ra lo n), sl_pt (kM te ho ow hs ra lo n), md_tx M, md_tm M, md_ta M, md_td M, md_wo M, md_sq M, md_tk M, md_bg M, md_nu M, md_wr M), xw_up_s, rfl, rfl, rfl, rfl, rfl, rfl, rfl⟩, fun g h => xw_up_n h⟩⟩
        · rw [← q_of_ag (B := (mB te ho ow hs ra lo n)) (n := n) _ _ rfl hn30 hag]
          simp only [q_of]
          rw [show hasB (bk_bi (mB te ho ow hs ra lo n)) (nI j) = true from hb_t hn30 hj_j, xn_nI (show j < 2 ^ 31 by omega)]
          simp only [if_true]
          first | (rw [s24_0]; rfl) | (rw [s24_2]; rfl) | (rw [s24_3]; rfl) | (rw [s24_4]; rfl) | (rw [s24_1]; simp only [decide_eq_true_eq, decide_eq_false_iff_not] at c71; simp [bk_ra, mB, c71]; done) | (rcases mIn5 c14 with h9 | h9 | h9 | h9 | h9 | h9 <;> first | contradiction | (rw [h9]; rfl))
      by_cases s24_1 : w = 1
      · refine xj_swIn (tgt := 66) (off := 42) hk dX8_of_24 (by rw [s24_1]; decide) (by rw [s24_1]; decide) (by rw [s24_1]; decide) (by decide) ?_
        refine xj_aload_n (i := 0) hk dX8_of_66 rfl rfl ?_
        refine xj_iload_n (i := 1) hk dX8_of_67 rfl rfl ?_
        refine xj_callV hk hz (fr1 := 1) (lo1 := 21) (r1 := some (.int (xb (decide (ra j = -1))))) (As := [.int (nI j)]) (st := []) (st2 := [.int (xb (decide (ra j = -1)))]) (G1 := xw_up G 21 (pM v (md_th M) (nR te ho ow hs ra lo (nI n) st av so ln) (md_pt M) (md_re M) (md_sd M) (md_be M) (md_pb M) (md_ac M) od ad wy so3 rl io3 (sl_po (kM te ho ow hs ra lo n)) (sl_sp (kM te ho ow hs ra lo n)) (sl_rs (kM te ho ow hs ra lo n)) (sl_st (kM te ho ow hs ra lo n)) (sl_av (kM te ho ow hs ra lo n)) (sl_pt (kM te ho ow hs ra lo n)) (md_tx M) (md_tm M) (md_ta M) (md_td M) (md_wo M) (md_sq M) (md_tk M) (md_bg M) (md_nu M) (md_wr M))) ml_X8_115 (c_X8_isPlain (b := j) (M := (md_th M, nR te ho ow hs ra lo (nI n) st av so ln, md_pt M, md_re M, md_sd M, md_be M, md_pb M, md_ac M, od, ad, wy, so3, rl, io3, sl_po (kM te ho ow hs ra lo n), sl_sp (kM te ho ow hs ra lo n), sl_rs (kM te ho ow hs ra lo n), sl_st (kM te ho ow hs ra lo n), sl_av (kM te ho ow hs ra lo n), sl_pt (kM te ho ow hs ra lo n), md_tx M, md_tm M, md_ta M, md_td M, md_wo M, md_sq M, md_tk M, md_bg M, md_nu M, md_wr M)) (show (xw_up G 21 (pM v (md_th M) (nR te ho ow hs ra lo (nI n) st av so ln) (md_pt M) (md_re M) (md_sd M) (md_be M) (md_pb M) (md_ac M) od ad wy so3 rl io3 (sl_po (kM te ho ow hs ra lo n)) (sl_sp (kM te ho ow hs ra lo n)) (sl_rs (kM te ho ow hs ra lo n)) (sl_st (kM te ho ow hs ra lo n)) (sl_av (kM te ho ow hs ra lo n)) (sl_pt (kM te ho ow hs ra lo n)) (md_tx M) (md_tm M) (md_ta M) (md_td M) (md_wo M) (md_sq M) (md_tk M) (md_bg M) (md_nu M) (md_wr M))) 21 = pM v (md_th M) (nR te ho ow hs ra lo (nI n) st av so ln) (md_pt M) (md_re M) (md_sd M) (md_be M) (md_pb M) (md_ac M) od ad wy so3 rl io3 (sl_po (kM te ho ow hs ra lo n)) (sl_sp (kM te ho ow hs ra lo n)) (sl_rs (kM te ho ow hs ra lo n)) (sl_st (kM te ho ow hs ra lo n)) (sl_av (kM te ho ow hs ra lo n)) (sl_pt (kM te ho ow hs ra lo n)) (md_tx M) (md_tm M) (md_ta M) (md_td M) (md_wo M) (md_sq M) (md_tk M) (md_bg M) (md_nu M) (md_wr M) from xw_up_s) (by omega)) (xw_at xw_up_s rfl) rfl dX8_of_68 ⟨Nat.le_of_ble_eq_true rfl, Nat.le_of_ble_eq_true rfl⟩ rfl (Nat.le_of_ble_eq_true rfl) rfl rfl ?_
        refine xj_ifb_eq (tgt := 79) hk dX8_of_71 (by decide) (fun c71 => ?_) (fun c71 => ?_)
        · refine xj_aload_n (i := 0) hk dX8_of_79 rfl rfl ?_
          refine xj_iload_n (i := 1) hk dX8_of_80 rfl rfl ?_
          refine xj_callV hk hz (fr1 := 0) (lo1 := 0) (r1 := some (.int (ra j))) (As := [.int (nI j)]) (st := []) (st2 := [.int (ra j)]) (G1 := xw_up G 21 (pM v (md_th M) (nR te ho ow hs ra lo (nI n) st av so ln) (md_pt M) (md_re M) (md_sd M) (md_be M) (md_pb M) (md_ac M) od ad wy so3 rl io3 (sl_po (kM te ho ow hs ra lo n)) (sl_sp (kM te ho ow hs ra lo n)) (sl_rs (kM te ho ow hs ra lo n)) (sl_st (kM te ho ow hs ra lo n)) (sl_av (kM te ho ow hs ra lo n)) (sl_pt (kM te ho ow hs ra lo n)) (md_tx M) (md_tm M) (md_ta M) (md_td M) (md_wo M) (md_sq M) (md_tk M) (md_bg M) (md_nu M) (md_wr M))) ml_X8_77 (c_X8_rateOf (b := j) (M := (md_th M, nR te ho ow hs ra lo (nI n) st av so ln, md_pt M, md_re M, md_sd M, md_be M, md_pb M, md_ac M, od, ad, wy, so3, rl, io3, sl_po (kM te ho ow hs ra lo n), sl_sp (kM te ho ow hs ra lo n), sl_rs (kM te ho ow hs ra lo n), sl_st (kM te ho ow hs ra lo n), sl_av (kM te ho ow hs ra lo n), sl_pt (kM te ho ow hs ra lo n), md_tx M, md_tm M, md_ta M, md_td M, md_wo M, md_sq M, md_tk M, md_bg M, md_nu M, md_wr M)) (show (xw_up G 21 (pM v (md_th M) (nR te ho ow hs ra lo (nI n) st av so ln) (md_pt M) (md_re M) (md_sd M) (md_be M) (md_pb M) (md_ac M) od ad wy so3 rl io3 (sl_po (kM te ho ow hs ra lo n)) (sl_sp (kM te ho ow hs ra lo n)) (sl_rs (kM te ho ow hs ra lo n)) (sl_st (kM te ho ow hs ra lo n)) (sl_av (kM te ho ow hs ra lo n)) (sl_pt (kM te ho ow hs ra lo n)) (md_tx M) (md_tm M) (md_ta M) (md_td M) (md_wo M) (md_sq M) (md_tk M) (md_bg M) (md_nu M) (md_wr M))) 21 = pM v (md_th M) (nR te ho ow hs ra lo (nI n) st av so ln) (md_pt M) (md_re M) (md_sd M) (md_be M) (md_pb M) (md_ac M) od ad wy so3 rl io3 (sl_po (kM te ho ow hs ra lo n)) (sl_sp (kM te ho ow hs ra lo n)) (sl_rs (kM te ho ow hs ra lo n)) (sl_st (kM te ho ow hs ra lo n)) (sl_av (kM te ho ow hs ra lo n)) (sl_pt (kM te ho ow hs ra lo n)) (md_tx M) (md_tm M) (md_ta M) (md_td M) (md_wo M) (md_sq M) (md_tk M) (md_bg M) (md_nu M) (md_wr M) from xw_up_s) (by omega)) (xw_at xw_up_s rfl) rfl dX8_of_81 ⟨Nat.le_of_ble_eq_true rfl, Nat.le_of_ble_eq_true rfl⟩ rfl (Nat.le_of_ble_eq_true rfl) rfl rfl ?_
          refine xj_ireturn hk hz dX8_of_84 ?_
          refine ⟨?_, ⟨⟨(md_th M, nR te ho ow hs ra lo (nI n) st av so ln, md_pt M, md_re M, md_sd M, md_be M, md_pb M, md_ac M, od, ad, wy, so3, rl, io3, sl_po (kM te ho ow hs ra lo n), sl_sp (kM te ho ow hs ra lo n), sl_rs (kM te ho ow hs ra lo n), sl_st (kM te ho ow hs ra lo n), sl_av (kM te ho ow hs ra lo n), sl_pt (kM te ho ow hs ra lo n), md_tx M, md_tm M, md_ta M, md_td M, md_wo M, md_sq M, md_tk M, md_bg M, md_nu M, md_wr M), xw_up_s, rfl, rfl, rfl, rfl, rfl, rfl, rfl⟩, fun g h => xw_up_n h⟩⟩
          · rw [← q_of_ag (B := (mB te ho ow hs ra lo n)) (n := n) _ _ rfl hn30 hag]
            simp only [q_of]
            rw [show hasB (bk_bi (mB te ho ow hs ra lo n)) (nI j) = true from hb_t hn30 hj_j, xn_nI (show j < 2 ^ 31 by omega)]
            simp only [if_true]
            first | (rw [s24_0]; rfl) | (rw [s24_2]; rfl) | (rw [s24_3]; rfl) | (rw [s24_4]; rfl) | (rw [s24_1]; simp only [decide_eq_true_eq, decide_eq_false_iff_not] at c71; simp [bk_ra, mB, c71]; done) | (rcases mIn5 c14 with h9 | h9 | h9 | h9 | h9 | h9 <;> first | contradiction | (rw [h9]; rfl))
        · refine xj_bipush (x := (-2)) hk dX8_of_74 (by decide) ?_
          refine xj_goto (tgt := 84) hk dX8_of_76 (by decide) ?_
          refine xj_ireturn hk hz dX8_of_84 ?_
          refine ⟨?_, ⟨⟨(md_th M, nR te ho ow hs ra lo (nI n) st av so ln, md_pt M, md_re M, md_sd M, md_be M, md_pb M, md_ac M, od, ad, wy, so3, rl, io3, sl_po (kM te ho ow hs ra lo n), sl_sp (kM te ho ow hs ra lo n), sl_rs (kM te ho ow hs ra lo n), sl_st (kM te ho ow hs ra lo n), sl_av (kM te ho ow hs ra lo n), sl_pt (kM te ho ow hs ra lo n), md_tx M, md_tm M, md_ta M, md_td M, md_wo M, md_sq M, md_tk M, md_bg M, md_nu M, md_wr M), xw_up_s, rfl, rfl, rfl, rfl, rfl, rfl, rfl⟩, fun g h => xw_up_n h⟩⟩
          · rw [← q_of_ag (B := (mB te ho ow hs ra lo n)) (n := n) _ _ rfl hn30 hag]
            simp only [q_of]
            rw [show hasB (bk_bi (mB te ho ow hs ra lo n)) (nI j) = true from hb_t hn30 hj_j, xn_nI (show j < 2 ^ 31 by omega)]
            simp only [if_true]
            first | (rw [s24_0]; rfl) | (rw [s24_2]; rfl) | (rw [s24_3]; rfl) | (rw [s24_4]; rfl) | (rw [s24_1]; simp only [decide_eq_true_eq, decide_eq_false_iff_not] at c71; simp [bk_ra, mB, c71]; done) | (rcases mIn5 c14 with h9 | h9 | h9 | h9 | h9 | h9 <;> first | contradiction | (rw [h9]; rfl))
      by_cases s24_2 : w = 2
      · refine xj_swIn (tgt := 85) (off := 61) hk dX8_of_24 (by rw [s24_2]; decide) (by rw [s24_2]; decide) (by rw [s24_2]; decide) (by decide) ?_
        refine xj_aload_n (i := 0) hk dX8_of_85 rfl rfl ?_
        refine xj_iload_n (i := 1) hk dX8_of_86 rfl rfl ?_
        refine xj_callV hk hz (fr1 := 0) (lo1 := 0) (r1 := some (.int (lo j))) (As := [.int (nI j)]) (st := []) (st2 := [.int (lo j)]) (G1 := xw_up G 21 (pM v (md_th M) (nR te ho ow hs ra lo (nI n) st av so ln) (md_pt M) (md_re M) (md_sd M) (md_be M) (md_pb M) (md_ac M) od ad wy so3 rl io3 (sl_po (kM te ho ow hs ra lo n)) (sl_sp (kM te ho ow hs ra lo n)) (sl_rs (kM te ho ow hs ra lo n)) (sl_st (kM te ho ow hs ra lo n)) (sl_av (kM te ho ow hs ra lo n)) (sl_pt (kM te ho ow hs ra lo n)) (md_tx M) (md_tm M) (md_ta M) (md_td M) (md_wo M) (md_sq M) (md_tk M) (md_bg M) (md_nu M) (md_wr M))) ml_X8_84 (c_X8_lotsOf (b := j) (M := (md_th M, nR te ho ow hs ra lo (nI n) st av so ln, md_pt M, md_re M, md_sd M, md_be M, md_pb M, md_ac M, od, ad, wy, so3, rl, io3, sl_po (kM te ho ow hs ra lo n), sl_sp (kM te ho ow hs ra lo n), sl_rs (kM te ho ow hs ra lo n), sl_st (kM te ho ow hs ra lo n), sl_av (kM te ho ow hs ra lo n), sl_pt (kM te ho ow hs ra lo n), md_tx M, md_tm M, md_ta M, md_td M, md_wo M, md_sq M, md_tk M, md_bg M, md_nu M, md_wr M)) (show (xw_up G 21 (pM v (md_th M) (nR te ho ow hs ra lo (nI n) st av so ln) (md_pt M) (md_re M) (md_sd M) (md_be M) (md_pb M) (md_ac M) od ad wy so3 rl io3 (sl_po (kM te ho ow hs ra lo n)) (sl_sp (kM te ho ow hs ra lo n)) (sl_rs (kM te ho ow hs ra lo n)) (sl_st (kM te ho ow hs ra lo n)) (sl_av (kM te ho ow hs ra lo n)) (sl_pt (kM te ho ow hs ra lo n)) (md_tx M) (md_tm M) (md_ta M) (md_td M) (md_wo M) (md_sq M) (md_tk M) (md_bg M) (md_nu M) (md_wr M))) 21 = pM v (md_th M) (nR te ho ow hs ra lo (nI n) st av so ln) (md_pt M) (md_re M) (md_sd M) (md_be M) (md_pb M) (md_ac M) od ad wy so3 rl io3 (sl_po (kM te ho ow hs ra lo n)) (sl_sp (kM te ho ow hs ra lo n)) (sl_rs (kM te ho ow hs ra lo n)) (sl_st (kM te ho ow hs ra lo n)) (sl_av (kM te ho ow hs ra lo n)) (sl_pt (kM te ho ow hs ra lo n)) (md_tx M) (md_tm M) (md_ta M) (md_td M) (md_wo M) (md_sq M) (md_tk M) (md_bg M) (md_nu M) (md_wr M) from xw_up_s) (by omega)) (xw_at xw_up_s rfl) rfl dX8_of_87 ⟨Nat.le_of_ble_eq_true rfl, Nat.le_of_ble_eq_true rfl⟩ rfl (Nat.le_of_ble_eq_true rfl) rfl rfl ?_
        refine xj_ireturn hk hz dX8_of_90 ?_
        refine ⟨?_, ⟨⟨(md_th M, nR te ho ow hs ra lo (nI n) st av so ln, md_pt M, md_re M, md_sd M, md_be M, md_pb M, md_ac M, od, ad, wy, so3, rl, io3, sl_po (kM te ho ow hs ra lo n), sl_sp (kM te ho ow hs ra lo n), sl_rs (kM te ho ow hs ra lo n), sl_st (kM te ho ow hs ra lo n), sl_av (kM te ho ow hs ra lo n), sl_pt (kM te ho ow hs ra lo n), md_tx M, md_tm M, md_ta M, md_td M, md_wo M, md_sq M, md_tk M, md_bg M, md_nu M, md_wr M), xw_up_s, rfl, rfl, rfl, rfl, rfl, rfl, rfl⟩, fun g h => xw_up_n h⟩⟩
        · rw [← q_of_ag (B := (mB te ho ow hs ra lo n)) (n := n) _ _ rfl hn30 hag]
          simp only [q_of]
          rw [show hasB (bk_bi (mB te ho ow hs ra lo n)) (nI j) = true from hb_t hn30 hj_j, xn_nI (show j < 2 ^ 31 by omega)]
          simp only [if_true]
          first | (rw [s24_0]; rfl) | (rw [s24_2]; rfl) | (rw [s24_3]; rfl) | (rw [s24_4]; rfl) | (rw [s24_1]; simp only [decide_eq_true_eq, decide_eq_false_iff_not] at c71; simp [bk_ra, mB, c71]; done) | (rcases mIn5 c14 with h9 | h9 | h9 | h9 | h9 | h9 <;> first | contradiction | (rw [h9]; rfl))
      by_cases s24_3 : w = 3
      · refine xj_swIn (tgt := 91) (off := 67) hk dX8_of_24 (by rw [s24_3]; decide) (by rw [s24_3]; decide) (by rw [s24_3]; decide) (by decide) ?_
        refine xj_aload_n (i := 0) hk dX8_of_91 rfl rfl ?_
        refine xj_getfield hk dX8_of_92 fl_X8_36 (xw_at xw_up_s rfl) rfl ?_
        refine xj_iload_n (i := 1) hk dX8_of_95 rfl rfl ?_
        refine xj_iaload (k := j) hk dX8_of_96 (xw_at xw_up_s rfl) (xi_n (by omega) (by decide)) ?_
        refine xj_ireturn hk hz dX8_of_97 ?_
        refine ⟨?_, ⟨⟨(md_th M, nR te ho ow hs ra lo (nI n) st av so ln, md_pt M, md_re M, md_sd M, md_be M, md_pb M, md_ac M, od, ad, wy, so3, rl, io3, sl_po (kM te ho ow hs ra lo n), sl_sp (kM te ho ow hs ra lo n), sl_rs (kM te ho ow hs ra lo n), sl_st (kM te ho ow hs ra lo n), sl_av (kM te ho ow hs ra lo n), sl_pt (kM te ho ow hs ra lo n), md_tx M, md_tm M, md_ta M, md_td M, md_wo M, md_sq M, md_tk M, md_bg M, md_nu M, md_wr M), xw_up_s, rfl, rfl, rfl, rfl, rfl, rfl, rfl⟩, fun g h => xw_up_n h⟩⟩
        · rw [← q_of_ag (B := (mB te ho ow hs ra lo n)) (n := n) _ _ rfl hn30 hag]
          simp only [q_of]
          rw [show hasB (bk_bi (mB te ho ow hs ra lo n)) (nI j) = true from hb_t hn30 hj_j, xn_nI (show j < 2 ^ 31 by omega)]
          simp only [if_true]
          first | (rw [s24_0]; rfl) | (rw [s24_2]; rfl) | (rw [s24_3]; rfl) | (rw [s24_4]; rfl) | (rw [s24_1]; simp only [decide_eq_true_eq, decide_eq_false_iff_not] at c71; simp [bk_ra, mB, c71]; done) | (rcases mIn5 c14 with h9 | h9 | h9 | h9 | h9 | h9 <;> first | contradiction | (rw [h9]; rfl))
      by_cases s24_4 : w = 4
      · refine xj_swIn (tgt := 98) (off := 74) hk dX8_of_24 (by rw [s24_4]; decide) (by rw [s24_4]; decide) (by rw [s24_4]; decide) (by decide) ?_
        refine xj_aload_n (i := 0) hk dX8_of_98 rfl rfl ?_
        refine xj_getfield hk dX8_of_99 fl_X8_39 (xw_at xw_up_s rfl) rfl ?_
        refine xj_iload_n (i := 1) hk dX8_of_102 rfl rfl ?_
        refine xj_iaload (k := j) hk dX8_of_103 (xw_at xw_up_s rfl) (xi_n (by omega) (by decide)) ?_
        refine xj_ireturn hk hz dX8_of_104 ?_
        refine ⟨?_, ⟨⟨(md_th M, nR te ho ow hs ra lo (nI n) st av so ln, md_pt M, md_re M, md_sd M, md_be M, md_pb M, md_ac M, od, ad, wy, so3, rl, io3, sl_po (kM te ho ow hs ra lo n), sl_sp (kM te ho ow hs ra lo n), sl_rs (kM te ho ow hs ra lo n), sl_st (kM te ho ow hs ra lo n), sl_av (kM te ho ow hs ra lo n), sl_pt (kM te ho ow hs ra lo n), md_tx M, md_tm M, md_ta M, md_td M, md_wo M, md_sq M, md_tk M, md_bg M, md_nu M, md_wr M), xw_up_s, rfl, rfl, rfl, rfl, rfl, rfl, rfl⟩, fun g h => xw_up_n h⟩⟩
        · rw [← q_of_ag (B := (mB te ho ow hs ra lo n)) (n := n) _ _ rfl hn30 hag]
          simp only [q_of]
          rw [show hasB (bk_bi (mB te ho ow hs ra lo n)) (nI j) = true from hb_t hn30 hj_j, xn_nI (show j < 2 ^ 31 by omega)]
          simp only [if_true]
          first | (rw [s24_0]; rfl) | (rw [s24_2]; rfl) | (rw [s24_3]; rfl) | (rw [s24_4]; rfl) | (rw [s24_1]; simp only [decide_eq_true_eq, decide_eq_false_iff_not] at c71; simp [bk_ra, mB, c71]; done) | (rcases mIn5 c14 with h9 | h9 | h9 | h9 | h9 | h9 <;> first | contradiction | (rw [h9]; rfl))
      refine xj_swOut (tgt := 105) hk dX8_of_24 (sw_out5 s24_0 s24_1 s24_2 s24_3 s24_4) (by decide) ?_
      refine xj_aload_n (i := 0) hk dX8_of_105 rfl rfl ?_
      refine xj_getfield hk dX8_of_106 fl_X8_42 (xw_at xw_up_s rfl) rfl ?_
      refine xj_iload_n (i := 1) hk dX8_of_109 rfl rfl ?_
      refine xj_iaload (k := j) hk dX8_of_110 (xw_at xw_up_s rfl) (xi_n (by omega) (by decide)) ?_
      refine xj_ireturn hk hz dX8_of_111 ?_
      refine ⟨?_, ⟨⟨(md_th M, nR te ho ow hs ra lo (nI n) st av so ln, md_pt M, md_re M, md_sd M, md_be M, md_pb M, md_ac M, od, ad, wy, so3, rl, io3, sl_po (kM te ho ow hs ra lo n), sl_sp (kM te ho ow hs ra lo n), sl_rs (kM te ho ow hs ra lo n), sl_st (kM te ho ow hs ra lo n), sl_av (kM te ho ow hs ra lo n), sl_pt (kM te ho ow hs ra lo n), md_tx M, md_tm M, md_ta M, md_td M, md_wo M, md_sq M, md_tk M, md_bg M, md_nu M, md_wr M), xw_up_s, rfl, rfl, rfl, rfl, rfl, rfl, rfl⟩, fun g h => xw_up_n h⟩⟩
      · rw [← q_of_ag (B := (mB te ho ow hs ra lo n)) (n := n) _ _ rfl hn30 hag]
        simp only [q_of]
        rw [show hasB (bk_bi (mB te ho ow hs ra lo n)) (nI j) = true from hb_t hn30 hj_j, xn_nI (show j < 2 ^ 31 by omega)]
        simp only [if_true]
        first | (rw [s24_0]; rfl) | (rw [s24_2]; rfl) | (rw [s24_3]; rfl) | (rw [s24_4]; rfl) | (rw [s24_1]; simp only [decide_eq_true_eq, decide_eq_false_iff_not] at c71; simp [bk_ra, mB, c71]; done) | (rcases mIn5 c14 with h9 | h9 | h9 | h9 | h9 | h9 <;> first | contradiction | (rw [h9]; rfl))
    · refine xj_iconst (x := (-1)) hk dX8_of_17 (by decide) ?_
      refine xj_ireturn hk hz dX8_of_18 ?_
      refine ⟨?_, ⟨⟨M, hM, rfl, rfl, rfl, rfl, rfl, rfl, rfl⟩, fun _ _ => rfl⟩⟩
      · obtain ⟨u0, u1, u2, u3, u4, u5⟩ := mOut5 c14
        simp [q_of, u0, u1, u2, u3, u4, u5]

theorem payM_F {te ho ow hs ra lo : Nat → Int32} {n : Nat} {K : sl_T} (hv : vT te) (j : Nat) : payM te ra (sl_so K) (sl_st K) (sl_av K) j = payF (mB te ho ow hs ra lo n) K j := by
  simp only [payM, payF, rtM, rateP]
  show (sl_so K j).toInt64 * (pric te (if te 6 = 0 then if sl_st K = -2 then te 3 else sl_st K else if ra j = -1 then sl_av K else ra j)).toInt64 = (sl_so K j).toInt64 * (pric te (if te 6 = 1 then if ra j = -1 then sl_av K else ra j else if sl_st K = -2 then te 3 else sl_st K)).toInt64
  rcases hv.2.2.2.2.2 with h | h
  · rw [h]; rfl
  · rw [h]; rfl
set_option maxHeartbeats 1000000 in
set_option maxRecDepth 10000 in
theorem c_X8_pays {v : xw_V} {G : xw_G} {M : md_T} {te ho ow hs ra lo st av so : Nat → Int32} {ln : Int32} {n : Nat} (hM : G 21 = pM v (md_th M) (nR te ho ow hs ra lo (nI n) st av so ln) (md_pt M) (md_re M) (md_sd M) (md_be M) (md_pb M) (md_ac M) (md_od M) (md_ad M) (md_wy M) (md_so M) (md_rl M) (md_io M) (md_po M) (md_sp M) (md_rs M) (md_st M) (md_av M) (md_ip M) (md_tx M) (md_tm M) (md_ta M) (md_td M) (md_wo M) (md_sq M) (md_tk M) (md_bg M) (md_nu M) (md_wr M)) (hq : MV te ow hs ra lo n) (b : Int32) : xk_Con v yX8_pays cX8_pays 2 (some .long) 4 89 [.ref (xw_ad v 21 0), .int b] G (fun r9 G' => r9 = some (.long (q_pays (mB te ho ow hs ra lo n) (kM te ho ow hs ra lo n) b)) ∧ mQ v G G' (nR te ho ow hs ra lo (nI n) st av so ln) M) := by
  refine xk_of (ls0 := [some (.ref (xw_ad v 21 0)), some (.int b)]) (by decide) rfl (Nat.le_of_ble_eq_true rfl) ?_
  intro κ z hk hz
  have hn30 : n ≤ 30 := hq.1
  refine xj_aload_n (i := 0) hk dX8_pays_0 rfl rfl ?_
  refine xj_iload_n (i := 1) hk dX8_pays_1 rfl rfl ?_
  refine xj_callV hk hz (fr1 := 1) (lo1 := 22) (r1 := some (.int (xb (mIn b 0 ((nI n) - 1))))) (As := [.int b]) (st := []) (st2 := [.int (xb (mIn b 0 ((nI n) - 1)))]) (G1 := G) ml_X8_108 (c_X8_isBid (M := M) (show G 21 = pM v (md_th M) (nR te ho ow hs ra lo (nI n) st av so ln) (md_pt M) (md_re M) (md_sd M) (md_be M) (md_pb M) (md_ac M) (md_od M) (md_ad M) (md_wy M) (md_so M) (md_rl M) (md_io M) (md_po M) (md_sp M) (md_rs M) (md_st M) (md_av M) (md_ip M) (md_tx M) (md_tm M) (md_ta M) (md_td M) (md_wo M) (md_sq M) (md_tk M) (md_bg M) (md_nu M) (md_wr M) from hM) b) (xw_at hM rfl) rfl dX8_pays_2 ⟨Nat.le_of_ble_eq_true rfl, Nat.le_of_ble_eq_true rfl⟩ rfl (Nat.le_of_ble_eq_true rfl) rfl rfl ?_
  refine xj_ifb_ne (tgt := 12) hk dX8_pays_5 (by decide) (fun c5 => ?_) (fun c5 => ?_)
  · obtain ⟨j, hj_j, rfl⟩ := hasB_of (n := n) rfl hn30 (by rw [← mIn_bid hn30]; exact c5)
    refine xj_aload_n (i := 0) hk dX8_pays_12 rfl rfl ?_
    refine xj_callVE hk hz (fr1 := 3) (lo1 := 65) (As := []) (st := []) ml_X8_174 (c_sellsK (n := n) (M := M) (show G 21 = pM v (md_th M) (nR te ho ow hs ra lo (nI n) st av so ln) (md_pt M) (md_re M) (md_sd M) (md_be M) (md_pb M) (md_ac M) (md_od M) (md_ad M) (md_wy M) (md_so M) (md_rl M) (md_io M) (md_po M) (md_sp M) (md_rs M) (md_st M) (md_av M) (md_ip M) (md_tx M) (md_tm M) (md_ta M) (md_td M) (md_wo M) (md_sq M) (md_tk M) (md_bg M) (md_nu M) (md_wr M) from hM) hq) (xw_at hM rfl) rfl dX8_pays_13 ⟨Nat.le_of_ble_eq_true rfl, Nat.le_of_ble_eq_true rfl⟩ rfl (Nat.le_of_ble_eq_true rfl) rfl ?_
    rintro _ _ ⟨rfl, od, ad, wy, rl, so3, io3, hag, rfl⟩
    have hag : agS n (sl_w (kM te ho ow hs ra lo n) od ad wy so3) (kM te ho ow hs ra lo n) := hag
    show xj v κ _ z (xw_up G 21 (pM v (md_th M) (nR te ho ow hs ra lo (nI n) st av so ln) (md_pt M) (md_re M) (md_sd M) (md_be M) (md_pb M) (md_ac M) od ad wy so3 rl io3 (sl_po (kM te ho ow hs ra lo n)) (sl_sp (kM te ho ow hs ra lo n)) (sl_rs (kM te ho ow hs ra lo n)) (sl_st (kM te ho ow hs ra lo n)) (sl_av (kM te ho ow hs ra lo n)) (sl_pt (kM te ho ow hs ra lo n)) (md_tx M) (md_tm M) (md_ta M) (md_td M) (md_wo M) (md_sq M) (md_tk M) (md_bg M) (md_nu M) (md_wr M))) 16 _ []
    refine xj_aload_n (i := 0) hk dX8_pays_16 rfl rfl ?_
    refine xj_iload_n (i := 1) hk dX8_pays_17 rfl rfl ?_
    refine xj_callV hk hz (fr1 := 2) (lo1 := 42) (r1 := some (.long (payM te ra so3 (sl_st (kM te ho ow hs ra lo n)) (sl_av (kM te ho ow hs ra lo n)) j))) (As := [.int (nI j)]) (st := []) (st2 := [.long (payM te ra so3 (sl_st (kM te ho ow hs ra lo n)) (sl_av (kM te ho ow hs ra lo n)) j)]) (G1 := xw_up G 21 (pM v (md_th M) (nR te ho ow hs ra lo (nI n) st av so ln) (md_pt M) (md_re M) (md_sd M) (md_be M) (md_pb M) (md_ac M) od ad wy so3 rl io3 (sl_po (kM te ho ow hs ra lo n)) (sl_sp (kM te ho ow hs ra lo n)) (sl_rs (kM te ho ow hs ra lo n)) (sl_st (kM te ho ow hs ra lo n)) (sl_av (kM te ho ow hs ra lo n)) (sl_pt (kM te ho ow hs ra lo n)) (md_tx M) (md_tm M) (md_ta M) (md_td M) (md_wo M) (md_sq M) (md_tk M) (md_bg M) (md_nu M) (md_wr M))) ml_X8_170 (c_X8_paysOf (b := j) (M := (md_th M, nR te ho ow hs ra lo (nI n) st av so ln, md_pt M, md_re M, md_sd M, md_be M, md_pb M, md_ac M, od, ad, wy, so3, rl, io3, sl_po (kM te ho ow hs ra lo n), sl_sp (kM te ho ow hs ra lo n), sl_rs (kM te ho ow hs ra lo n), sl_st (kM te ho ow hs ra lo n), sl_av (kM te ho ow hs ra lo n), sl_pt (kM te ho ow hs ra lo n), md_tx M, md_tm M, md_ta M, md_td M, md_wo M, md_sq M, md_tk M, md_bg M, md_nu M, md_wr M)) (show (xw_up G 21 (pM v (md_th M) (nR te ho ow hs ra lo (nI n) st av so ln) (md_pt M) (md_re M) (md_sd M) (md_be M) (md_pb M) (md_ac M) od ad wy so3 rl io3 (sl_po (kM te ho ow hs ra lo n)) (sl_sp (kM te ho ow hs ra lo n)) (sl_rs (kM te ho ow hs ra lo n)) (sl_st (kM te ho ow hs ra lo n)) (sl_av (kM te ho ow hs ra lo n)) (sl_pt (kM te ho ow hs ra lo n)) (md_tx M) (md_tm M) (md_ta M) (md_td M) (md_wo M) (md_sq M) (md_tk M) (md_bg M) (md_nu M) (md_wr M))) 21 = pM v (md_th M) (nR te ho ow hs ra lo (nI n) st av so ln) (md_pt M) (md_re M) (md_sd M) (md_be M) (md_pb M) (md_ac M) od ad wy so3 rl io3 (sl_po (kM te ho ow hs ra lo n)) (sl_sp (kM te ho ow hs ra lo n)) (sl_rs (kM te ho ow hs ra lo n)) (sl_st (kM te ho ow hs ra lo n)) (sl_av (kM te ho ow hs ra lo n)) (sl_pt (kM te ho ow hs ra lo n)) (md_tx M) (md_tm M) (md_ta M) (md_td M) (md_wo M) (md_sq M) (md_tk M) (md_bg M) (md_nu M) (md_wr M) from xw_up_s) (by omega)) (xw_at xw_up_s rfl) rfl dX8_pays_18 ⟨Nat.le_of_ble_eq_true rfl, Nat.le_of_ble_eq_true rfl⟩ rfl (Nat.le_of_ble_eq_true rfl) rfl rfl ?_
    refine xj_lreturn hk hz dX8_pays_21 ?_
    refine ⟨?_, ⟨⟨(md_th M, nR te ho ow hs ra lo (nI n) st av so ln, md_pt M, md_re M, md_sd M, md_be M, md_pb M, md_ac M, od, ad, wy, so3, rl, io3, sl_po (kM te ho ow hs ra lo n), sl_sp (kM te ho ow hs ra lo n), sl_rs (kM te ho ow hs ra lo n), sl_st (kM te ho ow hs ra lo n), sl_av (kM te ho ow hs ra lo n), sl_pt (kM te ho ow hs ra lo n), md_tx M, md_tm M, md_ta M, md_td M, md_wo M, md_sq M, md_tk M, md_bg M, md_nu M, md_wr M), xw_up_s, rfl, rfl, rfl, rfl, rfl, rfl, rfl⟩, fun g h => xw_up_n h⟩⟩
    · rw [← q_pays_ag (B := (mB te ho ow hs ra lo n)) (n := n) _ rfl hn30 hag]
      simp only [q_pays]
      rw [show hasB (bk_bi (mB te ho ow hs ra lo n)) (nI j) = true from hb_t hn30 hj_j, xn_nI (show j < 2 ^ 31 by omega), if_pos rfl]
      have e9 := (show ∀ j, payM te ra so3 (sl_st (kM te ho ow hs ra lo n)) (sl_av (kM te ho ow hs ra lo n)) j = payF (mB te ho ow hs ra lo n) (sl_w (kM te ho ow hs ra lo n) od ad wy so3) j from fun j => payM_F (K := (sl_w (kM te ho ow hs ra lo n) od ad wy so3)) hq.2.2.2.1 j) j
      rw [e9]
  · refine xj_ldc2 (x := -1) hk dX8_pays_8 kl_X8_190 ?_
    refine xj_lreturn hk hz dX8_pays_11 ?_
    refine ⟨?_, ⟨⟨M, hM, rfl, rfl, rfl, rfl, rfl, rfl, rfl⟩, fun _ _ => rfl⟩⟩
    · rw [show q_pays (mB te ho ow hs ra lo n) (kM te ho ow hs ra lo n) b = -1 from by simp only [q_pays]; rw [show hasB (bk_bi (mB te ho ow hs ra lo n)) b = false from hb_f hn30 c5]; rfl]

set_option maxHeartbeats 1000000 in
set_option maxRecDepth 10000 in
theorem c_X8_paid {v : xw_V} {G : xw_G} {M : md_T} {te ho ow hs ra lo st av so : Nat → Int32} {ln : Int32} {n : Nat} (hM : G 21 = pM v (md_th M) (nR te ho ow hs ra lo (nI n) st av so ln) (md_pt M) (md_re M) (md_sd M) (md_be M) (md_pb M) (md_ac M) (md_od M) (md_ad M) (md_wy M) (md_so M) (md_rl M) (md_io M) (md_po M) (md_sp M) (md_rs M) (md_st M) (md_av M) (md_ip M) (md_tx M) (md_tm M) (md_ta M) (md_td M) (md_wo M) (md_sq M) (md_tk M) (md_bg M) (md_nu M) (md_wr M)) (hq : MV te ow hs ra lo n) : xk_Con v yX8_paid cX8_paid 1 (some .long) 4 89 [.ref (xw_ad v 21 0)] G (fun r9 G' => r9 = some (.long (sml (payF (mB te ho ow hs ra lo n) (kM te ho ow hs ra lo n)) n)) ∧ mQ v G G' (nR te ho ow hs ra lo (nI n) st av so ln) M) := by
  refine xk_of (ls0 := [some (.ref (xw_ad v 21 0))]) (by decide) rfl (Nat.le_of_ble_eq_true rfl) ?_
  intro κ z hk hz
  have hn30 : n ≤ 30 := hq.1
  refine xj_aload_n (i := 0) hk dX8_paid_0 rfl rfl ?_
  refine xj_callVE hk hz (fr1 := 3) (lo1 := 65) (As := []) (st := []) ml_X8_174 (c_sellsK (n := n) (M := M) (show G 21 = pM v (md_th M) (nR te ho ow hs ra lo (nI n) st av so ln) (md_pt M) (md_re M) (md_sd M) (md_be M) (md_pb M) (md_ac M) (md_od M) (md_ad M) (md_wy M) (md_so M) (md_rl M) (md_io M) (md_po M) (md_sp M) (md_rs M) (md_st M) (md_av M) (md_ip M) (md_tx M) (md_tm M) (md_ta M) (md_td M) (md_wo M) (md_sq M) (md_tk M) (md_bg M) (md_nu M) (md_wr M) from hM) hq) (xw_at hM rfl) rfl dX8_paid_1 ⟨Nat.le_of_ble_eq_true rfl, Nat.le_of_ble_eq_true rfl⟩ rfl (Nat.le_of_ble_eq_true rfl) rfl ?_
  rintro _ _ ⟨rfl, od, ad, wy, rl, so3, io3, hag, rfl⟩
  have hag : agS n (sl_w (kM te ho ow hs ra lo n) od ad wy so3) (kM te ho ow hs ra lo n) := hag
  show xj v κ _ z (xw_up G 21 (pM v (md_th M) (nR te ho ow hs ra lo (nI n) st av so ln) (md_pt M) (md_re M) (md_sd M) (md_be M) (md_pb M) (md_ac M) od ad wy so3 rl io3 (sl_po (kM te ho ow hs ra lo n)) (sl_sp (kM te ho ow hs ra lo n)) (sl_rs (kM te ho ow hs ra lo n)) (sl_st (kM te ho ow hs ra lo n)) (sl_av (kM te ho ow hs ra lo n)) (sl_pt (kM te ho ow hs ra lo n)) (md_tx M) (md_tm M) (md_ta M) (md_td M) (md_wo M) (md_sq M) (md_tk M) (md_bg M) (md_nu M) (md_wr M))) 4 _ []
  refine xj_aload_n (i := 0) hk dX8_paid_4 rfl rfl ?_
  refine xj_callV hk hz (fr1 := 3) (lo1 := 64) (r1 := some (.long (sml (payM te ra so3 (sl_st (kM te ho ow hs ra lo n)) (sl_av (kM te ho ow hs ra lo n))) n))) (As := []) (st := []) (st2 := [.long (sml (payM te ra so3 (sl_st (kM te ho ow hs ra lo n)) (sl_av (kM te ho ow hs ra lo n))) n)]) (G1 := xw_up G 21 (pM v (md_th M) (nR te ho ow hs ra lo (nI n) st av so ln) (md_pt M) (md_re M) (md_sd M) (md_be M) (md_pb M) (md_ac M) od ad wy so3 rl io3 (sl_po (kM te ho ow hs ra lo n)) (sl_sp (kM te ho ow hs ra lo n)) (sl_rs (kM te ho ow hs ra lo n)) (sl_st (kM te ho ow hs ra lo n)) (sl_av (kM te ho ow hs ra lo n)) (sl_pt (kM te ho ow hs ra lo n)) (md_tx M) (md_tm M) (md_ta M) (md_td M) (md_wo M) (md_sq M) (md_tk M) (md_bg M) (md_nu M) (md_wr M))) ml_X8_180 (c_X8_paidAll (n := n) (M := (md_th M, nR te ho ow hs ra lo (nI n) st av so ln, md_pt M, md_re M, md_sd M, md_be M, md_pb M, md_ac M, od, ad, wy, so3, rl, io3, sl_po (kM te ho ow hs ra lo n), sl_sp (kM te ho ow hs ra lo n), sl_rs (kM te ho ow hs ra lo n), sl_st (kM te ho ow hs ra lo n), sl_av (kM te ho ow hs ra lo n), sl_pt (kM te ho ow hs ra lo n), md_tx M, md_tm M, md_ta M, md_td M, md_wo M, md_sq M, md_tk M, md_bg M, md_nu M, md_wr M)) (show (xw_up G 21 (pM v (md_th M) (nR te ho ow hs ra lo (nI n) st av so ln) (md_pt M) (md_re M) (md_sd M) (md_be M) (md_pb M) (md_ac M) od ad wy so3 rl io3 (sl_po (kM te ho ow hs ra lo n)) (sl_sp (kM te ho ow hs ra lo n)) (sl_rs (kM te ho ow hs ra lo n)) (sl_st (kM te ho ow hs ra lo n)) (sl_av (kM te ho ow hs ra lo n)) (sl_pt (kM te ho ow hs ra lo n)) (md_tx M) (md_tm M) (md_ta M) (md_td M) (md_wo M) (md_sq M) (md_tk M) (md_bg M) (md_nu M) (md_wr M))) 21 = pM v (md_th M) (nR te ho ow hs ra lo (nI n) st av so ln) (md_pt M) (md_re M) (md_sd M) (md_be M) (md_pb M) (md_ac M) od ad wy so3 rl io3 (sl_po (kM te ho ow hs ra lo n)) (sl_sp (kM te ho ow hs ra lo n)) (sl_rs (kM te ho ow hs ra lo n)) (sl_st (kM te ho ow hs ra lo n)) (sl_av (kM te ho ow hs ra lo n)) (sl_pt (kM te ho ow hs ra lo n)) (md_tx M) (md_tm M) (md_ta M) (md_td M) (md_wo M) (md_sq M) (md_tk M) (md_bg M) (md_nu M) (md_wr M) from xw_up_s) hn30) (xw_at xw_up_s rfl) rfl dX8_paid_5 ⟨Nat.le_of_ble_eq_true rfl, Nat.le_of_ble_eq_true rfl⟩ rfl (Nat.le_of_ble_eq_true rfl) rfl rfl ?_
  refine xj_lreturn hk hz dX8_paid_8 ?_
  refine ⟨?_, ⟨⟨(md_th M, nR te ho ow hs ra lo (nI n) st av so ln, md_pt M, md_re M, md_sd M, md_be M, md_pb M, md_ac M, od, ad, wy, so3, rl, io3, sl_po (kM te ho ow hs ra lo n), sl_sp (kM te ho ow hs ra lo n), sl_rs (kM te ho ow hs ra lo n), sl_st (kM te ho ow hs ra lo n), sl_av (kM te ho ow hs ra lo n), sl_pt (kM te ho ow hs ra lo n), md_tx M, md_tm M, md_ta M, md_td M, md_wo M, md_sq M, md_tk M, md_bg M, md_nu M, md_wr M), xw_up_s, rfl, rfl, rfl, rfl, rfl, rfl, rfl⟩, fun g h => xw_up_n h⟩⟩
  · rw [← pa_ag (B := (mB te ho ow hs ra lo n)) hag]
    have e9 := sml_congr (n := n) (fun j _ => (show ∀ j, payM te ra so3 (sl_st (kM te ho ow hs ra lo n)) (sl_av (kM te ho ow hs ra lo n)) j = payF (mB te ho ow hs ra lo n) (sl_w (kM te ho ow hs ra lo n) od ad wy so3) j from fun j => payM_F (K := (sl_w (kM te ho ow hs ra lo n) od ad wy so3)) hq.2.2.2.1 j) j)
    rw [e9]

theorem ih_tt {b : Int32} (h : mIn b 0 7 = true) : isH b = true := by rw [← mIn_isH]; exact h
theorem ir_tt {b : Int32} (h : mIn b 0 999 = true) : isR b = true := h
set_option maxHeartbeats 1000000 in
set_option maxRecDepth 10000 in
theorem c_X8_housePays {v : xw_V} {G : xw_G} {M : md_T} {te ho ow hs ra lo st av so : Nat → Int32} {ln : Int32} {n : Nat} (hM : G 21 = pM v (md_th M) (nR te ho ow hs ra lo (nI n) st av so ln) (md_pt M) (md_re M) (md_sd M) (md_be M) (md_pb M) (md_ac M) (md_od M) (md_ad M) (md_wy M) (md_so M) (md_rl M) (md_io M) (md_po M) (md_sp M) (md_rs M) (md_st M) (md_av M) (md_ip M) (md_tx M) (md_tm M) (md_ta M) (md_td M) (md_wo M) (md_sq M) (md_tk M) (md_bg M) (md_nu M) (md_wr M)) (hq : MV te ow hs ra lo n) (h : Int32) : xk_Con v yX8_housePays cX8_housePays 2 (some .long) 4 89 [.ref (xw_ad v 21 0), .int h] G (fun r9 G' => r9 = some (.long (q_hpays (mB te ho ow hs ra lo n) (kM te ho ow hs ra lo n) n h)) ∧ mQ v G G' (nR te ho ow hs ra lo (nI n) st av so ln) M) := by
  refine xk_of (ls0 := [some (.ref (xw_ad v 21 0)), some (.int h)]) (by decide) rfl (Nat.le_of_ble_eq_true rfl) ?_
  intro κ z hk hz
  have hn30 : n ≤ 30 := hq.1
  refine xj_iload_n (i := 1) hk dX8_housePays_0 rfl rfl ?_
  refine xj_callS hk hz (fr1 := 1) (lo1 := 22) (r1 := some (.int (xb (mIn h 0 7)))) (As := [.int h]) (st := []) (st2 := [.int (xb (mIn h 0 7))]) (G1 := G) ml_X8_95 (c_X8_isHouse h) dX8_housePays_1 ⟨Nat.le_of_ble_eq_true rfl, Nat.le_of_ble_eq_true rfl⟩ rfl (Nat.le_of_ble_eq_true rfl) rfl rfl ?_
  refine xj_ifb_ne (tgt := 11) hk dX8_housePays_4 (by decide) (fun c4 => ?_) (fun c4 => ?_)
  · refine xj_aload_n (i := 0) hk dX8_housePays_11 rfl rfl ?_
    refine xj_callVE hk hz (fr1 := 3) (lo1 := 65) (As := []) (st := []) ml_X8_174 (c_sellsK (n := n) (M := M) (show G 21 = pM v (md_th M) (nR te ho ow hs ra lo (nI n) st av so ln) (md_pt M) (md_re M) (md_sd M) (md_be M) (md_pb M) (md_ac M) (md_od M) (md_ad M) (md_wy M) (md_so M) (md_rl M) (md_io M) (md_po M) (md_sp M) (md_rs M) (md_st M) (md_av M) (md_ip M) (md_tx M) (md_tm M) (md_ta M) (md_td M) (md_wo M) (md_sq M) (md_tk M) (md_bg M) (md_nu M) (md_wr M) from hM) hq) (xw_at hM rfl) rfl dX8_housePays_12 ⟨Nat.le_of_ble_eq_true rfl, Nat.le_of_ble_eq_true rfl⟩ rfl (Nat.le_of_ble_eq_true rfl) rfl ?_
    rintro _ _ ⟨rfl, od, ad, wy, rl, so3, io3, hag, rfl⟩
    have hag : agS n (sl_w (kM te ho ow hs ra lo n) od ad wy so3) (kM te ho ow hs ra lo n) := hag
    show xj v κ _ z (xw_up G 21 (pM v (md_th M) (nR te ho ow hs ra lo (nI n) st av so ln) (md_pt M) (md_re M) (md_sd M) (md_be M) (md_pb M) (md_ac M) od ad wy so3 rl io3 (sl_po (kM te ho ow hs ra lo n)) (sl_sp (kM te ho ow hs ra lo n)) (sl_rs (kM te ho ow hs ra lo n)) (sl_st (kM te ho ow hs ra lo n)) (sl_av (kM te ho ow hs ra lo n)) (sl_pt (kM te ho ow hs ra lo n)) (md_tx M) (md_tm M) (md_ta M) (md_td M) (md_wo M) (md_sq M) (md_tk M) (md_bg M) (md_nu M) (md_wr M))) 15 _ []
    refine xj_aload_n (i := 0) hk dX8_housePays_15 rfl rfl ?_
    refine xj_iload_n (i := 1) hk dX8_housePays_16 rfl rfl ?_
    refine xj_callV hk hz (fr1 := 3) (lo1 := 64) (r1 := some (.long (sml (fun j => if hs j = h then payM te ra so3 (sl_st (kM te ho ow hs ra lo n)) (sl_av (kM te ho ow hs ra lo n)) j else 0) n))) (As := [.int h]) (st := []) (st2 := [.long (sml (fun j => if hs j = h then payM te ra so3 (sl_st (kM te ho ow hs ra lo n)) (sl_av (kM te ho ow hs ra lo n)) j else 0) n)]) (G1 := xw_up G 21 (pM v (md_th M) (nR te ho ow hs ra lo (nI n) st av so ln) (md_pt M) (md_re M) (md_sd M) (md_be M) (md_pb M) (md_ac M) od ad wy so3 rl io3 (sl_po (kM te ho ow hs ra lo n)) (sl_sp (kM te ho ow hs ra lo n)) (sl_rs (kM te ho ow hs ra lo n)) (sl_st (kM te ho ow hs ra lo n)) (sl_av (kM te ho ow hs ra lo n)) (sl_pt (kM te ho ow hs ra lo n)) (md_tx M) (md_tm M) (md_ta M) (md_td M) (md_wo M) (md_sq M) (md_tk M) (md_bg M) (md_nu M) (md_wr M))) ml_X8_195 (c_X8_paidBySold (n := n) (M := (md_th M, nR te ho ow hs ra lo (nI n) st av so ln, md_pt M, md_re M, md_sd M, md_be M, md_pb M, md_ac M, od, ad, wy, so3, rl, io3, sl_po (kM te ho ow hs ra lo n), sl_sp (kM te ho ow hs ra lo n), sl_rs (kM te ho ow hs ra lo n), sl_st (kM te ho ow hs ra lo n), sl_av (kM te ho ow hs ra lo n), sl_pt (kM te ho ow hs ra lo n), md_tx M, md_tm M, md_ta M, md_td M, md_wo M, md_sq M, md_tk M, md_bg M, md_nu M, md_wr M)) (show (xw_up G 21 (pM v (md_th M) (nR te ho ow hs ra lo (nI n) st av so ln) (md_pt M) (md_re M) (md_sd M) (md_be M) (md_pb M) (md_ac M) od ad wy so3 rl io3 (sl_po (kM te ho ow hs ra lo n)) (sl_sp (kM te ho ow hs ra lo n)) (sl_rs (kM te ho ow hs ra lo n)) (sl_st (kM te ho ow hs ra lo n)) (sl_av (kM te ho ow hs ra lo n)) (sl_pt (kM te ho ow hs ra lo n)) (md_tx M) (md_tm M) (md_ta M) (md_td M) (md_wo M) (md_sq M) (md_tk M) (md_bg M) (md_nu M) (md_wr M))) 21 = pM v (md_th M) (nR te ho ow hs ra lo (nI n) st av so ln) (md_pt M) (md_re M) (md_sd M) (md_be M) (md_pb M) (md_ac M) od ad wy so3 rl io3 (sl_po (kM te ho ow hs ra lo n)) (sl_sp (kM te ho ow hs ra lo n)) (sl_rs (kM te ho ow hs ra lo n)) (sl_st (kM te ho ow hs ra lo n)) (sl_av (kM te ho ow hs ra lo n)) (sl_pt (kM te ho ow hs ra lo n)) (md_tx M) (md_tm M) (md_ta M) (md_td M) (md_wo M) (md_sq M) (md_tk M) (md_bg M) (md_nu M) (md_wr M) from xw_up_s) hn30 h) (xw_at xw_up_s rfl) rfl dX8_housePays_17 ⟨Nat.le_of_ble_eq_true rfl, Nat.le_of_ble_eq_true rfl⟩ rfl (Nat.le_of_ble_eq_true rfl) rfl rfl ?_
    refine xj_lreturn hk hz dX8_housePays_20 ?_
    refine ⟨?_, ⟨⟨(md_th M, nR te ho ow hs ra lo (nI n) st av so ln, md_pt M, md_re M, md_sd M, md_be M, md_pb M, md_ac M, od, ad, wy, so3, rl, io3, sl_po (kM te ho ow hs ra lo n), sl_sp (kM te ho ow hs ra lo n), sl_rs (kM te ho ow hs ra lo n), sl_st (kM te ho ow hs ra lo n), sl_av (kM te ho ow hs ra lo n), sl_pt (kM te ho ow hs ra lo n), md_tx M, md_tm M, md_ta M, md_td M, md_wo M, md_sq M, md_tk M, md_bg M, md_nu M, md_wr M), xw_up_s, rfl, rfl, rfl, rfl, rfl, rfl, rfl⟩, fun g h => xw_up_n h⟩⟩
    · rw [← q_hpays_ag (B := (mB te ho ow hs ra lo n)) (n := n) _ hag]
      simp only [q_hpays]
      rw [ih_tt c4, if_pos rfl]
      have e9 := fun j => (show ∀ j, payM te ra so3 (sl_st (kM te ho ow hs ra lo n)) (sl_av (kM te ho ow hs ra lo n)) j = payF (mB te ho ow hs ra lo n) (sl_w (kM te ho ow hs ra lo n) od ad wy so3) j from fun j => payM_F (K := (sl_w (kM te ho ow hs ra lo n) od ad wy so3)) hq.2.2.2.1 j) j
      simp only [e9]
      rfl
  · refine xj_ldc2 (x := -1) hk dX8_housePays_7 kl_X8_190 ?_
    refine xj_lreturn hk hz dX8_housePays_10 ?_
    refine ⟨?_, ⟨⟨M, hM, rfl, rfl, rfl, rfl, rfl, rfl, rfl⟩, fun _ _ => rfl⟩⟩
    · rw [show q_hpays (mB te ho ow hs ra lo n) (kM te ho ow hs ra lo n) n h = -1 from by simp only [q_hpays]; rw [show isH h = false from ih_f c4]; rfl]

theorem toI64_0 {x : Int32} (h : x.toInt64 = 0) : x = 0 := by
  have h := congrArg Int64.toInt h
  rw [Int32.toInt_toInt64] at h
  exact Int32.toInt_inj.mp h
theorem ssum_nn {B : bk_T} {n : Nat} {K : sl_T} (h : kF B n K) (f : Nat → Bool) : ∃ l, sm (fun j => if f j = true then sl_so K j else 0) n = nI l ∧ l ≤ 30000 * n := by
  have c : ∃ c : Nat → Nat, ∀ j, j < n → sl_so K j = nI (c j) ∧ c j ≤ 1000 := ⟨fun j => xn (sl_so K j), fun j hj => by
    obtain ⟨c, a, e, -, h1, h2, -⟩ := kF_ad h j hj
    show sl_so K j = nI (xn (sl_so K j)) ∧ xn (sl_so K j) ≤ 1000
    rw [e, xn_nI (by omega)]; exact ⟨rfl, by omega⟩⟩
  obtain ⟨c, hc⟩ := c
  refine ⟨nS (fun j => if f j = true then c j else 0) n, sm_nS (fun j hj => ?_), ?_⟩
  · split
    · exact (hc j hj).1
    · rfl
  · exact Nat.le_trans (nS_bd (c := 1000) (fun j hj => by split; exact (hc j hj).2; omega)) (by omega)
theorem sel_nn {B : bk_T} {n : Nat} {K : sl_T} (h : kF B n K) (hn : n ≤ 30) (hs : Nat → Int32) (x : Int32) : (sm (sel hs x (sl_so K)) n ≤ 0 ↔ sm (sel hs x (sl_so K)) n = 0) ∧ 0 ≤ sm (sel hs x (sl_so K)) n := by
  obtain ⟨l, e, bl⟩ := ssum_nn h (fun j => decide (hs j = x))
  have e : sm (sel hs x (sl_so K)) n = nI l := by
    rw [← e]
    exact sm_congr (fun j hj => by simp only [sel, decide_eq_true_eq])
  rw [e]
  have h0 : (0 : Int32) ≤ nI l := Int32.not_lt.mp (nI_pos (by omega))
  exact ⟨⟨fun q => Int32.le_antisymm q h0, fun q => by rw [q]; exact Int32.le_rfl⟩, h0⟩
set_option maxHeartbeats 1000000 in
set_option maxRecDepth 10000 in
theorem c_X8_mean {v : xw_V} {G : xw_G} {M : md_T} {te ho ow hs ra lo st av so : Nat → Int32} {ln : Int32} {n : Nat} (hM : G 21 = pM v (md_th M) (nR te ho ow hs ra lo (nI n) st av so ln) (md_pt M) (md_re M) (md_sd M) (md_be M) (md_pb M) (md_ac M) (md_od M) (md_ad M) (md_wy M) (md_so M) (md_rl M) (md_io M) (md_po M) (md_sp M) (md_rs M) (md_st M) (md_av M) (md_ip M) (md_tx M) (md_tm M) (md_ta M) (md_td M) (md_wo M) (md_sq M) (md_tk M) (md_bg M) (md_nu M) (md_wr M)) (hq : MV te ow hs ra lo n) (h : Int32) : xk_Con v yX8_mean cX8_mean 3 (some .long) 4 89 [.ref (xw_ad v 21 0), .int h] G (fun r9 G' => r9 = some (.long (q_mean (mB te ho ow hs ra lo n) (kM te ho ow hs ra lo n) n h)) ∧ mQ v G G' (nR te ho ow hs ra lo (nI n) st av so ln) M) := by
  refine xk_of (ls0 := [some (.ref (xw_ad v 21 0)), some (.int h), none]) (by decide) rfl (Nat.le_of_ble_eq_true rfl) ?_
  intro κ z hk hz
  have hn30 : n ≤ 30 := hq.1
  refine xj_iload_n (i := 1) hk dX8_mean_0 rfl rfl ?_
  refine xj_callS hk hz (fr1 := 1) (lo1 := 22) (r1 := some (.int (xb (mIn h 0 7)))) (As := [.int h]) (st := []) (st2 := [.int (xb (mIn h 0 7))]) (G1 := G) ml_X8_95 (c_X8_isHouse h) dX8_mean_1 ⟨Nat.le_of_ble_eq_true rfl, Nat.le_of_ble_eq_true rfl⟩ rfl (Nat.le_of_ble_eq_true rfl) rfl rfl ?_
  refine xj_ifb_ne (tgt := 11) hk dX8_mean_4 (by decide) (fun c4 => ?_) (fun c4 => ?_)
  · refine xj_aload_n (i := 0) hk dX8_mean_11 rfl rfl ?_
    refine xj_callVE hk hz (fr1 := 3) (lo1 := 65) (As := []) (st := []) ml_X8_174 (c_sellsK (n := n) (M := M) (show G 21 = pM v (md_th M) (nR te ho ow hs ra lo (nI n) st av so ln) (md_pt M) (md_re M) (md_sd M) (md_be M) (md_pb M) (md_ac M) (md_od M) (md_ad M) (md_wy M) (md_so M) (md_rl M) (md_io M) (md_po M) (md_sp M) (md_rs M) (md_st M) (md_av M) (md_ip M) (md_tx M) (md_tm M) (md_ta M) (md_td M) (md_wo M) (md_sq M) (md_tk M) (md_bg M) (md_nu M) (md_wr M) from hM) hq) (xw_at hM rfl) rfl dX8_mean_12 ⟨Nat.le_of_ble_eq_true rfl, Nat.le_of_ble_eq_true rfl⟩ rfl (Nat.le_of_ble_eq_true rfl) rfl ?_
    rintro _ _ ⟨rfl, od, ad, wy, rl, so3, io3, hag, rfl⟩
    have hag : agS n (sl_w (kM te ho ow hs ra lo n) od ad wy so3) (kM te ho ow hs ra lo n) := hag
    show xj v κ _ z (xw_up G 21 (pM v (md_th M) (nR te ho ow hs ra lo (nI n) st av so ln) (md_pt M) (md_re M) (md_sd M) (md_be M) (md_pb M) (md_ac M) od ad wy so3 rl io3 (sl_po (kM te ho ow hs ra lo n)) (sl_sp (kM te ho ow hs ra lo n)) (sl_rs (kM te ho ow hs ra lo n)) (sl_st (kM te ho ow hs ra lo n)) (sl_av (kM te ho ow hs ra lo n)) (sl_pt (kM te ho ow hs ra lo n)) (md_tx M) (md_tm M) (md_ta M) (md_td M) (md_wo M) (md_sq M) (md_tk M) (md_bg M) (md_nu M) (md_wr M))) 15 _ []
    refine xj_aload_n (i := 0) hk dX8_mean_15 rfl rfl ?_
    refine xj_iload_n (i := 1) hk dX8_mean_16 rfl rfl ?_
    refine xj_callV hk hz (fr1 := 1) (lo1 := 21) (r1 := some (.int (sm (sel hs h so3) n))) (As := [.int h]) (st := []) (st2 := [.int (sm (sel hs h so3) n)]) (G1 := xw_up G 21 (pM v (md_th M) (nR te ho ow hs ra lo (nI n) st av so ln) (md_pt M) (md_re M) (md_sd M) (md_be M) (md_pb M) (md_ac M) od ad wy so3 rl io3 (sl_po (kM te ho ow hs ra lo n)) (sl_sp (kM te ho ow hs ra lo n)) (sl_rs (kM te ho ow hs ra lo n)) (sl_st (kM te ho ow hs ra lo n)) (sl_av (kM te ho ow hs ra lo n)) (sl_pt (kM te ho ow hs ra lo n)) (md_tx M) (md_tm M) (md_ta M) (md_td M) (md_wo M) (md_sq M) (md_tk M) (md_bg M) (md_nu M) (md_wr M))) ml_X8_184 (c_X8_soldOf (n := n) (M := (md_th M, nR te ho ow hs ra lo (nI n) st av so ln, md_pt M, md_re M, md_sd M, md_be M, md_pb M, md_ac M, od, ad, wy, so3, rl, io3, sl_po (kM te ho ow hs ra lo n), sl_sp (kM te ho ow hs ra lo n), sl_rs (kM te ho ow hs ra lo n), sl_st (kM te ho ow hs ra lo n), sl_av (kM te ho ow hs ra lo n), sl_pt (kM te ho ow hs ra lo n), md_tx M, md_tm M, md_ta M, md_td M, md_wo M, md_sq M, md_tk M, md_bg M, md_nu M, md_wr M)) (show (xw_up G 21 (pM v (md_th M) (nR te ho ow hs ra lo (nI n) st av so ln) (md_pt M) (md_re M) (md_sd M) (md_be M) (md_pb M) (md_ac M) od ad wy so3 rl io3 (sl_po (kM te ho ow hs ra lo n)) (sl_sp (kM te ho ow hs ra lo n)) (sl_rs (kM te ho ow hs ra lo n)) (sl_st (kM te ho ow hs ra lo n)) (sl_av (kM te ho ow hs ra lo n)) (sl_pt (kM te ho ow hs ra lo n)) (md_tx M) (md_tm M) (md_ta M) (md_td M) (md_wo M) (md_sq M) (md_tk M) (md_bg M) (md_nu M) (md_wr M))) 21 = pM v (md_th M) (nR te ho ow hs ra lo (nI n) st av so ln) (md_pt M) (md_re M) (md_sd M) (md_be M) (md_pb M) (md_ac M) od ad wy so3 rl io3 (sl_po (kM te ho ow hs ra lo n)) (sl_sp (kM te ho ow hs ra lo n)) (sl_rs (kM te ho ow hs ra lo n)) (sl_st (kM te ho ow hs ra lo n)) (sl_av (kM te ho ow hs ra lo n)) (sl_pt (kM te ho ow hs ra lo n)) (md_tx M) (md_tm M) (md_ta M) (md_td M) (md_wo M) (md_sq M) (md_tk M) (md_bg M) (md_nu M) (md_wr M) from xw_up_s) hn30 h) (xw_at xw_up_s rfl) rfl dX8_mean_17 ⟨Nat.le_of_ble_eq_true rfl, Nat.le_of_ble_eq_true rfl⟩ rfl (Nat.le_of_ble_eq_true rfl) rfl rfl ?_
    refine xj_istore_n (i := 2) (ls2 := [some (.ref (xw_ad v 21 0)), some (.int h), some (.int (sm (sel hs h so3) n))]) hk dX8_mean_20 rfl (by decide) rfl rfl ?_
    refine xj_iload_n (i := 2) hk dX8_mean_21 rfl rfl ?_
    refine xj_if_ne (tgt := 31) hk dX8_mean_22 (by decide) (fun c22 => ?_) (fun c22 => ?_)
    · refine xj_aload_n (i := 0) hk dX8_mean_31 rfl rfl ?_
      refine xj_iload_n (i := 1) hk dX8_mean_32 rfl rfl ?_
      refine xj_callV hk hz (fr1 := 3) (lo1 := 64) (r1 := some (.long (sml (fun j => if hs j = h then payM te ra so3 (sl_st (kM te ho ow hs ra lo n)) (sl_av (kM te ho ow hs ra lo n)) j else 0) n))) (As := [.int h]) (st := []) (st2 := [.long (sml (fun j => if hs j = h then payM te ra so3 (sl_st (kM te ho ow hs ra lo n)) (sl_av (kM te ho ow hs ra lo n)) j else 0) n)]) (G1 := xw_up G 21 (pM v (md_th M) (nR te ho ow hs ra lo (nI n) st av so ln) (md_pt M) (md_re M) (md_sd M) (md_be M) (md_pb M) (md_ac M) od ad wy so3 rl io3 (sl_po (kM te ho ow hs ra lo n)) (sl_sp (kM te ho ow hs ra lo n)) (sl_rs (kM te ho ow hs ra lo n)) (sl_st (kM te ho ow hs ra lo n)) (sl_av (kM te ho ow hs ra lo n)) (sl_pt (kM te ho ow hs ra lo n)) (md_tx M) (md_tm M) (md_ta M) (md_td M) (md_wo M) (md_sq M) (md_tk M) (md_bg M) (md_nu M) (md_wr M))) ml_X8_195 (c_X8_paidBySold (n := n) (M := (md_th M, nR te ho ow hs ra lo (nI n) st av so ln, md_pt M, md_re M, md_sd M, md_be M, md_pb M, md_ac M, od, ad, wy, so3, rl, io3, sl_po (kM te ho ow hs ra lo n), sl_sp (kM te ho ow hs ra lo n), sl_rs (kM te ho ow hs ra lo n), sl_st (kM te ho ow hs ra lo n), sl_av (kM te ho ow hs ra lo n), sl_pt (kM te ho ow hs ra lo n), md_tx M, md_tm M, md_ta M, md_td M, md_wo M, md_sq M, md_tk M, md_bg M, md_nu M, md_wr M)) (show (xw_up G 21 (pM v (md_th M) (nR te ho ow hs ra lo (nI n) st av so ln) (md_pt M) (md_re M) (md_sd M) (md_be M) (md_pb M) (md_ac M) od ad wy so3 rl io3 (sl_po (kM te ho ow hs ra lo n)) (sl_sp (kM te ho ow hs ra lo n)) (sl_rs (kM te ho ow hs ra lo n)) (sl_st (kM te ho ow hs ra lo n)) (sl_av (kM te ho ow hs ra lo n)) (sl_pt (kM te ho ow hs ra lo n)) (md_tx M) (md_tm M) (md_ta M) (md_td M) (md_wo M) (md_sq M) (md_tk M) (md_bg M) (md_nu M) (md_wr M))) 21 = pM v (md_th M) (nR te ho ow hs ra lo (nI n) st av so ln) (md_pt M) (md_re M) (md_sd M) (md_be M) (md_pb M) (md_ac M) od ad wy so3 rl io3 (sl_po (kM te ho ow hs ra lo n)) (sl_sp (kM te ho ow hs ra lo n)) (sl_rs (kM te ho ow hs ra lo n)) (sl_st (kM te ho ow hs ra lo n)) (sl_av (kM te ho ow hs ra lo n)) (sl_pt (kM te ho ow hs ra lo n)) (md_tx M) (md_tm M) (md_ta M) (md_td M) (md_wo M) (md_sq M) (md_tk M) (md_bg M) (md_nu M) (md_wr M) from xw_up_s) hn30 h) (xw_at xw_up_s rfl) rfl dX8_mean_33 ⟨Nat.le_of_ble_eq_true rfl, Nat.le_of_ble_eq_true rfl⟩ rfl (Nat.le_of_ble_eq_true rfl) rfl rfl ?_
      refine xj_iload_n (i := 2) hk dX8_mean_36 rfl rfl ?_
      refine xj_i2l hk dX8_mean_37 ?_
      refine xj_ldiv hk dX8_mean_38 (fun q => c22 (toI64_0 q)) ?_
      refine xj_lreturn hk hz dX8_mean_39 ?_
      refine ⟨?_, ⟨⟨(md_th M, nR te ho ow hs ra lo (nI n) st av so ln, md_pt M, md_re M, md_sd M, md_be M, md_pb M, md_ac M, od, ad, wy, so3, rl, io3, sl_po (kM te ho ow hs ra lo n), sl_sp (kM te ho ow hs ra lo n), sl_rs (kM te ho ow hs ra lo n), sl_st (kM te ho ow hs ra lo n), sl_av (kM te ho ow hs ra lo n), sl_pt (kM te ho ow hs ra lo n), md_tx M, md_tm M, md_ta M, md_td M, md_wo M, md_sq M, md_tk M, md_bg M, md_nu M, md_wr M), xw_up_s, rfl, rfl, rfl, rfl, rfl, rfl, rfl⟩, fun g h => xw_up_n h⟩⟩
      · rw [show q_mean (mB te ho ow hs ra lo n) (kM te ho ow hs ra lo n) n h = (if sm (sel hs h (sl_so (kM te ho ow hs ra lo n))) n ≤ 0 then -2 else sml (fun j => if hs j = h then payF (mB te ho ow hs ra lo n) (kM te ho ow hs ra lo n) j else 0) n / (sm (sel hs h (sl_so (kM te ho ow hs ra lo n))) n).toInt64) from by simp only [q_mean]; rw [ih_tt c4, if_pos rfl]; rfl]
        have e8 : sm (sel hs h so3) n = sm (sel hs h (sl_so (kM te ho ow hs ra lo n))) n := selso2_ag hag
        have e7 := (sel_nn (kMF (ho := ho) hq) hn30 hs h).1
        rw [← e8] at e7 ⊢
        rw [if_neg (fun q => c22 (e7.mp q))]
        have e9 := fun j => (show ∀ j, payM te ra so3 (sl_st (kM te ho ow hs ra lo n)) (sl_av (kM te ho ow hs ra lo n)) j = payF (mB te ho ow hs ra lo n) (sl_w (kM te ho ow hs ra lo n) od ad wy so3) j from fun j => payM_F (K := (sl_w (kM te ho ow hs ra lo n) od ad wy so3)) hq.2.2.2.1 j) j
        simp only [e9]
        have e6 := hp_ag (B := (mB te ho ow hs ra lo n)) (x := h) hag
        rw [show sml (fun j => if hs j = h then payF (mB te ho ow hs ra lo n) (sl_w (kM te ho ow hs ra lo n) od ad wy so3) j else 0) n = _ from e6]
        rfl
    · refine xj_ldc2 (x := -2) hk dX8_mean_25 kl_X8_207 ?_
      refine xj_goto (tgt := 39) hk dX8_mean_28 (by decide) ?_
      refine xj_lreturn hk hz dX8_mean_39 ?_
      refine ⟨?_, ⟨⟨(md_th M, nR te ho ow hs ra lo (nI n) st av so ln, md_pt M, md_re M, md_sd M, md_be M, md_pb M, md_ac M, od, ad, wy, so3, rl, io3, sl_po (kM te ho ow hs ra lo n), sl_sp (kM te ho ow hs ra lo n), sl_rs (kM te ho ow hs ra lo n), sl_st (kM te ho ow hs ra lo n), sl_av (kM te ho ow hs ra lo n), sl_pt (kM te ho ow hs ra lo n), md_tx M, md_tm M, md_ta M, md_td M, md_wo M, md_sq M, md_tk M, md_bg M, md_nu M, md_wr M), xw_up_s, rfl, rfl, rfl, rfl, rfl, rfl, rfl⟩, fun g h => xw_up_n h⟩⟩
      · rw [show q_mean (mB te ho ow hs ra lo n) (kM te ho ow hs ra lo n) n h = (if sm (sel hs h (sl_so (kM te ho ow hs ra lo n))) n ≤ 0 then -2 else sml (fun j => if hs j = h then payF (mB te ho ow hs ra lo n) (kM te ho ow hs ra lo n) j else 0) n / (sm (sel hs h (sl_so (kM te ho ow hs ra lo n))) n).toInt64) from by simp only [q_mean]; rw [ih_tt c4, if_pos rfl]; rfl]
        have e8 : sm (sel hs h so3) n = sm (sel hs h (sl_so (kM te ho ow hs ra lo n))) n := selso2_ag hag
        have e7 := (sel_nn (kMF (ho := ho) hq) hn30 hs h).1
        rw [← e8] at e7 ⊢
        rw [if_pos (e7.mpr c22)]
  · refine xj_ldc2 (x := -1) hk dX8_mean_7 kl_X8_190 ?_
    refine xj_lreturn hk hz dX8_mean_10 ?_
    refine ⟨?_, ⟨⟨M, hM, rfl, rfl, rfl, rfl, rfl, rfl, rfl⟩, fun _ _ => rfl⟩⟩
    · rw [show q_mean (mB te ho ow hs ra lo n) (kM te ho ow hs ra lo n) n h = -1 from by simp only [q_mean]; rw [show isH h = false from ih_f c4]; rfl]

set_option maxHeartbeats 1000000 in
set_option maxRecDepth 10000 in
theorem c_X8_filled {v : xw_V} {G : xw_G} {M : md_T} {te ho ow hs ra lo st av so : Nat → Int32} {ln : Int32} {n : Nat} (hM : G 21 = pM v (md_th M) (nR te ho ow hs ra lo (nI n) st av so ln) (md_pt M) (md_re M) (md_sd M) (md_be M) (md_pb M) (md_ac M) (md_od M) (md_ad M) (md_wy M) (md_so M) (md_rl M) (md_io M) (md_po M) (md_sp M) (md_rs M) (md_st M) (md_av M) (md_ip M) (md_tx M) (md_tm M) (md_ta M) (md_td M) (md_wo M) (md_sq M) (md_tk M) (md_bg M) (md_nu M) (md_wr M)) (hq : MV te ow hs ra lo n) (b : Int32) : xk_Con v yX8_filled cX8_filled 2 (some .int) 4 89 [.ref (xw_ad v 21 0), .int b] G (fun r9 G' => r9 = some (.int (q_filled (mB te ho ow hs ra lo n) (kM te ho ow hs ra lo n) b)) ∧ mQ v G G' (nR te ho ow hs ra lo (nI n) st av so ln) M) := by
  refine xk_of (ls0 := [some (.ref (xw_ad v 21 0)), some (.int b)]) (by decide) rfl (Nat.le_of_ble_eq_true rfl) ?_
  intro κ z hk hz
  have hn30 : n ≤ 30 := hq.1
  refine xj_aload_n (i := 0) hk dX8_filled_0 rfl rfl ?_
  refine xj_iload_n (i := 1) hk dX8_filled_1 rfl rfl ?_
  refine xj_callV hk hz (fr1 := 1) (lo1 := 22) (r1 := some (.int (xb (mIn b 0 ((nI n) - 1))))) (As := [.int b]) (st := []) (st2 := [.int (xb (mIn b 0 ((nI n) - 1)))]) (G1 := G) ml_X8_108 (c_X8_isBid (M := M) (show G 21 = pM v (md_th M) (nR te ho ow hs ra lo (nI n) st av so ln) (md_pt M) (md_re M) (md_sd M) (md_be M) (md_pb M) (md_ac M) (md_od M) (md_ad M) (md_wy M) (md_so M) (md_rl M) (md_io M) (md_po M) (md_sp M) (md_rs M) (md_st M) (md_av M) (md_ip M) (md_tx M) (md_tm M) (md_ta M) (md_td M) (md_wo M) (md_sq M) (md_tk M) (md_bg M) (md_nu M) (md_wr M) from hM) b) (xw_at hM rfl) rfl dX8_filled_2 ⟨Nat.le_of_ble_eq_true rfl, Nat.le_of_ble_eq_true rfl⟩ rfl (Nat.le_of_ble_eq_true rfl) rfl rfl ?_
  refine xj_ifb_ne (tgt := 10) hk dX8_filled_5 (by decide) (fun c5 => ?_) (fun c5 => ?_)
  · obtain ⟨j, hj_j, rfl⟩ := hasB_of (n := n) rfl hn30 (by rw [← mIn_bid hn30]; exact c5)
    refine xj_aload_n (i := 0) hk dX8_filled_10 rfl rfl ?_
    refine xj_callVE hk hz (fr1 := 3) (lo1 := 65) (As := []) (st := []) ml_X8_174 (c_sellsK (n := n) (M := M) (show G 21 = pM v (md_th M) (nR te ho ow hs ra lo (nI n) st av so ln) (md_pt M) (md_re M) (md_sd M) (md_be M) (md_pb M) (md_ac M) (md_od M) (md_ad M) (md_wy M) (md_so M) (md_rl M) (md_io M) (md_po M) (md_sp M) (md_rs M) (md_st M) (md_av M) (md_ip M) (md_tx M) (md_tm M) (md_ta M) (md_td M) (md_wo M) (md_sq M) (md_tk M) (md_bg M) (md_nu M) (md_wr M) from hM) hq) (xw_at hM rfl) rfl dX8_filled_11 ⟨Nat.le_of_ble_eq_true rfl, Nat.le_of_ble_eq_true rfl⟩ rfl (Nat.le_of_ble_eq_true rfl) rfl ?_
    rintro _ _ ⟨rfl, od, ad, wy, rl, so3, io3, hag, rfl⟩
    have hag : agS n (sl_w (kM te ho ow hs ra lo n) od ad wy so3) (kM te ho ow hs ra lo n) := hag
    show xj v κ _ z (xw_up G 21 (pM v (md_th M) (nR te ho ow hs ra lo (nI n) st av so ln) (md_pt M) (md_re M) (md_sd M) (md_be M) (md_pb M) (md_ac M) od ad wy so3 rl io3 (sl_po (kM te ho ow hs ra lo n)) (sl_sp (kM te ho ow hs ra lo n)) (sl_rs (kM te ho ow hs ra lo n)) (sl_st (kM te ho ow hs ra lo n)) (sl_av (kM te ho ow hs ra lo n)) (sl_pt (kM te ho ow hs ra lo n)) (md_tx M) (md_tm M) (md_ta M) (md_td M) (md_wo M) (md_sq M) (md_tk M) (md_bg M) (md_nu M) (md_wr M))) 14 _ []
    refine xj_aload_n (i := 0) hk dX8_filled_14 rfl rfl ?_
    refine xj_getfield hk dX8_filled_15 fl_X8_42 (xw_at xw_up_s rfl) rfl ?_
    refine xj_iload_n (i := 1) hk dX8_filled_18 rfl rfl ?_
    refine xj_iaload (k := j) hk dX8_filled_19 (xw_at xw_up_s rfl) (xi_n (by omega) (by decide)) ?_
    refine xj_bipush (x := 100) hk dX8_filled_20 (by decide) ?_
    refine xj_imul hk dX8_filled_22 ?_
    refine xj_aload_n (i := 0) hk dX8_filled_23 rfl rfl ?_
    refine xj_iload_n (i := 1) hk dX8_filled_24 rfl rfl ?_
    refine xj_callV hk hz (fr1 := 0) (lo1 := 0) (r1 := some (.int (lo j))) (As := [.int (nI j)]) (st := [.int ((so3 j) * 100)]) (st2 := [.int (lo j), .int ((so3 j) * 100)]) (G1 := xw_up G 21 (pM v (md_th M) (nR te ho ow hs ra lo (nI n) st av so ln) (md_pt M) (md_re M) (md_sd M) (md_be M) (md_pb M) (md_ac M) od ad wy so3 rl io3 (sl_po (kM te ho ow hs ra lo n)) (sl_sp (kM te ho ow hs ra lo n)) (sl_rs (kM te ho ow hs ra lo n)) (sl_st (kM te ho ow hs ra lo n)) (sl_av (kM te ho ow hs ra lo n)) (sl_pt (kM te ho ow hs ra lo n)) (md_tx M) (md_tm M) (md_ta M) (md_td M) (md_wo M) (md_sq M) (md_tk M) (md_bg M) (md_nu M) (md_wr M))) ml_X8_84 (c_X8_lotsOf (b := j) (M := (md_th M, nR te ho ow hs ra lo (nI n) st av so ln, md_pt M, md_re M, md_sd M, md_be M, md_pb M, md_ac M, od, ad, wy, so3, rl, io3, sl_po (kM te ho ow hs ra lo n), sl_sp (kM te ho ow hs ra lo n), sl_rs (kM te ho ow hs ra lo n), sl_st (kM te ho ow hs ra lo n), sl_av (kM te ho ow hs ra lo n), sl_pt (kM te ho ow hs ra lo n), md_tx M, md_tm M, md_ta M, md_td M, md_wo M, md_sq M, md_tk M, md_bg M, md_nu M, md_wr M)) (show (xw_up G 21 (pM v (md_th M) (nR te ho ow hs ra lo (nI n) st av so ln) (md_pt M) (md_re M) (md_sd M) (md_be M) (md_pb M) (md_ac M) od ad wy so3 rl io3 (sl_po (kM te ho ow hs ra lo n)) (sl_sp (kM te ho ow hs ra lo n)) (sl_rs (kM te ho ow hs ra lo n)) (sl_st (kM te ho ow hs ra lo n)) (sl_av (kM te ho ow hs ra lo n)) (sl_pt (kM te ho ow hs ra lo n)) (md_tx M) (md_tm M) (md_ta M) (md_td M) (md_wo M) (md_sq M) (md_tk M) (md_bg M) (md_nu M) (md_wr M))) 21 = pM v (md_th M) (nR te ho ow hs ra lo (nI n) st av so ln) (md_pt M) (md_re M) (md_sd M) (md_be M) (md_pb M) (md_ac M) od ad wy so3 rl io3 (sl_po (kM te ho ow hs ra lo n)) (sl_sp (kM te ho ow hs ra lo n)) (sl_rs (kM te ho ow hs ra lo n)) (sl_st (kM te ho ow hs ra lo n)) (sl_av (kM te ho ow hs ra lo n)) (sl_pt (kM te ho ow hs ra lo n)) (md_tx M) (md_tm M) (md_ta M) (md_td M) (md_wo M) (md_sq M) (md_tk M) (md_bg M) (md_nu M) (md_wr M) from xw_up_s) (by omega)) (xw_at xw_up_s rfl) rfl dX8_filled_25 ⟨Nat.le_of_ble_eq_true rfl, Nat.le_of_ble_eq_true rfl⟩ rfl (Nat.le_of_ble_eq_true rfl) rfl rfl ?_
    refine xj_idiv hk dX8_filled_28 (fun q => absurd (hq.2.2.2.2 j hj_j).2.1 (by rw [q]; decide)) ?_
    refine xj_ireturn hk hz dX8_filled_29 ?_
    refine ⟨?_, ⟨⟨(md_th M, nR te ho ow hs ra lo (nI n) st av so ln, md_pt M, md_re M, md_sd M, md_be M, md_pb M, md_ac M, od, ad, wy, so3, rl, io3, sl_po (kM te ho ow hs ra lo n), sl_sp (kM te ho ow hs ra lo n), sl_rs (kM te ho ow hs ra lo n), sl_st (kM te ho ow hs ra lo n), sl_av (kM te ho ow hs ra lo n), sl_pt (kM te ho ow hs ra lo n), md_tx M, md_tm M, md_ta M, md_td M, md_wo M, md_sq M, md_tk M, md_bg M, md_nu M, md_wr M), xw_up_s, rfl, rfl, rfl, rfl, rfl, rfl, rfl⟩, fun g h => xw_up_n h⟩⟩
    · rw [← q_filled_ag (B := (mB te ho ow hs ra lo n)) (n := n) _ rfl hn30 hag]
      simp only [q_filled]
      rw [show hasB (bk_bi (mB te ho ow hs ra lo n)) (nI j) = true from hb_t hn30 hj_j, xn_nI (show j < 2 ^ 31 by omega), if_pos rfl, if_pos (show 1 ≤ bk_lo (mB te ho ow hs ra lo n) j from (hq.2.2.2.2 j hj_j).2.1)]
      rfl
  · refine xj_iconst (x := (-1)) hk dX8_filled_8 (by decide) ?_
    refine xj_ireturn hk hz dX8_filled_9 ?_
    refine ⟨?_, ⟨⟨M, hM, rfl, rfl, rfl, rfl, rfl, rfl, rfl⟩, fun _ _ => rfl⟩⟩
    · rw [show q_filled (mB te ho ow hs ra lo n) (kM te ho ow hs ra lo n) b = -1 from by simp only [q_filled]; rw [show hasB (bk_bi (mB te ho ow hs ra lo n)) b = false from hb_f hn30 c5]; rfl]

set_option maxHeartbeats 1000000 in
set_option maxRecDepth 10000 in
theorem c_X8_price {v : xw_V} {G : xw_G} {M : md_T} {te ho ow hs ra lo st av so : Nat → Int32} {ln : Int32} {n : Nat} (hM : G 21 = pM v (md_th M) (nR te ho ow hs ra lo (nI n) st av so ln) (md_pt M) (md_re M) (md_sd M) (md_be M) (md_pb M) (md_ac M) (md_od M) (md_ad M) (md_wy M) (md_so M) (md_rl M) (md_io M) (md_po M) (md_sp M) (md_rs M) (md_st M) (md_av M) (md_ip M) (md_tx M) (md_tm M) (md_ta M) (md_td M) (md_wo M) (md_sq M) (md_tk M) (md_bg M) (md_nu M) (md_wr M)) (hq : MV te ow hs ra lo n) (x : Int32) : xk_Con v yX8_price cX8_price 2 (some .int) 2 42 [.ref (xw_ad v 21 0), .int x] G (fun r9 G' => r9 = some (.int (q_price te x)) ∧ mQ v G G' (nR te ho ow hs ra lo (nI n) st av so ln) M) := by
  refine xk_of (ls0 := [some (.ref (xw_ad v 21 0)), some (.int x)]) (by decide) rfl (Nat.le_of_ble_eq_true rfl) ?_
  intro κ z hk hz
  have hn30 : n ≤ 30 := hq.1
  refine xj_iload_n (i := 1) hk dX8_price_0 rfl rfl ?_
  refine xj_callS hk hz (fr1 := 1) (lo1 := 22) (r1 := some (.int (xb (mIn x 0 999)))) (As := [.int x]) (st := []) (st2 := [.int (xb (mIn x 0 999))]) (G1 := G) ml_X8_99 (c_X8_isRate x) dX8_price_1 ⟨Nat.le_of_ble_eq_true rfl, Nat.le_of_ble_eq_true rfl⟩ rfl (Nat.le_of_ble_eq_true rfl) rfl rfl ?_
  refine xj_ifb_eq (tgt := 15) hk dX8_price_4 (by decide) (fun c4 => ?_) (fun c4 => ?_)
  · refine xj_iconst (x := (-1)) hk dX8_price_15 (by decide) ?_
    refine xj_ireturn hk hz dX8_price_16 ?_
    refine ⟨?_, ⟨⟨M, hM, rfl, rfl, rfl, rfl, rfl, rfl, rfl⟩, fun _ _ => rfl⟩⟩
    · simp [q_price, show isR x = _ from c4]
  · refine xj_aload_n (i := 0) hk dX8_price_7 rfl rfl ?_
    refine xj_iload_n (i := 1) hk dX8_price_8 rfl rfl ?_
    refine xj_callV hk hz (fr1 := 0) (lo1 := 0) (r1 := some (.int (pric te x))) (As := [.int x]) (st := []) (st2 := [.int (pric te x)]) (G1 := G) ml_X8_167 (c_X8_priceOf (M := M) (show G 21 = pM v (md_th M) (nR te ho ow hs ra lo (nI n) st av so ln) (md_pt M) (md_re M) (md_sd M) (md_be M) (md_pb M) (md_ac M) (md_od M) (md_ad M) (md_wy M) (md_so M) (md_rl M) (md_io M) (md_po M) (md_sp M) (md_rs M) (md_st M) (md_av M) (md_ip M) (md_tx M) (md_tm M) (md_ta M) (md_td M) (md_wo M) (md_sq M) (md_tk M) (md_bg M) (md_nu M) (md_wr M) from hM) x) (xw_at hM rfl) rfl dX8_price_9 ⟨Nat.le_of_ble_eq_true rfl, Nat.le_of_ble_eq_true rfl⟩ rfl (Nat.le_of_ble_eq_true rfl) rfl rfl ?_
    refine xj_goto (tgt := 16) hk dX8_price_12 (by decide) ?_
    refine xj_ireturn hk hz dX8_price_16 ?_
    refine ⟨?_, ⟨⟨M, hM, rfl, rfl, rfl, rfl, rfl, rfl, rfl⟩, fun _ _ => rfl⟩⟩
    · simp [q_price, show isR x = _ from c4]

set_option maxHeartbeats 1000000 in
set_option maxRecDepth 10000 in
theorem c_X8_upTo {v : xw_V} {G : xw_G} {M : md_T} {te ho ow hs ra lo st av so : Nat → Int32} {ln : Int32} {n : Nat} (hM : G 21 = pM v (md_th M) (nR te ho ow hs ra lo (nI n) st av so ln) (md_pt M) (md_re M) (md_sd M) (md_be M) (md_pb M) (md_ac M) (md_od M) (md_ad M) (md_wy M) (md_so M) (md_rl M) (md_io M) (md_po M) (md_sp M) (md_rs M) (md_st M) (md_av M) (md_ip M) (md_tx M) (md_tm M) (md_ta M) (md_td M) (md_wo M) (md_sq M) (md_tk M) (md_bg M) (md_nu M) (md_wr M)) (hq : MV te ow hs ra lo n) (x : Int32) : xk_Con v yX8_upTo cX8_upTo 2 (some .int) 4 89 [.ref (xw_ad v 21 0), .int x] G (fun r9 G' => r9 = some (.int (q_upTo (mB te ho ow hs ra lo n) (kM te ho ow hs ra lo n) n x)) ∧ mQ v G G' (nR te ho ow hs ra lo (nI n) st av so ln) M) := by
  refine xk_of (ls0 := [some (.ref (xw_ad v 21 0)), some (.int x)]) (by decide) rfl (Nat.le_of_ble_eq_true rfl) ?_
  intro κ z hk hz
  have hn30 : n ≤ 30 := hq.1
  refine xj_iload_n (i := 1) hk dX8_upTo_0 rfl rfl ?_
  refine xj_callS hk hz (fr1 := 1) (lo1 := 22) (r1 := some (.int (xb (mIn x 0 999)))) (As := [.int x]) (st := []) (st2 := [.int (xb (mIn x 0 999))]) (G1 := G) ml_X8_99 (c_X8_isRate x) dX8_upTo_1 ⟨Nat.le_of_ble_eq_true rfl, Nat.le_of_ble_eq_true rfl⟩ rfl (Nat.le_of_ble_eq_true rfl) rfl rfl ?_
  refine xj_ifb_ne (tgt := 9) hk dX8_upTo_4 (by decide) (fun c4 => ?_) (fun c4 => ?_)
  · refine xj_aload_n (i := 0) hk dX8_upTo_9 rfl rfl ?_
    refine xj_callVE hk hz (fr1 := 3) (lo1 := 65) (As := []) (st := []) ml_X8_174 (c_sellsK (n := n) (M := M) (show G 21 = pM v (md_th M) (nR te ho ow hs ra lo (nI n) st av so ln) (md_pt M) (md_re M) (md_sd M) (md_be M) (md_pb M) (md_ac M) (md_od M) (md_ad M) (md_wy M) (md_so M) (md_rl M) (md_io M) (md_po M) (md_sp M) (md_rs M) (md_st M) (md_av M) (md_ip M) (md_tx M) (md_tm M) (md_ta M) (md_td M) (md_wo M) (md_sq M) (md_tk M) (md_bg M) (md_nu M) (md_wr M) from hM) hq) (xw_at hM rfl) rfl dX8_upTo_10 ⟨Nat.le_of_ble_eq_true rfl, Nat.le_of_ble_eq_true rfl⟩ rfl (Nat.le_of_ble_eq_true rfl) rfl ?_
    rintro _ _ ⟨rfl, od, ad, wy, rl, so3, io3, hag, rfl⟩
    have hag : agS n (sl_w (kM te ho ow hs ra lo n) od ad wy so3) (kM te ho ow hs ra lo n) := hag
    show xj v κ _ z (xw_up G 21 (pM v (md_th M) (nR te ho ow hs ra lo (nI n) st av so ln) (md_pt M) (md_re M) (md_sd M) (md_be M) (md_pb M) (md_ac M) od ad wy so3 rl io3 (sl_po (kM te ho ow hs ra lo n)) (sl_sp (kM te ho ow hs ra lo n)) (sl_rs (kM te ho ow hs ra lo n)) (sl_st (kM te ho ow hs ra lo n)) (sl_av (kM te ho ow hs ra lo n)) (sl_pt (kM te ho ow hs ra lo n)) (md_tx M) (md_tm M) (md_ta M) (md_td M) (md_wo M) (md_sq M) (md_tk M) (md_bg M) (md_nu M) (md_wr M))) 13 _ []
    refine xj_aload_n (i := 0) hk dX8_upTo_13 rfl rfl ?_
    refine xj_iload_n (i := 1) hk dX8_upTo_14 rfl rfl ?_
    refine xj_callV hk hz (fr1 := 2) (lo1 := 42) (r1 := some (.int (sm (fun j => if ra j = -1 then 0 else if x < ra j then 0 else ad j) n))) (As := [.int x]) (st := []) (st2 := [.int (sm (fun j => if ra j = -1 then 0 else if x < ra j then 0 else ad j) n)]) (G1 := xw_up G 21 (pM v (md_th M) (nR te ho ow hs ra lo (nI n) st av so ln) (md_pt M) (md_re M) (md_sd M) (md_be M) (md_pb M) (md_ac M) od ad wy so3 rl io3 (sl_po (kM te ho ow hs ra lo n)) (sl_sp (kM te ho ow hs ra lo n)) (sl_rs (kM te ho ow hs ra lo n)) (sl_st (kM te ho ow hs ra lo n)) (sl_av (kM te ho ow hs ra lo n)) (sl_pt (kM te ho ow hs ra lo n)) (md_tx M) (md_tm M) (md_ta M) (md_td M) (md_wo M) (md_sq M) (md_tk M) (md_bg M) (md_nu M) (md_wr M))) ml_X8_160 (c_X8_admittedTo (n := n) (M := (md_th M, nR te ho ow hs ra lo (nI n) st av so ln, md_pt M, md_re M, md_sd M, md_be M, md_pb M, md_ac M, od, ad, wy, so3, rl, io3, sl_po (kM te ho ow hs ra lo n), sl_sp (kM te ho ow hs ra lo n), sl_rs (kM te ho ow hs ra lo n), sl_st (kM te ho ow hs ra lo n), sl_av (kM te ho ow hs ra lo n), sl_pt (kM te ho ow hs ra lo n), md_tx M, md_tm M, md_ta M, md_td M, md_wo M, md_sq M, md_tk M, md_bg M, md_nu M, md_wr M)) (show (xw_up G 21 (pM v (md_th M) (nR te ho ow hs ra lo (nI n) st av so ln) (md_pt M) (md_re M) (md_sd M) (md_be M) (md_pb M) (md_ac M) od ad wy so3 rl io3 (sl_po (kM te ho ow hs ra lo n)) (sl_sp (kM te ho ow hs ra lo n)) (sl_rs (kM te ho ow hs ra lo n)) (sl_st (kM te ho ow hs ra lo n)) (sl_av (kM te ho ow hs ra lo n)) (sl_pt (kM te ho ow hs ra lo n)) (md_tx M) (md_tm M) (md_ta M) (md_td M) (md_wo M) (md_sq M) (md_tk M) (md_bg M) (md_nu M) (md_wr M))) 21 = pM v (md_th M) (nR te ho ow hs ra lo (nI n) st av so ln) (md_pt M) (md_re M) (md_sd M) (md_be M) (md_pb M) (md_ac M) od ad wy so3 rl io3 (sl_po (kM te ho ow hs ra lo n)) (sl_sp (kM te ho ow hs ra lo n)) (sl_rs (kM te ho ow hs ra lo n)) (sl_st (kM te ho ow hs ra lo n)) (sl_av (kM te ho ow hs ra lo n)) (sl_pt (kM te ho ow hs ra lo n)) (md_tx M) (md_tm M) (md_ta M) (md_td M) (md_wo M) (md_sq M) (md_tk M) (md_bg M) (md_nu M) (md_wr M) from xw_up_s) hn30 x) (xw_at xw_up_s rfl) rfl dX8_upTo_15 ⟨Nat.le_of_ble_eq_true rfl, Nat.le_of_ble_eq_true rfl⟩ rfl (Nat.le_of_ble_eq_true rfl) rfl rfl ?_
    refine xj_ireturn hk hz dX8_upTo_18 ?_
    refine ⟨?_, ⟨⟨(md_th M, nR te ho ow hs ra lo (nI n) st av so ln, md_pt M, md_re M, md_sd M, md_be M, md_pb M, md_ac M, od, ad, wy, so3, rl, io3, sl_po (kM te ho ow hs ra lo n), sl_sp (kM te ho ow hs ra lo n), sl_rs (kM te ho ow hs ra lo n), sl_st (kM te ho ow hs ra lo n), sl_av (kM te ho ow hs ra lo n), sl_pt (kM te ho ow hs ra lo n), md_tx M, md_tm M, md_ta M, md_td M, md_wo M, md_sq M, md_tk M, md_bg M, md_nu M, md_wr M), xw_up_s, rfl, rfl, rfl, rfl, rfl, rfl, rfl⟩, fun g h => xw_up_n h⟩⟩
    · rw [← q_upTo_ag (B := (mB te ho ow hs ra lo n)) (n := n) _ hag]
      simp only [q_upTo]
      rw [show isR x = _ from c4, if_pos rfl]
      rfl
  · refine xj_iconst (x := (-1)) hk dX8_upTo_7 (by decide) ?_
    refine xj_ireturn hk hz dX8_upTo_8 ?_
    refine ⟨?_, ⟨⟨M, hM, rfl, rfl, rfl, rfl, rfl, rfl, rfl⟩, fun _ _ => rfl⟩⟩
    · simp [q_upTo, show isR x = _ from c4]


set_option maxHeartbeats 1000000 in
set_option maxRecDepth 10000 in
theorem c_X8_many {v : xw_V} {G : xw_G} {M : md_T} {te ho ow hs ra lo st av so : Nat → Int32} {bi ln : Int32} (hM : G 21 = pM v (md_th M) (nR te ho ow hs ra lo bi st av so ln) (md_pt M) (md_re M) (md_sd M) (md_be M) (md_pb M) (md_ac M) (md_od M) (md_ad M) (md_wy M) (md_so M) (md_rl M) (md_io M) (md_po M) (md_sp M) (md_rs M) (md_st M) (md_av M) (md_ip M) (md_tx M) (md_tm M) (md_ta M) (md_td M) (md_wo M) (md_sq M) (md_tk M) (md_bg M) (md_nu M) (md_wr M)) : xk_Con v yX8_many cX8_many 1 (some .int) 0 0 [.ref (xw_ad v 21 0)] G (xk_ret (some (.int bi)) G) := by
  refine xk_of (ls0 := [some (.ref (xw_ad v 21 0))]) (by decide) rfl (Nat.le_of_ble_eq_true rfl) ?_
  intro κ z hk hz
  refine xj_aload_n (i := 0) hk dX8_many_0 rfl rfl ?_
  refine xj_getfield hk dX8_many_1 fl_X8_13 (xw_at hM rfl) rfl ?_
  refine xj_bipush (x := 23) hk dX8_many_4 (by decide) ?_
  refine xj_iaload (k := 23) hk dX8_many_6 (xw_at hM rfl) (xi_d 23 139 (by decide)) ?_
  refine xj.eqi (x' := bi) rR_bi ?_
  refine xj_ireturn hk hz dX8_many_7 ?_
  exact ⟨rfl, rfl⟩

set_option maxHeartbeats 1000000 in
set_option maxRecDepth 10000 in
theorem c_X8_isBid {v : xw_V} {G : xw_G} {M : md_T} {te ho ow hs ra lo st av so : Nat → Int32} {bi ln : Int32} (hM : G 21 = pM v (md_th M) (nR te ho ow hs ra lo bi st av so ln) (md_pt M) (md_re M) (md_sd M) (md_be M) (md_pb M) (md_ac M) (md_od M) (md_ad M) (md_wy M) (md_so M) (md_rl M) (md_io M) (md_po M) (md_sp M) (md_rs M) (md_st M) (md_av M) (md_ip M) (md_tx M) (md_tm M) (md_ta M) (md_td M) (md_wo M) (md_sq M) (md_tk M) (md_bg M) (md_nu M) (md_wr M)) (x : Int32) : xk_Con v yX8_isBid cX8_isBid 2 (some .boolean) 1 22 [.ref (xw_ad v 21 0), .int x] G (xk_ret (some (.int (xb (mIn x 0 (bi - 1))))) G) := by
  refine xk_of (ls0 := [some (.ref (xw_ad v 21 0)), some (.int x)]) (by decide) rfl (Nat.le_of_ble_eq_true rfl) ?_
  intro κ z hk hz
  refine xj_iload_n (i := 1) hk dX8_isBid_0 rfl rfl ?_
  refine xj_iconst (x := 0) hk dX8_isBid_1 (by decide) ?_
  refine xj_aload_n (i := 0) hk dX8_isBid_2 rfl rfl ?_
  refine xj_callV hk hz (fr1 := 0) (lo1 := 0) (r1 := some (.int bi)) (As := []) (st := [.int 0, .int x]) (st2 := [.int bi, .int 0, .int x]) (G1 := G) ml_X8_73 (c_X8_many (M := M) (show G 21 = pM v (md_th M) (nR te ho ow hs ra lo bi st av so ln) (md_pt M) (md_re M) (md_sd M) (md_be M) (md_pb M) (md_ac M) (md_od M) (md_ad M) (md_wy M) (md_so M) (md_rl M) (md_io M) (md_po M) (md_sp M) (md_rs M) (md_st M) (md_av M) (md_ip M) (md_tx M) (md_tm M) (md_ta M) (md_td M) (md_wo M) (md_sq M) (md_tk M) (md_bg M) (md_nu M) (md_wr M) from hM)) (xw_at hM rfl) rfl dX8_isBid_3 ⟨Nat.le_of_ble_eq_true rfl, Nat.le_of_ble_eq_true rfl⟩ rfl (Nat.le_of_ble_eq_true rfl) rfl rfl ?_
  refine xj_iconst (x := 1) hk dX8_isBid_6 (by decide) ?_
  refine xj_isub hk dX8_isBid_7 ?_
  refine xj_callS hk hz (fr1 := 0) (lo1 := 0) (r1 := some (.int (xb (mIn x 0 (bi - 1))))) (As := [.int x, .int 0, .int (bi - 1)]) (st := []) (st2 := [.int (xb (mIn x 0 (bi - 1)))]) (G1 := G) ml_X8_69 (c_X8_in x 0 (bi - 1)) dX8_isBid_8 ⟨Nat.le_of_ble_eq_true rfl, Nat.le_of_ble_eq_true rfl⟩ rfl (Nat.le_of_ble_eq_true rfl) rfl rfl ?_
  refine xj_zreturn hk hz dX8_isBid_11 (xb_nar _) ?_
  exact ⟨rfl, rfl⟩

set_option maxHeartbeats 1000000 in
set_option maxRecDepth 10000 in
theorem c_X8_houseOf {v : xw_V} {G : xw_G} {M : md_T} {te ho ow hs ra lo st av so : Nat → Int32} {bi ln : Int32} {b : Nat} (hM : G 21 = pM v (md_th M) (nR te ho ow hs ra lo bi st av so ln) (md_pt M) (md_re M) (md_sd M) (md_be M) (md_pb M) (md_ac M) (md_od M) (md_ad M) (md_wy M) (md_so M) (md_rl M) (md_io M) (md_po M) (md_sp M) (md_rs M) (md_st M) (md_av M) (md_ip M) (md_tx M) (md_tm M) (md_ta M) (md_td M) (md_wo M) (md_sq M) (md_tk M) (md_bg M) (md_nu M) (md_wr M)) (hb : b < 30) : xk_Con v yX8_houseOf cX8_houseOf 2 (some .int) 0 0 [.ref (xw_ad v 21 0), .int (nI b)] G (xk_ret (some (.int (hs b))) G) := by
  refine xk_of (ls0 := [some (.ref (xw_ad v 21 0)), some (.int (nI b))]) (by decide) rfl (Nat.le_of_ble_eq_true rfl) ?_
  intro κ z hk hz
  refine xj_aload_n (i := 0) hk dX8_houseOf_0 rfl rfl ?_
  refine xj_getfield hk dX8_houseOf_1 fl_X8_13 (xw_at hM rfl) rfl ?_
  refine xj_bipush (x := 24) hk dX8_houseOf_4 (by decide) ?_
  refine xj_iconst (x := 3) hk dX8_houseOf_6 (by decide) ?_
  refine xj_iload_n (i := 1) hk dX8_houseOf_7 rfl rfl ?_
  refine xj_imul hk dX8_houseOf_8 ?_
  refine xj.eqi (x' := nI (3 * b)) (nI_mul 3 b) ?_
  refine xj_iadd hk dX8_houseOf_9 ?_
  refine xj.eqi (x' := nI (24 + 3 * b)) (nI_add 24 (3 * b)) ?_
  refine xj_iaload (k := 24 + 3 * b) hk dX8_houseOf_10 (xw_at hM rfl) (xi_n (by omega) (by decide)) ?_
  refine xj.eqi (x' := hs b) (rR_hs (k := b) (by omega)) ?_
  refine xj_ireturn hk hz dX8_houseOf_11 ?_
  exact ⟨rfl, rfl⟩

set_option maxHeartbeats 1000000 in
set_option maxRecDepth 10000 in
theorem c_X8_rateOf {v : xw_V} {G : xw_G} {M : md_T} {te ho ow hs ra lo st av so : Nat → Int32} {bi ln : Int32} {b : Nat} (hM : G 21 = pM v (md_th M) (nR te ho ow hs ra lo bi st av so ln) (md_pt M) (md_re M) (md_sd M) (md_be M) (md_pb M) (md_ac M) (md_od M) (md_ad M) (md_wy M) (md_so M) (md_rl M) (md_io M) (md_po M) (md_sp M) (md_rs M) (md_st M) (md_av M) (md_ip M) (md_tx M) (md_tm M) (md_ta M) (md_td M) (md_wo M) (md_sq M) (md_tk M) (md_bg M) (md_nu M) (md_wr M)) (hb : b < 30) : xk_Con v yX8_rateOf cX8_rateOf 2 (some .int) 0 0 [.ref (xw_ad v 21 0), .int (nI b)] G (xk_ret (some (.int (ra b))) G) := by
  refine xk_of (ls0 := [some (.ref (xw_ad v 21 0)), some (.int (nI b))]) (by decide) rfl (Nat.le_of_ble_eq_true rfl) ?_
  intro κ z hk hz
  refine xj_aload_n (i := 0) hk dX8_rateOf_0 rfl rfl ?_
  refine xj_getfield hk dX8_rateOf_1 fl_X8_13 (xw_at hM rfl) rfl ?_
  refine xj_bipush (x := 24) hk dX8_rateOf_4 (by decide) ?_
  refine xj_iconst (x := 3) hk dX8_rateOf_6 (by decide) ?_
  refine xj_iload_n (i := 1) hk dX8_rateOf_7 rfl rfl ?_
  refine xj_imul hk dX8_rateOf_8 ?_
  refine xj.eqi (x' := nI (3 * b)) (nI_mul 3 b) ?_
  refine xj_iadd hk dX8_rateOf_9 ?_
  refine xj.eqi (x' := nI (24 + 3 * b)) (nI_add 24 (3 * b)) ?_
  refine xj_iconst (x := 1) hk dX8_rateOf_10 (by decide) ?_
  refine xj_iadd hk dX8_rateOf_11 ?_
  refine xj.eqi (x' := nI (24 + 3 * b + 1)) (nI_add (24 + 3 * b) 1) ?_
  refine xj_iaload (k := 24 + 3 * b + 1) hk dX8_rateOf_12 (xw_at hM rfl) (xi_n (by omega) (by decide)) ?_
  refine xj.eqi (x' := ra b) (rR_ra (k := b) (by omega)) ?_
  refine xj_ireturn hk hz dX8_rateOf_13 ?_
  exact ⟨rfl, rfl⟩

set_option maxHeartbeats 1000000 in
set_option maxRecDepth 10000 in
theorem c_X8_lotsOf {v : xw_V} {G : xw_G} {M : md_T} {te ho ow hs ra lo st av so : Nat → Int32} {bi ln : Int32} {b : Nat} (hM : G 21 = pM v (md_th M) (nR te ho ow hs ra lo bi st av so ln) (md_pt M) (md_re M) (md_sd M) (md_be M) (md_pb M) (md_ac M) (md_od M) (md_ad M) (md_wy M) (md_so M) (md_rl M) (md_io M) (md_po M) (md_sp M) (md_rs M) (md_st M) (md_av M) (md_ip M) (md_tx M) (md_tm M) (md_ta M) (md_td M) (md_wo M) (md_sq M) (md_tk M) (md_bg M) (md_nu M) (md_wr M)) (hb : b < 30) : xk_Con v yX8_lotsOf cX8_lotsOf 2 (some .int) 0 0 [.ref (xw_ad v 21 0), .int (nI b)] G (xk_ret (some (.int (lo b))) G) := by
  refine xk_of (ls0 := [some (.ref (xw_ad v 21 0)), some (.int (nI b))]) (by decide) rfl (Nat.le_of_ble_eq_true rfl) ?_
  intro κ z hk hz
  refine xj_aload_n (i := 0) hk dX8_lotsOf_0 rfl rfl ?_
  refine xj_getfield hk dX8_lotsOf_1 fl_X8_13 (xw_at hM rfl) rfl ?_
  refine xj_bipush (x := 24) hk dX8_lotsOf_4 (by decide) ?_
  refine xj_iconst (x := 3) hk dX8_lotsOf_6 (by decide) ?_
  refine xj_iload_n (i := 1) hk dX8_lotsOf_7 rfl rfl ?_
  refine xj_imul hk dX8_lotsOf_8 ?_
  refine xj.eqi (x' := nI (3 * b)) (nI_mul 3 b) ?_
  refine xj_iadd hk dX8_lotsOf_9 ?_
  refine xj.eqi (x' := nI (24 + 3 * b)) (nI_add 24 (3 * b)) ?_
  refine xj_iconst (x := 2) hk dX8_lotsOf_10 (by decide) ?_
  refine xj_iadd hk dX8_lotsOf_11 ?_
  refine xj.eqi (x' := nI (24 + 3 * b + 2)) (nI_add (24 + 3 * b) 2) ?_
  refine xj_iaload (k := 24 + 3 * b + 2) hk dX8_lotsOf_12 (xw_at hM rfl) (xi_n (by omega) (by decide)) ?_
  refine xj.eqi (x' := lo b) (rR_lo (k := b) (by omega)) ?_
  refine xj_ireturn hk hz dX8_lotsOf_13 ?_
  exact ⟨rfl, rfl⟩

set_option maxHeartbeats 1000000 in
set_option maxRecDepth 10000 in
theorem c_X8_isPlain {v : xw_V} {G : xw_G} {M : md_T} {te ho ow hs ra lo st av so : Nat → Int32} {bi ln : Int32} {b : Nat} (hM : G 21 = pM v (md_th M) (nR te ho ow hs ra lo bi st av so ln) (md_pt M) (md_re M) (md_sd M) (md_be M) (md_pb M) (md_ac M) (md_od M) (md_ad M) (md_wy M) (md_so M) (md_rl M) (md_io M) (md_po M) (md_sp M) (md_rs M) (md_st M) (md_av M) (md_ip M) (md_tx M) (md_tm M) (md_ta M) (md_td M) (md_wo M) (md_sq M) (md_tk M) (md_bg M) (md_nu M) (md_wr M)) (hb : b < 30) : xk_Con v yX8_isPlain cX8_isPlain 2 (some .boolean) 1 21 [.ref (xw_ad v 21 0), .int (nI b)] G (xk_ret (some (.int (xb (decide (ra b = -1))))) G) := by
  refine xk_of (ls0 := [some (.ref (xw_ad v 21 0)), some (.int (nI b))]) (by decide) rfl (Nat.le_of_ble_eq_true rfl) ?_
  intro κ z hk hz
  refine xj_aload_n (i := 0) hk dX8_isPlain_0 rfl rfl ?_
  refine xj_iload_n (i := 1) hk dX8_isPlain_1 rfl rfl ?_
  refine xj_callV hk hz (fr1 := 0) (lo1 := 0) (r1 := some (.int (ra b))) (As := [.int (nI b)]) (st := []) (st2 := [.int (ra b)]) (G1 := G) ml_X8_77 (c_X8_rateOf (b := b) (M := M) (show G 21 = pM v (md_th M) (nR te ho ow hs ra lo bi st av so ln) (md_pt M) (md_re M) (md_sd M) (md_be M) (md_pb M) (md_ac M) (md_od M) (md_ad M) (md_wy M) (md_so M) (md_rl M) (md_io M) (md_po M) (md_sp M) (md_rs M) (md_st M) (md_av M) (md_ip M) (md_tx M) (md_tm M) (md_ta M) (md_td M) (md_wo M) (md_sq M) (md_tk M) (md_bg M) (md_nu M) (md_wr M) from hM) (by omega)) (xw_at hM rfl) rfl dX8_isPlain_2 ⟨Nat.le_of_ble_eq_true rfl, Nat.le_of_ble_eq_true rfl⟩ rfl (Nat.le_of_ble_eq_true rfl) rfl rfl ?_
  refine xj_iconst (x := (-1)) hk dX8_isPlain_5 (by decide) ?_
  refine xj_icmp_ne (tgt := 13) hk dX8_isPlain_6 (by decide) (fun c6 => ?_) (fun c6 => ?_)
  · refine xj_iconst (x := 0) hk dX8_isPlain_13 (by decide) ?_
    refine xj_zreturn hk hz dX8_isPlain_14 (by decide) ?_
    exact ⟨by simp [decide_eq_true_eq, xb, *], rfl⟩
  · refine xj_iconst (x := 1) hk dX8_isPlain_9 (by decide) ?_
    refine xj_goto (tgt := 14) hk dX8_isPlain_10 (by decide) ?_
    refine xj_zreturn hk hz dX8_isPlain_14 (by decide) ?_
    exact ⟨by simp [decide_eq_true_eq, xb, *], rfl⟩

set_option maxHeartbeats 1000000 in
set_option maxRecDepth 10000 in
theorem c_X8_lays {v : xw_V} {G : xw_G} {M : md_T} {te ho ow hs ra lo st av so : Nat → Int32} {bi ln : Int32} {b : Nat} (hM : G 21 = pM v (md_th M) (nR te ho ow hs ra lo bi st av so ln) (md_pt M) (md_re M) (md_sd M) (md_be M) (md_pb M) (md_ac M) (md_od M) (md_ad M) (md_wy M) (md_so M) (md_rl M) (md_io M) (md_po M) (md_sp M) (md_rs M) (md_st M) (md_av M) (md_ip M) (md_tx M) (md_tm M) (md_ta M) (md_td M) (md_wo M) (md_sq M) (md_tk M) (md_bg M) (md_nu M) (md_wr M)) (hb : b < 30) (x1 x2 x3 : Int32) : xk_Con v yX8_lays cX8_lays 5 none 0 0 [.ref (xw_ad v 21 0), .int (nI b), .int x1, .int x2, .int x3] G (xk_ret none (xw_up G 21 (pM v (md_th M) (nR te ho ow (xu hs b x1) (xu ra b x2) (xu lo b x3) bi st av so ln) (md_pt M) (md_re M) (md_sd M) (md_be M) (md_pb M) (md_ac M) (md_od M) (md_ad M) (md_wy M) (md_so M) (md_rl M) (md_io M) (md_po M) (md_sp M) (md_rs M) (md_st M) (md_av M) (md_ip M) (md_tx M) (md_tm M) (md_ta M) (md_td M) (md_wo M) (md_sq M) (md_tk M) (md_bg M) (md_nu M) (md_wr M)))) := by
  refine xk_of (ls0 := [some (.ref (xw_ad v 21 0)), some (.int (nI b)), some (.int x1), some (.int x2), some (.int x3)]) (by decide) rfl (Nat.le_of_ble_eq_true rfl) ?_
  intro κ z hk hz
  refine xj_aload_n (i := 0) hk dX8_lays_0 rfl rfl ?_
  refine xj_getfield hk dX8_lays_1 fl_X8_13 (xw_at hM rfl) rfl ?_
  refine xj_bipush (x := 24) hk dX8_lays_4 (by decide) ?_
  refine xj_iconst (x := 3) hk dX8_lays_6 (by decide) ?_
  refine xj_iload_n (i := 1) hk dX8_lays_7 rfl rfl ?_
  refine xj_imul hk dX8_lays_8 ?_
  refine xj.eqi (x' := nI (3 * b)) (nI_mul 3 b) ?_
  refine xj_iadd hk dX8_lays_9 ?_
  refine xj.eqi (x' := nI (24 + 3 * b)) (nI_add 24 (3 * b)) ?_
  refine xj_iload_n (i := 2) hk dX8_lays_10 rfl rfl ?_
  refine xj_iastore (k := 24 + 3 * b) (G2 := xw_up G 21 (pM v (md_th M) (xu (nR te ho ow hs ra lo bi st av so ln) (24 + 3 * b) x1) (md_pt M) (md_re M) (md_sd M) (md_be M) (md_pb M) (md_ac M) (md_od M) (md_ad M) (md_wy M) (md_so M) (md_rl M) (md_io M) (md_po M) (md_sp M) (md_rs M) (md_st M) (md_av M) (md_ip M) (md_tx M) (md_tm M) (md_ta M) (md_td M) (md_wo M) (md_sq M) (md_tk M) (md_bg M) (md_nu M) (md_wr M))) hk dX8_lays_11 (xw_at hM rfl) (xi_n (by omega) (by decide)) (xw_wr hM rfl) ?_
  refine xj.eqG (G' := xw_up G 21 (pM v (md_th M) (nR te ho ow (xu hs b x1) ra lo bi st av so ln) (md_pt M) (md_re M) (md_sd M) (md_be M) (md_pb M) (md_ac M) (md_od M) (md_ad M) (md_wy M) (md_so M) (md_rl M) (md_io M) (md_po M) (md_sp M) (md_rs M) (md_st M) (md_av M) (md_ip M) (md_tx M) (md_tm M) (md_ta M) (md_td M) (md_wo M) (md_sq M) (md_tk M) (md_bg M) (md_nu M) (md_wr M))) (by rw [wR_hs (k := b) (by omega)]) ?_
  refine xj_aload_n (i := 0) hk dX8_lays_12 rfl rfl ?_
  refine xj_getfield hk dX8_lays_13 fl_X8_13 (xw_at xw_up_s rfl) rfl ?_
  refine xj_bipush (x := 24) hk dX8_lays_16 (by decide) ?_
  refine xj_iconst (x := 3) hk dX8_lays_18 (by decide) ?_
  refine xj_iload_n (i := 1) hk dX8_lays_19 rfl rfl ?_
  refine xj_imul hk dX8_lays_20 ?_
  refine xj.eqi (x' := nI (3 * b)) (nI_mul 3 b) ?_
  refine xj_iadd hk dX8_lays_21 ?_
  refine xj.eqi (x' := nI (24 + 3 * b)) (nI_add 24 (3 * b)) ?_
  refine xj_iconst (x := 1) hk dX8_lays_22 (by decide) ?_
  refine xj_iadd hk dX8_lays_23 ?_
  refine xj.eqi (x' := nI (24 + 3 * b + 1)) (nI_add (24 + 3 * b) 1) ?_
  refine xj_iload_n (i := 3) hk dX8_lays_24 rfl rfl ?_
  refine xj_iastore (k := 24 + 3 * b + 1) (G2 := xw_up G 21 (pM v (md_th M) (xu (nR te ho ow (xu hs b x1) ra lo bi st av so ln) (24 + 3 * b + 1) x2) (md_pt M) (md_re M) (md_sd M) (md_be M) (md_pb M) (md_ac M) (md_od M) (md_ad M) (md_wy M) (md_so M) (md_rl M) (md_io M) (md_po M) (md_sp M) (md_rs M) (md_st M) (md_av M) (md_ip M) (md_tx M) (md_tm M) (md_ta M) (md_td M) (md_wo M) (md_sq M) (md_tk M) (md_bg M) (md_nu M) (md_wr M))) hk dX8_lays_25 (xw_at xw_up_s rfl) (xi_n (by omega) (by decide)) (xw_wr2 rfl) ?_
  refine xj.eqG (G' := xw_up G 21 (pM v (md_th M) (nR te ho ow (xu hs b x1) (xu ra b x2) lo bi st av so ln) (md_pt M) (md_re M) (md_sd M) (md_be M) (md_pb M) (md_ac M) (md_od M) (md_ad M) (md_wy M) (md_so M) (md_rl M) (md_io M) (md_po M) (md_sp M) (md_rs M) (md_st M) (md_av M) (md_ip M) (md_tx M) (md_tm M) (md_ta M) (md_td M) (md_wo M) (md_sq M) (md_tk M) (md_bg M) (md_nu M) (md_wr M))) (by rw [wR_ra (k := b) (by omega)]) ?_
  refine xj_aload_n (i := 0) hk dX8_lays_26 rfl rfl ?_
  refine xj_getfield hk dX8_lays_27 fl_X8_13 (xw_at xw_up_s rfl) rfl ?_
  refine xj_bipush (x := 24) hk dX8_lays_30 (by decide) ?_
  refine xj_iconst (x := 3) hk dX8_lays_32 (by decide) ?_
  refine xj_iload_n (i := 1) hk dX8_lays_33 rfl rfl ?_
  refine xj_imul hk dX8_lays_34 ?_
  refine xj.eqi (x' := nI (3 * b)) (nI_mul 3 b) ?_
  refine xj_iadd hk dX8_lays_35 ?_
  refine xj.eqi (x' := nI (24 + 3 * b)) (nI_add 24 (3 * b)) ?_
  refine xj_iconst (x := 2) hk dX8_lays_36 (by decide) ?_
  refine xj_iadd hk dX8_lays_37 ?_
  refine xj.eqi (x' := nI (24 + 3 * b + 2)) (nI_add (24 + 3 * b) 2) ?_
  refine xj_iload hk dX8_lays_38 rfl ?_
  refine xj_iastore (k := 24 + 3 * b + 2) (G2 := xw_up G 21 (pM v (md_th M) (xu (nR te ho ow (xu hs b x1) (xu ra b x2) lo bi st av so ln) (24 + 3 * b + 2) x3) (md_pt M) (md_re M) (md_sd M) (md_be M) (md_pb M) (md_ac M) (md_od M) (md_ad M) (md_wy M) (md_so M) (md_rl M) (md_io M) (md_po M) (md_sp M) (md_rs M) (md_st M) (md_av M) (md_ip M) (md_tx M) (md_tm M) (md_ta M) (md_td M) (md_wo M) (md_sq M) (md_tk M) (md_bg M) (md_nu M) (md_wr M))) hk dX8_lays_40 (xw_at xw_up_s rfl) (xi_n (by omega) (by decide)) (xw_wr2 rfl) ?_
  refine xj.eqG (G' := xw_up G 21 (pM v (md_th M) (nR te ho ow (xu hs b x1) (xu ra b x2) (xu lo b x3) bi st av so ln) (md_pt M) (md_re M) (md_sd M) (md_be M) (md_pb M) (md_ac M) (md_od M) (md_ad M) (md_wy M) (md_so M) (md_rl M) (md_io M) (md_po M) (md_sp M) (md_rs M) (md_st M) (md_av M) (md_ip M) (md_tx M) (md_tm M) (md_ta M) (md_td M) (md_wo M) (md_sq M) (md_tk M) (md_bg M) (md_nu M) (md_wr M))) (by rw [wR_lo (k := b) (by omega)]) ?_
  refine xj_return hk hz dX8_lays_41 ?_
  exact ⟨rfl, rfl⟩

set_option maxHeartbeats 1000000 in
set_option maxRecDepth 10000 in
theorem c_X8_copies {v : xw_V} {G : xw_G} {M : md_T} {te ho ow hs ra lo st av so : Nat → Int32} {bi ln : Int32} {a b : Nat} (hM : G 21 = pM v (md_th M) (nR te ho ow hs ra lo bi st av so ln) (md_pt M) (md_re M) (md_sd M) (md_be M) (md_pb M) (md_ac M) (md_od M) (md_ad M) (md_wy M) (md_so M) (md_rl M) (md_io M) (md_po M) (md_sp M) (md_rs M) (md_st M) (md_av M) (md_ip M) (md_tx M) (md_tm M) (md_ta M) (md_td M) (md_wo M) (md_sq M) (md_tk M) (md_bg M) (md_nu M) (md_wr M)) (ha : a < 30) (hb : b < 30) : xk_Con v yX8_copies cX8_copies 3 none 1 24 [.ref (xw_ad v 21 0), .int (nI a), .int (nI b)] G (xk_ret none (xw_up G 21 (pM v (md_th M) (nR te ho ow (xu hs b (hs a)) (xu ra b (ra a)) (xu lo b (lo a)) bi st av so ln) (md_pt M) (md_re M) (md_sd M) (md_be M) (md_pb M) (md_ac M) (md_od M) (md_ad M) (md_wy M) (md_so M) (md_rl M) (md_io M) (md_po M) (md_sp M) (md_rs M) (md_st M) (md_av M) (md_ip M) (md_tx M) (md_tm M) (md_ta M) (md_td M) (md_wo M) (md_sq M) (md_tk M) (md_bg M) (md_nu M) (md_wr M)))) := by
  refine xk_of (ls0 := [some (.ref (xw_ad v 21 0)), some (.int (nI a)), some (.int (nI b))]) (by decide) rfl (Nat.le_of_ble_eq_true rfl) ?_
  intro κ z hk hz
  refine xj_aload_n (i := 0) hk dX8_copies_0 rfl rfl ?_
  refine xj_iload_n (i := 2) hk dX8_copies_1 rfl rfl ?_
  refine xj_aload_n (i := 0) hk dX8_copies_2 rfl rfl ?_
  refine xj_iload_n (i := 1) hk dX8_copies_3 rfl rfl ?_
  refine xj_callV hk hz (fr1 := 0) (lo1 := 0) (r1 := some (.int (hs a))) (As := [.int (nI a)]) (st := [.int (nI b), .ref (xw_ad v 21 0)]) (st2 := [.int (hs a), .int (nI b), .ref (xw_ad v 21 0)]) (G1 := G) ml_X8_81 (c_X8_houseOf (b := a) (M := M) (show G 21 = pM v (md_th M) (nR te ho ow hs ra lo bi st av so ln) (md_pt M) (md_re M) (md_sd M) (md_be M) (md_pb M) (md_ac M) (md_od M) (md_ad M) (md_wy M) (md_so M) (md_rl M) (md_io M) (md_po M) (md_sp M) (md_rs M) (md_st M) (md_av M) (md_ip M) (md_tx M) (md_tm M) (md_ta M) (md_td M) (md_wo M) (md_sq M) (md_tk M) (md_bg M) (md_nu M) (md_wr M) from hM) (by omega)) (xw_at hM rfl) rfl dX8_copies_4 ⟨Nat.le_of_ble_eq_true rfl, Nat.le_of_ble_eq_true rfl⟩ rfl (Nat.le_of_ble_eq_true rfl) rfl rfl ?_
  refine xj_aload_n (i := 0) hk dX8_copies_7 rfl rfl ?_
  refine xj_iload_n (i := 1) hk dX8_copies_8 rfl rfl ?_
  refine xj_callV hk hz (fr1 := 0) (lo1 := 0) (r1 := some (.int (ra a))) (As := [.int (nI a)]) (st := [.int (hs a), .int (nI b), .ref (xw_ad v 21 0)]) (st2 := [.int (ra a), .int (hs a), .int (nI b), .ref (xw_ad v 21 0)]) (G1 := G) ml_X8_77 (c_X8_rateOf (b := a) (M := M) (show G 21 = pM v (md_th M) (nR te ho ow hs ra lo bi st av so ln) (md_pt M) (md_re M) (md_sd M) (md_be M) (md_pb M) (md_ac M) (md_od M) (md_ad M) (md_wy M) (md_so M) (md_rl M) (md_io M) (md_po M) (md_sp M) (md_rs M) (md_st M) (md_av M) (md_ip M) (md_tx M) (md_tm M) (md_ta M) (md_td M) (md_wo M) (md_sq M) (md_tk M) (md_bg M) (md_nu M) (md_wr M) from hM) (by omega)) (xw_at hM rfl) rfl dX8_copies_9 ⟨Nat.le_of_ble_eq_true rfl, Nat.le_of_ble_eq_true rfl⟩ rfl (Nat.le_of_ble_eq_true rfl) rfl rfl ?_
  refine xj_aload_n (i := 0) hk dX8_copies_12 rfl rfl ?_
  refine xj_iload_n (i := 1) hk dX8_copies_13 rfl rfl ?_
  refine xj_callV hk hz (fr1 := 0) (lo1 := 0) (r1 := some (.int (lo a))) (As := [.int (nI a)]) (st := [.int (ra a), .int (hs a), .int (nI b), .ref (xw_ad v 21 0)]) (st2 := [.int (lo a), .int (ra a), .int (hs a), .int (nI b), .ref (xw_ad v 21 0)]) (G1 := G) ml_X8_84 (c_X8_lotsOf (b := a) (M := M) (show G 21 = pM v (md_th M) (nR te ho ow hs ra lo bi st av so ln) (md_pt M) (md_re M) (md_sd M) (md_be M) (md_pb M) (md_ac M) (md_od M) (md_ad M) (md_wy M) (md_so M) (md_rl M) (md_io M) (md_po M) (md_sp M) (md_rs M) (md_st M) (md_av M) (md_ip M) (md_tx M) (md_tm M) (md_ta M) (md_td M) (md_wo M) (md_sq M) (md_tk M) (md_bg M) (md_nu M) (md_wr M) from hM) (by omega)) (xw_at hM rfl) rfl dX8_copies_14 ⟨Nat.le_of_ble_eq_true rfl, Nat.le_of_ble_eq_true rfl⟩ rfl (Nat.le_of_ble_eq_true rfl) rfl rfl ?_
  refine xj_callV hk hz (fr1 := 0) (lo1 := 0) (r1 := none) (As := [.int (nI b), .int (hs a), .int (ra a), .int (lo a)]) (st := []) (st2 := []) (G1 := xw_up G 21 (pM v (md_th M) (nR te ho ow (xu hs b (hs a)) (xu ra b (ra a)) (xu lo b (lo a)) bi st av so ln) (md_pt M) (md_re M) (md_sd M) (md_be M) (md_pb M) (md_ac M) (md_od M) (md_ad M) (md_wy M) (md_so M) (md_rl M) (md_io M) (md_po M) (md_sp M) (md_rs M) (md_st M) (md_av M) (md_ip M) (md_tx M) (md_tm M) (md_ta M) (md_td M) (md_wo M) (md_sq M) (md_tk M) (md_bg M) (md_nu M) (md_wr M))) ml_X8_87 (c_X8_lays (b := b) (M := M) (show G 21 = pM v (md_th M) (nR te ho ow hs ra lo bi st av so ln) (md_pt M) (md_re M) (md_sd M) (md_be M) (md_pb M) (md_ac M) (md_od M) (md_ad M) (md_wy M) (md_so M) (md_rl M) (md_io M) (md_po M) (md_sp M) (md_rs M) (md_st M) (md_av M) (md_ip M) (md_tx M) (md_tm M) (md_ta M) (md_td M) (md_wo M) (md_sq M) (md_tk M) (md_bg M) (md_nu M) (md_wr M) from hM) (by omega) (hs a) (ra a) (lo a)) (xw_at hM rfl) rfl dX8_copies_17 ⟨Nat.le_of_ble_eq_true rfl, Nat.le_of_ble_eq_true rfl⟩ rfl (Nat.le_of_ble_eq_true rfl) rfl rfl ?_
  refine xj_return hk hz dX8_copies_20 ?_
  exact ⟨rfl, rfl⟩

set_option maxHeartbeats 1000000 in
set_option maxRecDepth 10000 in
theorem l_X8_makesRoom {v : xw_V} {κ : xk_K} {post : Option Value → xw_G → Prop} {z : Nat × Nat × Nat} {G : xw_G} {M : md_T} {te ho ow hs ra lo st av so : Nat → Int32} {ln : Int32} {n a : Nat} (hk : xk_Ok v κ yX8_makesRoom cX8_makesRoom 3 none 2 46) (hz : xk_zf κ = z) (hM : G 21 = pM v (md_th M) (nR te ho ow hs ra lo (nI n) st av so ln) (md_pt M) (md_re M) (md_sd M) (md_be M) (md_pb M) (md_ac M) (md_od M) (md_ad M) (md_wy M) (md_so M) (md_rl M) (md_io M) (md_po M) (md_sp M) (md_rs M) (md_st M) (md_av M) (md_ip M) (md_tx M) (md_tm M) (md_ta M) (md_td M) (md_wo M) (md_sq M) (md_tk M) (md_bg M) (md_nu M) (md_wr M)) (ha : a ≤ n) (hn30 : n < 30) (kx : xj v κ post z (xw_up G 21 (pM v (md_th M) (nR te ho ow (shU a n hs) (shU a n ra) (shU a n lo) (nI n) st av so ln) (md_pt M) (md_re M) (md_sd M) (md_be M) (md_pb M) (md_ac M) (md_od M) (md_ad M) (md_wy M) (md_so M) (md_rl M) (md_io M) (md_po M) (md_sp M) (md_rs M) (md_st M) (md_av M) (md_ip M) (md_tx M) (md_tm M) (md_ta M) (md_td M) (md_wo M) (md_sq M) (md_tk M) (md_bg M) (md_nu M) (md_wr M))) 24 [some (.ref (xw_ad v 21 0)), some (.int (nI a)), some (.int (nI a))] []) : ∀ (m : Nat) (k : Nat), k < m → k ≤ n → a ≤ k → xj v κ post z (xw_up G 21 (pM v (md_th M) (nR te ho ow (shU k n hs) (shU k n ra) (shU k n lo) (nI n) st av so ln) (md_pt M) (md_re M) (md_sd M) (md_be M) (md_pb M) (md_ac M) (md_od M) (md_ad M) (md_wy M) (md_so M) (md_rl M) (md_io M) (md_po M) (md_sp M) (md_rs M) (md_st M) (md_av M) (md_ip M) (md_tx M) (md_tm M) (md_ta M) (md_td M) (md_wo M) (md_sq M) (md_tk M) (md_bg M) (md_nu M) (md_wr M))) 5 [some (.ref (xw_ad v 21 0)), some (.int (nI a)), some (.int (nI k))] [] := by
  intro m
  induction m with
  | zero => intro k h; exact absurd h (Nat.not_lt_zero _)
  | succ m ih =>
    intro k hm hi hj
    refine xj_iload_n (i := 2) hk dX8_makesRoom_5 rfl rfl ?_
    refine xj_iload_n (i := 1) hk dX8_makesRoom_6 rfl rfl ?_
    refine xj_icmp_le (tgt := 24) hk dX8_makesRoom_7 (by decide) (fun c7 => ?_) (fun c7 => ?_)
    · have c7 : k ≤ a := (nI_leI (a := k) (b := a) (by omega) (by omega)).mp c7
      have e9 : k = a := by omega
      subst e9
      exact kx
    · have c7 : ¬ k ≤ a := fun q => c7 ((nI_leI (a := k) (b := a) (by omega) (by omega)).mpr q)
      refine xj_aload_n (i := 0) hk dX8_makesRoom_10 rfl rfl ?_
      refine xj_iload_n (i := 2) hk dX8_makesRoom_11 rfl rfl ?_
      refine xj_iconst (x := 1) hk dX8_makesRoom_12 (by decide) ?_
      refine xj_isub hk dX8_makesRoom_13 ?_
      refine xj.eqi (x' := nI (k - 1)) (nI_sub1 (by omega)) ?_
      refine xj_iload_n (i := 2) hk dX8_makesRoom_14 rfl rfl ?_
      refine xj_callV hk hz (fr1 := 1) (lo1 := 24) (r1 := none) (As := [.int (nI (k - 1)), .int (nI k)]) (st := []) (st2 := []) (G1 := xw_up G 21 (pM v (md_th M) (nR te ho ow (xu (shU k n hs) k ((shU k n hs) (k - 1))) (xu (shU k n ra) k ((shU k n ra) (k - 1))) (xu (shU k n lo) k ((shU k n lo) (k - 1))) (nI n) st av so ln) (md_pt M) (md_re M) (md_sd M) (md_be M) (md_pb M) (md_ac M) (md_od M) (md_ad M) (md_wy M) (md_so M) (md_rl M) (md_io M) (md_po M) (md_sp M) (md_rs M) (md_st M) (md_av M) (md_ip M) (md_tx M) (md_tm M) (md_ta M) (md_td M) (md_wo M) (md_sq M) (md_tk M) (md_bg M) (md_nu M) (md_wr M))) ml_X8_91 (xk_cg (by rw [xw_up_u] <;> rfl) (c_X8_copies (a := k - 1) (b := k) (M := M) (show (xw_up G 21 (pM v (md_th M) (nR te ho ow (shU k n hs) (shU k n ra) (shU k n lo) (nI n) st av so ln) (md_pt M) (md_re M) (md_sd M) (md_be M) (md_pb M) (md_ac M) (md_od M) (md_ad M) (md_wy M) (md_so M) (md_rl M) (md_io M) (md_po M) (md_sp M) (md_rs M) (md_st M) (md_av M) (md_ip M) (md_tx M) (md_tm M) (md_ta M) (md_td M) (md_wo M) (md_sq M) (md_tk M) (md_bg M) (md_nu M) (md_wr M))) 21 = pM v (md_th M) (nR te ho ow (shU k n hs) (shU k n ra) (shU k n lo) (nI n) st av so ln) (md_pt M) (md_re M) (md_sd M) (md_be M) (md_pb M) (md_ac M) (md_od M) (md_ad M) (md_wy M) (md_so M) (md_rl M) (md_io M) (md_po M) (md_sp M) (md_rs M) (md_st M) (md_av M) (md_ip M) (md_tx M) (md_tm M) (md_ta M) (md_td M) (md_wo M) (md_sq M) (md_tk M) (md_bg M) (md_nu M) (md_wr M) from xw_up_s) (by omega) (by omega))) (xw_at xw_up_s rfl) rfl dX8_makesRoom_15 ⟨Nat.le_of_ble_eq_true rfl, Nat.le_of_ble_eq_true rfl⟩ rfl (Nat.le_of_ble_eq_true rfl) rfl rfl ?_
      refine xj_iinc (i := 2) (x2 := nI (k - 1)) (ls2 := [some (.ref (xw_ad v 21 0)), some (.int (nI a)), some (.int (nI (k - 1)))]) hk dX8_makesRoom_18 rfl (nI_dec (by omega)) (by decide) rfl rfl ?_
      refine xj_goto (tgt := 5) hk dX8_makesRoom_21 (by decide) ?_
      refine xj.eqG (G' := xw_up G 21 (pM v (md_th M) (nR te ho ow (shU ((k - 1)) n hs) (shU ((k - 1)) n ra) (shU ((k - 1)) n lo) (nI n) st av so ln) (md_pt M) (md_re M) (md_sd M) (md_be M) (md_pb M) (md_ac M) (md_od M) (md_ad M) (md_wy M) (md_so M) (md_rl M) (md_io M) (md_po M) (md_sp M) (md_rs M) (md_st M) (md_av M) (md_ip M) (md_tx M) (md_tm M) (md_ta M) (md_td M) (md_wo M) (md_sq M) (md_tk M) (md_bg M) (md_nu M) (md_wr M))) (by simp only [shU_s _ (show 0 < k by omega) (show k ≤ n by omega)]) (ih (k - 1) (by omega) (by omega) (by omega))

set_option maxHeartbeats 1000000 in
set_option maxRecDepth 10000 in
theorem c_X8_makesRoom {v : xw_V} {G : xw_G} {M : md_T} {te ho ow hs ra lo st av so : Nat → Int32} {ln : Int32} {n a : Nat} (hM : G 21 = pM v (md_th M) (nR te ho ow hs ra lo (nI n) st av so ln) (md_pt M) (md_re M) (md_sd M) (md_be M) (md_pb M) (md_ac M) (md_od M) (md_ad M) (md_wy M) (md_so M) (md_rl M) (md_io M) (md_po M) (md_sp M) (md_rs M) (md_st M) (md_av M) (md_ip M) (md_tx M) (md_tm M) (md_ta M) (md_td M) (md_wo M) (md_sq M) (md_tk M) (md_bg M) (md_nu M) (md_wr M)) (ha : a ≤ n) (hn30 : n < 30) : xk_Con v yX8_makesRoom cX8_makesRoom 3 none 2 46 [.ref (xw_ad v 21 0), .int (nI a)] G (xk_ret none (xw_up G 21 (pM v (md_th M) (nR te ho ow (shU a n hs) (shU a n ra) (shU a n lo) (nI (n + 1)) st av so ln) (md_pt M) (md_re M) (md_sd M) (md_be M) (md_pb M) (md_ac M) (md_od M) (md_ad M) (md_wy M) (md_so M) (md_rl M) (md_io M) (md_po M) (md_sp M) (md_rs M) (md_st M) (md_av M) (md_ip M) (md_tx M) (md_tm M) (md_ta M) (md_td M) (md_wo M) (md_sq M) (md_tk M) (md_bg M) (md_nu M) (md_wr M)))) := by
  refine xk_of (ls0 := [some (.ref (xw_ad v 21 0)), some (.int (nI a)), none]) (by decide) rfl (Nat.le_of_ble_eq_true rfl) ?_
  intro κ z hk hz
  refine xj_aload_n (i := 0) hk dX8_makesRoom_0 rfl rfl ?_
  refine xj_callV hk hz (fr1 := 0) (lo1 := 0) (r1 := some (.int (nI n))) (As := []) (st := []) (st2 := [.int (nI n)]) (G1 := G) ml_X8_73 (c_X8_many (M := M) (show G 21 = pM v (md_th M) (nR te ho ow hs ra lo (nI n) st av so ln) (md_pt M) (md_re M) (md_sd M) (md_be M) (md_pb M) (md_ac M) (md_od M) (md_ad M) (md_wy M) (md_so M) (md_rl M) (md_io M) (md_po M) (md_sp M) (md_rs M) (md_st M) (md_av M) (md_ip M) (md_tx M) (md_tm M) (md_ta M) (md_td M) (md_wo M) (md_sq M) (md_tk M) (md_bg M) (md_nu M) (md_wr M) from hM)) (xw_at hM rfl) rfl dX8_makesRoom_1 ⟨Nat.le_of_ble_eq_true rfl, Nat.le_of_ble_eq_true rfl⟩ rfl (Nat.le_of_ble_eq_true rfl) rfl rfl ?_
  refine xj_istore_n (i := 2) (ls2 := [some (.ref (xw_ad v 21 0)), some (.int (nI a)), some (.int (nI n))]) hk dX8_makesRoom_4 rfl (by decide) rfl rfl ?_
  refine xj.eqG (G' := xw_up G 21 (pM v (md_th M) (nR te ho ow (shU n n hs) (shU n n ra) (shU n n lo) (nI n) st av so ln) (md_pt M) (md_re M) (md_sd M) (md_be M) (md_pb M) (md_ac M) (md_od M) (md_ad M) (md_wy M) (md_so M) (md_rl M) (md_io M) (md_po M) (md_sp M) (md_rs M) (md_st M) (md_av M) (md_ip M) (md_tx M) (md_tm M) (md_ta M) (md_td M) (md_wo M) (md_sq M) (md_tk M) (md_bg M) (md_nu M) (md_wr M))) (by simp only [shU_0]; exact (xw_up_same hM).symm) ?_
  refine l_X8_makesRoom hk hz hM ha hn30 ?_ (n + 1) n (by omega) (by omega) (by omega)
  refine xj_aload_n (i := 0) hk dX8_makesRoom_24 rfl rfl ?_
  refine xj_getfield hk dX8_makesRoom_25 fl_X8_13 (xw_at xw_up_s rfl) rfl ?_
  refine xj_bipush (x := 23) hk dX8_makesRoom_28 (by decide) ?_
  refine xj_dup2 hk dX8_makesRoom_30 rfl rfl ?_
  refine xj_iaload (k := 23) hk dX8_makesRoom_31 (xw_at xw_up_s rfl) (xi_d 23 139 (by decide)) ?_
  refine xj.eqi (x' := nI n) rR_bi ?_
  refine xj_iconst (x := 1) hk dX8_makesRoom_32 (by decide) ?_
  refine xj_iadd hk dX8_makesRoom_33 ?_
  refine xj.eqi (x' := nI (n + 1)) (nI_add n 1) ?_
  refine xj_iastore (k := 23) (G2 := xw_up G 21 (pM v (md_th M) (xu (nR te ho ow (shU a n hs) (shU a n ra) (shU a n lo) (nI n) st av so ln) 23 (nI (n + 1))) (md_pt M) (md_re M) (md_sd M) (md_be M) (md_pb M) (md_ac M) (md_od M) (md_ad M) (md_wy M) (md_so M) (md_rl M) (md_io M) (md_po M) (md_sp M) (md_rs M) (md_st M) (md_av M) (md_ip M) (md_tx M) (md_tm M) (md_ta M) (md_td M) (md_wo M) (md_sq M) (md_tk M) (md_bg M) (md_nu M) (md_wr M))) hk dX8_makesRoom_34 (xw_at xw_up_s rfl) (xi_d 23 139 (by decide)) (xw_wr2 rfl) ?_
  refine xj.eqG (G' := xw_up G 21 (pM v (md_th M) (nR te ho ow (shU a n hs) (shU a n ra) (shU a n lo) (nI (n + 1)) st av so ln) (md_pt M) (md_re M) (md_sd M) (md_be M) (md_pb M) (md_ac M) (md_od M) (md_ad M) (md_wy M) (md_so M) (md_rl M) (md_io M) (md_po M) (md_sp M) (md_rs M) (md_st M) (md_av M) (md_ip M) (md_tx M) (md_tm M) (md_ta M) (md_td M) (md_wo M) (md_sq M) (md_tk M) (md_bg M) (md_nu M) (md_wr M))) (by rw [wR_bi]) ?_
  refine xj_return hk hz dX8_makesRoom_35 ?_
  exact ⟨rfl, rfl⟩

set_option maxHeartbeats 1000000 in
set_option maxRecDepth 10000 in
theorem l_X8_drops {v : xw_V} {κ : xk_K} {post : Option Value → xw_G → Prop} {z : Nat × Nat × Nat} {G : xw_G} {M : md_T} {te ho ow hs ra lo st av so : Nat → Int32} {ln : Int32} {n a : Nat} (hk : xk_Ok v κ yX8_drops cX8_drops 3 none 2 46) (hz : xk_zf κ = z) (hM : G 21 = pM v (md_th M) (nR te ho ow hs ra lo (nI n) st av so ln) (md_pt M) (md_re M) (md_sd M) (md_be M) (md_pb M) (md_ac M) (md_od M) (md_ad M) (md_wy M) (md_so M) (md_rl M) (md_io M) (md_po M) (md_sp M) (md_rs M) (md_st M) (md_av M) (md_ip M) (md_tx M) (md_tm M) (md_ta M) (md_td M) (md_wo M) (md_sq M) (md_tk M) (md_bg M) (md_nu M) (md_wr M)) (ha : a < n) (hn30 : n ≤ 30) (kx : xj v κ post z (xw_up G 21 (pM v (md_th M) (nR te ho ow (shD a ((n - 1)) hs) (shD a ((n - 1)) ra) (shD a ((n - 1)) lo) (nI n) st av so ln) (md_pt M) (md_re M) (md_sd M) (md_be M) (md_pb M) (md_ac M) (md_od M) (md_ad M) (md_wy M) (md_so M) (md_rl M) (md_io M) (md_po M) (md_sp M) (md_rs M) (md_st M) (md_av M) (md_ip M) (md_tx M) (md_tm M) (md_ta M) (md_td M) (md_wo M) (md_sq M) (md_tk M) (md_bg M) (md_nu M) (md_wr M))) 26 [some (.ref (xw_ad v 21 0)), some (.int (nI a)), some (.int (nI ((n - 1))))] []) : ∀ (m : Nat) (k : Nat), n - k < m → k ≤ n - 1 → a ≤ k → xj v κ post z (xw_up G 21 (pM v (md_th M) (nR te ho ow (shD a k hs) (shD a k ra) (shD a k lo) (nI n) st av so ln) (md_pt M) (md_re M) (md_sd M) (md_be M) (md_pb M) (md_ac M) (md_od M) (md_ad M) (md_wy M) (md_so M) (md_rl M) (md_io M) (md_po M) (md_sp M) (md_rs M) (md_st M) (md_av M) (md_ip M) (md_tx M) (md_tm M) (md_ta M) (md_td M) (md_wo M) (md_sq M) (md_tk M) (md_bg M) (md_nu M) (md_wr M))) 2 [some (.ref (xw_ad v 21 0)), some (.int (nI a)), some (.int (nI k))] [] := by
  intro m
  induction m with
  | zero => intro k h; exact absurd h (Nat.not_lt_zero _)
  | succ m ih =>
    intro k hm hi hj
    refine xj_iload_n (i := 2) hk dX8_drops_2 rfl rfl ?_
    refine xj_iconst (x := 1) hk dX8_drops_3 (by decide) ?_
    refine xj_iadd hk dX8_drops_4 ?_
    refine xj.eqi (x' := nI (k + 1)) (nI_add k 1) ?_
    refine xj_aload_n (i := 0) hk dX8_drops_5 rfl rfl ?_
    refine xj_callV hk hz (fr1 := 0) (lo1 := 0) (r1 := some (.int (nI n))) (As := []) (st := [.int (nI (k + 1))]) (st2 := [.int (nI n), .int (nI (k + 1))]) (G1 := xw_up G 21 (pM v (md_th M) (nR te ho ow (shD a k hs) (shD a k ra) (shD a k lo) (nI n) st av so ln) (md_pt M) (md_re M) (md_sd M) (md_be M) (md_pb M) (md_ac M) (md_od M) (md_ad M) (md_wy M) (md_so M) (md_rl M) (md_io M) (md_po M) (md_sp M) (md_rs M) (md_st M) (md_av M) (md_ip M) (md_tx M) (md_tm M) (md_ta M) (md_td M) (md_wo M) (md_sq M) (md_tk M) (md_bg M) (md_nu M) (md_wr M))) ml_X8_73 (c_X8_many (M := M) (show (xw_up G 21 (pM v (md_th M) (nR te ho ow (shD a k hs) (shD a k ra) (shD a k lo) (nI n) st av so ln) (md_pt M) (md_re M) (md_sd M) (md_be M) (md_pb M) (md_ac M) (md_od M) (md_ad M) (md_wy M) (md_so M) (md_rl M) (md_io M) (md_po M) (md_sp M) (md_rs M) (md_st M) (md_av M) (md_ip M) (md_tx M) (md_tm M) (md_ta M) (md_td M) (md_wo M) (md_sq M) (md_tk M) (md_bg M) (md_nu M) (md_wr M))) 21 = pM v (md_th M) (nR te ho ow (shD a k hs) (shD a k ra) (shD a k lo) (nI n) st av so ln) (md_pt M) (md_re M) (md_sd M) (md_be M) (md_pb M) (md_ac M) (md_od M) (md_ad M) (md_wy M) (md_so M) (md_rl M) (md_io M) (md_po M) (md_sp M) (md_rs M) (md_st M) (md_av M) (md_ip M) (md_tx M) (md_tm M) (md_ta M) (md_td M) (md_wo M) (md_sq M) (md_tk M) (md_bg M) (md_nu M) (md_wr M) from xw_up_s)) (xw_at xw_up_s rfl) rfl dX8_drops_6 ⟨Nat.le_of_ble_eq_true rfl, Nat.le_of_ble_eq_true rfl⟩ rfl (Nat.le_of_ble_eq_true rfl) rfl rfl ?_
    refine xj_icmp_ge (tgt := 26) hk dX8_drops_9 (by decide) (fun c9 => ?_) (fun c9 => ?_)
    · have c9 : n ≤ k + 1 := (nI_leI (a := n) (b := k + 1) (by omega) (by omega)).mp c9
      have e9 : k = n - 1 := by omega
      subst e9
      exact kx
    · have c9 : ¬ n ≤ k + 1 := fun q => c9 ((nI_leI (a := n) (b := k + 1) (by omega) (by omega)).mpr q)
      refine xj_aload_n (i := 0) hk dX8_drops_12 rfl rfl ?_
      refine xj_iload_n (i := 2) hk dX8_drops_13 rfl rfl ?_
      refine xj_iconst (x := 1) hk dX8_drops_14 (by decide) ?_
      refine xj_iadd hk dX8_drops_15 ?_
      refine xj.eqi (x' := nI (k + 1)) (nI_add k 1) ?_
      refine xj_iload_n (i := 2) hk dX8_drops_16 rfl rfl ?_
      refine xj_callV hk hz (fr1 := 1) (lo1 := 24) (r1 := none) (As := [.int (nI (k + 1)), .int (nI k)]) (st := []) (st2 := []) (G1 := xw_up G 21 (pM v (md_th M) (nR te ho ow (xu (shD a k hs) k ((shD a k hs) (k + 1))) (xu (shD a k ra) k ((shD a k ra) (k + 1))) (xu (shD a k lo) k ((shD a k lo) (k + 1))) (nI n) st av so ln) (md_pt M) (md_re M) (md_sd M) (md_be M) (md_pb M) (md_ac M) (md_od M) (md_ad M) (md_wy M) (md_so M) (md_rl M) (md_io M) (md_po M) (md_sp M) (md_rs M) (md_st M) (md_av M) (md_ip M) (md_tx M) (md_tm M) (md_ta M) (md_td M) (md_wo M) (md_sq M) (md_tk M) (md_bg M) (md_nu M) (md_wr M))) ml_X8_91 (xk_cg (by rw [xw_up_u] <;> rfl) (c_X8_copies (a := k + 1) (b := k) (M := M) (show (xw_up G 21 (pM v (md_th M) (nR te ho ow (shD a k hs) (shD a k ra) (shD a k lo) (nI n) st av so ln) (md_pt M) (md_re M) (md_sd M) (md_be M) (md_pb M) (md_ac M) (md_od M) (md_ad M) (md_wy M) (md_so M) (md_rl M) (md_io M) (md_po M) (md_sp M) (md_rs M) (md_st M) (md_av M) (md_ip M) (md_tx M) (md_tm M) (md_ta M) (md_td M) (md_wo M) (md_sq M) (md_tk M) (md_bg M) (md_nu M) (md_wr M))) 21 = pM v (md_th M) (nR te ho ow (shD a k hs) (shD a k ra) (shD a k lo) (nI n) st av so ln) (md_pt M) (md_re M) (md_sd M) (md_be M) (md_pb M) (md_ac M) (md_od M) (md_ad M) (md_wy M) (md_so M) (md_rl M) (md_io M) (md_po M) (md_sp M) (md_rs M) (md_st M) (md_av M) (md_ip M) (md_tx M) (md_tm M) (md_ta M) (md_td M) (md_wo M) (md_sq M) (md_tk M) (md_bg M) (md_nu M) (md_wr M) from xw_up_s) (by omega) (by omega))) (xw_at xw_up_s rfl) rfl dX8_drops_17 ⟨Nat.le_of_ble_eq_true rfl, Nat.le_of_ble_eq_true rfl⟩ rfl (Nat.le_of_ble_eq_true rfl) rfl rfl ?_
      refine xj_iinc (i := 2) (x2 := nI (k + 1)) (ls2 := [some (.ref (xw_ad v 21 0)), some (.int (nI a)), some (.int (nI (k + 1)))]) hk dX8_drops_20 rfl (nI_1 k) (by decide) rfl rfl ?_
      refine xj_goto (tgt := 2) hk dX8_drops_23 (by decide) ?_
      refine xj.eqG (G' := xw_up G 21 (pM v (md_th M) (nR te ho ow (shD a ((k + 1)) hs) (shD a ((k + 1)) ra) (shD a ((k + 1)) lo) (nI n) st av so ln) (md_pt M) (md_re M) (md_sd M) (md_be M) (md_pb M) (md_ac M) (md_od M) (md_ad M) (md_wy M) (md_so M) (md_rl M) (md_io M) (md_po M) (md_sp M) (md_rs M) (md_st M) (md_av M) (md_ip M) (md_tx M) (md_tm M) (md_ta M) (md_td M) (md_wo M) (md_sq M) (md_tk M) (md_bg M) (md_nu M) (md_wr M))) (by simp only [shD_s _ (show a ≤ k by omega)]) (ih (k + 1) (by omega) (by omega) (by omega))

set_option maxHeartbeats 1000000 in
set_option maxRecDepth 10000 in
theorem c_X8_drops {v : xw_V} {G : xw_G} {M : md_T} {te ho ow hs ra lo st av so : Nat → Int32} {ln : Int32} {n a : Nat} (hM : G 21 = pM v (md_th M) (nR te ho ow hs ra lo (nI n) st av so ln) (md_pt M) (md_re M) (md_sd M) (md_be M) (md_pb M) (md_ac M) (md_od M) (md_ad M) (md_wy M) (md_so M) (md_rl M) (md_io M) (md_po M) (md_sp M) (md_rs M) (md_st M) (md_av M) (md_ip M) (md_tx M) (md_tm M) (md_ta M) (md_td M) (md_wo M) (md_sq M) (md_tk M) (md_bg M) (md_nu M) (md_wr M)) (ha : a < n) (hn30 : n ≤ 30) : xk_Con v yX8_drops cX8_drops 3 none 2 46 [.ref (xw_ad v 21 0), .int (nI a)] G (xk_ret none (xw_up G 21 (pM v (md_th M) (nR te ho ow (shD a ((n - 1)) hs) (shD a ((n - 1)) ra) (shD a ((n - 1)) lo) (nI (n - 1)) st av so ln) (md_pt M) (md_re M) (md_sd M) (md_be M) (md_pb M) (md_ac M) (md_od M) (md_ad M) (md_wy M) (md_so M) (md_rl M) (md_io M) (md_po M) (md_sp M) (md_rs M) (md_st M) (md_av M) (md_ip M) (md_tx M) (md_tm M) (md_ta M) (md_td M) (md_wo M) (md_sq M) (md_tk M) (md_bg M) (md_nu M) (md_wr M)))) := by
  refine xk_of (ls0 := [some (.ref (xw_ad v 21 0)), some (.int (nI a)), none]) (by decide) rfl (Nat.le_of_ble_eq_true rfl) ?_
  intro κ z hk hz
  refine xj_iload_n (i := 1) hk dX8_drops_0 rfl rfl ?_
  refine xj_istore_n (i := 2) (ls2 := [some (.ref (xw_ad v 21 0)), some (.int (nI a)), some (.int (nI a))]) hk dX8_drops_1 rfl (by decide) rfl rfl ?_
  refine xj.eqG (G' := xw_up G 21 (pM v (md_th M) (nR te ho ow (shD a a hs) (shD a a ra) (shD a a lo) (nI n) st av so ln) (md_pt M) (md_re M) (md_sd M) (md_be M) (md_pb M) (md_ac M) (md_od M) (md_ad M) (md_wy M) (md_so M) (md_rl M) (md_io M) (md_po M) (md_sp M) (md_rs M) (md_st M) (md_av M) (md_ip M) (md_tx M) (md_tm M) (md_ta M) (md_td M) (md_wo M) (md_sq M) (md_tk M) (md_bg M) (md_nu M) (md_wr M))) (by simp only [shD_0]; exact (xw_up_same hM).symm) ?_
  refine l_X8_drops hk hz hM ha hn30 ?_ (n + 1) a (by omega) (by omega) (by omega)
  refine xj_aload_n (i := 0) hk dX8_drops_26 rfl rfl ?_
  refine xj_getfield hk dX8_drops_27 fl_X8_13 (xw_at xw_up_s rfl) rfl ?_
  refine xj_bipush (x := 23) hk dX8_drops_30 (by decide) ?_
  refine xj_dup2 hk dX8_drops_32 rfl rfl ?_
  refine xj_iaload (k := 23) hk dX8_drops_33 (xw_at xw_up_s rfl) (xi_d 23 139 (by decide)) ?_
  refine xj.eqi (x' := nI n) rR_bi ?_
  refine xj_iconst (x := 1) hk dX8_drops_34 (by decide) ?_
  refine xj_isub hk dX8_drops_35 ?_
  refine xj.eqi (x' := nI (n - 1)) (nI_sub1 (by omega)) ?_
  refine xj_iastore (k := 23) (G2 := xw_up G 21 (pM v (md_th M) (xu (nR te ho ow (shD a ((n - 1)) hs) (shD a ((n - 1)) ra) (shD a ((n - 1)) lo) (nI n) st av so ln) 23 (nI (n - 1))) (md_pt M) (md_re M) (md_sd M) (md_be M) (md_pb M) (md_ac M) (md_od M) (md_ad M) (md_wy M) (md_so M) (md_rl M) (md_io M) (md_po M) (md_sp M) (md_rs M) (md_st M) (md_av M) (md_ip M) (md_tx M) (md_tm M) (md_ta M) (md_td M) (md_wo M) (md_sq M) (md_tk M) (md_bg M) (md_nu M) (md_wr M))) hk dX8_drops_36 (xw_at xw_up_s rfl) (xi_d 23 139 (by decide)) (xw_wr2 rfl) ?_
  refine xj.eqG (G' := xw_up G 21 (pM v (md_th M) (nR te ho ow (shD a ((n - 1)) hs) (shD a ((n - 1)) ra) (shD a ((n - 1)) lo) (nI (n - 1)) st av so ln) (md_pt M) (md_re M) (md_sd M) (md_be M) (md_pb M) (md_ac M) (md_od M) (md_ad M) (md_wy M) (md_so M) (md_rl M) (md_io M) (md_po M) (md_sp M) (md_rs M) (md_st M) (md_av M) (md_ip M) (md_tx M) (md_tm M) (md_ta M) (md_td M) (md_wo M) (md_sq M) (md_tk M) (md_bg M) (md_nu M) (md_wr M))) (by rw [wR_bi]) ?_
  refine xj_return hk hz dX8_drops_37 ?_
  exact ⟨rfl, rfl⟩


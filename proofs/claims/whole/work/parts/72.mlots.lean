set_option maxHeartbeats 1000000 in
set_option maxRecDepth 10000 in
theorem c_soldByR {v : xw_V} {G : xw_G} {M : md_T} {te ho ow hs ra lo st av so : Nat → Int32} {ln : Int32} {n j : Nat} (hM : G 21 = pM v (md_th M) (nR te ho ow hs ra lo (nI n) st av so ln) (md_pt M) (md_re M) (md_sd M) (md_be M) (md_pb M) (md_ac M) (md_od M) (md_ad M) (md_wy M) (md_so M) (md_rl M) (md_io M) (md_po M) (md_sp M) (md_rs M) (md_st M) (md_av M) (md_ip M) (md_tx M) (md_tm M) (md_ta M) (md_td M) (md_wo M) (md_sq M) (md_tk M) (md_bg M) (md_nu M) (md_wr M)) (hn30 : n ≤ 30) (hj : j < n) (x : Int32) (hq2 : MV te ow hs (xu ra j x) lo n) : xk_Con v yX8_soldBy cX8_soldBy 6 (some .int) 4 89 [.ref (xw_ad v 21 0), .int (nI j), .int 1, .int x] G (fun r9 G' => r9 = some (.int (sl_so (kM te ho ow hs (xu ra j x) lo n) j)) ∧ mQ v G G' (nR te ho ow hs ra lo (nI n) st av so ln) M) := by
  refine xk_of (ls0 := [some (.ref (xw_ad v 21 0)), some (.int (nI j)), some (.int 1), some (.int x), none, none]) (by decide) rfl (Nat.le_of_ble_eq_true rfl) ?_
  intro κ z hk hz
  refine xj_bipush (x := 24) hk dX8_soldBy_0 (by decide) ?_
  refine xj_iconst (x := 3) hk dX8_soldBy_2 (by decide) ?_
  refine xj_iload_n (i := 1) hk dX8_soldBy_3 rfl rfl ?_
  refine xj_imul hk dX8_soldBy_4 ?_
  refine xj.eqi (x' := nI (3 * j)) (nI_mul 3 j) ?_
  refine xj_iadd hk dX8_soldBy_5 ?_
  refine xj.eqi (x' := nI (24 + 3 * j)) (nI_add 24 (3 * j)) ?_
  refine xj_iload_n (i := 2) hk dX8_soldBy_6 rfl rfl ?_
  refine xj_iadd hk dX8_soldBy_7 ?_
  refine xj.eqi (x' := nI (24 + 3 * j + 1)) (nI_add (24 + 3 * j) 1) ?_
  refine xj_istore (i := 4) (ls2 := [some (.ref (xw_ad v 21 0)), some (.int (nI j)), some (.int 1), some (.int x), some (.int (nI (24 + 3 * j + 1))), none]) hk dX8_soldBy_8 (by decide) rfl rfl ?_
  refine xj_aload_n (i := 0) hk dX8_soldBy_10 rfl rfl ?_
  refine xj_getfield hk dX8_soldBy_11 fl_X8_13 (xw_at hM rfl) rfl ?_
  refine xj_iload hk dX8_soldBy_14 rfl ?_
  refine xj_iaload (k := 24 + 3 * j + 1) hk dX8_soldBy_16 (xw_at hM rfl) (xi_n (by omega) (by decide)) ?_
  refine xj.eqi (x' := ra j) (rR_ra (k := j) (by omega)) ?_
  refine xj_istore (i := 5) (ls2 := [some (.ref (xw_ad v 21 0)), some (.int (nI j)), some (.int 1), some (.int x), some (.int (nI (24 + 3 * j + 1))), some (.int (ra j))]) hk dX8_soldBy_17 (by decide) rfl rfl ?_
  refine xj_aload_n (i := 0) hk dX8_soldBy_19 rfl rfl ?_
  refine xj_getfield hk dX8_soldBy_20 fl_X8_13 (xw_at hM rfl) rfl ?_
  refine xj_iload hk dX8_soldBy_23 rfl ?_
  refine xj_iload_n (i := 3) hk dX8_soldBy_25 rfl rfl ?_
  refine xj_iastore (k := 24 + 3 * j + 1) (G2 := xw_up G 21 (pM v (md_th M) (xu (nR te ho ow hs ra lo (nI n) st av so ln) (24 + 3 * j + 1) x) (md_pt M) (md_re M) (md_sd M) (md_be M) (md_pb M) (md_ac M) (md_od M) (md_ad M) (md_wy M) (md_so M) (md_rl M) (md_io M) (md_po M) (md_sp M) (md_rs M) (md_st M) (md_av M) (md_ip M) (md_tx M) (md_tm M) (md_ta M) (md_td M) (md_wo M) (md_sq M) (md_tk M) (md_bg M) (md_nu M) (md_wr M))) hk dX8_soldBy_26 (xw_at hM rfl) (xi_n (by omega) (by decide)) (xw_wr hM rfl) ?_
  refine xj.eqG (G' := xw_up G 21 (pM v (md_th M) (nR te ho ow hs (xu ra j x) lo (nI n) st av so ln) (md_pt M) (md_re M) (md_sd M) (md_be M) (md_pb M) (md_ac M) (md_od M) (md_ad M) (md_wy M) (md_so M) (md_rl M) (md_io M) (md_po M) (md_sp M) (md_rs M) (md_st M) (md_av M) (md_ip M) (md_tx M) (md_tm M) (md_ta M) (md_td M) (md_wo M) (md_sq M) (md_tk M) (md_bg M) (md_nu M) (md_wr M))) (by rw [wR_ra (k := j) (by omega)]) ?_
  refine xj_aload_n (i := 0) hk dX8_soldBy_27 rfl rfl ?_
  refine xj_callVE hk hz (fr1 := 3) (lo1 := 65) (As := []) (st := []) ml_X8_174 (c_sellsK (n := n) (M := M) (show (xw_up G 21 (pM v (md_th M) (nR te ho ow hs (xu ra j x) lo (nI n) st av so ln) (md_pt M) (md_re M) (md_sd M) (md_be M) (md_pb M) (md_ac M) (md_od M) (md_ad M) (md_wy M) (md_so M) (md_rl M) (md_io M) (md_po M) (md_sp M) (md_rs M) (md_st M) (md_av M) (md_ip M) (md_tx M) (md_tm M) (md_ta M) (md_td M) (md_wo M) (md_sq M) (md_tk M) (md_bg M) (md_nu M) (md_wr M))) 21 = pM v (md_th M) (nR te ho ow hs (xu ra j x) lo (nI n) st av so ln) (md_pt M) (md_re M) (md_sd M) (md_be M) (md_pb M) (md_ac M) (md_od M) (md_ad M) (md_wy M) (md_so M) (md_rl M) (md_io M) (md_po M) (md_sp M) (md_rs M) (md_st M) (md_av M) (md_ip M) (md_tx M) (md_tm M) (md_ta M) (md_td M) (md_wo M) (md_sq M) (md_tk M) (md_bg M) (md_nu M) (md_wr M) from xw_up_s) hq2) (xw_at xw_up_s rfl) rfl dX8_soldBy_28 ⟨Nat.le_of_ble_eq_true rfl, Nat.le_of_ble_eq_true rfl⟩ rfl (Nat.le_of_ble_eq_true rfl) rfl ?_
  rintro _ _ ⟨rfl, od, ad, wy, rl, so3, io3, hag, rfl⟩
  simp only [xw_up_u]
  have hag : agS n (sl_w (kM te ho ow hs (xu ra j x) lo n) od ad wy so3) (kM te ho ow hs (xu ra j x) lo n) := hag
  show xj v κ _ z (xw_up G 21 (pM v (md_th M) (nR te ho ow hs (xu ra j x) lo (nI n) st av so ln) (md_pt M) (md_re M) (md_sd M) (md_be M) (md_pb M) (md_ac M) od ad wy so3 rl io3 (sl_po (kM te ho ow hs (xu ra j x) lo n)) (sl_sp (kM te ho ow hs (xu ra j x) lo n)) (sl_rs (kM te ho ow hs (xu ra j x) lo n)) (sl_st (kM te ho ow hs (xu ra j x) lo n)) (sl_av (kM te ho ow hs (xu ra j x) lo n)) (sl_pt (kM te ho ow hs (xu ra j x) lo n)) (md_tx M) (md_tm M) (md_ta M) (md_td M) (md_wo M) (md_sq M) (md_tk M) (md_bg M) (md_nu M) (md_wr M))) 31 _ []
  refine xj_aload_n (i := 0) hk dX8_soldBy_31 rfl rfl ?_
  refine xj_getfield hk dX8_soldBy_32 fl_X8_13 (xw_at xw_up_s rfl) rfl ?_
  refine xj_iload hk dX8_soldBy_35 rfl ?_
  refine xj_iload hk dX8_soldBy_37 rfl ?_
  refine xj_iastore (k := 24 + 3 * j + 1) (G2 := xw_up G 21 (pM v (md_th M) (xu (nR te ho ow hs (xu ra j x) lo (nI n) st av so ln) (24 + 3 * j + 1) (ra j)) (md_pt M) (md_re M) (md_sd M) (md_be M) (md_pb M) (md_ac M) od ad wy so3 rl io3 (sl_po (kM te ho ow hs (xu ra j x) lo n)) (sl_sp (kM te ho ow hs (xu ra j x) lo n)) (sl_rs (kM te ho ow hs (xu ra j x) lo n)) (sl_st (kM te ho ow hs (xu ra j x) lo n)) (sl_av (kM te ho ow hs (xu ra j x) lo n)) (sl_pt (kM te ho ow hs (xu ra j x) lo n)) (md_tx M) (md_tm M) (md_ta M) (md_td M) (md_wo M) (md_sq M) (md_tk M) (md_bg M) (md_nu M) (md_wr M))) hk dX8_soldBy_39 (xw_at xw_up_s rfl) (xi_n (by omega) (by decide)) (xw_wr2 rfl) ?_
  refine xj.eqG (G' := xw_up G 21 (pM v (md_th M) (nR te ho ow hs (xu (xu ra j x) j (ra j)) lo (nI n) st av so ln) (md_pt M) (md_re M) (md_sd M) (md_be M) (md_pb M) (md_ac M) od ad wy so3 rl io3 (sl_po (kM te ho ow hs (xu ra j x) lo n)) (sl_sp (kM te ho ow hs (xu ra j x) lo n)) (sl_rs (kM te ho ow hs (xu ra j x) lo n)) (sl_st (kM te ho ow hs (xu ra j x) lo n)) (sl_av (kM te ho ow hs (xu ra j x) lo n)) (sl_pt (kM te ho ow hs (xu ra j x) lo n)) (md_tx M) (md_tm M) (md_ta M) (md_td M) (md_wo M) (md_sq M) (md_tk M) (md_bg M) (md_nu M) (md_wr M))) (by rw [wR_ra (k := j) (by omega)]) ?_
  refine xj.eqG (G' := xw_up G 21 (pM v (md_th M) (nR te ho ow hs ra lo (nI n) st av so ln) (md_pt M) (md_re M) (md_sd M) (md_be M) (md_pb M) (md_ac M) od ad wy so3 rl io3 (sl_po (kM te ho ow hs (xu ra j x) lo n)) (sl_sp (kM te ho ow hs (xu ra j x) lo n)) (sl_rs (kM te ho ow hs (xu ra j x) lo n)) (sl_st (kM te ho ow hs (xu ra j x) lo n)) (sl_av (kM te ho ow hs (xu ra j x) lo n)) (sl_pt (kM te ho ow hs (xu ra j x) lo n)) (md_tx M) (md_tm M) (md_ta M) (md_td M) (md_wo M) (md_sq M) (md_tk M) (md_bg M) (md_nu M) (md_wr M))) (by rw [xu_bk]) ?_
  refine xj_aload_n (i := 0) hk dX8_soldBy_40 rfl rfl ?_
  refine xj_getfield hk dX8_soldBy_41 fl_X8_42 (xw_at xw_up_s rfl) rfl ?_
  refine xj_iload_n (i := 1) hk dX8_soldBy_44 rfl rfl ?_
  refine xj_iaload (k := j) hk dX8_soldBy_45 (xw_at xw_up_s rfl) (xi_n (by omega) (by decide)) ?_
  refine xj_ireturn hk hz dX8_soldBy_46 ?_
  refine ⟨?_, ⟨⟨(md_th M, nR te ho ow hs ra lo (nI n) st av so ln, md_pt M, md_re M, md_sd M, md_be M, md_pb M, md_ac M, od, ad, wy, so3, rl, io3, sl_po (kM te ho ow hs (xu ra j x) lo n), sl_sp (kM te ho ow hs (xu ra j x) lo n), sl_rs (kM te ho ow hs (xu ra j x) lo n), sl_st (kM te ho ow hs (xu ra j x) lo n), sl_av (kM te ho ow hs (xu ra j x) lo n), sl_pt (kM te ho ow hs (xu ra j x) lo n), md_tx M, md_tm M, md_ta M, md_td M, md_wo M, md_sq M, md_tk M, md_bg M, md_nu M, md_wr M), xw_up_s, rfl, rfl, rfl, rfl, rfl, rfl, rfl⟩, fun g h => xw_up_n h⟩⟩
  · exact congrArg (fun q => some (Value.int q)) (hag.1 j hj).2.2.2

set_option maxHeartbeats 1000000 in
set_option maxRecDepth 10000 in
theorem c_soldByL {v : xw_V} {G : xw_G} {M : md_T} {te ho ow hs ra lo st av so : Nat → Int32} {ln : Int32} {n j : Nat} (hM : G 21 = pM v (md_th M) (nR te ho ow hs ra lo (nI n) st av so ln) (md_pt M) (md_re M) (md_sd M) (md_be M) (md_pb M) (md_ac M) (md_od M) (md_ad M) (md_wy M) (md_so M) (md_rl M) (md_io M) (md_po M) (md_sp M) (md_rs M) (md_st M) (md_av M) (md_ip M) (md_tx M) (md_tm M) (md_ta M) (md_td M) (md_wo M) (md_sq M) (md_tk M) (md_bg M) (md_nu M) (md_wr M)) (hn30 : n ≤ 30) (hj : j < n) (x : Int32) (hq2 : MV te ow hs ra (xu lo j x) n) : xk_Con v yX8_soldBy cX8_soldBy 6 (some .int) 4 89 [.ref (xw_ad v 21 0), .int (nI j), .int 2, .int x] G (fun r9 G' => r9 = some (.int (sl_so (kM te ho ow hs ra (xu lo j x) n) j)) ∧ mQ v G G' (nR te ho ow hs ra lo (nI n) st av so ln) M) := by
  refine xk_of (ls0 := [some (.ref (xw_ad v 21 0)), some (.int (nI j)), some (.int 2), some (.int x), none, none]) (by decide) rfl (Nat.le_of_ble_eq_true rfl) ?_
  intro κ z hk hz
  refine xj_bipush (x := 24) hk dX8_soldBy_0 (by decide) ?_
  refine xj_iconst (x := 3) hk dX8_soldBy_2 (by decide) ?_
  refine xj_iload_n (i := 1) hk dX8_soldBy_3 rfl rfl ?_
  refine xj_imul hk dX8_soldBy_4 ?_
  refine xj.eqi (x' := nI (3 * j)) (nI_mul 3 j) ?_
  refine xj_iadd hk dX8_soldBy_5 ?_
  refine xj.eqi (x' := nI (24 + 3 * j)) (nI_add 24 (3 * j)) ?_
  refine xj_iload_n (i := 2) hk dX8_soldBy_6 rfl rfl ?_
  refine xj_iadd hk dX8_soldBy_7 ?_
  refine xj.eqi (x' := nI (24 + 3 * j + 2)) (nI_add (24 + 3 * j) 2) ?_
  refine xj_istore (i := 4) (ls2 := [some (.ref (xw_ad v 21 0)), some (.int (nI j)), some (.int 2), some (.int x), some (.int (nI (24 + 3 * j + 2))), none]) hk dX8_soldBy_8 (by decide) rfl rfl ?_
  refine xj_aload_n (i := 0) hk dX8_soldBy_10 rfl rfl ?_
  refine xj_getfield hk dX8_soldBy_11 fl_X8_13 (xw_at hM rfl) rfl ?_
  refine xj_iload hk dX8_soldBy_14 rfl ?_
  refine xj_iaload (k := 24 + 3 * j + 2) hk dX8_soldBy_16 (xw_at hM rfl) (xi_n (by omega) (by decide)) ?_
  refine xj.eqi (x' := lo j) (rR_lo (k := j) (by omega)) ?_
  refine xj_istore (i := 5) (ls2 := [some (.ref (xw_ad v 21 0)), some (.int (nI j)), some (.int 2), some (.int x), some (.int (nI (24 + 3 * j + 2))), some (.int (lo j))]) hk dX8_soldBy_17 (by decide) rfl rfl ?_
  refine xj_aload_n (i := 0) hk dX8_soldBy_19 rfl rfl ?_
  refine xj_getfield hk dX8_soldBy_20 fl_X8_13 (xw_at hM rfl) rfl ?_
  refine xj_iload hk dX8_soldBy_23 rfl ?_
  refine xj_iload_n (i := 3) hk dX8_soldBy_25 rfl rfl ?_
  refine xj_iastore (k := 24 + 3 * j + 2) (G2 := xw_up G 21 (pM v (md_th M) (xu (nR te ho ow hs ra lo (nI n) st av so ln) (24 + 3 * j + 2) x) (md_pt M) (md_re M) (md_sd M) (md_be M) (md_pb M) (md_ac M) (md_od M) (md_ad M) (md_wy M) (md_so M) (md_rl M) (md_io M) (md_po M) (md_sp M) (md_rs M) (md_st M) (md_av M) (md_ip M) (md_tx M) (md_tm M) (md_ta M) (md_td M) (md_wo M) (md_sq M) (md_tk M) (md_bg M) (md_nu M) (md_wr M))) hk dX8_soldBy_26 (xw_at hM rfl) (xi_n (by omega) (by decide)) (xw_wr hM rfl) ?_
  refine xj.eqG (G' := xw_up G 21 (pM v (md_th M) (nR te ho ow hs ra (xu lo j x) (nI n) st av so ln) (md_pt M) (md_re M) (md_sd M) (md_be M) (md_pb M) (md_ac M) (md_od M) (md_ad M) (md_wy M) (md_so M) (md_rl M) (md_io M) (md_po M) (md_sp M) (md_rs M) (md_st M) (md_av M) (md_ip M) (md_tx M) (md_tm M) (md_ta M) (md_td M) (md_wo M) (md_sq M) (md_tk M) (md_bg M) (md_nu M) (md_wr M))) (by rw [wR_lo (k := j) (by omega)]) ?_
  refine xj_aload_n (i := 0) hk dX8_soldBy_27 rfl rfl ?_
  refine xj_callVE hk hz (fr1 := 3) (lo1 := 65) (As := []) (st := []) ml_X8_174 (c_sellsK (n := n) (M := M) (show (xw_up G 21 (pM v (md_th M) (nR te ho ow hs ra (xu lo j x) (nI n) st av so ln) (md_pt M) (md_re M) (md_sd M) (md_be M) (md_pb M) (md_ac M) (md_od M) (md_ad M) (md_wy M) (md_so M) (md_rl M) (md_io M) (md_po M) (md_sp M) (md_rs M) (md_st M) (md_av M) (md_ip M) (md_tx M) (md_tm M) (md_ta M) (md_td M) (md_wo M) (md_sq M) (md_tk M) (md_bg M) (md_nu M) (md_wr M))) 21 = pM v (md_th M) (nR te ho ow hs ra (xu lo j x) (nI n) st av so ln) (md_pt M) (md_re M) (md_sd M) (md_be M) (md_pb M) (md_ac M) (md_od M) (md_ad M) (md_wy M) (md_so M) (md_rl M) (md_io M) (md_po M) (md_sp M) (md_rs M) (md_st M) (md_av M) (md_ip M) (md_tx M) (md_tm M) (md_ta M) (md_td M) (md_wo M) (md_sq M) (md_tk M) (md_bg M) (md_nu M) (md_wr M) from xw_up_s) hq2) (xw_at xw_up_s rfl) rfl dX8_soldBy_28 ⟨Nat.le_of_ble_eq_true rfl, Nat.le_of_ble_eq_true rfl⟩ rfl (Nat.le_of_ble_eq_true rfl) rfl ?_
  rintro _ _ ⟨rfl, od, ad, wy, rl, so3, io3, hag, rfl⟩
  simp only [xw_up_u]
  have hag : agS n (sl_w (kM te ho ow hs ra (xu lo j x) n) od ad wy so3) (kM te ho ow hs ra (xu lo j x) n) := hag
  show xj v κ _ z (xw_up G 21 (pM v (md_th M) (nR te ho ow hs ra (xu lo j x) (nI n) st av so ln) (md_pt M) (md_re M) (md_sd M) (md_be M) (md_pb M) (md_ac M) od ad wy so3 rl io3 (sl_po (kM te ho ow hs ra (xu lo j x) n)) (sl_sp (kM te ho ow hs ra (xu lo j x) n)) (sl_rs (kM te ho ow hs ra (xu lo j x) n)) (sl_st (kM te ho ow hs ra (xu lo j x) n)) (sl_av (kM te ho ow hs ra (xu lo j x) n)) (sl_pt (kM te ho ow hs ra (xu lo j x) n)) (md_tx M) (md_tm M) (md_ta M) (md_td M) (md_wo M) (md_sq M) (md_tk M) (md_bg M) (md_nu M) (md_wr M))) 31 _ []
  refine xj_aload_n (i := 0) hk dX8_soldBy_31 rfl rfl ?_
  refine xj_getfield hk dX8_soldBy_32 fl_X8_13 (xw_at xw_up_s rfl) rfl ?_
  refine xj_iload hk dX8_soldBy_35 rfl ?_
  refine xj_iload hk dX8_soldBy_37 rfl ?_
  refine xj_iastore (k := 24 + 3 * j + 2) (G2 := xw_up G 21 (pM v (md_th M) (xu (nR te ho ow hs ra (xu lo j x) (nI n) st av so ln) (24 + 3 * j + 2) (lo j)) (md_pt M) (md_re M) (md_sd M) (md_be M) (md_pb M) (md_ac M) od ad wy so3 rl io3 (sl_po (kM te ho ow hs ra (xu lo j x) n)) (sl_sp (kM te ho ow hs ra (xu lo j x) n)) (sl_rs (kM te ho ow hs ra (xu lo j x) n)) (sl_st (kM te ho ow hs ra (xu lo j x) n)) (sl_av (kM te ho ow hs ra (xu lo j x) n)) (sl_pt (kM te ho ow hs ra (xu lo j x) n)) (md_tx M) (md_tm M) (md_ta M) (md_td M) (md_wo M) (md_sq M) (md_tk M) (md_bg M) (md_nu M) (md_wr M))) hk dX8_soldBy_39 (xw_at xw_up_s rfl) (xi_n (by omega) (by decide)) (xw_wr2 rfl) ?_
  refine xj.eqG (G' := xw_up G 21 (pM v (md_th M) (nR te ho ow hs ra (xu (xu lo j x) j (lo j)) (nI n) st av so ln) (md_pt M) (md_re M) (md_sd M) (md_be M) (md_pb M) (md_ac M) od ad wy so3 rl io3 (sl_po (kM te ho ow hs ra (xu lo j x) n)) (sl_sp (kM te ho ow hs ra (xu lo j x) n)) (sl_rs (kM te ho ow hs ra (xu lo j x) n)) (sl_st (kM te ho ow hs ra (xu lo j x) n)) (sl_av (kM te ho ow hs ra (xu lo j x) n)) (sl_pt (kM te ho ow hs ra (xu lo j x) n)) (md_tx M) (md_tm M) (md_ta M) (md_td M) (md_wo M) (md_sq M) (md_tk M) (md_bg M) (md_nu M) (md_wr M))) (by rw [wR_lo (k := j) (by omega)]) ?_
  refine xj.eqG (G' := xw_up G 21 (pM v (md_th M) (nR te ho ow hs ra lo (nI n) st av so ln) (md_pt M) (md_re M) (md_sd M) (md_be M) (md_pb M) (md_ac M) od ad wy so3 rl io3 (sl_po (kM te ho ow hs ra (xu lo j x) n)) (sl_sp (kM te ho ow hs ra (xu lo j x) n)) (sl_rs (kM te ho ow hs ra (xu lo j x) n)) (sl_st (kM te ho ow hs ra (xu lo j x) n)) (sl_av (kM te ho ow hs ra (xu lo j x) n)) (sl_pt (kM te ho ow hs ra (xu lo j x) n)) (md_tx M) (md_tm M) (md_ta M) (md_td M) (md_wo M) (md_sq M) (md_tk M) (md_bg M) (md_nu M) (md_wr M))) (by rw [xu_bk]) ?_
  refine xj_aload_n (i := 0) hk dX8_soldBy_40 rfl rfl ?_
  refine xj_getfield hk dX8_soldBy_41 fl_X8_42 (xw_at xw_up_s rfl) rfl ?_
  refine xj_iload_n (i := 1) hk dX8_soldBy_44 rfl rfl ?_
  refine xj_iaload (k := j) hk dX8_soldBy_45 (xw_at xw_up_s rfl) (xi_n (by omega) (by decide)) ?_
  refine xj_ireturn hk hz dX8_soldBy_46 ?_
  refine ⟨?_, ⟨⟨(md_th M, nR te ho ow hs ra lo (nI n) st av so ln, md_pt M, md_re M, md_sd M, md_be M, md_pb M, md_ac M, od, ad, wy, so3, rl, io3, sl_po (kM te ho ow hs ra (xu lo j x) n), sl_sp (kM te ho ow hs ra (xu lo j x) n), sl_rs (kM te ho ow hs ra (xu lo j x) n), sl_st (kM te ho ow hs ra (xu lo j x) n), sl_av (kM te ho ow hs ra (xu lo j x) n), sl_pt (kM te ho ow hs ra (xu lo j x) n), md_tx M, md_tm M, md_ta M, md_td M, md_wo M, md_sq M, md_tk M, md_bg M, md_nu M, md_wr M), xw_up_s, rfl, rfl, rfl, rfl, rfl, rfl, rfl⟩, fun g h => xw_up_n h⟩⟩
  · exact congrArg (fun q => some (Value.int q)) (hag.1 j hj).2.2.2

set_option maxHeartbeats 1000000 in
set_option maxRecDepth 10000 in
theorem c_X8_soldAt {v : xw_V} {G : xw_G} {M : md_T} {te ho ow hs ra lo st av so : Nat → Int32} {ln : Int32} {n : Nat} (hM : G 21 = pM v (md_th M) (nR te ho ow hs ra lo (nI n) st av so ln) (md_pt M) (md_re M) (md_sd M) (md_be M) (md_pb M) (md_ac M) (md_od M) (md_ad M) (md_wy M) (md_so M) (md_rl M) (md_io M) (md_po M) (md_sp M) (md_rs M) (md_st M) (md_av M) (md_ip M) (md_tx M) (md_tm M) (md_ta M) (md_td M) (md_wo M) (md_sq M) (md_tk M) (md_bg M) (md_nu M) (md_wr M)) (hq : MV te ow hs ra lo n) (b x : Int32) : xk_Con v yX8_soldAt cX8_soldAt 3 (some .int) 5 114 [.ref (xw_ad v 21 0), .int b, .int x] G (fun r9 G' => r9 = some (.int (q_soldAt (mB te ho ow hs ra lo n) n b x)) ∧ mQ v G G' (nR te ho ow hs ra lo (nI n) st av so ln) M) := by
  refine xk_of (ls0 := [some (.ref (xw_ad v 21 0)), some (.int b), some (.int x)]) (by decide) rfl (Nat.le_of_ble_eq_true rfl) ?_
  intro κ z hk hz
  have hn30 : n ≤ 30 := hq.1
  refine xj_aload_n (i := 0) hk dX8_soldAt_0 rfl rfl ?_
  refine xj_iload_n (i := 1) hk dX8_soldAt_1 rfl rfl ?_
  refine xj_callV hk hz (fr1 := 1) (lo1 := 22) (r1 := some (.int (xb (mIn b 0 ((nI n) - 1))))) (As := [.int b]) (st := []) (st2 := [.int (xb (mIn b 0 ((nI n) - 1)))]) (G1 := G) ml_X8_108 (c_X8_isBid (M := M) (show G 21 = pM v (md_th M) (nR te ho ow hs ra lo (nI n) st av so ln) (md_pt M) (md_re M) (md_sd M) (md_be M) (md_pb M) (md_ac M) (md_od M) (md_ad M) (md_wy M) (md_so M) (md_rl M) (md_io M) (md_po M) (md_sp M) (md_rs M) (md_st M) (md_av M) (md_ip M) (md_tx M) (md_tm M) (md_ta M) (md_td M) (md_wo M) (md_sq M) (md_tk M) (md_bg M) (md_nu M) (md_wr M) from hM) b) (xw_at hM rfl) rfl dX8_soldAt_2 ⟨Nat.le_of_ble_eq_true rfl, Nat.le_of_ble_eq_true rfl⟩ rfl (Nat.le_of_ble_eq_true rfl) rfl rfl ?_
  refine xj_ifb_eq (tgt := 33) hk dX8_soldAt_5 (by decide) (fun c5 => ?_) (fun c5 => ?_)
  · refine xj_iconst (x := (-1)) hk dX8_soldAt_33 (by decide) ?_
    refine xj_ireturn hk hz dX8_soldAt_34 ?_
    refine ⟨?_, ⟨⟨M, hM, rfl, rfl, rfl, rfl, rfl, rfl, rfl⟩, fun _ _ => rfl⟩⟩
    · simp only [q_soldAt]
      rw [show hasB (bk_bi (mB te ho ow hs ra lo n)) b = false from hb_f hn30 c5]
      rfl
  · obtain ⟨j, hj_j, rfl⟩ := hasB_of (n := n) rfl hn30 (by rw [← mIn_bid hn30]; exact c5)
    refine xj_aload_n (i := 0) hk dX8_soldAt_8 rfl rfl ?_
    refine xj_iload_n (i := 1) hk dX8_soldAt_9 rfl rfl ?_
    refine xj_callV hk hz (fr1 := 1) (lo1 := 21) (r1 := some (.int (xb (decide (ra j = -1))))) (As := [.int (nI j)]) (st := []) (st2 := [.int (xb (decide (ra j = -1)))]) (G1 := G) ml_X8_115 (c_X8_isPlain (b := j) (M := M) (show G 21 = pM v (md_th M) (nR te ho ow hs ra lo (nI n) st av so ln) (md_pt M) (md_re M) (md_sd M) (md_be M) (md_pb M) (md_ac M) (md_od M) (md_ad M) (md_wy M) (md_so M) (md_rl M) (md_io M) (md_po M) (md_sp M) (md_rs M) (md_st M) (md_av M) (md_ip M) (md_tx M) (md_tm M) (md_ta M) (md_td M) (md_wo M) (md_sq M) (md_tk M) (md_bg M) (md_nu M) (md_wr M) from hM) (by omega)) (xw_at hM rfl) rfl dX8_soldAt_10 ⟨Nat.le_of_ble_eq_true rfl, Nat.le_of_ble_eq_true rfl⟩ rfl (Nat.le_of_ble_eq_true rfl) rfl rfl ?_
    refine xj_ifb_ne (tgt := 33) hk dX8_soldAt_13 (by decide) (fun c13 => ?_) (fun c13 => ?_)
    · refine xj_iconst (x := (-1)) hk dX8_soldAt_33 (by decide) ?_
      refine xj_ireturn hk hz dX8_soldAt_34 ?_
      refine ⟨?_, ⟨⟨M, hM, rfl, rfl, rfl, rfl, rfl, rfl, rfl⟩, fun _ _ => rfl⟩⟩
      · simp only [q_soldAt]
        rw [xn_nI (show j < 2 ^ 31 by omega), show decide (bk_ra (mB te ho ow hs ra lo n) j = -1) = true from c13]
        simp
    · refine xj_iload_n (i := 2) hk dX8_soldAt_16 rfl rfl ?_
      refine xj_callS hk hz (fr1 := 1) (lo1 := 22) (r1 := some (.int (xb (mIn x 0 999)))) (As := [.int x]) (st := []) (st2 := [.int (xb (mIn x 0 999))]) (G1 := G) ml_X8_99 (c_X8_isRate x) dX8_soldAt_17 ⟨Nat.le_of_ble_eq_true rfl, Nat.le_of_ble_eq_true rfl⟩ rfl (Nat.le_of_ble_eq_true rfl) rfl rfl ?_
      refine xj_ifb_eq (tgt := 33) hk dX8_soldAt_20 (by decide) (fun c20 => ?_) (fun c20 => ?_)
      · refine xj_iconst (x := (-1)) hk dX8_soldAt_33 (by decide) ?_
        refine xj_ireturn hk hz dX8_soldAt_34 ?_
        refine ⟨?_, ⟨⟨M, hM, rfl, rfl, rfl, rfl, rfl, rfl, rfl⟩, fun _ _ => rfl⟩⟩
        · simp [q_soldAt, show isR x = false from c20]
      · refine xj_aload_n (i := 0) hk dX8_soldAt_23 rfl rfl ?_
        refine xj_iload_n (i := 1) hk dX8_soldAt_24 rfl rfl ?_
        refine xj_iconst (x := 1) hk dX8_soldAt_25 (by decide) ?_
        refine xj_iload_n (i := 2) hk dX8_soldAt_26 rfl rfl ?_
        refine xj_callVE hk hz (fr1 := 4) (lo1 := 89) (As := [.int (nI j), .int 1, .int x]) (st := []) ml_X8_216 (c_soldByR (n := n) (j := j) (M := M) (show G 21 = pM v (md_th M) (nR te ho ow hs ra lo (nI n) st av so ln) (md_pt M) (md_re M) (md_sd M) (md_be M) (md_pb M) (md_ac M) (md_od M) (md_ad M) (md_wy M) (md_so M) (md_rl M) (md_io M) (md_po M) (md_sp M) (md_rs M) (md_st M) (md_av M) (md_ip M) (md_tx M) (md_tm M) (md_ta M) (md_td M) (md_wo M) (md_sq M) (md_tk M) (md_bg M) (md_nu M) (md_wr M) from hM) hn30 hj_j x (MV_ra hq c20)) (xw_at hM rfl) rfl dX8_soldAt_27 ⟨Nat.le_of_ble_eq_true rfl, Nat.le_of_ble_eq_true rfl⟩ rfl (Nat.le_of_ble_eq_true rfl) rfl ?_
        rintro _ G_M1 ⟨rfl, ⟨M1, hM1, hkM1⟩, hfM1⟩
        have hM1 : G_M1 21 = pM v (md_th M1) (nR te ho ow hs ra lo (nI n) st av so ln) (md_pt M1) (md_re M1) (md_sd M1) (md_be M1) (md_pb M1) (md_ac M1) (md_od M1) (md_ad M1) (md_wy M1) (md_so M1) (md_rl M1) (md_io M1) (md_po M1) (md_sp M1) (md_rs M1) (md_st M1) (md_av M1) (md_ip M1) (md_tx M1) (md_tm M1) (md_ta M1) (md_td M1) (md_wo M1) (md_sq M1) (md_tk M1) (md_bg M1) (md_nu M1) (md_wr M1) := hM1
        have hkM1 : mK M M1 := hkM1
        have hfM1 : ∀ g, g ≠ 21 → G_M1 g = G g := fun g h => (hfM1 g h)
        show xj v κ _ z G_M1 30 _ [.int (sl_so (kM te ho ow hs (xu ra j x) lo n) j)]
        refine xj_goto (tgt := 34) hk dX8_soldAt_30 (by decide) ?_
        refine xj_ireturn hk hz dX8_soldAt_34 ?_
        refine ⟨?_, ⟨⟨M1, hM1, hkM1⟩, hfM1⟩⟩
        · simp only [q_soldAt]
          rw [show hasB (bk_bi (mB te ho ow hs ra lo n)) (nI j) = true from hb_t hn30 hj_j, xn_nI (show j < 2 ^ 31 by omega), show decide (bk_ra (mB te ho ow hs ra lo n) j = -1) = false from c13, show isR x = true from c20]
          rfl

set_option maxHeartbeats 1000000 in
set_option maxRecDepth 10000 in
theorem l_X8_yieldFor {v : xw_V} {κ : xk_K} {post : Option Value → xw_G → Prop} {z : Nat × Nat × Nat} {G : xw_G} {M : md_T} {te ho ow hs ra lo st av so : Nat → Int32} {ln : Int32} {n : Nat} {j : Nat} (hk : xk_Ok v κ yX8_yieldFor cX8_yieldFor 4 (some .int) 5 114) (hz : xk_zf κ = z)  (hq : MV te ow hs ra lo n) (hn30 : n ≤ 30) (y : Int32) (hj_j : j < n) (kx : ∀ (G1 : xw_G) (M1 : md_T), G1 21 = pM v (md_th M1) (nR te ho ow hs ra lo (nI n) st av so ln) (md_pt M1) (md_re M1) (md_sd M1) (md_be M1) (md_pb M1) (md_ac M1) (md_od M1) (md_ad M1) (md_wy M1) (md_so M1) (md_rl M1) (md_io M1) (md_po M1) (md_sp M1) (md_rs M1) (md_st M1) (md_av M1) (md_ip M1) (md_tx M1) (md_tm M1) (md_ta M1) (md_td M1) (md_wo M1) (md_sq M1) (md_tk M1) (md_bg M1) (md_nu M1) (md_wr M1) → mK M M1 → (∀ g, g ≠ 21 → G1 g = G g) → fnd (p_yield (mB te ho ow hs ra lo n) n j y) 1000 = 1000 → xj v κ post z G1 50 [some (.ref (xw_ad v 21 0)), some (.int (nI j)), some (.int y), some (.int (nI (1000 - 1000) - 1))] []) (kr : ∀ (i : Nat) (G1 : xw_G) (M1 : md_T), G1 21 = pM v (md_th M1) (nR te ho ow hs ra lo (nI n) st av so ln) (md_pt M1) (md_re M1) (md_sd M1) (md_be M1) (md_pb M1) (md_ac M1) (md_od M1) (md_ad M1) (md_wy M1) (md_so M1) (md_rl M1) (md_io M1) (md_po M1) (md_sp M1) (md_rs M1) (md_st M1) (md_av M1) (md_ip M1) (md_tx M1) (md_tm M1) (md_ta M1) (md_td M1) (md_wo M1) (md_sq M1) (md_tk M1) (md_bg M1) (md_nu M1) (md_wr M1) → mK M M1 → (∀ g, g ≠ 21 → G1 g = G g) → i < 1000 → fnd (p_yield (mB te ho ow hs ra lo n) n j y) 1000 = i → xj v κ post z G1 42 [some (.ref (xw_ad v 21 0)), some (.int (nI j)), some (.int y), some (.int (nI (999 - i)))] []) : ∀ (m : Nat) (i : Nat) (G1 : xw_G) (M1 : md_T), 1000 - i < m → i ≤ 1000 → fnd (p_yield (mB te ho ow hs ra lo n) n j y) i = i → G1 21 = pM v (md_th M1) (nR te ho ow hs ra lo (nI n) st av so ln) (md_pt M1) (md_re M1) (md_sd M1) (md_be M1) (md_pb M1) (md_ac M1) (md_od M1) (md_ad M1) (md_wy M1) (md_so M1) (md_rl M1) (md_io M1) (md_po M1) (md_sp M1) (md_rs M1) (md_st M1) (md_av M1) (md_ip M1) (md_tx M1) (md_tm M1) (md_ta M1) (md_td M1) (md_wo M1) (md_sq M1) (md_tk M1) (md_bg M1) (md_nu M1) (md_wr M1) → mK M M1 → (∀ g, g ≠ 21 → G1 g = G g) → xj v κ post z G1 27 [some (.ref (xw_ad v 21 0)), some (.int (nI j)), some (.int y), some (.int (nI (1000 - i) - 1))] [] := by
  intro m
  induction m with
  | zero => intro i G1 M1 h; exact absurd h (Nat.not_lt_zero _)
  | succ m ih =>
    intro i G1 M1 hm hi hf hM1 hkM1 hfM1
    refine xj_iload_n (i := 3) hk dX8_yieldFor_27 rfl rfl ?_
    refine xj_if_lt (tgt := 50) hk dX8_yieldFor_28 (by decide) (fun c28 => ?_) (fun c28 => ?_)
    · have c28 : 1000 - i = 0 := (nI_neg (i := 1000 - i) (by omega)).mp c28
      have e9 : i = 1000 := by omega
      subst e9
      exact kx G1 M1 hM1 hkM1 hfM1 hf
    · have c28 : ¬ 1000 - i = 0 := fun q => c28 ((nI_neg (i := 1000 - i) (by omega)).mpr q)
      refine xj.to (ls' := [some (.ref (xw_ad v 21 0)), some (.int (nI j)), some (.int y), some (.int (nI (999 - i)))]) (by rw [nI_m1 (i := 1000 - i) (by omega), show 1000 - i - 1 = 999 - i by omega]) ?_
      refine xj_aload_n (i := 0) hk dX8_yieldFor_31 rfl rfl ?_
      refine xj_iload_n (i := 1) hk dX8_yieldFor_32 rfl rfl ?_
      refine xj_iconst (x := 1) hk dX8_yieldFor_33 (by decide) ?_
      refine xj_iload_n (i := 3) hk dX8_yieldFor_34 rfl rfl ?_
      refine xj_callVE hk hz (fr1 := 4) (lo1 := 89) (As := [.int (nI j), .int 1, .int (nI (999 - i))]) (st := []) ml_X8_216 (c_soldByR (n := n) (j := j) (M := M1) (show G1 21 = pM v (md_th M1) (nR te ho ow hs ra lo (nI n) st av so ln) (md_pt M1) (md_re M1) (md_sd M1) (md_be M1) (md_pb M1) (md_ac M1) (md_od M1) (md_ad M1) (md_wy M1) (md_so M1) (md_rl M1) (md_io M1) (md_po M1) (md_sp M1) (md_rs M1) (md_st M1) (md_av M1) (md_ip M1) (md_tx M1) (md_tm M1) (md_ta M1) (md_td M1) (md_wo M1) (md_sq M1) (md_tk M1) (md_bg M1) (md_nu M1) (md_wr M1) from hM1) hn30 hj_j (nI (999 - i)) (MV_ra hq (mIn_r (a := 0) (b := 999) (j := 999 - i) (by omega) (by omega) (by decide)))) (xw_at hM1 rfl) rfl dX8_yieldFor_35 ⟨Nat.le_of_ble_eq_true rfl, Nat.le_of_ble_eq_true rfl⟩ rfl (Nat.le_of_ble_eq_true rfl) rfl ?_
      rintro _ G_M2 ⟨rfl, ⟨M2, hM2, hkM2⟩, hfM2⟩
      have hM2 : G_M2 21 = pM v (md_th M2) (nR te ho ow hs ra lo (nI n) st av so ln) (md_pt M2) (md_re M2) (md_sd M2) (md_be M2) (md_pb M2) (md_ac M2) (md_od M2) (md_ad M2) (md_wy M2) (md_so M2) (md_rl M2) (md_io M2) (md_po M2) (md_sp M2) (md_rs M2) (md_st M2) (md_av M2) (md_ip M2) (md_tx M2) (md_tm M2) (md_ta M2) (md_td M2) (md_wo M2) (md_sq M2) (md_tk M2) (md_bg M2) (md_nu M2) (md_wr M2) := hM2
      have hkM2 : mK M M2 := mK_t hkM1 hkM2
      have hfM2 : ∀ g, g ≠ 21 → G_M2 g = G g := fun g h => (hfM2 g h).trans (hfM1 g h)
      show xj v κ _ z G_M2 38 _ [.int (sl_so (kM te ho ow hs (xu ra j (nI (999 - i))) lo n) j)]
      refine xj_iload_n (i := 2) hk dX8_yieldFor_38 rfl rfl ?_
      refine xj_icmp_lt (tgt := 44) hk dX8_yieldFor_39 (by decide) (fun c39 => ?_) (fun c39 => ?_)
      · refine xj_iinc (i := 3) (x2 := nI (1000 - (i + 1)) - 1) (ls2 := [some (.ref (xw_ad v 21 0)), some (.int (nI j)), some (.int y), some (.int (nI (1000 - (i + 1)) - 1))]) hk dX8_yieldFor_44 rfl (by rw [nI_decI, show 1000 - (i + 1) = 999 - i by omega]) (by decide) rfl rfl ?_
        refine xj_goto (tgt := 27) hk dX8_yieldFor_47 (by decide) ?_
        refine xj.to (ls' := [some (.ref (xw_ad v 21 0)), some (.int (nI j)), some (.int y), some (.int (nI (1000 - ((i + 1))) - 1))]) (by first | rfl | simp) (ih (i + 1) G_M2 M2 (by omega) (by omega) (fnd_no hf (show (p_yield (mB te ho ow hs ra lo n) n j y) i = false from by show (!(decide (sl_so (kM te ho ow hs (xu ra j (nI (999 - i))) lo n) j < y))) = false; rw [decide_eq_true c39]; rfl)) hM2 hkM2 hfM2)
      · exact kr i G_M2 M2 hM2 hkM2 hfM2 (by omega) (fnd_at hf (show (p_yield (mB te ho ow hs ra lo n) n j y) i = true from by show (!(decide (sl_so (kM te ho ow hs (xu ra j (nI (999 - i))) lo n) j < y))) = true; rw [decide_eq_false c39]; rfl) _ (by omega))

set_option maxHeartbeats 1000000 in
set_option maxRecDepth 10000 in
theorem c_X8_yieldFor {v : xw_V} {G : xw_G} {M : md_T} {te ho ow hs ra lo st av so : Nat → Int32} {ln : Int32} {n : Nat} (hM : G 21 = pM v (md_th M) (nR te ho ow hs ra lo (nI n) st av so ln) (md_pt M) (md_re M) (md_sd M) (md_be M) (md_pb M) (md_ac M) (md_od M) (md_ad M) (md_wy M) (md_so M) (md_rl M) (md_io M) (md_po M) (md_sp M) (md_rs M) (md_st M) (md_av M) (md_ip M) (md_tx M) (md_tm M) (md_ta M) (md_td M) (md_wo M) (md_sq M) (md_tk M) (md_bg M) (md_nu M) (md_wr M)) (hq : MV te ow hs ra lo n) (b : Int32) (y : Int32) : xk_Con v yX8_yieldFor cX8_yieldFor 4 (some .int) 5 114 [.ref (xw_ad v 21 0), .int b, .int y] G (fun r9 G' => r9 = some (.int (q_yield (mB te ho ow hs ra lo n) n b y)) ∧ mQ v G G' (nR te ho ow hs ra lo (nI n) st av so ln) M) := by
  refine xk_of (ls0 := [some (.ref (xw_ad v 21 0)), some (.int b), some (.int y), none]) (by decide) rfl (Nat.le_of_ble_eq_true rfl) ?_
  intro κ z hk hz
  have hn30 : n ≤ 30 := hq.1
  refine xj_aload_n (i := 0) hk dX8_yieldFor_0 rfl rfl ?_
  refine xj_iload_n (i := 1) hk dX8_yieldFor_1 rfl rfl ?_
  refine xj_callV hk hz (fr1 := 1) (lo1 := 22) (r1 := some (.int (xb (mIn b 0 ((nI n) - 1))))) (As := [.int b]) (st := []) (st2 := [.int (xb (mIn b 0 ((nI n) - 1)))]) (G1 := G) ml_X8_108 (c_X8_isBid (M := M) (show G 21 = pM v (md_th M) (nR te ho ow hs ra lo (nI n) st av so ln) (md_pt M) (md_re M) (md_sd M) (md_be M) (md_pb M) (md_ac M) (md_od M) (md_ad M) (md_wy M) (md_so M) (md_rl M) (md_io M) (md_po M) (md_sp M) (md_rs M) (md_st M) (md_av M) (md_ip M) (md_tx M) (md_tm M) (md_ta M) (md_td M) (md_wo M) (md_sq M) (md_tk M) (md_bg M) (md_nu M) (md_wr M) from hM) b) (xw_at hM rfl) rfl dX8_yieldFor_2 ⟨Nat.le_of_ble_eq_true rfl, Nat.le_of_ble_eq_true rfl⟩ rfl (Nat.le_of_ble_eq_true rfl) rfl rfl ?_
  refine xj_ifb_eq (tgt := 21) hk dX8_yieldFor_5 (by decide) (fun c5 => ?_) (fun c5 => ?_)
  · refine xj_iconst (x := (-1)) hk dX8_yieldFor_21 (by decide) ?_
    refine xj_ireturn hk hz dX8_yieldFor_22 ?_
    refine ⟨?_, ⟨⟨M, hM, rfl, rfl, rfl, rfl, rfl, rfl, rfl⟩, fun _ _ => rfl⟩⟩
    · simp only [q_yield]; rw [if_neg (fun q => by rw [show hasB (bk_bi (mB te ho ow hs ra lo n)) b = false from hb_f hn30 c5] at q; cases q.1)]
  · obtain ⟨j, hj_j, rfl⟩ := hasB_of (n := n) rfl hn30 (by rw [← mIn_bid hn30]; exact c5)
    refine xj_aload_n (i := 0) hk dX8_yieldFor_8 rfl rfl ?_
    refine xj_iload_n (i := 1) hk dX8_yieldFor_9 rfl rfl ?_
    refine xj_callV hk hz (fr1 := 1) (lo1 := 21) (r1 := some (.int (xb (decide (ra j = -1))))) (As := [.int (nI j)]) (st := []) (st2 := [.int (xb (decide (ra j = -1)))]) (G1 := G) ml_X8_115 (c_X8_isPlain (b := j) (M := M) (show G 21 = pM v (md_th M) (nR te ho ow hs ra lo (nI n) st av so ln) (md_pt M) (md_re M) (md_sd M) (md_be M) (md_pb M) (md_ac M) (md_od M) (md_ad M) (md_wy M) (md_so M) (md_rl M) (md_io M) (md_po M) (md_sp M) (md_rs M) (md_st M) (md_av M) (md_ip M) (md_tx M) (md_tm M) (md_ta M) (md_td M) (md_wo M) (md_sq M) (md_tk M) (md_bg M) (md_nu M) (md_wr M) from hM) (by omega)) (xw_at hM rfl) rfl dX8_yieldFor_10 ⟨Nat.le_of_ble_eq_true rfl, Nat.le_of_ble_eq_true rfl⟩ rfl (Nat.le_of_ble_eq_true rfl) rfl rfl ?_
    refine xj_ifb_ne (tgt := 21) hk dX8_yieldFor_13 (by decide) (fun c13 => ?_) (fun c13 => ?_)
    · refine xj_iconst (x := (-1)) hk dX8_yieldFor_21 (by decide) ?_
      refine xj_ireturn hk hz dX8_yieldFor_22 ?_
      refine ⟨?_, ⟨⟨M, hM, rfl, rfl, rfl, rfl, rfl, rfl, rfl⟩, fun _ _ => rfl⟩⟩
      · simp only [q_yield]; rw [if_neg (fun q => q.2.1 (by rw [xn_nI (show j < 2 ^ 31 by omega)]; exact of_decide_eq_true c13))]
    · refine xj_iload_n (i := 2) hk dX8_yieldFor_16 rfl rfl ?_
      refine xj_iconst (x := 1) hk dX8_yieldFor_17 (by decide) ?_
      refine xj_icmp_ge (tgt := 23) hk dX8_yieldFor_18 (by decide) (fun c18 => ?_) (fun c18 => ?_)
      · refine xj_sipush (x := 999) hk dX8_yieldFor_23 (by decide) ?_
        refine xj_istore_n (i := 3) (ls2 := [some (.ref (xw_ad v 21 0)), some (.int (nI j)), some (.int y), some (.int 999)]) hk dX8_yieldFor_26 rfl (by decide) rfl rfl ?_
        refine xj.to (ls' := [some (.ref (xw_ad v 21 0)), some (.int (nI j)), some (.int y), some (.int (nI (1000 - 0) - 1))]) rfl ?_
        refine l_X8_yieldFor hk hz hq hn30 y hj_j (fun G1 M1 hM1 hkM1 hfM1 hx => ?_) (fun i G1 M1 hM1 hkM1 hfM1 hi hx => ?_) (1000 + 1) 0 G M (by omega) (by omega) rfl hM (mK_r M) (fun _ _ => rfl)
        · refine xj_bipush (x := (-2)) hk dX8_yieldFor_50 (by decide) ?_
          refine xj_ireturn hk hz dX8_yieldFor_52 ?_
          refine ⟨?_, ⟨⟨M1, hM1, hkM1⟩, hfM1⟩⟩
          · simp only [q_yield]; rw [if_pos (show hasB (bk_bi (mB te ho ow hs ra lo n)) (nI j) = true ∧ ¬ bk_ra (mB te ho ow hs ra lo n) (xn (nI j)) = -1 ∧ 1 ≤ y from ⟨hb_t hn30 hj_j, by rw [xn_nI (show j < 2 ^ 31 by omega)]; exact of_decide_eq_false c13, c18⟩), xn_nI (show j < 2 ^ 31 by omega), if_neg (by rw [hx]; exact Nat.lt_irrefl _)]
        · refine xj_iload_n (i := 3) hk dX8_yieldFor_42 rfl rfl ?_
          refine xj_ireturn hk hz dX8_yieldFor_43 ?_
          refine ⟨?_, ⟨⟨M1, hM1, hkM1⟩, hfM1⟩⟩
          · simp only [q_yield]; rw [if_pos (show hasB (bk_bi (mB te ho ow hs ra lo n)) (nI j) = true ∧ ¬ bk_ra (mB te ho ow hs ra lo n) (xn (nI j)) = -1 ∧ 1 ≤ y from ⟨hb_t hn30 hj_j, by rw [xn_nI (show j < 2 ^ 31 by omega)]; exact of_decide_eq_false c13, c18⟩), xn_nI (show j < 2 ^ 31 by omega), if_pos (by rw [hx]; exact hi), hx]
      · refine xj_iconst (x := (-1)) hk dX8_yieldFor_21 (by decide) ?_
        refine xj_ireturn hk hz dX8_yieldFor_22 ?_
        refine ⟨?_, ⟨⟨M, hM, rfl, rfl, rfl, rfl, rfl, rfl, rfl⟩, fun _ _ => rfl⟩⟩
        · simp only [q_yield]; rw [if_neg (fun q => c18 q.2.2)]

noncomputable def p_lotm (B : bk_T) (n j : Nat) (y : Int32) (i : Nat) : Bool := !(decide (sl_so (kR (bk_wlo B (xu (bk_lo B) j (nI (i + 1)))) n) j < y))
theorem fnd_sh {p q : Nat → Bool} {m : Nat} (h1 : ∀ i, i < m → p i = false) (h2 : ∀ i, p (m + i) = q i) : ∀ N, fnd p (m + N) = m + fnd q N := by
  have h0 : ∀ i, i ≤ m → fnd p i = i := by
    intro i
    induction i with
    | zero => intro _; rfl
    | succ i ih => intro h; exact fnd_no (ih (by omega)) (h1 i (by omega))
  intro N
  induction N with
  | zero => exact h0 m (Nat.le_refl m)
  | succ N ih =>
    rw [show m + (N + 1) = (m + N) + 1 by omega]
    simp only [fnd]
    rw [ih, h2 N]
    by_cases c : fnd q N < N
    · rw [if_pos (by omega), if_pos c]
    · rw [if_neg (by omega), if_neg c]
      split
      · rfl
      · omega
theorem fnd_all {p : Nat → Bool} : ∀ {N : Nat}, (∀ i, i < N → p i = false) → fnd p N = N
  | 0, _ => rfl
  | N + 1, h => fnd_no (fnd_all (fun i hi => h i (by omega))) (h N (by omega))
/-- the reference asks from one lot on, the class from as many as are wanted -/
theorem lots_eq {te ho ow hs ra lo : Nat → Int32} {n j m : Nat} (hq : MV te ow hs ra lo n) (hj : j < n) (h1 : 1 ≤ m) (hm : m < 2 ^ 31) : (if fnd (p_lotm (mB te ho ow hs ra lo n) n j (nI m)) 1000 < 1000 then nI (fnd (p_lotm (mB te ho ow hs ra lo n) n j (nI m)) 1000 + 1) else -2) = (if fnd (p_lots (mB te ho ow hs ra lo n) n j m) (1001 - m) < 1001 - m then nI (m + fnd (p_lots (mB te ho ow hs ra lo n) n j m) (1001 - m)) else (-2 : Int32)) := by
  have lo1 : ∀ i, i < 1000 → i + 1 < m → p_lotm (mB te ho ow hs ra lo n) n j (nI m) i = false := by
    intro i hi him
    have hq2 := MV_lo (j := j) hq (mIn_r (a := 1) (b := 1000) (j := i + 1) (by omega) (by omega) (by decide))
    obtain ⟨c, a, e1, e2, e3, e4, e5⟩ := kF_ad (kMF (ho := ho) hq2) j hj
    have e5 : nI a ≤ xu lo j (nI (i + 1)) j := e5
    rw [xu_s] at e5
    have e5 := (nI_leI (a := a) (b := i + 1) (by omega) (by omega)).mp e5
    show (!(decide (sl_so (kM te ho ow hs ra (xu lo j (nI (i + 1))) n) j < nI m))) = false
    rw [e1, decide_eq_true ((nI_ltI (a := c) (b := m) (by omega) hm).mpr (by omega))]; rfl
  rcases Nat.lt_or_ge 1000 m with c | c
  · rw [show fnd (p_lotm (mB te ho ow hs ra lo n) n j (nI m)) 1000 = 1000 from fnd_all (fun i hi => lo1 i hi (by omega)), if_neg (Nat.lt_irrefl _), if_neg (by omega)]
  · have e := fnd_sh (p := p_lotm (mB te ho ow hs ra lo n) n j (nI m)) (q := p_lots (mB te ho ow hs ra lo n) n j m) (m := m - 1) (fun i hi => lo1 i (by omega) (by omega)) (fun i => by
      simp only [p_lotm, p_lots]
      rw [show m - 1 + i + 1 = m + i by omega]) (1001 - m)
    rw [show m - 1 + (1001 - m) = 1000 by omega] at e
    rw [e]
    by_cases d : fnd (p_lots (mB te ho ow hs ra lo n) n j m) (1001 - m) < 1001 - m
    · rw [if_pos (by omega), if_pos d, show m - 1 + fnd (p_lots (mB te ho ow hs ra lo n) n j m) (1001 - m) + 1 = m + fnd (p_lots (mB te ho ow hs ra lo n) n j m) (1001 - m) by omega]
    · rw [if_neg (by omega), if_neg d]
set_option maxHeartbeats 1000000 in
set_option maxRecDepth 10000 in
theorem l_X8_lotsFor {v : xw_V} {κ : xk_K} {post : Option Value → xw_G → Prop} {z : Nat × Nat × Nat} {G : xw_G} {M : md_T} {te ho ow hs ra lo st av so : Nat → Int32} {ln : Int32} {n : Nat} {j : Nat} (hk : xk_Ok v κ yX8_lotsFor cX8_lotsFor 4 (some .int) 5 114) (hz : xk_zf κ = z)  (hq : MV te ow hs ra lo n) (hn30 : n ≤ 30) (y : Int32) (hj_j : j < n) (kx : ∀ (G1 : xw_G) (M1 : md_T), G1 21 = pM v (md_th M1) (nR te ho ow hs ra lo (nI n) st av so ln) (md_pt M1) (md_re M1) (md_sd M1) (md_be M1) (md_pb M1) (md_ac M1) (md_od M1) (md_ad M1) (md_wy M1) (md_so M1) (md_rl M1) (md_io M1) (md_po M1) (md_sp M1) (md_rs M1) (md_st M1) (md_av M1) (md_ip M1) (md_tx M1) (md_tm M1) (md_ta M1) (md_td M1) (md_wo M1) (md_sq M1) (md_tk M1) (md_bg M1) (md_nu M1) (md_wr M1) → mK M M1 → (∀ g, g ≠ 21 → G1 g = G g) → fnd (p_lotm (mB te ho ow hs ra lo n) n j y) 1000 = 1000 → xj v κ post z G1 43 [some (.ref (xw_ad v 21 0)), some (.int (nI j)), some (.int y), some (.int (nI (1000 + 1)))] []) (kr : ∀ (i : Nat) (G1 : xw_G) (M1 : md_T), G1 21 = pM v (md_th M1) (nR te ho ow hs ra lo (nI n) st av so ln) (md_pt M1) (md_re M1) (md_sd M1) (md_be M1) (md_pb M1) (md_ac M1) (md_od M1) (md_ad M1) (md_wy M1) (md_so M1) (md_rl M1) (md_io M1) (md_po M1) (md_sp M1) (md_rs M1) (md_st M1) (md_av M1) (md_ip M1) (md_tx M1) (md_tm M1) (md_ta M1) (md_td M1) (md_wo M1) (md_sq M1) (md_tk M1) (md_bg M1) (md_nu M1) (md_wr M1) → mK M M1 → (∀ g, g ≠ 21 → G1 g = G g) → i < 1000 → fnd (p_lotm (mB te ho ow hs ra lo n) n j y) 1000 = i → xj v κ post z G1 35 [some (.ref (xw_ad v 21 0)), some (.int (nI j)), some (.int y), some (.int (nI (i + 1)))] []) : ∀ (m : Nat) (i : Nat) (G1 : xw_G) (M1 : md_T), 1000 - i < m → i ≤ 1000 → fnd (p_lotm (mB te ho ow hs ra lo n) n j y) i = i → G1 21 = pM v (md_th M1) (nR te ho ow hs ra lo (nI n) st av so ln) (md_pt M1) (md_re M1) (md_sd M1) (md_be M1) (md_pb M1) (md_ac M1) (md_od M1) (md_ad M1) (md_wy M1) (md_so M1) (md_rl M1) (md_io M1) (md_po M1) (md_sp M1) (md_rs M1) (md_st M1) (md_av M1) (md_ip M1) (md_tx M1) (md_tm M1) (md_ta M1) (md_td M1) (md_wo M1) (md_sq M1) (md_tk M1) (md_bg M1) (md_nu M1) (md_wr M1) → mK M M1 → (∀ g, g ≠ 21 → G1 g = G g) → xj v κ post z G1 17 [some (.ref (xw_ad v 21 0)), some (.int (nI j)), some (.int y), some (.int (nI (i + 1)))] [] := by
  intro m
  induction m with
  | zero => intro i G1 M1 h; exact absurd h (Nat.not_lt_zero _)
  | succ m ih =>
    intro i G1 M1 hm hi hf hM1 hkM1 hfM1
    refine xj_iload_n (i := 3) hk dX8_lotsFor_17 rfl rfl ?_
    refine xj_sipush (x := 1000) hk dX8_lotsFor_18 (by decide) ?_
    refine xj_icmp_gt (tgt := 43) hk dX8_lotsFor_21 (by decide) (fun c21 => ?_) (fun c21 => ?_)
    · have c21 : 1000 < i + 1 := (nI_ltI (a := 1000) (b := i + 1) (by omega) (by omega)).mp c21
      have e9 : i = 1000 := by omega
      subst e9
      exact kx G1 M1 hM1 hkM1 hfM1 hf
    · have c21 : ¬ 1000 < i + 1 := fun q => c21 ((nI_ltI (a := 1000) (b := i + 1) (by omega) (by omega)).mpr q)
      refine xj_aload_n (i := 0) hk dX8_lotsFor_24 rfl rfl ?_
      refine xj_iload_n (i := 1) hk dX8_lotsFor_25 rfl rfl ?_
      refine xj_iconst (x := 2) hk dX8_lotsFor_26 (by decide) ?_
      refine xj_iload_n (i := 3) hk dX8_lotsFor_27 rfl rfl ?_
      refine xj_callVE hk hz (fr1 := 4) (lo1 := 89) (As := [.int (nI j), .int 2, .int (nI (i + 1))]) (st := []) ml_X8_216 (c_soldByL (n := n) (j := j) (M := M1) (show G1 21 = pM v (md_th M1) (nR te ho ow hs ra lo (nI n) st av so ln) (md_pt M1) (md_re M1) (md_sd M1) (md_be M1) (md_pb M1) (md_ac M1) (md_od M1) (md_ad M1) (md_wy M1) (md_so M1) (md_rl M1) (md_io M1) (md_po M1) (md_sp M1) (md_rs M1) (md_st M1) (md_av M1) (md_ip M1) (md_tx M1) (md_tm M1) (md_ta M1) (md_td M1) (md_wo M1) (md_sq M1) (md_tk M1) (md_bg M1) (md_nu M1) (md_wr M1) from hM1) hn30 hj_j (nI (i + 1)) (MV_lo hq (mIn_r (a := 1) (b := 1000) (j := i + 1) (by omega) (by omega) (by decide)))) (xw_at hM1 rfl) rfl dX8_lotsFor_28 ⟨Nat.le_of_ble_eq_true rfl, Nat.le_of_ble_eq_true rfl⟩ rfl (Nat.le_of_ble_eq_true rfl) rfl ?_
      rintro _ G_M2 ⟨rfl, ⟨M2, hM2, hkM2⟩, hfM2⟩
      have hM2 : G_M2 21 = pM v (md_th M2) (nR te ho ow hs ra lo (nI n) st av so ln) (md_pt M2) (md_re M2) (md_sd M2) (md_be M2) (md_pb M2) (md_ac M2) (md_od M2) (md_ad M2) (md_wy M2) (md_so M2) (md_rl M2) (md_io M2) (md_po M2) (md_sp M2) (md_rs M2) (md_st M2) (md_av M2) (md_ip M2) (md_tx M2) (md_tm M2) (md_ta M2) (md_td M2) (md_wo M2) (md_sq M2) (md_tk M2) (md_bg M2) (md_nu M2) (md_wr M2) := hM2
      have hkM2 : mK M M2 := mK_t hkM1 hkM2
      have hfM2 : ∀ g, g ≠ 21 → G_M2 g = G g := fun g h => (hfM2 g h).trans (hfM1 g h)
      show xj v κ _ z G_M2 31 _ [.int (sl_so (kM te ho ow hs ra (xu lo j (nI (i + 1))) n) j)]
      refine xj_iload_n (i := 2) hk dX8_lotsFor_31 rfl rfl ?_
      refine xj_icmp_lt (tgt := 37) hk dX8_lotsFor_32 (by decide) (fun c32 => ?_) (fun c32 => ?_)
      · refine xj_iinc (i := 3) (x2 := nI (i + 1 + 1)) (ls2 := [some (.ref (xw_ad v 21 0)), some (.int (nI j)), some (.int y), some (.int (nI (i + 1 + 1)))]) hk dX8_lotsFor_37 rfl (nI_1 (i + 1)) (by decide) rfl rfl ?_
        refine xj_goto (tgt := 17) hk dX8_lotsFor_40 (by decide) ?_
        refine xj.to (ls' := [some (.ref (xw_ad v 21 0)), some (.int (nI j)), some (.int y), some (.int (nI ((i + 1) + 1)))]) (by first | rfl | simp) (ih (i + 1) G_M2 M2 (by omega) (by omega) (fnd_no hf (show (p_lotm (mB te ho ow hs ra lo n) n j y) i = false from by show (!(decide (sl_so (kM te ho ow hs ra (xu lo j (nI (i + 1))) n) j < y))) = false; rw [decide_eq_true c32]; rfl)) hM2 hkM2 hfM2)
      · exact kr i G_M2 M2 hM2 hkM2 hfM2 (by omega) (fnd_at hf (show (p_lotm (mB te ho ow hs ra lo n) n j y) i = true from by show (!(decide (sl_so (kM te ho ow hs ra (xu lo j (nI (i + 1))) n) j < y))) = true; rw [decide_eq_false c32]; rfl) _ (by omega))

set_option maxHeartbeats 1000000 in
set_option maxRecDepth 10000 in
theorem c_X8_lotsFor {v : xw_V} {G : xw_G} {M : md_T} {te ho ow hs ra lo st av so : Nat → Int32} {ln : Int32} {n : Nat} (hM : G 21 = pM v (md_th M) (nR te ho ow hs ra lo (nI n) st av so ln) (md_pt M) (md_re M) (md_sd M) (md_be M) (md_pb M) (md_ac M) (md_od M) (md_ad M) (md_wy M) (md_so M) (md_rl M) (md_io M) (md_po M) (md_sp M) (md_rs M) (md_st M) (md_av M) (md_ip M) (md_tx M) (md_tm M) (md_ta M) (md_td M) (md_wo M) (md_sq M) (md_tk M) (md_bg M) (md_nu M) (md_wr M)) (hq : MV te ow hs ra lo n) (b : Int32) (y : Int32) : xk_Con v yX8_lotsFor cX8_lotsFor 4 (some .int) 5 114 [.ref (xw_ad v 21 0), .int b, .int y] G (fun r9 G' => r9 = some (.int (q_lots (mB te ho ow hs ra lo n) n b y)) ∧ mQ v G G' (nR te ho ow hs ra lo (nI n) st av so ln) M) := by
  refine xk_of (ls0 := [some (.ref (xw_ad v 21 0)), some (.int b), some (.int y), none]) (by decide) rfl (Nat.le_of_ble_eq_true rfl) ?_
  intro κ z hk hz
  have hn30 : n ≤ 30 := hq.1
  refine xj_aload_n (i := 0) hk dX8_lotsFor_0 rfl rfl ?_
  refine xj_iload_n (i := 1) hk dX8_lotsFor_1 rfl rfl ?_
  refine xj_callV hk hz (fr1 := 1) (lo1 := 22) (r1 := some (.int (xb (mIn b 0 ((nI n) - 1))))) (As := [.int b]) (st := []) (st2 := [.int (xb (mIn b 0 ((nI n) - 1)))]) (G1 := G) ml_X8_108 (c_X8_isBid (M := M) (show G 21 = pM v (md_th M) (nR te ho ow hs ra lo (nI n) st av so ln) (md_pt M) (md_re M) (md_sd M) (md_be M) (md_pb M) (md_ac M) (md_od M) (md_ad M) (md_wy M) (md_so M) (md_rl M) (md_io M) (md_po M) (md_sp M) (md_rs M) (md_st M) (md_av M) (md_ip M) (md_tx M) (md_tm M) (md_ta M) (md_td M) (md_wo M) (md_sq M) (md_tk M) (md_bg M) (md_nu M) (md_wr M) from hM) b) (xw_at hM rfl) rfl dX8_lotsFor_2 ⟨Nat.le_of_ble_eq_true rfl, Nat.le_of_ble_eq_true rfl⟩ rfl (Nat.le_of_ble_eq_true rfl) rfl rfl ?_
  refine xj_ifb_eq (tgt := 13) hk dX8_lotsFor_5 (by decide) (fun c5 => ?_) (fun c5 => ?_)
  · refine xj_iconst (x := (-1)) hk dX8_lotsFor_13 (by decide) ?_
    refine xj_ireturn hk hz dX8_lotsFor_14 ?_
    refine ⟨?_, ⟨⟨M, hM, rfl, rfl, rfl, rfl, rfl, rfl, rfl⟩, fun _ _ => rfl⟩⟩
    · simp only [q_lots]; rw [if_neg (fun q => by rw [show hasB (bk_bi (mB te ho ow hs ra lo n)) b = false from hb_f hn30 c5] at q; cases q.1)]
  · obtain ⟨j, hj_j, rfl⟩ := hasB_of (n := n) rfl hn30 (by rw [← mIn_bid hn30]; exact c5)
    refine xj_iload_n (i := 2) hk dX8_lotsFor_8 rfl rfl ?_
    refine xj_iconst (x := 1) hk dX8_lotsFor_9 (by decide) ?_
    refine xj_icmp_ge (tgt := 15) hk dX8_lotsFor_10 (by decide) (fun c10 => ?_) (fun c10 => ?_)
    · refine xj_iconst (x := 1) hk dX8_lotsFor_15 (by decide) ?_
      refine xj_istore_n (i := 3) (ls2 := [some (.ref (xw_ad v 21 0)), some (.int (nI j)), some (.int y), some (.int 1)]) hk dX8_lotsFor_16 rfl (by decide) rfl rfl ?_
      refine xj.to (ls' := [some (.ref (xw_ad v 21 0)), some (.int (nI j)), some (.int y), some (.int (nI (0 + 1)))]) rfl ?_
      refine l_X8_lotsFor hk hz hq hn30 y hj_j (fun G1 M1 hM1 hkM1 hfM1 hx => ?_) (fun i G1 M1 hM1 hkM1 hfM1 hi hx => ?_) (1000 + 1) 0 G M (by omega) (by omega) rfl hM (mK_r M) (fun _ _ => rfl)
      · refine xj_bipush (x := (-2)) hk dX8_lotsFor_43 (by decide) ?_
        refine xj_ireturn hk hz dX8_lotsFor_45 ?_
        refine ⟨?_, ⟨⟨M1, hM1, hkM1⟩, hfM1⟩⟩
        · simp only [q_lots]
          rw [if_pos (show hasB (bk_bi (mB te ho ow hs ra lo n)) (nI j) = true ∧ 1 ≤ y from ⟨hb_t hn30 hj_j, c10⟩), xn_nI (show j < 2 ^ 31 by omega)]
          obtain ⟨m9, hm9, rfl⟩ := nI_of (Int32.not_lt.mpr (Int32.le_trans (show (0 : Int32) ≤ 1 by decide) c10))
          rw [xn_nI hm9, ← lots_eq hq hj_j ((nI_leI (a := 1) (b := m9) (by decide) hm9).mp c10) hm9]
          rw [if_neg (by rw [hx]; exact Nat.lt_irrefl _)]
      · refine xj_iload_n (i := 3) hk dX8_lotsFor_35 rfl rfl ?_
        refine xj_ireturn hk hz dX8_lotsFor_36 ?_
        refine ⟨?_, ⟨⟨M1, hM1, hkM1⟩, hfM1⟩⟩
        · simp only [q_lots]
          rw [if_pos (show hasB (bk_bi (mB te ho ow hs ra lo n)) (nI j) = true ∧ 1 ≤ y from ⟨hb_t hn30 hj_j, c10⟩), xn_nI (show j < 2 ^ 31 by omega)]
          obtain ⟨m9, hm9, rfl⟩ := nI_of (Int32.not_lt.mpr (Int32.le_trans (show (0 : Int32) ≤ 1 by decide) c10))
          rw [xn_nI hm9, ← lots_eq hq hj_j ((nI_leI (a := 1) (b := m9) (by decide) hm9).mp c10) hm9]
          rw [if_pos (by rw [hx]; exact hi), hx]
    · refine xj_iconst (x := (-1)) hk dX8_lotsFor_13 (by decide) ?_
      refine xj_ireturn hk hz dX8_lotsFor_14 ?_
      refine ⟨?_, ⟨⟨M, hM, rfl, rfl, rfl, rfl, rfl, rfl, rfl⟩, fun _ _ => rfl⟩⟩
      · simp only [q_lots]; rw [if_neg (fun q => c10 q.2)]


def mcBid (n : Nat) (h x q : Int32) : Bool := mIn h 0 7 && (decide (x = -1) || mIn x 0 999) && mIn q 1 1000 && !(decide (n = 30))
def mcMove (n : Nat) (b x : Int32) : Bool := mIn b 0 (nI n - 1) && mIn x 0 (nI n - 1) && !(decide (b = x))
def mcSplit (n : Nat) (lo : Nat → Int32) (b q : Int32) : Bool := mIn b 0 (nI n - 1) && !(decide (n = 30)) && mIn q 1 (lo (xn b) - 1)
set_option maxHeartbeats 1000000 in
set_option maxRecDepth 10000 in
theorem c_X8_bid {v : xw_V} {G : xw_G} {M : md_T} {te ho ow hs ra lo st av so : Nat → Int32} {ln : Int32} {n a : Nat} (hM : G 21 = pM v (md_th M) (nR te ho ow hs ra lo (nI n) st av so ln) (md_pt M) (md_re M) (md_sd M) (md_be M) (md_pb M) (md_ac M) (md_od M) (md_ad M) (md_wy M) (md_so M) (md_rl M) (md_io M) (md_po M) (md_sp M) (md_rs M) (md_st M) (md_av M) (md_ip M) (md_tx M) (md_tm M) (md_ta M) (md_td M) (md_wo M) (md_sq M) (md_tk M) (md_bg M) (md_nu M) (md_wr M)) (hn30 : n ≤ 30) (hac : md_ac M = nI a) (ha12 : a ≤ 12) (h : Int32) (x : Int32) (q : Int32) : xk_Con v yX8_bid cX8_bid 4 (some .int) 2 42 [.ref (xw_ad v 21 0), .int h, .int x, .int q] G (fun r9 G' => (mcBid n h x q = true ∧ ∃ (be1 : Nat → Int32) (pb1 : Nat → Int64), KP a (nR te ho ow hs ra lo (nI n) st av so ln) (md_be M) (md_pt M) (md_pb M) be1 pb1 ∧ r9 = some (.int (nI n)) ∧ G' = xw_up G 21 (pM v (md_th M) (nR te ho ow (xu hs n h) (xu ra n x) (xu lo n q) (nI (n + 1)) st av so ln) (md_pt M) (md_re M) (md_sd M) be1 pb1 (nI (min a 11 + 1)) (md_od M) (md_ad M) (md_wy M) (md_so M) (md_rl M) (md_io M) (md_po M) (md_sp M) (md_rs M) (md_st M) (md_av M) (md_ip M) (md_tx M) (md_tm M) (md_ta M) (md_td M) (md_wo M) (md_sq M) (md_tk M) (md_bg M) (md_nu M) (md_wr M))) ∨ (mcBid n h x q = false ∧ r9 = some (.int (-1)) ∧ G' = G)) := by
  refine xk_of (ls0 := [some (.ref (xw_ad v 21 0)), some (.int h), some (.int x), some (.int q)]) (by decide) rfl (Nat.le_of_ble_eq_true rfl) ?_
  intro κ z hk hz
  refine xj_iload_n (i := 1) hk dX8_bid_0 rfl rfl ?_
  refine xj_callS hk hz (fr1 := 1) (lo1 := 22) (r1 := some (.int (xb (mIn h 0 7)))) (As := [.int h]) (st := []) (st2 := [.int (xb (mIn h 0 7))]) (G1 := G) ml_X8_95 (c_X8_isHouse h) dX8_bid_1 ⟨Nat.le_of_ble_eq_true rfl, Nat.le_of_ble_eq_true rfl⟩ rfl (Nat.le_of_ble_eq_true rfl) rfl rfl ?_
  refine xj_ifb_eq (tgt := 35) hk dX8_bid_4 (by decide) (fun c4 => ?_) (fun c4 => ?_)
  · refine xj_iconst (x := (-1)) hk dX8_bid_35 (by decide) ?_
    refine xj_ireturn hk hz dX8_bid_36 ?_
    exact Or.inr ⟨by simp [mcBid, c4], rfl, rfl⟩
  · refine xj_iload_n (i := 2) hk dX8_bid_7 rfl rfl ?_
    refine xj_iconst (x := (-1)) hk dX8_bid_8 (by decide) ?_
    refine xj_icmp_eq (tgt := 19) hk dX8_bid_9 (by decide) (fun c9 => ?_) (fun c9 => ?_)
    · refine xj_iload_n (i := 3) hk dX8_bid_19 rfl rfl ?_
      refine xj_callS hk hz (fr1 := 1) (lo1 := 22) (r1 := some (.int (xb (mIn q 1 1000)))) (As := [.int q]) (st := []) (st2 := [.int (xb (mIn q 1 1000))]) (G1 := G) ml_X8_102 (c_X8_areLots q) dX8_bid_20 ⟨Nat.le_of_ble_eq_true rfl, Nat.le_of_ble_eq_true rfl⟩ rfl (Nat.le_of_ble_eq_true rfl) rfl rfl ?_
      refine xj_ifb_eq (tgt := 35) hk dX8_bid_23 (by decide) (fun c23 => ?_) (fun c23 => ?_)
      · refine xj_iconst (x := (-1)) hk dX8_bid_35 (by decide) ?_
        refine xj_ireturn hk hz dX8_bid_36 ?_
        exact Or.inr ⟨by simp [mcBid, c4, c9, c23], rfl, rfl⟩
      · refine xj_aload_n (i := 0) hk dX8_bid_26 rfl rfl ?_
        refine xj_callV hk hz (fr1 := 0) (lo1 := 0) (r1 := some (.int (nI n))) (As := []) (st := []) (st2 := [.int (nI n)]) (G1 := G) ml_X8_73 (c_X8_many (M := M) (show G 21 = pM v (md_th M) (nR te ho ow hs ra lo (nI n) st av so ln) (md_pt M) (md_re M) (md_sd M) (md_be M) (md_pb M) (md_ac M) (md_od M) (md_ad M) (md_wy M) (md_so M) (md_rl M) (md_io M) (md_po M) (md_sp M) (md_rs M) (md_st M) (md_av M) (md_ip M) (md_tx M) (md_tm M) (md_ta M) (md_td M) (md_wo M) (md_sq M) (md_tk M) (md_bg M) (md_nu M) (md_wr M) from hM)) (xw_at hM rfl) rfl dX8_bid_27 ⟨Nat.le_of_ble_eq_true rfl, Nat.le_of_ble_eq_true rfl⟩ rfl (Nat.le_of_ble_eq_true rfl) rfl rfl ?_
        refine xj_bipush (x := 30) hk dX8_bid_30 (by decide) ?_
        refine xj_icmp_ne (tgt := 37) hk dX8_bid_32 (by decide) (fun c32 => ?_) (fun c32 => ?_)
        · have c32 : ¬ n = 30 := fun q => c32 ((nI_eq (a := n) (b := 30) (by omega) (by omega)).mpr q)
          refine xj_aload_n (i := 0) hk dX8_bid_37 rfl rfl ?_
          refine xj_callVE hk hz (fr1 := 0) (lo1 := 0) (As := []) (st := []) ml_X8_105 (c_X8_keeps (a := a) (M := (md_th M, nR te ho ow hs ra lo (nI n) st av so ln, md_pt M, md_re M, md_sd M, md_be M, md_pb M, md_ac M, md_od M, md_ad M, md_wy M, md_so M, md_rl M, md_io M, md_po M, md_sp M, md_rs M, md_st M, md_av M, md_ip M, md_tx M, md_tm M, md_ta M, md_td M, md_wo M, md_sq M, md_tk M, md_bg M, md_nu M, md_wr M)) (show G 21 = pM v (md_th M) (nR te ho ow hs ra lo (nI n) st av so ln) (md_pt M) (md_re M) (md_sd M) (md_be M) (md_pb M) (md_ac M) (md_od M) (md_ad M) (md_wy M) (md_so M) (md_rl M) (md_io M) (md_po M) (md_sp M) (md_rs M) (md_st M) (md_av M) (md_ip M) (md_tx M) (md_tm M) (md_ta M) (md_td M) (md_wo M) (md_sq M) (md_tk M) (md_bg M) (md_nu M) (md_wr M) from hM) hac ha12) (xw_at hM rfl) rfl dX8_bid_38 ⟨Nat.le_of_ble_eq_true rfl, Nat.le_of_ble_eq_true rfl⟩ rfl (Nat.le_of_ble_eq_true rfl) rfl ?_
          rintro _ _ ⟨rfl, be1, pb1, hKP, rfl⟩
          have hKP : KP a (nR te ho ow hs ra lo (nI n) st av so ln) (md_be M) (md_pt M) (md_pb M) be1 pb1 := hKP
          show xj v κ _ z (xw_up G 21 (pM v (md_th M) (nR te ho ow hs ra lo (nI n) st av so ln) (md_pt M) (md_re M) (md_sd M) be1 pb1 (nI (min a 11 + 1)) (md_od M) (md_ad M) (md_wy M) (md_so M) (md_rl M) (md_io M) (md_po M) (md_sp M) (md_rs M) (md_st M) (md_av M) (md_ip M) (md_tx M) (md_tm M) (md_ta M) (md_td M) (md_wo M) (md_sq M) (md_tk M) (md_bg M) (md_nu M) (md_wr M))) 41 _ []
          refine xj_aload_n (i := 0) hk dX8_bid_41 rfl rfl ?_
          refine xj_aload_n (i := 0) hk dX8_bid_42 rfl rfl ?_
          refine xj_callV hk hz (fr1 := 0) (lo1 := 0) (r1 := some (.int (nI n))) (As := []) (st := [.ref (xw_ad v 21 0)]) (st2 := [.int (nI n), .ref (xw_ad v 21 0)]) (G1 := xw_up G 21 (pM v (md_th M) (nR te ho ow hs ra lo (nI n) st av so ln) (md_pt M) (md_re M) (md_sd M) be1 pb1 (nI (min a 11 + 1)) (md_od M) (md_ad M) (md_wy M) (md_so M) (md_rl M) (md_io M) (md_po M) (md_sp M) (md_rs M) (md_st M) (md_av M) (md_ip M) (md_tx M) (md_tm M) (md_ta M) (md_td M) (md_wo M) (md_sq M) (md_tk M) (md_bg M) (md_nu M) (md_wr M))) ml_X8_73 (c_X8_many (M := (md_th M, nR te ho ow hs ra lo (nI n) st av so ln, md_pt M, md_re M, md_sd M, be1, pb1, nI (min a 11 + 1), md_od M, md_ad M, md_wy M, md_so M, md_rl M, md_io M, md_po M, md_sp M, md_rs M, md_st M, md_av M, md_ip M, md_tx M, md_tm M, md_ta M, md_td M, md_wo M, md_sq M, md_tk M, md_bg M, md_nu M, md_wr M)) (show (xw_up G 21 (pM v (md_th M) (nR te ho ow hs ra lo (nI n) st av so ln) (md_pt M) (md_re M) (md_sd M) be1 pb1 (nI (min a 11 + 1)) (md_od M) (md_ad M) (md_wy M) (md_so M) (md_rl M) (md_io M) (md_po M) (md_sp M) (md_rs M) (md_st M) (md_av M) (md_ip M) (md_tx M) (md_tm M) (md_ta M) (md_td M) (md_wo M) (md_sq M) (md_tk M) (md_bg M) (md_nu M) (md_wr M))) 21 = pM v (md_th M) (nR te ho ow hs ra lo (nI n) st av so ln) (md_pt M) (md_re M) (md_sd M) be1 pb1 (nI (min a 11 + 1)) (md_od M) (md_ad M) (md_wy M) (md_so M) (md_rl M) (md_io M) (md_po M) (md_sp M) (md_rs M) (md_st M) (md_av M) (md_ip M) (md_tx M) (md_tm M) (md_ta M) (md_td M) (md_wo M) (md_sq M) (md_tk M) (md_bg M) (md_nu M) (md_wr M) from xw_up_s)) (xw_at xw_up_s rfl) rfl dX8_bid_43 ⟨Nat.le_of_ble_eq_true rfl, Nat.le_of_ble_eq_true rfl⟩ rfl (Nat.le_of_ble_eq_true rfl) rfl rfl ?_
          refine xj_iload_n (i := 1) hk dX8_bid_46 rfl rfl ?_
          refine xj_iload_n (i := 2) hk dX8_bid_47 rfl rfl ?_
          refine xj_iload_n (i := 3) hk dX8_bid_48 rfl rfl ?_
          refine xj_callV hk hz (fr1 := 0) (lo1 := 0) (r1 := none) (As := [.int (nI n), .int h, .int x, .int q]) (st := []) (st2 := []) (G1 := xw_up G 21 (pM v (md_th M) (nR te ho ow (xu hs n h) (xu ra n x) (xu lo n q) (nI n) st av so ln) (md_pt M) (md_re M) (md_sd M) be1 pb1 (nI (min a 11 + 1)) (md_od M) (md_ad M) (md_wy M) (md_so M) (md_rl M) (md_io M) (md_po M) (md_sp M) (md_rs M) (md_st M) (md_av M) (md_ip M) (md_tx M) (md_tm M) (md_ta M) (md_td M) (md_wo M) (md_sq M) (md_tk M) (md_bg M) (md_nu M) (md_wr M))) ml_X8_87 (xk_cg (by rw [xw_up_u] <;> rfl) (c_X8_lays (b := n) (M := (md_th M, nR te ho ow hs ra lo (nI n) st av so ln, md_pt M, md_re M, md_sd M, be1, pb1, nI (min a 11 + 1), md_od M, md_ad M, md_wy M, md_so M, md_rl M, md_io M, md_po M, md_sp M, md_rs M, md_st M, md_av M, md_ip M, md_tx M, md_tm M, md_ta M, md_td M, md_wo M, md_sq M, md_tk M, md_bg M, md_nu M, md_wr M)) (show (xw_up G 21 (pM v (md_th M) (nR te ho ow hs ra lo (nI n) st av so ln) (md_pt M) (md_re M) (md_sd M) be1 pb1 (nI (min a 11 + 1)) (md_od M) (md_ad M) (md_wy M) (md_so M) (md_rl M) (md_io M) (md_po M) (md_sp M) (md_rs M) (md_st M) (md_av M) (md_ip M) (md_tx M) (md_tm M) (md_ta M) (md_td M) (md_wo M) (md_sq M) (md_tk M) (md_bg M) (md_nu M) (md_wr M))) 21 = pM v (md_th M) (nR te ho ow hs ra lo (nI n) st av so ln) (md_pt M) (md_re M) (md_sd M) be1 pb1 (nI (min a 11 + 1)) (md_od M) (md_ad M) (md_wy M) (md_so M) (md_rl M) (md_io M) (md_po M) (md_sp M) (md_rs M) (md_st M) (md_av M) (md_ip M) (md_tx M) (md_tm M) (md_ta M) (md_td M) (md_wo M) (md_sq M) (md_tk M) (md_bg M) (md_nu M) (md_wr M) from xw_up_s) (by omega) h x q)) (xw_at xw_up_s rfl) rfl dX8_bid_49 ⟨Nat.le_of_ble_eq_true rfl, Nat.le_of_ble_eq_true rfl⟩ rfl (Nat.le_of_ble_eq_true rfl) rfl rfl ?_
          refine xj_aload_n (i := 0) hk dX8_bid_52 rfl rfl ?_
          refine xj_getfield hk dX8_bid_53 fl_X8_13 (xw_at xw_up_s rfl) rfl ?_
          refine xj_bipush (x := 23) hk dX8_bid_56 (by decide) ?_
          refine xj_dup2 hk dX8_bid_58 rfl rfl ?_
          refine xj_iaload (k := 23) hk dX8_bid_59 (xw_at xw_up_s rfl) (xi_d 23 139 (by decide)) ?_
          refine xj.eqi (x' := nI n) rR_bi ?_
          refine xj_iconst (x := 1) hk dX8_bid_60 (by decide) ?_
          refine xj_iadd hk dX8_bid_61 ?_
          refine xj.eqi (x' := nI (n + 1)) (nI_add n 1) ?_
          refine xj_iastore (k := 23) (G2 := xw_up G 21 (pM v (md_th M) (xu (nR te ho ow (xu hs n h) (xu ra n x) (xu lo n q) (nI n) st av so ln) 23 (nI (n + 1))) (md_pt M) (md_re M) (md_sd M) be1 pb1 (nI (min a 11 + 1)) (md_od M) (md_ad M) (md_wy M) (md_so M) (md_rl M) (md_io M) (md_po M) (md_sp M) (md_rs M) (md_st M) (md_av M) (md_ip M) (md_tx M) (md_tm M) (md_ta M) (md_td M) (md_wo M) (md_sq M) (md_tk M) (md_bg M) (md_nu M) (md_wr M))) hk dX8_bid_62 (xw_at xw_up_s rfl) (xi_d 23 139 (by decide)) (xw_wr2 rfl) ?_
          refine xj.eqG (G' := xw_up G 21 (pM v (md_th M) (nR te ho ow (xu hs n h) (xu ra n x) (xu lo n q) (nI (n + 1)) st av so ln) (md_pt M) (md_re M) (md_sd M) be1 pb1 (nI (min a 11 + 1)) (md_od M) (md_ad M) (md_wy M) (md_so M) (md_rl M) (md_io M) (md_po M) (md_sp M) (md_rs M) (md_st M) (md_av M) (md_ip M) (md_tx M) (md_tm M) (md_ta M) (md_td M) (md_wo M) (md_sq M) (md_tk M) (md_bg M) (md_nu M) (md_wr M))) (by rw [wR_bi]) ?_
          refine xj_aload_n (i := 0) hk dX8_bid_63 rfl rfl ?_
          refine xj_callV hk hz (fr1 := 0) (lo1 := 0) (r1 := some (.int (nI (n + 1)))) (As := []) (st := []) (st2 := [.int (nI (n + 1))]) (G1 := xw_up G 21 (pM v (md_th M) (nR te ho ow (xu hs n h) (xu ra n x) (xu lo n q) (nI (n + 1)) st av so ln) (md_pt M) (md_re M) (md_sd M) be1 pb1 (nI (min a 11 + 1)) (md_od M) (md_ad M) (md_wy M) (md_so M) (md_rl M) (md_io M) (md_po M) (md_sp M) (md_rs M) (md_st M) (md_av M) (md_ip M) (md_tx M) (md_tm M) (md_ta M) (md_td M) (md_wo M) (md_sq M) (md_tk M) (md_bg M) (md_nu M) (md_wr M))) ml_X8_73 (c_X8_many (M := (md_th M, nR te ho ow (xu hs n h) (xu ra n x) (xu lo n q) (nI (n + 1)) st av so ln, md_pt M, md_re M, md_sd M, be1, pb1, nI (min a 11 + 1), md_od M, md_ad M, md_wy M, md_so M, md_rl M, md_io M, md_po M, md_sp M, md_rs M, md_st M, md_av M, md_ip M, md_tx M, md_tm M, md_ta M, md_td M, md_wo M, md_sq M, md_tk M, md_bg M, md_nu M, md_wr M)) (show (xw_up G 21 (pM v (md_th M) (nR te ho ow (xu hs n h) (xu ra n x) (xu lo n q) (nI (n + 1)) st av so ln) (md_pt M) (md_re M) (md_sd M) be1 pb1 (nI (min a 11 + 1)) (md_od M) (md_ad M) (md_wy M) (md_so M) (md_rl M) (md_io M) (md_po M) (md_sp M) (md_rs M) (md_st M) (md_av M) (md_ip M) (md_tx M) (md_tm M) (md_ta M) (md_td M) (md_wo M) (md_sq M) (md_tk M) (md_bg M) (md_nu M) (md_wr M))) 21 = pM v (md_th M) (nR te ho ow (xu hs n h) (xu ra n x) (xu lo n q) (nI (n + 1)) st av so ln) (md_pt M) (md_re M) (md_sd M) be1 pb1 (nI (min a 11 + 1)) (md_od M) (md_ad M) (md_wy M) (md_so M) (md_rl M) (md_io M) (md_po M) (md_sp M) (md_rs M) (md_st M) (md_av M) (md_ip M) (md_tx M) (md_tm M) (md_ta M) (md_td M) (md_wo M) (md_sq M) (md_tk M) (md_bg M) (md_nu M) (md_wr M) from xw_up_s)) (xw_at xw_up_s rfl) rfl dX8_bid_64 ⟨Nat.le_of_ble_eq_true rfl, Nat.le_of_ble_eq_true rfl⟩ rfl (Nat.le_of_ble_eq_true rfl) rfl rfl ?_
          refine xj_iconst (x := 1) hk dX8_bid_67 (by decide) ?_
          refine xj_isub hk dX8_bid_68 ?_
          refine xj.eqi (x' := nI (n + 1 - 1)) (nI_sub1 (by omega)) ?_
          refine xj_ireturn hk hz dX8_bid_69 ?_
          refine Or.inl ⟨?_, be1, pb1, hKP, ?_, ?_⟩
          · first | (simp [mcBid, c4, c9, c23, c32]; done) | contradiction
          · rfl
          · rfl
        · have c32 : n = 30 := (nI_eq (a := n) (b := 30) (by omega) (by omega)).mp c32
          refine xj_iconst (x := (-1)) hk dX8_bid_35 (by decide) ?_
          refine xj_ireturn hk hz dX8_bid_36 ?_
          exact Or.inr ⟨by simp [mcBid, c4, c9, c23, c32], rfl, rfl⟩
    · refine xj_iload_n (i := 2) hk dX8_bid_12 rfl rfl ?_
      refine xj_callS hk hz (fr1 := 1) (lo1 := 22) (r1 := some (.int (xb (mIn x 0 999)))) (As := [.int x]) (st := []) (st2 := [.int (xb (mIn x 0 999))]) (G1 := G) ml_X8_99 (c_X8_isRate x) dX8_bid_13 ⟨Nat.le_of_ble_eq_true rfl, Nat.le_of_ble_eq_true rfl⟩ rfl (Nat.le_of_ble_eq_true rfl) rfl rfl ?_
      refine xj_ifb_eq (tgt := 35) hk dX8_bid_16 (by decide) (fun c16 => ?_) (fun c16 => ?_)
      · refine xj_iconst (x := (-1)) hk dX8_bid_35 (by decide) ?_
        refine xj_ireturn hk hz dX8_bid_36 ?_
        exact Or.inr ⟨by simp [mcBid, c4, c9, c16], rfl, rfl⟩
      · refine xj_iload_n (i := 3) hk dX8_bid_19 rfl rfl ?_
        refine xj_callS hk hz (fr1 := 1) (lo1 := 22) (r1 := some (.int (xb (mIn q 1 1000)))) (As := [.int q]) (st := []) (st2 := [.int (xb (mIn q 1 1000))]) (G1 := G) ml_X8_102 (c_X8_areLots q) dX8_bid_20 ⟨Nat.le_of_ble_eq_true rfl, Nat.le_of_ble_eq_true rfl⟩ rfl (Nat.le_of_ble_eq_true rfl) rfl rfl ?_
        refine xj_ifb_eq (tgt := 35) hk dX8_bid_23 (by decide) (fun c23 => ?_) (fun c23 => ?_)
        · refine xj_iconst (x := (-1)) hk dX8_bid_35 (by decide) ?_
          refine xj_ireturn hk hz dX8_bid_36 ?_
          exact Or.inr ⟨by simp [mcBid, c4, c9, c16, c23], rfl, rfl⟩
        · refine xj_aload_n (i := 0) hk dX8_bid_26 rfl rfl ?_
          refine xj_callV hk hz (fr1 := 0) (lo1 := 0) (r1 := some (.int (nI n))) (As := []) (st := []) (st2 := [.int (nI n)]) (G1 := G) ml_X8_73 (c_X8_many (M := M) (show G 21 = pM v (md_th M) (nR te ho ow hs ra lo (nI n) st av so ln) (md_pt M) (md_re M) (md_sd M) (md_be M) (md_pb M) (md_ac M) (md_od M) (md_ad M) (md_wy M) (md_so M) (md_rl M) (md_io M) (md_po M) (md_sp M) (md_rs M) (md_st M) (md_av M) (md_ip M) (md_tx M) (md_tm M) (md_ta M) (md_td M) (md_wo M) (md_sq M) (md_tk M) (md_bg M) (md_nu M) (md_wr M) from hM)) (xw_at hM rfl) rfl dX8_bid_27 ⟨Nat.le_of_ble_eq_true rfl, Nat.le_of_ble_eq_true rfl⟩ rfl (Nat.le_of_ble_eq_true rfl) rfl rfl ?_
          refine xj_bipush (x := 30) hk dX8_bid_30 (by decide) ?_
          refine xj_icmp_ne (tgt := 37) hk dX8_bid_32 (by decide) (fun c32 => ?_) (fun c32 => ?_)
          · have c32 : ¬ n = 30 := fun q => c32 ((nI_eq (a := n) (b := 30) (by omega) (by omega)).mpr q)
            refine xj_aload_n (i := 0) hk dX8_bid_37 rfl rfl ?_
            refine xj_callVE hk hz (fr1 := 0) (lo1 := 0) (As := []) (st := []) ml_X8_105 (c_X8_keeps (a := a) (M := (md_th M, nR te ho ow hs ra lo (nI n) st av so ln, md_pt M, md_re M, md_sd M, md_be M, md_pb M, md_ac M, md_od M, md_ad M, md_wy M, md_so M, md_rl M, md_io M, md_po M, md_sp M, md_rs M, md_st M, md_av M, md_ip M, md_tx M, md_tm M, md_ta M, md_td M, md_wo M, md_sq M, md_tk M, md_bg M, md_nu M, md_wr M)) (show G 21 = pM v (md_th M) (nR te ho ow hs ra lo (nI n) st av so ln) (md_pt M) (md_re M) (md_sd M) (md_be M) (md_pb M) (md_ac M) (md_od M) (md_ad M) (md_wy M) (md_so M) (md_rl M) (md_io M) (md_po M) (md_sp M) (md_rs M) (md_st M) (md_av M) (md_ip M) (md_tx M) (md_tm M) (md_ta M) (md_td M) (md_wo M) (md_sq M) (md_tk M) (md_bg M) (md_nu M) (md_wr M) from hM) hac ha12) (xw_at hM rfl) rfl dX8_bid_38 ⟨Nat.le_of_ble_eq_true rfl, Nat.le_of_ble_eq_true rfl⟩ rfl (Nat.le_of_ble_eq_true rfl) rfl ?_
            rintro _ _ ⟨rfl, be1, pb1, hKP, rfl⟩
            have hKP : KP a (nR te ho ow hs ra lo (nI n) st av so ln) (md_be M) (md_pt M) (md_pb M) be1 pb1 := hKP
            show xj v κ _ z (xw_up G 21 (pM v (md_th M) (nR te ho ow hs ra lo (nI n) st av so ln) (md_pt M) (md_re M) (md_sd M) be1 pb1 (nI (min a 11 + 1)) (md_od M) (md_ad M) (md_wy M) (md_so M) (md_rl M) (md_io M) (md_po M) (md_sp M) (md_rs M) (md_st M) (md_av M) (md_ip M) (md_tx M) (md_tm M) (md_ta M) (md_td M) (md_wo M) (md_sq M) (md_tk M) (md_bg M) (md_nu M) (md_wr M))) 41 _ []
            refine xj_aload_n (i := 0) hk dX8_bid_41 rfl rfl ?_
            refine xj_aload_n (i := 0) hk dX8_bid_42 rfl rfl ?_
            refine xj_callV hk hz (fr1 := 0) (lo1 := 0) (r1 := some (.int (nI n))) (As := []) (st := [.ref (xw_ad v 21 0)]) (st2 := [.int (nI n), .ref (xw_ad v 21 0)]) (G1 := xw_up G 21 (pM v (md_th M) (nR te ho ow hs ra lo (nI n) st av so ln) (md_pt M) (md_re M) (md_sd M) be1 pb1 (nI (min a 11 + 1)) (md_od M) (md_ad M) (md_wy M) (md_so M) (md_rl M) (md_io M) (md_po M) (md_sp M) (md_rs M) (md_st M) (md_av M) (md_ip M) (md_tx M) (md_tm M) (md_ta M) (md_td M) (md_wo M) (md_sq M) (md_tk M) (md_bg M) (md_nu M) (md_wr M))) ml_X8_73 (c_X8_many (M := (md_th M, nR te ho ow hs ra lo (nI n) st av so ln, md_pt M, md_re M, md_sd M, be1, pb1, nI (min a 11 + 1), md_od M, md_ad M, md_wy M, md_so M, md_rl M, md_io M, md_po M, md_sp M, md_rs M, md_st M, md_av M, md_ip M, md_tx M, md_tm M, md_ta M, md_td M, md_wo M, md_sq M, md_tk M, md_bg M, md_nu M, md_wr M)) (show (xw_up G 21 (pM v (md_th M) (nR te ho ow hs ra lo (nI n) st av so ln) (md_pt M) (md_re M) (md_sd M) be1 pb1 (nI (min a 11 + 1)) (md_od M) (md_ad M) (md_wy M) (md_so M) (md_rl M) (md_io M) (md_po M) (md_sp M) (md_rs M) (md_st M) (md_av M) (md_ip M) (md_tx M) (md_tm M) (md_ta M) (md_td M) (md_wo M) (md_sq M) (md_tk M) (md_bg M) (md_nu M) (md_wr M))) 21 = pM v (md_th M) (nR te ho ow hs ra lo (nI n) st av so ln) (md_pt M) (md_re M) (md_sd M) be1 pb1 (nI (min a 11 + 1)) (md_od M) (md_ad M) (md_wy M) (md_so M) (md_rl M) (md_io M) (md_po M) (md_sp M) (md_rs M) (md_st M) (md_av M) (md_ip M) (md_tx M) (md_tm M) (md_ta M) (md_td M) (md_wo M) (md_sq M) (md_tk M) (md_bg M) (md_nu M) (md_wr M) from xw_up_s)) (xw_at xw_up_s rfl) rfl dX8_bid_43 ⟨Nat.le_of_ble_eq_true rfl, Nat.le_of_ble_eq_true rfl⟩ rfl (Nat.le_of_ble_eq_true rfl) rfl rfl ?_
            refine xj_iload_n (i := 1) hk dX8_bid_46 rfl rfl ?_
            refine xj_iload_n (i := 2) hk dX8_bid_47 rfl rfl ?_
            refine xj_iload_n (i := 3) hk dX8_bid_48 rfl rfl ?_
            refine xj_callV hk hz (fr1 := 0) (lo1 := 0) (r1 := none) (As := [.int (nI n), .int h, .int x, .int q]) (st := []) (st2 := []) (G1 := xw_up G 21 (pM v (md_th M) (nR te ho ow (xu hs n h) (xu ra n x) (xu lo n q) (nI n) st av so ln) (md_pt M) (md_re M) (md_sd M) be1 pb1 (nI (min a 11 + 1)) (md_od M) (md_ad M) (md_wy M) (md_so M) (md_rl M) (md_io M) (md_po M) (md_sp M) (md_rs M) (md_st M) (md_av M) (md_ip M) (md_tx M) (md_tm M) (md_ta M) (md_td M) (md_wo M) (md_sq M) (md_tk M) (md_bg M) (md_nu M) (md_wr M))) ml_X8_87 (xk_cg (by rw [xw_up_u] <;> rfl) (c_X8_lays (b := n) (M := (md_th M, nR te ho ow hs ra lo (nI n) st av so ln, md_pt M, md_re M, md_sd M, be1, pb1, nI (min a 11 + 1), md_od M, md_ad M, md_wy M, md_so M, md_rl M, md_io M, md_po M, md_sp M, md_rs M, md_st M, md_av M, md_ip M, md_tx M, md_tm M, md_ta M, md_td M, md_wo M, md_sq M, md_tk M, md_bg M, md_nu M, md_wr M)) (show (xw_up G 21 (pM v (md_th M) (nR te ho ow hs ra lo (nI n) st av so ln) (md_pt M) (md_re M) (md_sd M) be1 pb1 (nI (min a 11 + 1)) (md_od M) (md_ad M) (md_wy M) (md_so M) (md_rl M) (md_io M) (md_po M) (md_sp M) (md_rs M) (md_st M) (md_av M) (md_ip M) (md_tx M) (md_tm M) (md_ta M) (md_td M) (md_wo M) (md_sq M) (md_tk M) (md_bg M) (md_nu M) (md_wr M))) 21 = pM v (md_th M) (nR te ho ow hs ra lo (nI n) st av so ln) (md_pt M) (md_re M) (md_sd M) be1 pb1 (nI (min a 11 + 1)) (md_od M) (md_ad M) (md_wy M) (md_so M) (md_rl M) (md_io M) (md_po M) (md_sp M) (md_rs M) (md_st M) (md_av M) (md_ip M) (md_tx M) (md_tm M) (md_ta M) (md_td M) (md_wo M) (md_sq M) (md_tk M) (md_bg M) (md_nu M) (md_wr M) from xw_up_s) (by omega) h x q)) (xw_at xw_up_s rfl) rfl dX8_bid_49 ⟨Nat.le_of_ble_eq_true rfl, Nat.le_of_ble_eq_true rfl⟩ rfl (Nat.le_of_ble_eq_true rfl) rfl rfl ?_
            refine xj_aload_n (i := 0) hk dX8_bid_52 rfl rfl ?_
            refine xj_getfield hk dX8_bid_53 fl_X8_13 (xw_at xw_up_s rfl) rfl ?_
            refine xj_bipush (x := 23) hk dX8_bid_56 (by decide) ?_
            refine xj_dup2 hk dX8_bid_58 rfl rfl ?_
            refine xj_iaload (k := 23) hk dX8_bid_59 (xw_at xw_up_s rfl) (xi_d 23 139 (by decide)) ?_
            refine xj.eqi (x' := nI n) rR_bi ?_
            refine xj_iconst (x := 1) hk dX8_bid_60 (by decide) ?_
            refine xj_iadd hk dX8_bid_61 ?_
            refine xj.eqi (x' := nI (n + 1)) (nI_add n 1) ?_
            refine xj_iastore (k := 23) (G2 := xw_up G 21 (pM v (md_th M) (xu (nR te ho ow (xu hs n h) (xu ra n x) (xu lo n q) (nI n) st av so ln) 23 (nI (n + 1))) (md_pt M) (md_re M) (md_sd M) be1 pb1 (nI (min a 11 + 1)) (md_od M) (md_ad M) (md_wy M) (md_so M) (md_rl M) (md_io M) (md_po M) (md_sp M) (md_rs M) (md_st M) (md_av M) (md_ip M) (md_tx M) (md_tm M) (md_ta M) (md_td M) (md_wo M) (md_sq M) (md_tk M) (md_bg M) (md_nu M) (md_wr M))) hk dX8_bid_62 (xw_at xw_up_s rfl) (xi_d 23 139 (by decide)) (xw_wr2 rfl) ?_
            refine xj.eqG (G' := xw_up G 21 (pM v (md_th M) (nR te ho ow (xu hs n h) (xu ra n x) (xu lo n q) (nI (n + 1)) st av so ln) (md_pt M) (md_re M) (md_sd M) be1 pb1 (nI (min a 11 + 1)) (md_od M) (md_ad M) (md_wy M) (md_so M) (md_rl M) (md_io M) (md_po M) (md_sp M) (md_rs M) (md_st M) (md_av M) (md_ip M) (md_tx M) (md_tm M) (md_ta M) (md_td M) (md_wo M) (md_sq M) (md_tk M) (md_bg M) (md_nu M) (md_wr M))) (by rw [wR_bi]) ?_
            refine xj_aload_n (i := 0) hk dX8_bid_63 rfl rfl ?_
            refine xj_callV hk hz (fr1 := 0) (lo1 := 0) (r1 := some (.int (nI (n + 1)))) (As := []) (st := []) (st2 := [.int (nI (n + 1))]) (G1 := xw_up G 21 (pM v (md_th M) (nR te ho ow (xu hs n h) (xu ra n x) (xu lo n q) (nI (n + 1)) st av so ln) (md_pt M) (md_re M) (md_sd M) be1 pb1 (nI (min a 11 + 1)) (md_od M) (md_ad M) (md_wy M) (md_so M) (md_rl M) (md_io M) (md_po M) (md_sp M) (md_rs M) (md_st M) (md_av M) (md_ip M) (md_tx M) (md_tm M) (md_ta M) (md_td M) (md_wo M) (md_sq M) (md_tk M) (md_bg M) (md_nu M) (md_wr M))) ml_X8_73 (c_X8_many (M := (md_th M, nR te ho ow (xu hs n h) (xu ra n x) (xu lo n q) (nI (n + 1)) st av so ln, md_pt M, md_re M, md_sd M, be1, pb1, nI (min a 11 + 1), md_od M, md_ad M, md_wy M, md_so M, md_rl M, md_io M, md_po M, md_sp M, md_rs M, md_st M, md_av M, md_ip M, md_tx M, md_tm M, md_ta M, md_td M, md_wo M, md_sq M, md_tk M, md_bg M, md_nu M, md_wr M)) (show (xw_up G 21 (pM v (md_th M) (nR te ho ow (xu hs n h) (xu ra n x) (xu lo n q) (nI (n + 1)) st av so ln) (md_pt M) (md_re M) (md_sd M) be1 pb1 (nI (min a 11 + 1)) (md_od M) (md_ad M) (md_wy M) (md_so M) (md_rl M) (md_io M) (md_po M) (md_sp M) (md_rs M) (md_st M) (md_av M) (md_ip M) (md_tx M) (md_tm M) (md_ta M) (md_td M) (md_wo M) (md_sq M) (md_tk M) (md_bg M) (md_nu M) (md_wr M))) 21 = pM v (md_th M) (nR te ho ow (xu hs n h) (xu ra n x) (xu lo n q) (nI (n + 1)) st av so ln) (md_pt M) (md_re M) (md_sd M) be1 pb1 (nI (min a 11 + 1)) (md_od M) (md_ad M) (md_wy M) (md_so M) (md_rl M) (md_io M) (md_po M) (md_sp M) (md_rs M) (md_st M) (md_av M) (md_ip M) (md_tx M) (md_tm M) (md_ta M) (md_td M) (md_wo M) (md_sq M) (md_tk M) (md_bg M) (md_nu M) (md_wr M) from xw_up_s)) (xw_at xw_up_s rfl) rfl dX8_bid_64 ⟨Nat.le_of_ble_eq_true rfl, Nat.le_of_ble_eq_true rfl⟩ rfl (Nat.le_of_ble_eq_true rfl) rfl rfl ?_
            refine xj_iconst (x := 1) hk dX8_bid_67 (by decide) ?_
            refine xj_isub hk dX8_bid_68 ?_
            refine xj.eqi (x' := nI (n + 1 - 1)) (nI_sub1 (by omega)) ?_
            refine xj_ireturn hk hz dX8_bid_69 ?_
            refine Or.inl ⟨?_, be1, pb1, hKP, ?_, ?_⟩
            · first | (simp [mcBid, c4, c9, c16, c23, c32]; done) | contradiction
            · rfl
            · rfl
          · have c32 : n = 30 := (nI_eq (a := n) (b := 30) (by omega) (by omega)).mp c32
            refine xj_iconst (x := (-1)) hk dX8_bid_35 (by decide) ?_
            refine xj_ireturn hk hz dX8_bid_36 ?_
            exact Or.inr ⟨by simp [mcBid, c4, c9, c16, c23, c32], rfl, rfl⟩

set_option maxHeartbeats 1000000 in
set_option maxRecDepth 10000 in
theorem c_X8_withdraw {v : xw_V} {G : xw_G} {M : md_T} {te ho ow hs ra lo st av so : Nat → Int32} {ln : Int32} {n a : Nat} (hM : G 21 = pM v (md_th M) (nR te ho ow hs ra lo (nI n) st av so ln) (md_pt M) (md_re M) (md_sd M) (md_be M) (md_pb M) (md_ac M) (md_od M) (md_ad M) (md_wy M) (md_so M) (md_rl M) (md_io M) (md_po M) (md_sp M) (md_rs M) (md_st M) (md_av M) (md_ip M) (md_tx M) (md_tm M) (md_ta M) (md_td M) (md_wo M) (md_sq M) (md_tk M) (md_bg M) (md_nu M) (md_wr M)) (hn30 : n ≤ 30) (hac : md_ac M = nI a) (ha12 : a ≤ 12) (b : Int32) : xk_Con v yX8_withdraw cX8_withdraw 2 (some .boolean) 3 68 [.ref (xw_ad v 21 0), .int b] G (fun r9 G' => (mIn b 0 (nI n - 1) = true ∧ ∃ (be1 : Nat → Int32) (pb1 : Nat → Int64), KP a (nR te ho ow hs ra lo (nI n) st av so ln) (md_be M) (md_pt M) (md_pb M) be1 pb1 ∧ r9 = some (.int 1) ∧ G' = xw_up G 21 (pM v (md_th M) (nR te ho ow (shD (xn b) (n - 1) hs) (shD (xn b) (n - 1) ra) (shD (xn b) (n - 1) lo) (nI (n - 1)) st av so ln) (md_pt M) (md_re M) (md_sd M) be1 pb1 (nI (min a 11 + 1)) (md_od M) (md_ad M) (md_wy M) (md_so M) (md_rl M) (md_io M) (md_po M) (md_sp M) (md_rs M) (md_st M) (md_av M) (md_ip M) (md_tx M) (md_tm M) (md_ta M) (md_td M) (md_wo M) (md_sq M) (md_tk M) (md_bg M) (md_nu M) (md_wr M))) ∨ (mIn b 0 (nI n - 1) = false ∧ r9 = some (.int 0) ∧ G' = G)) := by
  refine xk_of (ls0 := [some (.ref (xw_ad v 21 0)), some (.int b)]) (by decide) rfl (Nat.le_of_ble_eq_true rfl) ?_
  intro κ z hk hz
  refine xj_aload_n (i := 0) hk dX8_withdraw_0 rfl rfl ?_
  refine xj_iload_n (i := 1) hk dX8_withdraw_1 rfl rfl ?_
  refine xj_callV hk hz (fr1 := 1) (lo1 := 22) (r1 := some (.int (xb (mIn b 0 ((nI n) - 1))))) (As := [.int b]) (st := []) (st2 := [.int (xb (mIn b 0 ((nI n) - 1)))]) (G1 := G) ml_X8_108 (c_X8_isBid (M := M) (show G 21 = pM v (md_th M) (nR te ho ow hs ra lo (nI n) st av so ln) (md_pt M) (md_re M) (md_sd M) (md_be M) (md_pb M) (md_ac M) (md_od M) (md_ad M) (md_wy M) (md_so M) (md_rl M) (md_io M) (md_po M) (md_sp M) (md_rs M) (md_st M) (md_av M) (md_ip M) (md_tx M) (md_tm M) (md_ta M) (md_td M) (md_wo M) (md_sq M) (md_tk M) (md_bg M) (md_nu M) (md_wr M) from hM) b) (xw_at hM rfl) rfl dX8_withdraw_2 ⟨Nat.le_of_ble_eq_true rfl, Nat.le_of_ble_eq_true rfl⟩ rfl (Nat.le_of_ble_eq_true rfl) rfl rfl ?_
  refine xj_ifb_ne (tgt := 10) hk dX8_withdraw_5 (by decide) (fun c5 => ?_) (fun c5 => ?_)
  · obtain ⟨j, hj_j, rfl⟩ := hasB_of (n := n) rfl hn30 (by rw [← mIn_bid hn30]; exact c5)
    refine xj_aload_n (i := 0) hk dX8_withdraw_10 rfl rfl ?_
    refine xj_callVE hk hz (fr1 := 0) (lo1 := 0) (As := []) (st := []) ml_X8_105 (c_X8_keeps (a := a) (M := (md_th M, nR te ho ow hs ra lo (nI n) st av so ln, md_pt M, md_re M, md_sd M, md_be M, md_pb M, md_ac M, md_od M, md_ad M, md_wy M, md_so M, md_rl M, md_io M, md_po M, md_sp M, md_rs M, md_st M, md_av M, md_ip M, md_tx M, md_tm M, md_ta M, md_td M, md_wo M, md_sq M, md_tk M, md_bg M, md_nu M, md_wr M)) (show G 21 = pM v (md_th M) (nR te ho ow hs ra lo (nI n) st av so ln) (md_pt M) (md_re M) (md_sd M) (md_be M) (md_pb M) (md_ac M) (md_od M) (md_ad M) (md_wy M) (md_so M) (md_rl M) (md_io M) (md_po M) (md_sp M) (md_rs M) (md_st M) (md_av M) (md_ip M) (md_tx M) (md_tm M) (md_ta M) (md_td M) (md_wo M) (md_sq M) (md_tk M) (md_bg M) (md_nu M) (md_wr M) from hM) hac ha12) (xw_at hM rfl) rfl dX8_withdraw_11 ⟨Nat.le_of_ble_eq_true rfl, Nat.le_of_ble_eq_true rfl⟩ rfl (Nat.le_of_ble_eq_true rfl) rfl ?_
    rintro _ _ ⟨rfl, be1, pb1, hKP, rfl⟩
    have hKP : KP a (nR te ho ow hs ra lo (nI n) st av so ln) (md_be M) (md_pt M) (md_pb M) be1 pb1 := hKP
    show xj v κ _ z (xw_up G 21 (pM v (md_th M) (nR te ho ow hs ra lo (nI n) st av so ln) (md_pt M) (md_re M) (md_sd M) be1 pb1 (nI (min a 11 + 1)) (md_od M) (md_ad M) (md_wy M) (md_so M) (md_rl M) (md_io M) (md_po M) (md_sp M) (md_rs M) (md_st M) (md_av M) (md_ip M) (md_tx M) (md_tm M) (md_ta M) (md_td M) (md_wo M) (md_sq M) (md_tk M) (md_bg M) (md_nu M) (md_wr M))) 14 _ []
    refine xj_aload_n (i := 0) hk dX8_withdraw_14 rfl rfl ?_
    refine xj_iload_n (i := 1) hk dX8_withdraw_15 rfl rfl ?_
    refine xj_callV hk hz (fr1 := 2) (lo1 := 46) (r1 := none) (As := [.int (nI j)]) (st := []) (st2 := []) (G1 := xw_up G 21 (pM v (md_th M) (nR te ho ow (shD j (n - 1) hs) (shD j (n - 1) ra) (shD j (n - 1) lo) (nI (n - 1)) st av so ln) (md_pt M) (md_re M) (md_sd M) be1 pb1 (nI (min a 11 + 1)) (md_od M) (md_ad M) (md_wy M) (md_so M) (md_rl M) (md_io M) (md_po M) (md_sp M) (md_rs M) (md_st M) (md_av M) (md_ip M) (md_tx M) (md_tm M) (md_ta M) (md_td M) (md_wo M) (md_sq M) (md_tk M) (md_bg M) (md_nu M) (md_wr M))) ml_X8_111 (xk_cg (by rw [xw_up_u] <;> rfl) (c_X8_drops (n := n) (a := j) (M := (md_th M, nR te ho ow hs ra lo (nI n) st av so ln, md_pt M, md_re M, md_sd M, be1, pb1, nI (min a 11 + 1), md_od M, md_ad M, md_wy M, md_so M, md_rl M, md_io M, md_po M, md_sp M, md_rs M, md_st M, md_av M, md_ip M, md_tx M, md_tm M, md_ta M, md_td M, md_wo M, md_sq M, md_tk M, md_bg M, md_nu M, md_wr M)) (show (xw_up G 21 (pM v (md_th M) (nR te ho ow hs ra lo (nI n) st av so ln) (md_pt M) (md_re M) (md_sd M) be1 pb1 (nI (min a 11 + 1)) (md_od M) (md_ad M) (md_wy M) (md_so M) (md_rl M) (md_io M) (md_po M) (md_sp M) (md_rs M) (md_st M) (md_av M) (md_ip M) (md_tx M) (md_tm M) (md_ta M) (md_td M) (md_wo M) (md_sq M) (md_tk M) (md_bg M) (md_nu M) (md_wr M))) 21 = pM v (md_th M) (nR te ho ow hs ra lo (nI n) st av so ln) (md_pt M) (md_re M) (md_sd M) be1 pb1 (nI (min a 11 + 1)) (md_od M) (md_ad M) (md_wy M) (md_so M) (md_rl M) (md_io M) (md_po M) (md_sp M) (md_rs M) (md_st M) (md_av M) (md_ip M) (md_tx M) (md_tm M) (md_ta M) (md_td M) (md_wo M) (md_sq M) (md_tk M) (md_bg M) (md_nu M) (md_wr M) from xw_up_s) (by omega) (by omega))) (xw_at xw_up_s rfl) rfl dX8_withdraw_16 ⟨Nat.le_of_ble_eq_true rfl, Nat.le_of_ble_eq_true rfl⟩ rfl (Nat.le_of_ble_eq_true rfl) rfl rfl ?_
    refine xj_iconst (x := 1) hk dX8_withdraw_19 (by decide) ?_
    refine xj_zreturn hk hz dX8_withdraw_20 (by decide) ?_
    refine Or.inl ⟨?_, be1, pb1, hKP, ?_, ?_⟩
    · first | (simp [Bool.true_eq, c5, xn_nI (show j < 2 ^ 31 by omega)]; done) | contradiction
    · first | rfl | (simp only [xn_nI (show j < 2 ^ 31 by omega)]; done) | (simp only [xn_nI (show j < 2 ^ 31 by omega)]; rfl)
    · first | rfl | (simp only [xn_nI (show j < 2 ^ 31 by omega)]; done) | (simp only [xn_nI (show j < 2 ^ 31 by omega)]; rfl)
  · refine xj_iconst (x := 0) hk dX8_withdraw_8 (by decide) ?_
    refine xj_zreturn hk hz dX8_withdraw_9 (by decide) ?_
    exact Or.inr ⟨by simp [Bool.true_eq, c5], rfl, rfl⟩

set_option maxHeartbeats 1000000 in
set_option maxRecDepth 10000 in
theorem c_X8_move {v : xw_V} {G : xw_G} {M : md_T} {te ho ow hs ra lo st av so : Nat → Int32} {ln : Int32} {n a : Nat} (hM : G 21 = pM v (md_th M) (nR te ho ow hs ra lo (nI n) st av so ln) (md_pt M) (md_re M) (md_sd M) (md_be M) (md_pb M) (md_ac M) (md_od M) (md_ad M) (md_wy M) (md_so M) (md_rl M) (md_io M) (md_po M) (md_sp M) (md_rs M) (md_st M) (md_av M) (md_ip M) (md_tx M) (md_tm M) (md_ta M) (md_td M) (md_wo M) (md_sq M) (md_tk M) (md_bg M) (md_nu M) (md_wr M)) (hn30 : n ≤ 30) (hac : md_ac M = nI a) (ha12 : a ≤ 12) (b : Int32) (x : Int32) : xk_Con v yX8_move cX8_move 6 (some .boolean) 3 68 [.ref (xw_ad v 21 0), .int b, .int x] G (fun r9 G' => (mcMove n b x = true ∧ ∃ (be1 : Nat → Int32) (pb1 : Nat → Int64), KP a (nR te ho ow hs ra lo (nI n) st av so ln) (md_be M) (md_pt M) (md_pb M) be1 pb1 ∧ r9 = some (.int 1) ∧ G' = xw_up G 21 (pM v (md_th M) (nR te ho ow (xu (shU (xn x) (n - 1) (shD (xn b) (n - 1) hs)) (xn x) (hs (xn b))) (xu (shU (xn x) (n - 1) (shD (xn b) (n - 1) ra)) (xn x) (ra (xn b))) (xu (shU (xn x) (n - 1) (shD (xn b) (n - 1) lo)) (xn x) (lo (xn b))) (nI (n - 1 + 1)) st av so ln) (md_pt M) (md_re M) (md_sd M) be1 pb1 (nI (min a 11 + 1)) (md_od M) (md_ad M) (md_wy M) (md_so M) (md_rl M) (md_io M) (md_po M) (md_sp M) (md_rs M) (md_st M) (md_av M) (md_ip M) (md_tx M) (md_tm M) (md_ta M) (md_td M) (md_wo M) (md_sq M) (md_tk M) (md_bg M) (md_nu M) (md_wr M))) ∨ (mcMove n b x = false ∧ r9 = some (.int 0) ∧ G' = G)) := by
  refine xk_of (ls0 := [some (.ref (xw_ad v 21 0)), some (.int b), some (.int x), none, none, none]) (by decide) rfl (Nat.le_of_ble_eq_true rfl) ?_
  intro κ z hk hz
  refine xj_aload_n (i := 0) hk dX8_move_0 rfl rfl ?_
  refine xj_iload_n (i := 1) hk dX8_move_1 rfl rfl ?_
  refine xj_callV hk hz (fr1 := 1) (lo1 := 22) (r1 := some (.int (xb (mIn b 0 ((nI n) - 1))))) (As := [.int b]) (st := []) (st2 := [.int (xb (mIn b 0 ((nI n) - 1)))]) (G1 := G) ml_X8_108 (c_X8_isBid (M := M) (show G 21 = pM v (md_th M) (nR te ho ow hs ra lo (nI n) st av so ln) (md_pt M) (md_re M) (md_sd M) (md_be M) (md_pb M) (md_ac M) (md_od M) (md_ad M) (md_wy M) (md_so M) (md_rl M) (md_io M) (md_po M) (md_sp M) (md_rs M) (md_st M) (md_av M) (md_ip M) (md_tx M) (md_tm M) (md_ta M) (md_td M) (md_wo M) (md_sq M) (md_tk M) (md_bg M) (md_nu M) (md_wr M) from hM) b) (xw_at hM rfl) rfl dX8_move_2 ⟨Nat.le_of_ble_eq_true rfl, Nat.le_of_ble_eq_true rfl⟩ rfl (Nat.le_of_ble_eq_true rfl) rfl rfl ?_
  refine xj_ifb_eq (tgt := 21) hk dX8_move_5 (by decide) (fun c5 => ?_) (fun c5 => ?_)
  · refine xj_iconst (x := 0) hk dX8_move_21 (by decide) ?_
    refine xj_zreturn hk hz dX8_move_22 (by decide) ?_
    exact Or.inr ⟨by simp [mcMove, c5], rfl, rfl⟩
  · obtain ⟨j, hj_j, rfl⟩ := hasB_of (n := n) rfl hn30 (by rw [← mIn_bid hn30]; exact c5)
    refine xj_aload_n (i := 0) hk dX8_move_8 rfl rfl ?_
    refine xj_iload_n (i := 2) hk dX8_move_9 rfl rfl ?_
    refine xj_callV hk hz (fr1 := 1) (lo1 := 22) (r1 := some (.int (xb (mIn x 0 ((nI n) - 1))))) (As := [.int x]) (st := []) (st2 := [.int (xb (mIn x 0 ((nI n) - 1)))]) (G1 := G) ml_X8_108 (c_X8_isBid (M := M) (show G 21 = pM v (md_th M) (nR te ho ow hs ra lo (nI n) st av so ln) (md_pt M) (md_re M) (md_sd M) (md_be M) (md_pb M) (md_ac M) (md_od M) (md_ad M) (md_wy M) (md_so M) (md_rl M) (md_io M) (md_po M) (md_sp M) (md_rs M) (md_st M) (md_av M) (md_ip M) (md_tx M) (md_tm M) (md_ta M) (md_td M) (md_wo M) (md_sq M) (md_tk M) (md_bg M) (md_nu M) (md_wr M) from hM) x) (xw_at hM rfl) rfl dX8_move_10 ⟨Nat.le_of_ble_eq_true rfl, Nat.le_of_ble_eq_true rfl⟩ rfl (Nat.le_of_ble_eq_true rfl) rfl rfl ?_
    refine xj_ifb_eq (tgt := 21) hk dX8_move_13 (by decide) (fun c13 => ?_) (fun c13 => ?_)
    · refine xj_iconst (x := 0) hk dX8_move_21 (by decide) ?_
      refine xj_zreturn hk hz dX8_move_22 (by decide) ?_
      exact Or.inr ⟨by simp [mcMove, c5, xn_nI (show j < 2 ^ 31 by omega), c13], rfl, rfl⟩
    · obtain ⟨i, hj_i, rfl⟩ := hasB_of (n := n) rfl hn30 (by rw [← mIn_bid hn30]; exact c13)
      refine xj_iload_n (i := 1) hk dX8_move_16 rfl rfl ?_
      refine xj_iload_n (i := 2) hk dX8_move_17 rfl rfl ?_
      refine xj_icmp_ne (tgt := 23) hk dX8_move_18 (by decide) (fun c18 => ?_) (fun c18 => ?_)
      · refine xj_aload_n (i := 0) hk dX8_move_23 rfl rfl ?_
        refine xj_callVE hk hz (fr1 := 0) (lo1 := 0) (As := []) (st := []) ml_X8_105 (c_X8_keeps (a := a) (M := (md_th M, nR te ho ow hs ra lo (nI n) st av so ln, md_pt M, md_re M, md_sd M, md_be M, md_pb M, md_ac M, md_od M, md_ad M, md_wy M, md_so M, md_rl M, md_io M, md_po M, md_sp M, md_rs M, md_st M, md_av M, md_ip M, md_tx M, md_tm M, md_ta M, md_td M, md_wo M, md_sq M, md_tk M, md_bg M, md_nu M, md_wr M)) (show G 21 = pM v (md_th M) (nR te ho ow hs ra lo (nI n) st av so ln) (md_pt M) (md_re M) (md_sd M) (md_be M) (md_pb M) (md_ac M) (md_od M) (md_ad M) (md_wy M) (md_so M) (md_rl M) (md_io M) (md_po M) (md_sp M) (md_rs M) (md_st M) (md_av M) (md_ip M) (md_tx M) (md_tm M) (md_ta M) (md_td M) (md_wo M) (md_sq M) (md_tk M) (md_bg M) (md_nu M) (md_wr M) from hM) hac ha12) (xw_at hM rfl) rfl dX8_move_24 ⟨Nat.le_of_ble_eq_true rfl, Nat.le_of_ble_eq_true rfl⟩ rfl (Nat.le_of_ble_eq_true rfl) rfl ?_
        rintro _ _ ⟨rfl, be1, pb1, hKP, rfl⟩
        have hKP : KP a (nR te ho ow hs ra lo (nI n) st av so ln) (md_be M) (md_pt M) (md_pb M) be1 pb1 := hKP
        show xj v κ _ z (xw_up G 21 (pM v (md_th M) (nR te ho ow hs ra lo (nI n) st av so ln) (md_pt M) (md_re M) (md_sd M) be1 pb1 (nI (min a 11 + 1)) (md_od M) (md_ad M) (md_wy M) (md_so M) (md_rl M) (md_io M) (md_po M) (md_sp M) (md_rs M) (md_st M) (md_av M) (md_ip M) (md_tx M) (md_tm M) (md_ta M) (md_td M) (md_wo M) (md_sq M) (md_tk M) (md_bg M) (md_nu M) (md_wr M))) 27 _ []
        refine xj_aload_n (i := 0) hk dX8_move_27 rfl rfl ?_
        refine xj_iload_n (i := 1) hk dX8_move_28 rfl rfl ?_
        refine xj_callV hk hz (fr1 := 0) (lo1 := 0) (r1 := some (.int (hs j))) (As := [.int (nI j)]) (st := []) (st2 := [.int (hs j)]) (G1 := xw_up G 21 (pM v (md_th M) (nR te ho ow hs ra lo (nI n) st av so ln) (md_pt M) (md_re M) (md_sd M) be1 pb1 (nI (min a 11 + 1)) (md_od M) (md_ad M) (md_wy M) (md_so M) (md_rl M) (md_io M) (md_po M) (md_sp M) (md_rs M) (md_st M) (md_av M) (md_ip M) (md_tx M) (md_tm M) (md_ta M) (md_td M) (md_wo M) (md_sq M) (md_tk M) (md_bg M) (md_nu M) (md_wr M))) ml_X8_81 (c_X8_houseOf (b := j) (M := (md_th M, nR te ho ow hs ra lo (nI n) st av so ln, md_pt M, md_re M, md_sd M, be1, pb1, nI (min a 11 + 1), md_od M, md_ad M, md_wy M, md_so M, md_rl M, md_io M, md_po M, md_sp M, md_rs M, md_st M, md_av M, md_ip M, md_tx M, md_tm M, md_ta M, md_td M, md_wo M, md_sq M, md_tk M, md_bg M, md_nu M, md_wr M)) (show (xw_up G 21 (pM v (md_th M) (nR te ho ow hs ra lo (nI n) st av so ln) (md_pt M) (md_re M) (md_sd M) be1 pb1 (nI (min a 11 + 1)) (md_od M) (md_ad M) (md_wy M) (md_so M) (md_rl M) (md_io M) (md_po M) (md_sp M) (md_rs M) (md_st M) (md_av M) (md_ip M) (md_tx M) (md_tm M) (md_ta M) (md_td M) (md_wo M) (md_sq M) (md_tk M) (md_bg M) (md_nu M) (md_wr M))) 21 = pM v (md_th M) (nR te ho ow hs ra lo (nI n) st av so ln) (md_pt M) (md_re M) (md_sd M) be1 pb1 (nI (min a 11 + 1)) (md_od M) (md_ad M) (md_wy M) (md_so M) (md_rl M) (md_io M) (md_po M) (md_sp M) (md_rs M) (md_st M) (md_av M) (md_ip M) (md_tx M) (md_tm M) (md_ta M) (md_td M) (md_wo M) (md_sq M) (md_tk M) (md_bg M) (md_nu M) (md_wr M) from xw_up_s) (by omega)) (xw_at xw_up_s rfl) rfl dX8_move_29 ⟨Nat.le_of_ble_eq_true rfl, Nat.le_of_ble_eq_true rfl⟩ rfl (Nat.le_of_ble_eq_true rfl) rfl rfl ?_
        refine xj_istore_n (i := 3) (ls2 := [some (.ref (xw_ad v 21 0)), some (.int (nI j)), some (.int (nI i)), some (.int (hs j)), none, none]) hk dX8_move_32 rfl (by decide) rfl rfl ?_
        refine xj_aload_n (i := 0) hk dX8_move_33 rfl rfl ?_
        refine xj_iload_n (i := 1) hk dX8_move_34 rfl rfl ?_
        refine xj_callV hk hz (fr1 := 0) (lo1 := 0) (r1 := some (.int (ra j))) (As := [.int (nI j)]) (st := []) (st2 := [.int (ra j)]) (G1 := xw_up G 21 (pM v (md_th M) (nR te ho ow hs ra lo (nI n) st av so ln) (md_pt M) (md_re M) (md_sd M) be1 pb1 (nI (min a 11 + 1)) (md_od M) (md_ad M) (md_wy M) (md_so M) (md_rl M) (md_io M) (md_po M) (md_sp M) (md_rs M) (md_st M) (md_av M) (md_ip M) (md_tx M) (md_tm M) (md_ta M) (md_td M) (md_wo M) (md_sq M) (md_tk M) (md_bg M) (md_nu M) (md_wr M))) ml_X8_77 (c_X8_rateOf (b := j) (M := (md_th M, nR te ho ow hs ra lo (nI n) st av so ln, md_pt M, md_re M, md_sd M, be1, pb1, nI (min a 11 + 1), md_od M, md_ad M, md_wy M, md_so M, md_rl M, md_io M, md_po M, md_sp M, md_rs M, md_st M, md_av M, md_ip M, md_tx M, md_tm M, md_ta M, md_td M, md_wo M, md_sq M, md_tk M, md_bg M, md_nu M, md_wr M)) (show (xw_up G 21 (pM v (md_th M) (nR te ho ow hs ra lo (nI n) st av so ln) (md_pt M) (md_re M) (md_sd M) be1 pb1 (nI (min a 11 + 1)) (md_od M) (md_ad M) (md_wy M) (md_so M) (md_rl M) (md_io M) (md_po M) (md_sp M) (md_rs M) (md_st M) (md_av M) (md_ip M) (md_tx M) (md_tm M) (md_ta M) (md_td M) (md_wo M) (md_sq M) (md_tk M) (md_bg M) (md_nu M) (md_wr M))) 21 = pM v (md_th M) (nR te ho ow hs ra lo (nI n) st av so ln) (md_pt M) (md_re M) (md_sd M) be1 pb1 (nI (min a 11 + 1)) (md_od M) (md_ad M) (md_wy M) (md_so M) (md_rl M) (md_io M) (md_po M) (md_sp M) (md_rs M) (md_st M) (md_av M) (md_ip M) (md_tx M) (md_tm M) (md_ta M) (md_td M) (md_wo M) (md_sq M) (md_tk M) (md_bg M) (md_nu M) (md_wr M) from xw_up_s) (by omega)) (xw_at xw_up_s rfl) rfl dX8_move_35 ⟨Nat.le_of_ble_eq_true rfl, Nat.le_of_ble_eq_true rfl⟩ rfl (Nat.le_of_ble_eq_true rfl) rfl rfl ?_
        refine xj_istore (i := 4) (ls2 := [some (.ref (xw_ad v 21 0)), some (.int (nI j)), some (.int (nI i)), some (.int (hs j)), some (.int (ra j)), none]) hk dX8_move_38 (by decide) rfl rfl ?_
        refine xj_aload_n (i := 0) hk dX8_move_40 rfl rfl ?_
        refine xj_iload_n (i := 1) hk dX8_move_41 rfl rfl ?_
        refine xj_callV hk hz (fr1 := 0) (lo1 := 0) (r1 := some (.int (lo j))) (As := [.int (nI j)]) (st := []) (st2 := [.int (lo j)]) (G1 := xw_up G 21 (pM v (md_th M) (nR te ho ow hs ra lo (nI n) st av so ln) (md_pt M) (md_re M) (md_sd M) be1 pb1 (nI (min a 11 + 1)) (md_od M) (md_ad M) (md_wy M) (md_so M) (md_rl M) (md_io M) (md_po M) (md_sp M) (md_rs M) (md_st M) (md_av M) (md_ip M) (md_tx M) (md_tm M) (md_ta M) (md_td M) (md_wo M) (md_sq M) (md_tk M) (md_bg M) (md_nu M) (md_wr M))) ml_X8_84 (c_X8_lotsOf (b := j) (M := (md_th M, nR te ho ow hs ra lo (nI n) st av so ln, md_pt M, md_re M, md_sd M, be1, pb1, nI (min a 11 + 1), md_od M, md_ad M, md_wy M, md_so M, md_rl M, md_io M, md_po M, md_sp M, md_rs M, md_st M, md_av M, md_ip M, md_tx M, md_tm M, md_ta M, md_td M, md_wo M, md_sq M, md_tk M, md_bg M, md_nu M, md_wr M)) (show (xw_up G 21 (pM v (md_th M) (nR te ho ow hs ra lo (nI n) st av so ln) (md_pt M) (md_re M) (md_sd M) be1 pb1 (nI (min a 11 + 1)) (md_od M) (md_ad M) (md_wy M) (md_so M) (md_rl M) (md_io M) (md_po M) (md_sp M) (md_rs M) (md_st M) (md_av M) (md_ip M) (md_tx M) (md_tm M) (md_ta M) (md_td M) (md_wo M) (md_sq M) (md_tk M) (md_bg M) (md_nu M) (md_wr M))) 21 = pM v (md_th M) (nR te ho ow hs ra lo (nI n) st av so ln) (md_pt M) (md_re M) (md_sd M) be1 pb1 (nI (min a 11 + 1)) (md_od M) (md_ad M) (md_wy M) (md_so M) (md_rl M) (md_io M) (md_po M) (md_sp M) (md_rs M) (md_st M) (md_av M) (md_ip M) (md_tx M) (md_tm M) (md_ta M) (md_td M) (md_wo M) (md_sq M) (md_tk M) (md_bg M) (md_nu M) (md_wr M) from xw_up_s) (by omega)) (xw_at xw_up_s rfl) rfl dX8_move_42 ⟨Nat.le_of_ble_eq_true rfl, Nat.le_of_ble_eq_true rfl⟩ rfl (Nat.le_of_ble_eq_true rfl) rfl rfl ?_
        refine xj_istore (i := 5) (ls2 := [some (.ref (xw_ad v 21 0)), some (.int (nI j)), some (.int (nI i)), some (.int (hs j)), some (.int (ra j)), some (.int (lo j))]) hk dX8_move_45 (by decide) rfl rfl ?_
        refine xj_aload_n (i := 0) hk dX8_move_47 rfl rfl ?_
        refine xj_iload_n (i := 1) hk dX8_move_48 rfl rfl ?_
        refine xj_callV hk hz (fr1 := 2) (lo1 := 46) (r1 := none) (As := [.int (nI j)]) (st := []) (st2 := []) (G1 := xw_up G 21 (pM v (md_th M) (nR te ho ow (shD j (n - 1) hs) (shD j (n - 1) ra) (shD j (n - 1) lo) (nI (n - 1)) st av so ln) (md_pt M) (md_re M) (md_sd M) be1 pb1 (nI (min a 11 + 1)) (md_od M) (md_ad M) (md_wy M) (md_so M) (md_rl M) (md_io M) (md_po M) (md_sp M) (md_rs M) (md_st M) (md_av M) (md_ip M) (md_tx M) (md_tm M) (md_ta M) (md_td M) (md_wo M) (md_sq M) (md_tk M) (md_bg M) (md_nu M) (md_wr M))) ml_X8_111 (xk_cg (by rw [xw_up_u] <;> rfl) (c_X8_drops (n := n) (a := j) (M := (md_th M, nR te ho ow hs ra lo (nI n) st av so ln, md_pt M, md_re M, md_sd M, be1, pb1, nI (min a 11 + 1), md_od M, md_ad M, md_wy M, md_so M, md_rl M, md_io M, md_po M, md_sp M, md_rs M, md_st M, md_av M, md_ip M, md_tx M, md_tm M, md_ta M, md_td M, md_wo M, md_sq M, md_tk M, md_bg M, md_nu M, md_wr M)) (show (xw_up G 21 (pM v (md_th M) (nR te ho ow hs ra lo (nI n) st av so ln) (md_pt M) (md_re M) (md_sd M) be1 pb1 (nI (min a 11 + 1)) (md_od M) (md_ad M) (md_wy M) (md_so M) (md_rl M) (md_io M) (md_po M) (md_sp M) (md_rs M) (md_st M) (md_av M) (md_ip M) (md_tx M) (md_tm M) (md_ta M) (md_td M) (md_wo M) (md_sq M) (md_tk M) (md_bg M) (md_nu M) (md_wr M))) 21 = pM v (md_th M) (nR te ho ow hs ra lo (nI n) st av so ln) (md_pt M) (md_re M) (md_sd M) be1 pb1 (nI (min a 11 + 1)) (md_od M) (md_ad M) (md_wy M) (md_so M) (md_rl M) (md_io M) (md_po M) (md_sp M) (md_rs M) (md_st M) (md_av M) (md_ip M) (md_tx M) (md_tm M) (md_ta M) (md_td M) (md_wo M) (md_sq M) (md_tk M) (md_bg M) (md_nu M) (md_wr M) from xw_up_s) (by omega) (by omega))) (xw_at xw_up_s rfl) rfl dX8_move_49 ⟨Nat.le_of_ble_eq_true rfl, Nat.le_of_ble_eq_true rfl⟩ rfl (Nat.le_of_ble_eq_true rfl) rfl rfl ?_
        refine xj_aload_n (i := 0) hk dX8_move_52 rfl rfl ?_
        refine xj_iload_n (i := 2) hk dX8_move_53 rfl rfl ?_
        refine xj_callV hk hz (fr1 := 2) (lo1 := 46) (r1 := none) (As := [.int (nI i)]) (st := []) (st2 := []) (G1 := xw_up G 21 (pM v (md_th M) (nR te ho ow (shU i (n - 1) (shD j (n - 1) hs)) (shU i (n - 1) (shD j (n - 1) ra)) (shU i (n - 1) (shD j (n - 1) lo)) (nI (n - 1 + 1)) st av so ln) (md_pt M) (md_re M) (md_sd M) be1 pb1 (nI (min a 11 + 1)) (md_od M) (md_ad M) (md_wy M) (md_so M) (md_rl M) (md_io M) (md_po M) (md_sp M) (md_rs M) (md_st M) (md_av M) (md_ip M) (md_tx M) (md_tm M) (md_ta M) (md_td M) (md_wo M) (md_sq M) (md_tk M) (md_bg M) (md_nu M) (md_wr M))) ml_X8_126 (xk_cg (by rw [xw_up_u] <;> rfl) (c_X8_makesRoom (n := n - 1) (a := i) (M := (md_th M, nR te ho ow (shD j (n - 1) hs) (shD j (n - 1) ra) (shD j (n - 1) lo) (nI (n - 1)) st av so ln, md_pt M, md_re M, md_sd M, be1, pb1, nI (min a 11 + 1), md_od M, md_ad M, md_wy M, md_so M, md_rl M, md_io M, md_po M, md_sp M, md_rs M, md_st M, md_av M, md_ip M, md_tx M, md_tm M, md_ta M, md_td M, md_wo M, md_sq M, md_tk M, md_bg M, md_nu M, md_wr M)) (show (xw_up G 21 (pM v (md_th M) (nR te ho ow (shD j (n - 1) hs) (shD j (n - 1) ra) (shD j (n - 1) lo) (nI (n - 1)) st av so ln) (md_pt M) (md_re M) (md_sd M) be1 pb1 (nI (min a 11 + 1)) (md_od M) (md_ad M) (md_wy M) (md_so M) (md_rl M) (md_io M) (md_po M) (md_sp M) (md_rs M) (md_st M) (md_av M) (md_ip M) (md_tx M) (md_tm M) (md_ta M) (md_td M) (md_wo M) (md_sq M) (md_tk M) (md_bg M) (md_nu M) (md_wr M))) 21 = pM v (md_th M) (nR te ho ow (shD j (n - 1) hs) (shD j (n - 1) ra) (shD j (n - 1) lo) (nI (n - 1)) st av so ln) (md_pt M) (md_re M) (md_sd M) be1 pb1 (nI (min a 11 + 1)) (md_od M) (md_ad M) (md_wy M) (md_so M) (md_rl M) (md_io M) (md_po M) (md_sp M) (md_rs M) (md_st M) (md_av M) (md_ip M) (md_tx M) (md_tm M) (md_ta M) (md_td M) (md_wo M) (md_sq M) (md_tk M) (md_bg M) (md_nu M) (md_wr M) from xw_up_s) (by omega) (by omega))) (xw_at xw_up_s rfl) rfl dX8_move_54 ⟨Nat.le_of_ble_eq_true rfl, Nat.le_of_ble_eq_true rfl⟩ rfl (Nat.le_of_ble_eq_true rfl) rfl rfl ?_
        refine xj_aload_n (i := 0) hk dX8_move_57 rfl rfl ?_
        refine xj_iload_n (i := 2) hk dX8_move_58 rfl rfl ?_
        refine xj_iload_n (i := 3) hk dX8_move_59 rfl rfl ?_
        refine xj_iload hk dX8_move_60 rfl ?_
        refine xj_iload hk dX8_move_62 rfl ?_
        refine xj_callV hk hz (fr1 := 0) (lo1 := 0) (r1 := none) (As := [.int (nI i), .int (hs j), .int (ra j), .int (lo j)]) (st := []) (st2 := []) (G1 := xw_up G 21 (pM v (md_th M) (nR te ho ow (xu (shU i (n - 1) (shD j (n - 1) hs)) i (hs j)) (xu (shU i (n - 1) (shD j (n - 1) ra)) i (ra j)) (xu (shU i (n - 1) (shD j (n - 1) lo)) i (lo j)) (nI (n - 1 + 1)) st av so ln) (md_pt M) (md_re M) (md_sd M) be1 pb1 (nI (min a 11 + 1)) (md_od M) (md_ad M) (md_wy M) (md_so M) (md_rl M) (md_io M) (md_po M) (md_sp M) (md_rs M) (md_st M) (md_av M) (md_ip M) (md_tx M) (md_tm M) (md_ta M) (md_td M) (md_wo M) (md_sq M) (md_tk M) (md_bg M) (md_nu M) (md_wr M))) ml_X8_87 (xk_cg (by rw [xw_up_u] <;> rfl) (c_X8_lays (b := i) (M := (md_th M, nR te ho ow (shU i (n - 1) (shD j (n - 1) hs)) (shU i (n - 1) (shD j (n - 1) ra)) (shU i (n - 1) (shD j (n - 1) lo)) (nI (n - 1 + 1)) st av so ln, md_pt M, md_re M, md_sd M, be1, pb1, nI (min a 11 + 1), md_od M, md_ad M, md_wy M, md_so M, md_rl M, md_io M, md_po M, md_sp M, md_rs M, md_st M, md_av M, md_ip M, md_tx M, md_tm M, md_ta M, md_td M, md_wo M, md_sq M, md_tk M, md_bg M, md_nu M, md_wr M)) (show (xw_up G 21 (pM v (md_th M) (nR te ho ow (shU i (n - 1) (shD j (n - 1) hs)) (shU i (n - 1) (shD j (n - 1) ra)) (shU i (n - 1) (shD j (n - 1) lo)) (nI (n - 1 + 1)) st av so ln) (md_pt M) (md_re M) (md_sd M) be1 pb1 (nI (min a 11 + 1)) (md_od M) (md_ad M) (md_wy M) (md_so M) (md_rl M) (md_io M) (md_po M) (md_sp M) (md_rs M) (md_st M) (md_av M) (md_ip M) (md_tx M) (md_tm M) (md_ta M) (md_td M) (md_wo M) (md_sq M) (md_tk M) (md_bg M) (md_nu M) (md_wr M))) 21 = pM v (md_th M) (nR te ho ow (shU i (n - 1) (shD j (n - 1) hs)) (shU i (n - 1) (shD j (n - 1) ra)) (shU i (n - 1) (shD j (n - 1) lo)) (nI (n - 1 + 1)) st av so ln) (md_pt M) (md_re M) (md_sd M) be1 pb1 (nI (min a 11 + 1)) (md_od M) (md_ad M) (md_wy M) (md_so M) (md_rl M) (md_io M) (md_po M) (md_sp M) (md_rs M) (md_st M) (md_av M) (md_ip M) (md_tx M) (md_tm M) (md_ta M) (md_td M) (md_wo M) (md_sq M) (md_tk M) (md_bg M) (md_nu M) (md_wr M) from xw_up_s) (by omega) (hs j) (ra j) (lo j))) (xw_at xw_up_s rfl) rfl dX8_move_64 ⟨Nat.le_of_ble_eq_true rfl, Nat.le_of_ble_eq_true rfl⟩ rfl (Nat.le_of_ble_eq_true rfl) rfl rfl ?_
        refine xj_iconst (x := 1) hk dX8_move_67 (by decide) ?_
        refine xj_zreturn hk hz dX8_move_68 (by decide) ?_
        refine Or.inl ⟨?_, be1, pb1, hKP, ?_, ?_⟩
        · first | (simp [mcMove, c5, xn_nI (show j < 2 ^ 31 by omega), c13, xn_nI (show i < 2 ^ 31 by omega), c18]; done) | contradiction
        · first | rfl | (simp only [xn_nI (show j < 2 ^ 31 by omega), xn_nI (show i < 2 ^ 31 by omega)]; done) | (simp only [xn_nI (show j < 2 ^ 31 by omega), xn_nI (show i < 2 ^ 31 by omega)]; rfl)
        · first | rfl | (simp only [xn_nI (show j < 2 ^ 31 by omega), xn_nI (show i < 2 ^ 31 by omega)]; done) | (simp only [xn_nI (show j < 2 ^ 31 by omega), xn_nI (show i < 2 ^ 31 by omega)]; rfl)
      · refine xj_iconst (x := 0) hk dX8_move_21 (by decide) ?_
        refine xj_zreturn hk hz dX8_move_22 (by decide) ?_
        exact Or.inr ⟨by simp [mcMove, c5, xn_nI (show j < 2 ^ 31 by omega), c13, xn_nI (show i < 2 ^ 31 by omega), c18], rfl, rfl⟩

set_option maxHeartbeats 1000000 in
set_option maxRecDepth 10000 in
theorem c_X8_split {v : xw_V} {G : xw_G} {M : md_T} {te ho ow hs ra lo st av so : Nat → Int32} {ln : Int32} {n a : Nat} (hM : G 21 = pM v (md_th M) (nR te ho ow hs ra lo (nI n) st av so ln) (md_pt M) (md_re M) (md_sd M) (md_be M) (md_pb M) (md_ac M) (md_od M) (md_ad M) (md_wy M) (md_so M) (md_rl M) (md_io M) (md_po M) (md_sp M) (md_rs M) (md_st M) (md_av M) (md_ip M) (md_tx M) (md_tm M) (md_ta M) (md_td M) (md_wo M) (md_sq M) (md_tk M) (md_bg M) (md_nu M) (md_wr M)) (hn30 : n ≤ 30) (hac : md_ac M = nI a) (ha12 : a ≤ 12) (b : Int32) (q : Int32) : xk_Con v yX8_split cX8_split 4 (some .boolean) 3 68 [.ref (xw_ad v 21 0), .int b, .int q] G (fun r9 G' => (mcSplit n lo b q = true ∧ ∃ (be1 : Nat → Int32) (pb1 : Nat → Int64), KP a (nR te ho ow hs ra lo (nI n) st av so ln) (md_be M) (md_pt M) (md_pb M) be1 pb1 ∧ r9 = some (.int 1) ∧ G' = xw_up G 21 (pM v (md_th M) (nR te ho ow (xu (xu (shU (xn b + 1) n hs) (xn b + 1) (shU (xn b + 1) n hs (xn b))) (xn b) (xu (shU (xn b + 1) n hs) (xn b + 1) (shU (xn b + 1) n hs (xn b)) (xn b))) (xu (xu (shU (xn b + 1) n ra) (xn b + 1) (shU (xn b + 1) n ra (xn b))) (xn b) (xu (shU (xn b + 1) n ra) (xn b + 1) (shU (xn b + 1) n ra (xn b)) (xn b))) (xu (xu (shU (xn b + 1) n lo) (xn b + 1) (lo (xn b) - q)) (xn b) q) (nI (n + 1)) st av so ln) (md_pt M) (md_re M) (md_sd M) be1 pb1 (nI (min a 11 + 1)) (md_od M) (md_ad M) (md_wy M) (md_so M) (md_rl M) (md_io M) (md_po M) (md_sp M) (md_rs M) (md_st M) (md_av M) (md_ip M) (md_tx M) (md_tm M) (md_ta M) (md_td M) (md_wo M) (md_sq M) (md_tk M) (md_bg M) (md_nu M) (md_wr M))) ∨ (mcSplit n lo b q = false ∧ r9 = some (.int 0) ∧ G' = G)) := by
  refine xk_of (ls0 := [some (.ref (xw_ad v 21 0)), some (.int b), some (.int q), none]) (by decide) rfl (Nat.le_of_ble_eq_true rfl) ?_
  intro κ z hk hz
  refine xj_aload_n (i := 0) hk dX8_split_0 rfl rfl ?_
  refine xj_iload_n (i := 1) hk dX8_split_1 rfl rfl ?_
  refine xj_callV hk hz (fr1 := 1) (lo1 := 22) (r1 := some (.int (xb (mIn b 0 ((nI n) - 1))))) (As := [.int b]) (st := []) (st2 := [.int (xb (mIn b 0 ((nI n) - 1)))]) (G1 := G) ml_X8_108 (c_X8_isBid (M := M) (show G 21 = pM v (md_th M) (nR te ho ow hs ra lo (nI n) st av so ln) (md_pt M) (md_re M) (md_sd M) (md_be M) (md_pb M) (md_ac M) (md_od M) (md_ad M) (md_wy M) (md_so M) (md_rl M) (md_io M) (md_po M) (md_sp M) (md_rs M) (md_st M) (md_av M) (md_ip M) (md_tx M) (md_tm M) (md_ta M) (md_td M) (md_wo M) (md_sq M) (md_tk M) (md_bg M) (md_nu M) (md_wr M) from hM) b) (xw_at hM rfl) rfl dX8_split_2 ⟨Nat.le_of_ble_eq_true rfl, Nat.le_of_ble_eq_true rfl⟩ rfl (Nat.le_of_ble_eq_true rfl) rfl rfl ?_
  refine xj_ifb_eq (tgt := 32) hk dX8_split_5 (by decide) (fun c5 => ?_) (fun c5 => ?_)
  · refine xj_iconst (x := 0) hk dX8_split_32 (by decide) ?_
    refine xj_zreturn hk hz dX8_split_33 (by decide) ?_
    exact Or.inr ⟨by simp [mcSplit, c5], rfl, rfl⟩
  · obtain ⟨j, hj_j, rfl⟩ := hasB_of (n := n) rfl hn30 (by rw [← mIn_bid hn30]; exact c5)
    refine xj_aload_n (i := 0) hk dX8_split_8 rfl rfl ?_
    refine xj_callV hk hz (fr1 := 0) (lo1 := 0) (r1 := some (.int (nI n))) (As := []) (st := []) (st2 := [.int (nI n)]) (G1 := G) ml_X8_73 (c_X8_many (M := M) (show G 21 = pM v (md_th M) (nR te ho ow hs ra lo (nI n) st av so ln) (md_pt M) (md_re M) (md_sd M) (md_be M) (md_pb M) (md_ac M) (md_od M) (md_ad M) (md_wy M) (md_so M) (md_rl M) (md_io M) (md_po M) (md_sp M) (md_rs M) (md_st M) (md_av M) (md_ip M) (md_tx M) (md_tm M) (md_ta M) (md_td M) (md_wo M) (md_sq M) (md_tk M) (md_bg M) (md_nu M) (md_wr M) from hM)) (xw_at hM rfl) rfl dX8_split_9 ⟨Nat.le_of_ble_eq_true rfl, Nat.le_of_ble_eq_true rfl⟩ rfl (Nat.le_of_ble_eq_true rfl) rfl rfl ?_
    refine xj_bipush (x := 30) hk dX8_split_12 (by decide) ?_
    refine xj_icmp_eq (tgt := 32) hk dX8_split_14 (by decide) (fun c14 => ?_) (fun c14 => ?_)
    · have c14 : n = 30 := (nI_eq (a := n) (b := 30) (by omega) (by omega)).mp c14
      refine xj_iconst (x := 0) hk dX8_split_32 (by decide) ?_
      refine xj_zreturn hk hz dX8_split_33 (by decide) ?_
      exact Or.inr ⟨by simp [mcSplit, c5, xn_nI (show j < 2 ^ 31 by omega), c14], rfl, rfl⟩
    · have c14 : ¬ n = 30 := fun q => c14 ((nI_eq (a := n) (b := 30) (by omega) (by omega)).mpr q)
      refine xj_iload_n (i := 2) hk dX8_split_17 rfl rfl ?_
      refine xj_iconst (x := 1) hk dX8_split_18 (by decide) ?_
      refine xj_aload_n (i := 0) hk dX8_split_19 rfl rfl ?_
      refine xj_iload_n (i := 1) hk dX8_split_20 rfl rfl ?_
      refine xj_callV hk hz (fr1 := 0) (lo1 := 0) (r1 := some (.int (lo j))) (As := [.int (nI j)]) (st := [.int 1, .int q]) (st2 := [.int (lo j), .int 1, .int q]) (G1 := G) ml_X8_84 (c_X8_lotsOf (b := j) (M := M) (show G 21 = pM v (md_th M) (nR te ho ow hs ra lo (nI n) st av so ln) (md_pt M) (md_re M) (md_sd M) (md_be M) (md_pb M) (md_ac M) (md_od M) (md_ad M) (md_wy M) (md_so M) (md_rl M) (md_io M) (md_po M) (md_sp M) (md_rs M) (md_st M) (md_av M) (md_ip M) (md_tx M) (md_tm M) (md_ta M) (md_td M) (md_wo M) (md_sq M) (md_tk M) (md_bg M) (md_nu M) (md_wr M) from hM) (by omega)) (xw_at hM rfl) rfl dX8_split_21 ⟨Nat.le_of_ble_eq_true rfl, Nat.le_of_ble_eq_true rfl⟩ rfl (Nat.le_of_ble_eq_true rfl) rfl rfl ?_
      refine xj_iconst (x := 1) hk dX8_split_24 (by decide) ?_
      refine xj_isub hk dX8_split_25 ?_
      refine xj_callS hk hz (fr1 := 0) (lo1 := 0) (r1 := some (.int (xb (mIn q 1 ((lo j) - 1))))) (As := [.int q, .int 1, .int ((lo j) - 1)]) (st := []) (st2 := [.int (xb (mIn q 1 ((lo j) - 1)))]) (G1 := G) ml_X8_69 (c_X8_in q 1 ((lo j) - 1)) dX8_split_26 ⟨Nat.le_of_ble_eq_true rfl, Nat.le_of_ble_eq_true rfl⟩ rfl (Nat.le_of_ble_eq_true rfl) rfl rfl ?_
      refine xj_ifb_ne (tgt := 34) hk dX8_split_29 (by decide) (fun c29 => ?_) (fun c29 => ?_)
      · refine xj_aload_n (i := 0) hk dX8_split_34 rfl rfl ?_
        refine xj_callVE hk hz (fr1 := 0) (lo1 := 0) (As := []) (st := []) ml_X8_105 (c_X8_keeps (a := a) (M := (md_th M, nR te ho ow hs ra lo (nI n) st av so ln, md_pt M, md_re M, md_sd M, md_be M, md_pb M, md_ac M, md_od M, md_ad M, md_wy M, md_so M, md_rl M, md_io M, md_po M, md_sp M, md_rs M, md_st M, md_av M, md_ip M, md_tx M, md_tm M, md_ta M, md_td M, md_wo M, md_sq M, md_tk M, md_bg M, md_nu M, md_wr M)) (show G 21 = pM v (md_th M) (nR te ho ow hs ra lo (nI n) st av so ln) (md_pt M) (md_re M) (md_sd M) (md_be M) (md_pb M) (md_ac M) (md_od M) (md_ad M) (md_wy M) (md_so M) (md_rl M) (md_io M) (md_po M) (md_sp M) (md_rs M) (md_st M) (md_av M) (md_ip M) (md_tx M) (md_tm M) (md_ta M) (md_td M) (md_wo M) (md_sq M) (md_tk M) (md_bg M) (md_nu M) (md_wr M) from hM) hac ha12) (xw_at hM rfl) rfl dX8_split_35 ⟨Nat.le_of_ble_eq_true rfl, Nat.le_of_ble_eq_true rfl⟩ rfl (Nat.le_of_ble_eq_true rfl) rfl ?_
        rintro _ _ ⟨rfl, be1, pb1, hKP, rfl⟩
        have hKP : KP a (nR te ho ow hs ra lo (nI n) st av so ln) (md_be M) (md_pt M) (md_pb M) be1 pb1 := hKP
        show xj v κ _ z (xw_up G 21 (pM v (md_th M) (nR te ho ow hs ra lo (nI n) st av so ln) (md_pt M) (md_re M) (md_sd M) be1 pb1 (nI (min a 11 + 1)) (md_od M) (md_ad M) (md_wy M) (md_so M) (md_rl M) (md_io M) (md_po M) (md_sp M) (md_rs M) (md_st M) (md_av M) (md_ip M) (md_tx M) (md_tm M) (md_ta M) (md_td M) (md_wo M) (md_sq M) (md_tk M) (md_bg M) (md_nu M) (md_wr M))) 38 _ []
        refine xj_aload_n (i := 0) hk dX8_split_38 rfl rfl ?_
        refine xj_iload_n (i := 1) hk dX8_split_39 rfl rfl ?_
        refine xj_callV hk hz (fr1 := 0) (lo1 := 0) (r1 := some (.int (lo j))) (As := [.int (nI j)]) (st := []) (st2 := [.int (lo j)]) (G1 := xw_up G 21 (pM v (md_th M) (nR te ho ow hs ra lo (nI n) st av so ln) (md_pt M) (md_re M) (md_sd M) be1 pb1 (nI (min a 11 + 1)) (md_od M) (md_ad M) (md_wy M) (md_so M) (md_rl M) (md_io M) (md_po M) (md_sp M) (md_rs M) (md_st M) (md_av M) (md_ip M) (md_tx M) (md_tm M) (md_ta M) (md_td M) (md_wo M) (md_sq M) (md_tk M) (md_bg M) (md_nu M) (md_wr M))) ml_X8_84 (c_X8_lotsOf (b := j) (M := (md_th M, nR te ho ow hs ra lo (nI n) st av so ln, md_pt M, md_re M, md_sd M, be1, pb1, nI (min a 11 + 1), md_od M, md_ad M, md_wy M, md_so M, md_rl M, md_io M, md_po M, md_sp M, md_rs M, md_st M, md_av M, md_ip M, md_tx M, md_tm M, md_ta M, md_td M, md_wo M, md_sq M, md_tk M, md_bg M, md_nu M, md_wr M)) (show (xw_up G 21 (pM v (md_th M) (nR te ho ow hs ra lo (nI n) st av so ln) (md_pt M) (md_re M) (md_sd M) be1 pb1 (nI (min a 11 + 1)) (md_od M) (md_ad M) (md_wy M) (md_so M) (md_rl M) (md_io M) (md_po M) (md_sp M) (md_rs M) (md_st M) (md_av M) (md_ip M) (md_tx M) (md_tm M) (md_ta M) (md_td M) (md_wo M) (md_sq M) (md_tk M) (md_bg M) (md_nu M) (md_wr M))) 21 = pM v (md_th M) (nR te ho ow hs ra lo (nI n) st av so ln) (md_pt M) (md_re M) (md_sd M) be1 pb1 (nI (min a 11 + 1)) (md_od M) (md_ad M) (md_wy M) (md_so M) (md_rl M) (md_io M) (md_po M) (md_sp M) (md_rs M) (md_st M) (md_av M) (md_ip M) (md_tx M) (md_tm M) (md_ta M) (md_td M) (md_wo M) (md_sq M) (md_tk M) (md_bg M) (md_nu M) (md_wr M) from xw_up_s) (by omega)) (xw_at xw_up_s rfl) rfl dX8_split_40 ⟨Nat.le_of_ble_eq_true rfl, Nat.le_of_ble_eq_true rfl⟩ rfl (Nat.le_of_ble_eq_true rfl) rfl rfl ?_
        refine xj_iload_n (i := 2) hk dX8_split_43 rfl rfl ?_
        refine xj_isub hk dX8_split_44 ?_
        refine xj_istore_n (i := 3) (ls2 := [some (.ref (xw_ad v 21 0)), some (.int (nI j)), some (.int q), some (.int ((lo j) - q))]) hk dX8_split_45 rfl (by decide) rfl rfl ?_
        refine xj_aload_n (i := 0) hk dX8_split_46 rfl rfl ?_
        refine xj_iload_n (i := 1) hk dX8_split_47 rfl rfl ?_
        refine xj_iconst (x := 1) hk dX8_split_48 (by decide) ?_
        refine xj_iadd hk dX8_split_49 ?_
        refine xj.eqi (x' := nI (j + 1)) (nI_add j 1) ?_
        refine xj_callV hk hz (fr1 := 2) (lo1 := 46) (r1 := none) (As := [.int (nI (j + 1))]) (st := []) (st2 := []) (G1 := xw_up G 21 (pM v (md_th M) (nR te ho ow (shU (j + 1) n hs) (shU (j + 1) n ra) (shU (j + 1) n lo) (nI (n + 1)) st av so ln) (md_pt M) (md_re M) (md_sd M) be1 pb1 (nI (min a 11 + 1)) (md_od M) (md_ad M) (md_wy M) (md_so M) (md_rl M) (md_io M) (md_po M) (md_sp M) (md_rs M) (md_st M) (md_av M) (md_ip M) (md_tx M) (md_tm M) (md_ta M) (md_td M) (md_wo M) (md_sq M) (md_tk M) (md_bg M) (md_nu M) (md_wr M))) ml_X8_126 (xk_cg (by rw [xw_up_u] <;> rfl) (c_X8_makesRoom (n := n) (a := j + 1) (M := (md_th M, nR te ho ow hs ra lo (nI n) st av so ln, md_pt M, md_re M, md_sd M, be1, pb1, nI (min a 11 + 1), md_od M, md_ad M, md_wy M, md_so M, md_rl M, md_io M, md_po M, md_sp M, md_rs M, md_st M, md_av M, md_ip M, md_tx M, md_tm M, md_ta M, md_td M, md_wo M, md_sq M, md_tk M, md_bg M, md_nu M, md_wr M)) (show (xw_up G 21 (pM v (md_th M) (nR te ho ow hs ra lo (nI n) st av so ln) (md_pt M) (md_re M) (md_sd M) be1 pb1 (nI (min a 11 + 1)) (md_od M) (md_ad M) (md_wy M) (md_so M) (md_rl M) (md_io M) (md_po M) (md_sp M) (md_rs M) (md_st M) (md_av M) (md_ip M) (md_tx M) (md_tm M) (md_ta M) (md_td M) (md_wo M) (md_sq M) (md_tk M) (md_bg M) (md_nu M) (md_wr M))) 21 = pM v (md_th M) (nR te ho ow hs ra lo (nI n) st av so ln) (md_pt M) (md_re M) (md_sd M) be1 pb1 (nI (min a 11 + 1)) (md_od M) (md_ad M) (md_wy M) (md_so M) (md_rl M) (md_io M) (md_po M) (md_sp M) (md_rs M) (md_st M) (md_av M) (md_ip M) (md_tx M) (md_tm M) (md_ta M) (md_td M) (md_wo M) (md_sq M) (md_tk M) (md_bg M) (md_nu M) (md_wr M) from xw_up_s) (by omega) (by omega))) (xw_at xw_up_s rfl) rfl dX8_split_50 ⟨Nat.le_of_ble_eq_true rfl, Nat.le_of_ble_eq_true rfl⟩ rfl (Nat.le_of_ble_eq_true rfl) rfl rfl ?_
        refine xj_aload_n (i := 0) hk dX8_split_53 rfl rfl ?_
        refine xj_iload_n (i := 1) hk dX8_split_54 rfl rfl ?_
        refine xj_iconst (x := 1) hk dX8_split_55 (by decide) ?_
        refine xj_iadd hk dX8_split_56 ?_
        refine xj.eqi (x' := nI (j + 1)) (nI_add j 1) ?_
        refine xj_aload_n (i := 0) hk dX8_split_57 rfl rfl ?_
        refine xj_iload_n (i := 1) hk dX8_split_58 rfl rfl ?_
        refine xj_callV hk hz (fr1 := 0) (lo1 := 0) (r1 := some (.int ((shU (j + 1) n hs) j))) (As := [.int (nI j)]) (st := [.int (nI (j + 1)), .ref (xw_ad v 21 0)]) (st2 := [.int ((shU (j + 1) n hs) j), .int (nI (j + 1)), .ref (xw_ad v 21 0)]) (G1 := xw_up G 21 (pM v (md_th M) (nR te ho ow (shU (j + 1) n hs) (shU (j + 1) n ra) (shU (j + 1) n lo) (nI (n + 1)) st av so ln) (md_pt M) (md_re M) (md_sd M) be1 pb1 (nI (min a 11 + 1)) (md_od M) (md_ad M) (md_wy M) (md_so M) (md_rl M) (md_io M) (md_po M) (md_sp M) (md_rs M) (md_st M) (md_av M) (md_ip M) (md_tx M) (md_tm M) (md_ta M) (md_td M) (md_wo M) (md_sq M) (md_tk M) (md_bg M) (md_nu M) (md_wr M))) ml_X8_81 (c_X8_houseOf (b := j) (M := (md_th M, nR te ho ow (shU (j + 1) n hs) (shU (j + 1) n ra) (shU (j + 1) n lo) (nI (n + 1)) st av so ln, md_pt M, md_re M, md_sd M, be1, pb1, nI (min a 11 + 1), md_od M, md_ad M, md_wy M, md_so M, md_rl M, md_io M, md_po M, md_sp M, md_rs M, md_st M, md_av M, md_ip M, md_tx M, md_tm M, md_ta M, md_td M, md_wo M, md_sq M, md_tk M, md_bg M, md_nu M, md_wr M)) (show (xw_up G 21 (pM v (md_th M) (nR te ho ow (shU (j + 1) n hs) (shU (j + 1) n ra) (shU (j + 1) n lo) (nI (n + 1)) st av so ln) (md_pt M) (md_re M) (md_sd M) be1 pb1 (nI (min a 11 + 1)) (md_od M) (md_ad M) (md_wy M) (md_so M) (md_rl M) (md_io M) (md_po M) (md_sp M) (md_rs M) (md_st M) (md_av M) (md_ip M) (md_tx M) (md_tm M) (md_ta M) (md_td M) (md_wo M) (md_sq M) (md_tk M) (md_bg M) (md_nu M) (md_wr M))) 21 = pM v (md_th M) (nR te ho ow (shU (j + 1) n hs) (shU (j + 1) n ra) (shU (j + 1) n lo) (nI (n + 1)) st av so ln) (md_pt M) (md_re M) (md_sd M) be1 pb1 (nI (min a 11 + 1)) (md_od M) (md_ad M) (md_wy M) (md_so M) (md_rl M) (md_io M) (md_po M) (md_sp M) (md_rs M) (md_st M) (md_av M) (md_ip M) (md_tx M) (md_tm M) (md_ta M) (md_td M) (md_wo M) (md_sq M) (md_tk M) (md_bg M) (md_nu M) (md_wr M) from xw_up_s) (by omega)) (xw_at xw_up_s rfl) rfl dX8_split_59 ⟨Nat.le_of_ble_eq_true rfl, Nat.le_of_ble_eq_true rfl⟩ rfl (Nat.le_of_ble_eq_true rfl) rfl rfl ?_
        refine xj_aload_n (i := 0) hk dX8_split_62 rfl rfl ?_
        refine xj_iload_n (i := 1) hk dX8_split_63 rfl rfl ?_
        refine xj_callV hk hz (fr1 := 0) (lo1 := 0) (r1 := some (.int ((shU (j + 1) n ra) j))) (As := [.int (nI j)]) (st := [.int ((shU (j + 1) n hs) j), .int (nI (j + 1)), .ref (xw_ad v 21 0)]) (st2 := [.int ((shU (j + 1) n ra) j), .int ((shU (j + 1) n hs) j), .int (nI (j + 1)), .ref (xw_ad v 21 0)]) (G1 := xw_up G 21 (pM v (md_th M) (nR te ho ow (shU (j + 1) n hs) (shU (j + 1) n ra) (shU (j + 1) n lo) (nI (n + 1)) st av so ln) (md_pt M) (md_re M) (md_sd M) be1 pb1 (nI (min a 11 + 1)) (md_od M) (md_ad M) (md_wy M) (md_so M) (md_rl M) (md_io M) (md_po M) (md_sp M) (md_rs M) (md_st M) (md_av M) (md_ip M) (md_tx M) (md_tm M) (md_ta M) (md_td M) (md_wo M) (md_sq M) (md_tk M) (md_bg M) (md_nu M) (md_wr M))) ml_X8_77 (c_X8_rateOf (b := j) (M := (md_th M, nR te ho ow (shU (j + 1) n hs) (shU (j + 1) n ra) (shU (j + 1) n lo) (nI (n + 1)) st av so ln, md_pt M, md_re M, md_sd M, be1, pb1, nI (min a 11 + 1), md_od M, md_ad M, md_wy M, md_so M, md_rl M, md_io M, md_po M, md_sp M, md_rs M, md_st M, md_av M, md_ip M, md_tx M, md_tm M, md_ta M, md_td M, md_wo M, md_sq M, md_tk M, md_bg M, md_nu M, md_wr M)) (show (xw_up G 21 (pM v (md_th M) (nR te ho ow (shU (j + 1) n hs) (shU (j + 1) n ra) (shU (j + 1) n lo) (nI (n + 1)) st av so ln) (md_pt M) (md_re M) (md_sd M) be1 pb1 (nI (min a 11 + 1)) (md_od M) (md_ad M) (md_wy M) (md_so M) (md_rl M) (md_io M) (md_po M) (md_sp M) (md_rs M) (md_st M) (md_av M) (md_ip M) (md_tx M) (md_tm M) (md_ta M) (md_td M) (md_wo M) (md_sq M) (md_tk M) (md_bg M) (md_nu M) (md_wr M))) 21 = pM v (md_th M) (nR te ho ow (shU (j + 1) n hs) (shU (j + 1) n ra) (shU (j + 1) n lo) (nI (n + 1)) st av so ln) (md_pt M) (md_re M) (md_sd M) be1 pb1 (nI (min a 11 + 1)) (md_od M) (md_ad M) (md_wy M) (md_so M) (md_rl M) (md_io M) (md_po M) (md_sp M) (md_rs M) (md_st M) (md_av M) (md_ip M) (md_tx M) (md_tm M) (md_ta M) (md_td M) (md_wo M) (md_sq M) (md_tk M) (md_bg M) (md_nu M) (md_wr M) from xw_up_s) (by omega)) (xw_at xw_up_s rfl) rfl dX8_split_64 ⟨Nat.le_of_ble_eq_true rfl, Nat.le_of_ble_eq_true rfl⟩ rfl (Nat.le_of_ble_eq_true rfl) rfl rfl ?_
        refine xj_iload_n (i := 3) hk dX8_split_67 rfl rfl ?_
        refine xj_callV hk hz (fr1 := 0) (lo1 := 0) (r1 := none) (As := [.int (nI (j + 1)), .int ((shU (j + 1) n hs) j), .int ((shU (j + 1) n ra) j), .int ((lo j) - q)]) (st := []) (st2 := []) (G1 := xw_up G 21 (pM v (md_th M) (nR te ho ow (xu (shU (j + 1) n hs) (j + 1) ((shU (j + 1) n hs) j)) (xu (shU (j + 1) n ra) (j + 1) ((shU (j + 1) n ra) j)) (xu (shU (j + 1) n lo) (j + 1) ((lo j) - q)) (nI (n + 1)) st av so ln) (md_pt M) (md_re M) (md_sd M) be1 pb1 (nI (min a 11 + 1)) (md_od M) (md_ad M) (md_wy M) (md_so M) (md_rl M) (md_io M) (md_po M) (md_sp M) (md_rs M) (md_st M) (md_av M) (md_ip M) (md_tx M) (md_tm M) (md_ta M) (md_td M) (md_wo M) (md_sq M) (md_tk M) (md_bg M) (md_nu M) (md_wr M))) ml_X8_87 (xk_cg (by rw [xw_up_u] <;> rfl) (c_X8_lays (b := j + 1) (M := (md_th M, nR te ho ow (shU (j + 1) n hs) (shU (j + 1) n ra) (shU (j + 1) n lo) (nI (n + 1)) st av so ln, md_pt M, md_re M, md_sd M, be1, pb1, nI (min a 11 + 1), md_od M, md_ad M, md_wy M, md_so M, md_rl M, md_io M, md_po M, md_sp M, md_rs M, md_st M, md_av M, md_ip M, md_tx M, md_tm M, md_ta M, md_td M, md_wo M, md_sq M, md_tk M, md_bg M, md_nu M, md_wr M)) (show (xw_up G 21 (pM v (md_th M) (nR te ho ow (shU (j + 1) n hs) (shU (j + 1) n ra) (shU (j + 1) n lo) (nI (n + 1)) st av so ln) (md_pt M) (md_re M) (md_sd M) be1 pb1 (nI (min a 11 + 1)) (md_od M) (md_ad M) (md_wy M) (md_so M) (md_rl M) (md_io M) (md_po M) (md_sp M) (md_rs M) (md_st M) (md_av M) (md_ip M) (md_tx M) (md_tm M) (md_ta M) (md_td M) (md_wo M) (md_sq M) (md_tk M) (md_bg M) (md_nu M) (md_wr M))) 21 = pM v (md_th M) (nR te ho ow (shU (j + 1) n hs) (shU (j + 1) n ra) (shU (j + 1) n lo) (nI (n + 1)) st av so ln) (md_pt M) (md_re M) (md_sd M) be1 pb1 (nI (min a 11 + 1)) (md_od M) (md_ad M) (md_wy M) (md_so M) (md_rl M) (md_io M) (md_po M) (md_sp M) (md_rs M) (md_st M) (md_av M) (md_ip M) (md_tx M) (md_tm M) (md_ta M) (md_td M) (md_wo M) (md_sq M) (md_tk M) (md_bg M) (md_nu M) (md_wr M) from xw_up_s) (by omega) ((shU (j + 1) n hs) j) ((shU (j + 1) n ra) j) ((lo j) - q))) (xw_at xw_up_s rfl) rfl dX8_split_68 ⟨Nat.le_of_ble_eq_true rfl, Nat.le_of_ble_eq_true rfl⟩ rfl (Nat.le_of_ble_eq_true rfl) rfl rfl ?_
        refine xj_aload_n (i := 0) hk dX8_split_71 rfl rfl ?_
        refine xj_iload_n (i := 1) hk dX8_split_72 rfl rfl ?_
        refine xj_aload_n (i := 0) hk dX8_split_73 rfl rfl ?_
        refine xj_iload_n (i := 1) hk dX8_split_74 rfl rfl ?_
        refine xj_callV hk hz (fr1 := 0) (lo1 := 0) (r1 := some (.int ((xu (shU (j + 1) n hs) (j + 1) ((shU (j + 1) n hs) j)) j))) (As := [.int (nI j)]) (st := [.int (nI j), .ref (xw_ad v 21 0)]) (st2 := [.int ((xu (shU (j + 1) n hs) (j + 1) ((shU (j + 1) n hs) j)) j), .int (nI j), .ref (xw_ad v 21 0)]) (G1 := xw_up G 21 (pM v (md_th M) (nR te ho ow (xu (shU (j + 1) n hs) (j + 1) ((shU (j + 1) n hs) j)) (xu (shU (j + 1) n ra) (j + 1) ((shU (j + 1) n ra) j)) (xu (shU (j + 1) n lo) (j + 1) ((lo j) - q)) (nI (n + 1)) st av so ln) (md_pt M) (md_re M) (md_sd M) be1 pb1 (nI (min a 11 + 1)) (md_od M) (md_ad M) (md_wy M) (md_so M) (md_rl M) (md_io M) (md_po M) (md_sp M) (md_rs M) (md_st M) (md_av M) (md_ip M) (md_tx M) (md_tm M) (md_ta M) (md_td M) (md_wo M) (md_sq M) (md_tk M) (md_bg M) (md_nu M) (md_wr M))) ml_X8_81 (c_X8_houseOf (b := j) (M := (md_th M, nR te ho ow (xu (shU (j + 1) n hs) (j + 1) ((shU (j + 1) n hs) j)) (xu (shU (j + 1) n ra) (j + 1) ((shU (j + 1) n ra) j)) (xu (shU (j + 1) n lo) (j + 1) ((lo j) - q)) (nI (n + 1)) st av so ln, md_pt M, md_re M, md_sd M, be1, pb1, nI (min a 11 + 1), md_od M, md_ad M, md_wy M, md_so M, md_rl M, md_io M, md_po M, md_sp M, md_rs M, md_st M, md_av M, md_ip M, md_tx M, md_tm M, md_ta M, md_td M, md_wo M, md_sq M, md_tk M, md_bg M, md_nu M, md_wr M)) (show (xw_up G 21 (pM v (md_th M) (nR te ho ow (xu (shU (j + 1) n hs) (j + 1) ((shU (j + 1) n hs) j)) (xu (shU (j + 1) n ra) (j + 1) ((shU (j + 1) n ra) j)) (xu (shU (j + 1) n lo) (j + 1) ((lo j) - q)) (nI (n + 1)) st av so ln) (md_pt M) (md_re M) (md_sd M) be1 pb1 (nI (min a 11 + 1)) (md_od M) (md_ad M) (md_wy M) (md_so M) (md_rl M) (md_io M) (md_po M) (md_sp M) (md_rs M) (md_st M) (md_av M) (md_ip M) (md_tx M) (md_tm M) (md_ta M) (md_td M) (md_wo M) (md_sq M) (md_tk M) (md_bg M) (md_nu M) (md_wr M))) 21 = pM v (md_th M) (nR te ho ow (xu (shU (j + 1) n hs) (j + 1) ((shU (j + 1) n hs) j)) (xu (shU (j + 1) n ra) (j + 1) ((shU (j + 1) n ra) j)) (xu (shU (j + 1) n lo) (j + 1) ((lo j) - q)) (nI (n + 1)) st av so ln) (md_pt M) (md_re M) (md_sd M) be1 pb1 (nI (min a 11 + 1)) (md_od M) (md_ad M) (md_wy M) (md_so M) (md_rl M) (md_io M) (md_po M) (md_sp M) (md_rs M) (md_st M) (md_av M) (md_ip M) (md_tx M) (md_tm M) (md_ta M) (md_td M) (md_wo M) (md_sq M) (md_tk M) (md_bg M) (md_nu M) (md_wr M) from xw_up_s) (by omega)) (xw_at xw_up_s rfl) rfl dX8_split_75 ⟨Nat.le_of_ble_eq_true rfl, Nat.le_of_ble_eq_true rfl⟩ rfl (Nat.le_of_ble_eq_true rfl) rfl rfl ?_
        refine xj_aload_n (i := 0) hk dX8_split_78 rfl rfl ?_
        refine xj_iload_n (i := 1) hk dX8_split_79 rfl rfl ?_
        refine xj_callV hk hz (fr1 := 0) (lo1 := 0) (r1 := some (.int ((xu (shU (j + 1) n ra) (j + 1) ((shU (j + 1) n ra) j)) j))) (As := [.int (nI j)]) (st := [.int ((xu (shU (j + 1) n hs) (j + 1) ((shU (j + 1) n hs) j)) j), .int (nI j), .ref (xw_ad v 21 0)]) (st2 := [.int ((xu (shU (j + 1) n ra) (j + 1) ((shU (j + 1) n ra) j)) j), .int ((xu (shU (j + 1) n hs) (j + 1) ((shU (j + 1) n hs) j)) j), .int (nI j), .ref (xw_ad v 21 0)]) (G1 := xw_up G 21 (pM v (md_th M) (nR te ho ow (xu (shU (j + 1) n hs) (j + 1) ((shU (j + 1) n hs) j)) (xu (shU (j + 1) n ra) (j + 1) ((shU (j + 1) n ra) j)) (xu (shU (j + 1) n lo) (j + 1) ((lo j) - q)) (nI (n + 1)) st av so ln) (md_pt M) (md_re M) (md_sd M) be1 pb1 (nI (min a 11 + 1)) (md_od M) (md_ad M) (md_wy M) (md_so M) (md_rl M) (md_io M) (md_po M) (md_sp M) (md_rs M) (md_st M) (md_av M) (md_ip M) (md_tx M) (md_tm M) (md_ta M) (md_td M) (md_wo M) (md_sq M) (md_tk M) (md_bg M) (md_nu M) (md_wr M))) ml_X8_77 (c_X8_rateOf (b := j) (M := (md_th M, nR te ho ow (xu (shU (j + 1) n hs) (j + 1) ((shU (j + 1) n hs) j)) (xu (shU (j + 1) n ra) (j + 1) ((shU (j + 1) n ra) j)) (xu (shU (j + 1) n lo) (j + 1) ((lo j) - q)) (nI (n + 1)) st av so ln, md_pt M, md_re M, md_sd M, be1, pb1, nI (min a 11 + 1), md_od M, md_ad M, md_wy M, md_so M, md_rl M, md_io M, md_po M, md_sp M, md_rs M, md_st M, md_av M, md_ip M, md_tx M, md_tm M, md_ta M, md_td M, md_wo M, md_sq M, md_tk M, md_bg M, md_nu M, md_wr M)) (show (xw_up G 21 (pM v (md_th M) (nR te ho ow (xu (shU (j + 1) n hs) (j + 1) ((shU (j + 1) n hs) j)) (xu (shU (j + 1) n ra) (j + 1) ((shU (j + 1) n ra) j)) (xu (shU (j + 1) n lo) (j + 1) ((lo j) - q)) (nI (n + 1)) st av so ln) (md_pt M) (md_re M) (md_sd M) be1 pb1 (nI (min a 11 + 1)) (md_od M) (md_ad M) (md_wy M) (md_so M) (md_rl M) (md_io M) (md_po M) (md_sp M) (md_rs M) (md_st M) (md_av M) (md_ip M) (md_tx M) (md_tm M) (md_ta M) (md_td M) (md_wo M) (md_sq M) (md_tk M) (md_bg M) (md_nu M) (md_wr M))) 21 = pM v (md_th M) (nR te ho ow (xu (shU (j + 1) n hs) (j + 1) ((shU (j + 1) n hs) j)) (xu (shU (j + 1) n ra) (j + 1) ((shU (j + 1) n ra) j)) (xu (shU (j + 1) n lo) (j + 1) ((lo j) - q)) (nI (n + 1)) st av so ln) (md_pt M) (md_re M) (md_sd M) be1 pb1 (nI (min a 11 + 1)) (md_od M) (md_ad M) (md_wy M) (md_so M) (md_rl M) (md_io M) (md_po M) (md_sp M) (md_rs M) (md_st M) (md_av M) (md_ip M) (md_tx M) (md_tm M) (md_ta M) (md_td M) (md_wo M) (md_sq M) (md_tk M) (md_bg M) (md_nu M) (md_wr M) from xw_up_s) (by omega)) (xw_at xw_up_s rfl) rfl dX8_split_80 ⟨Nat.le_of_ble_eq_true rfl, Nat.le_of_ble_eq_true rfl⟩ rfl (Nat.le_of_ble_eq_true rfl) rfl rfl ?_
        refine xj_iload_n (i := 2) hk dX8_split_83 rfl rfl ?_
        refine xj_callV hk hz (fr1 := 0) (lo1 := 0) (r1 := none) (As := [.int (nI j), .int ((xu (shU (j + 1) n hs) (j + 1) ((shU (j + 1) n hs) j)) j), .int ((xu (shU (j + 1) n ra) (j + 1) ((shU (j + 1) n ra) j)) j), .int q]) (st := []) (st2 := []) (G1 := xw_up G 21 (pM v (md_th M) (nR te ho ow (xu (xu (shU (j + 1) n hs) (j + 1) ((shU (j + 1) n hs) j)) j ((xu (shU (j + 1) n hs) (j + 1) ((shU (j + 1) n hs) j)) j)) (xu (xu (shU (j + 1) n ra) (j + 1) ((shU (j + 1) n ra) j)) j ((xu (shU (j + 1) n ra) (j + 1) ((shU (j + 1) n ra) j)) j)) (xu (xu (shU (j + 1) n lo) (j + 1) ((lo j) - q)) j q) (nI (n + 1)) st av so ln) (md_pt M) (md_re M) (md_sd M) be1 pb1 (nI (min a 11 + 1)) (md_od M) (md_ad M) (md_wy M) (md_so M) (md_rl M) (md_io M) (md_po M) (md_sp M) (md_rs M) (md_st M) (md_av M) (md_ip M) (md_tx M) (md_tm M) (md_ta M) (md_td M) (md_wo M) (md_sq M) (md_tk M) (md_bg M) (md_nu M) (md_wr M))) ml_X8_87 (xk_cg (by rw [xw_up_u] <;> rfl) (c_X8_lays (b := j) (M := (md_th M, nR te ho ow (xu (shU (j + 1) n hs) (j + 1) ((shU (j + 1) n hs) j)) (xu (shU (j + 1) n ra) (j + 1) ((shU (j + 1) n ra) j)) (xu (shU (j + 1) n lo) (j + 1) ((lo j) - q)) (nI (n + 1)) st av so ln, md_pt M, md_re M, md_sd M, be1, pb1, nI (min a 11 + 1), md_od M, md_ad M, md_wy M, md_so M, md_rl M, md_io M, md_po M, md_sp M, md_rs M, md_st M, md_av M, md_ip M, md_tx M, md_tm M, md_ta M, md_td M, md_wo M, md_sq M, md_tk M, md_bg M, md_nu M, md_wr M)) (show (xw_up G 21 (pM v (md_th M) (nR te ho ow (xu (shU (j + 1) n hs) (j + 1) ((shU (j + 1) n hs) j)) (xu (shU (j + 1) n ra) (j + 1) ((shU (j + 1) n ra) j)) (xu (shU (j + 1) n lo) (j + 1) ((lo j) - q)) (nI (n + 1)) st av so ln) (md_pt M) (md_re M) (md_sd M) be1 pb1 (nI (min a 11 + 1)) (md_od M) (md_ad M) (md_wy M) (md_so M) (md_rl M) (md_io M) (md_po M) (md_sp M) (md_rs M) (md_st M) (md_av M) (md_ip M) (md_tx M) (md_tm M) (md_ta M) (md_td M) (md_wo M) (md_sq M) (md_tk M) (md_bg M) (md_nu M) (md_wr M))) 21 = pM v (md_th M) (nR te ho ow (xu (shU (j + 1) n hs) (j + 1) ((shU (j + 1) n hs) j)) (xu (shU (j + 1) n ra) (j + 1) ((shU (j + 1) n ra) j)) (xu (shU (j + 1) n lo) (j + 1) ((lo j) - q)) (nI (n + 1)) st av so ln) (md_pt M) (md_re M) (md_sd M) be1 pb1 (nI (min a 11 + 1)) (md_od M) (md_ad M) (md_wy M) (md_so M) (md_rl M) (md_io M) (md_po M) (md_sp M) (md_rs M) (md_st M) (md_av M) (md_ip M) (md_tx M) (md_tm M) (md_ta M) (md_td M) (md_wo M) (md_sq M) (md_tk M) (md_bg M) (md_nu M) (md_wr M) from xw_up_s) (by omega) ((xu (shU (j + 1) n hs) (j + 1) ((shU (j + 1) n hs) j)) j) ((xu (shU (j + 1) n ra) (j + 1) ((shU (j + 1) n ra) j)) j) q)) (xw_at xw_up_s rfl) rfl dX8_split_84 ⟨Nat.le_of_ble_eq_true rfl, Nat.le_of_ble_eq_true rfl⟩ rfl (Nat.le_of_ble_eq_true rfl) rfl rfl ?_
        refine xj_iconst (x := 1) hk dX8_split_87 (by decide) ?_
        refine xj_zreturn hk hz dX8_split_88 (by decide) ?_
        refine Or.inl ⟨?_, be1, pb1, hKP, ?_, ?_⟩
        · first | (simp [mcSplit, c5, xn_nI (show j < 2 ^ 31 by omega), c14, c29]; done) | contradiction
        · first | rfl | (simp only [xn_nI (show j < 2 ^ 31 by omega)]; done) | (simp only [xn_nI (show j < 2 ^ 31 by omega)]; rfl)
        · first | rfl | (simp only [xn_nI (show j < 2 ^ 31 by omega)]; done) | (simp only [xn_nI (show j < 2 ^ 31 by omega)]; rfl)
      · refine xj_iconst (x := 0) hk dX8_split_32 (by decide) ?_
        refine xj_zreturn hk hz dX8_split_33 (by decide) ?_
        exact Or.inr ⟨by simp [mcSplit, c5, xn_nI (show j < 2 ^ 31 by omega), c14, c29], rfl, rfl⟩

set_option maxHeartbeats 1000000 in
set_option maxRecDepth 10000 in
theorem c_X8_becomes {v : xw_V} {G : xw_G} {M : md_T} {a i : Nat} (hM0 : G 21 = pc_M v M) (hac : md_ac M = nI a) (ha12 : a ≤ 12) (x : Int32) (hi : i < 139) : xk_Con v yX8_becomes cX8_becomes 4 (some .int) 1 21 [.ref (xw_ad v 21 0), .int (nI i), .int x] G (fun r9 G' => ∃ (be1 : Nat → Int32) (pb1 : Nat → Int64), KP a (md_no M) (md_be M) (md_pt M) (md_pb M) be1 pb1 ∧ r9 = some (.int (md_no M i)) ∧ G' = xw_up G 21 (pM v (md_th M) (xu (md_no M) i x) (md_pt M) (md_re M) (md_sd M) be1 pb1 (nI (min a 11 + 1)) (md_od M) (md_ad M) (md_wy M) (md_so M) (md_rl M) (md_io M) (md_po M) (md_sp M) (md_rs M) (md_st M) (md_av M) (md_ip M) (md_tx M) (md_tm M) (md_ta M) (md_td M) (md_wo M) (md_sq M) (md_tk M) (md_bg M) (md_nu M) (md_wr M))) := by
  refine xk_of (ls0 := [some (.ref (xw_ad v 21 0)), some (.int (nI i)), some (.int x), none]) (by decide) rfl (Nat.le_of_ble_eq_true rfl) ?_
  intro κ z hk hz
  refine xj_aload_n (i := 0) hk dX8_becomes_0 rfl rfl ?_
  refine xj_callVE hk hz (fr1 := 0) (lo1 := 0) (As := []) (st := []) ml_X8_105 (c_X8_keeps (a := a) hM0 hac ha12) (xw_at hM0 rfl) rfl dX8_becomes_1 ⟨Nat.le_of_ble_eq_true rfl, Nat.le_of_ble_eq_true rfl⟩ rfl (Nat.le_of_ble_eq_true rfl) rfl ?_
  rintro _ _ ⟨rfl, be1, pb1, hKP, rfl⟩
  show xj v κ _ z (xw_up G 21 (pM v (md_th M) (md_no M) (md_pt M) (md_re M) (md_sd M) be1 pb1 (nI (min a 11 + 1)) (md_od M) (md_ad M) (md_wy M) (md_so M) (md_rl M) (md_io M) (md_po M) (md_sp M) (md_rs M) (md_st M) (md_av M) (md_ip M) (md_tx M) (md_tm M) (md_ta M) (md_td M) (md_wo M) (md_sq M) (md_tk M) (md_bg M) (md_nu M) (md_wr M))) 4 _ []
  refine xj_aload_n (i := 0) hk dX8_becomes_4 rfl rfl ?_
  refine xj_getfield hk dX8_becomes_5 fl_X8_13 (xw_at xw_up_s rfl) rfl ?_
  refine xj_iload_n (i := 1) hk dX8_becomes_8 rfl rfl ?_
  refine xj_iaload (k := i) hk dX8_becomes_9 (xw_at xw_up_s rfl) (xi_n (by omega) (by decide)) ?_
  refine xj_istore_n (i := 3) (ls2 := [some (.ref (xw_ad v 21 0)), some (.int (nI i)), some (.int x), some (.int (md_no M i))]) hk dX8_becomes_10 rfl (by decide) rfl rfl ?_
  refine xj_aload_n (i := 0) hk dX8_becomes_11 rfl rfl ?_
  refine xj_getfield hk dX8_becomes_12 fl_X8_13 (xw_at xw_up_s rfl) rfl ?_
  refine xj_iload_n (i := 1) hk dX8_becomes_15 rfl rfl ?_
  refine xj_iload_n (i := 2) hk dX8_becomes_16 rfl rfl ?_
  refine xj_iastore (k := i) (G2 := xw_up G 21 (pM v (md_th M) (xu (md_no M) i x) (md_pt M) (md_re M) (md_sd M) be1 pb1 (nI (min a 11 + 1)) (md_od M) (md_ad M) (md_wy M) (md_so M) (md_rl M) (md_io M) (md_po M) (md_sp M) (md_rs M) (md_st M) (md_av M) (md_ip M) (md_tx M) (md_tm M) (md_ta M) (md_td M) (md_wo M) (md_sq M) (md_tk M) (md_bg M) (md_nu M) (md_wr M))) hk dX8_becomes_17 (xw_at xw_up_s rfl) (xi_n (by omega) (by decide)) (xw_wr2 rfl) ?_
  refine xj_iload_n (i := 3) hk dX8_becomes_18 rfl rfl ?_
  refine xj_ireturn hk hz dX8_becomes_19 ?_
  exact ⟨be1, pb1, hKP, rfl, rfl⟩

def mcOwn (ow : Nat → Int32) (h x : Int32) : Bool := mIn h 0 7 && mIn x 0 7 && !(decide (ow (xn h) = x))
def mcHold (ho : Nat → Int32) (h q : Int32) : Bool := mIn h 0 7 && mIn q 0 9999 && !(decide (ho (xn h) = q))
def mayB (te : Nat → Int32) (w v : Int32) : Bool := if w = 0 then mIn v 1 2000 else if w = 1 then mIn v 1 100 else if w = 2 then mIn v 0 100 else if w = 3 then mIn v 0 (te 4) else if w = 4 then mIn v (te 3) 999 else if w = 5 then mIn v 1 360 else if w = 6 then mIn v 0 1 else false
theorem mayB_7 {te : Nat → Int32} {w v : Int32} (h : mayB te w v = true) : ∃ j, j < 7 ∧ w = nI j := by
  simp only [mayB] at h
  split at h
  · rename_i c; exact ⟨0, by omega, c⟩
  split at h
  · rename_i c; exact ⟨1, by omega, c⟩
  split at h
  · rename_i c; exact ⟨2, by omega, c⟩
  split at h
  · rename_i c; exact ⟨3, by omega, c⟩
  split at h
  · rename_i c; exact ⟨4, by omega, c⟩
  split at h
  · rename_i c; exact ⟨5, by omega, c⟩
  split at h
  · rename_i c; exact ⟨6, by omega, c⟩
  · cases h
def mcTerm (te : Nat → Int32) (w v : Int32) : Bool := mayB te w v && !(decide (te (xn w) = v))
set_option maxHeartbeats 1000000 in
set_option maxRecDepth 10000 in
theorem c_X8_own {v : xw_V} {G : xw_G} {M : md_T} {te ho ow hs ra lo st av so : Nat → Int32} {ln : Int32} {n a : Nat} (hM : G 21 = pM v (md_th M) (nR te ho ow hs ra lo (nI n) st av so ln) (md_pt M) (md_re M) (md_sd M) (md_be M) (md_pb M) (md_ac M) (md_od M) (md_ad M) (md_wy M) (md_so M) (md_rl M) (md_io M) (md_po M) (md_sp M) (md_rs M) (md_st M) (md_av M) (md_ip M) (md_tx M) (md_tm M) (md_ta M) (md_td M) (md_wo M) (md_sq M) (md_tk M) (md_bg M) (md_nu M) (md_wr M)) (hn30 : n ≤ 30) (hac : md_ac M = nI a) (ha12 : a ≤ 12) (h : Int32) (x : Int32) : xk_Con v yX8_own cX8_own 3 (some .int) 2 44 [.ref (xw_ad v 21 0), .int h, .int x] G (fun r9 G' => (mcOwn ow h x = true ∧ ∃ (be1 : Nat → Int32) (pb1 : Nat → Int64), KP a (nR te ho ow hs ra lo (nI n) st av so ln) (md_be M) (md_pt M) (md_pb M) be1 pb1 ∧ r9 = some (.int (ow (xn h))) ∧ G' = xw_up G 21 (pM v (md_th M) (nR te ho (xu ow (xn h) x) hs ra lo (nI n) st av so ln) (md_pt M) (md_re M) (md_sd M) be1 pb1 (nI (min a 11 + 1)) (md_od M) (md_ad M) (md_wy M) (md_so M) (md_rl M) (md_io M) (md_po M) (md_sp M) (md_rs M) (md_st M) (md_av M) (md_ip M) (md_tx M) (md_tm M) (md_ta M) (md_td M) (md_wo M) (md_sq M) (md_tk M) (md_bg M) (md_nu M) (md_wr M))) ∨ (mcOwn ow h x = false ∧ r9 = some (.int (-1)) ∧ G' = G)) := by
  refine xk_of (ls0 := [some (.ref (xw_ad v 21 0)), some (.int h), some (.int x)]) (by decide) rfl (Nat.le_of_ble_eq_true rfl) ?_
  intro κ z hk hz
  refine xj_iload_n (i := 1) hk dX8_own_0 rfl rfl ?_
  refine xj_callS hk hz (fr1 := 1) (lo1 := 22) (r1 := some (.int (xb (mIn h 0 7)))) (As := [.int h]) (st := []) (st2 := [.int (xb (mIn h 0 7))]) (G1 := G) ml_X8_95 (c_X8_isHouse h) dX8_own_1 ⟨Nat.le_of_ble_eq_true rfl, Nat.le_of_ble_eq_true rfl⟩ rfl (Nat.le_of_ble_eq_true rfl) rfl rfl ?_
  refine xj_ifb_eq (tgt := 39) hk dX8_own_4 (by decide) (fun c4 => ?_) (fun c4 => ?_)
  · refine xj_iconst (x := (-1)) hk dX8_own_39 (by decide) ?_
    refine xj_ireturn hk hz dX8_own_40 ?_
    exact Or.inr ⟨by simp [mcOwn, c4], rfl, rfl⟩
  · obtain ⟨j, hj_j, rfl⟩ := mIn_of (m := 7) (by decide) c4
    refine xj_iload_n (i := 2) hk dX8_own_7 rfl rfl ?_
    refine xj_callS hk hz (fr1 := 1) (lo1 := 22) (r1 := some (.int (xb (mIn x 0 7)))) (As := [.int x]) (st := []) (st2 := [.int (xb (mIn x 0 7))]) (G1 := G) ml_X8_95 (c_X8_isHouse x) dX8_own_8 ⟨Nat.le_of_ble_eq_true rfl, Nat.le_of_ble_eq_true rfl⟩ rfl (Nat.le_of_ble_eq_true rfl) rfl rfl ?_
    refine xj_ifb_eq (tgt := 39) hk dX8_own_11 (by decide) (fun c11 => ?_) (fun c11 => ?_)
    · refine xj_iconst (x := (-1)) hk dX8_own_39 (by decide) ?_
      refine xj_ireturn hk hz dX8_own_40 ?_
      exact Or.inr ⟨by simp [mcOwn, c4, xn_nI (show j < 2 ^ 31 by omega), c11], rfl, rfl⟩
    · refine xj_aload_n (i := 0) hk dX8_own_14 rfl rfl ?_
      refine xj_getfield hk dX8_own_15 fl_X8_13 (xw_at hM rfl) rfl ?_
      refine xj_bipush (x := 15) hk dX8_own_18 (by decide) ?_
      refine xj_iload_n (i := 1) hk dX8_own_20 rfl rfl ?_
      refine xj_iadd hk dX8_own_21 ?_
      refine xj.eqi (x' := nI (15 + j)) (nI_add 15 j) ?_
      refine xj_iaload (k := 15 + j) hk dX8_own_22 (xw_at hM rfl) (xi_n (by omega) (by decide)) ?_
      refine xj.eqi (x' := ow j) (rR_ow (k := j) (by omega)) ?_
      refine xj_iload_n (i := 2) hk dX8_own_23 rfl rfl ?_
      refine xj_icmp_eq (tgt := 39) hk dX8_own_24 (by decide) (fun c24 => ?_) (fun c24 => ?_)
      · refine xj_iconst (x := (-1)) hk dX8_own_39 (by decide) ?_
        refine xj_ireturn hk hz dX8_own_40 ?_
        exact Or.inr ⟨by simp [mcOwn, c4, xn_nI (show j < 2 ^ 31 by omega), c11, c24], rfl, rfl⟩
      · refine xj_aload_n (i := 0) hk dX8_own_27 rfl rfl ?_
        refine xj_bipush (x := 15) hk dX8_own_28 (by decide) ?_
        refine xj_iload_n (i := 1) hk dX8_own_30 rfl rfl ?_
        refine xj_iadd hk dX8_own_31 ?_
        refine xj.eqi (x' := nI (15 + j)) (nI_add 15 j) ?_
        refine xj_iload_n (i := 2) hk dX8_own_32 rfl rfl ?_
        refine xj_callVE hk hz (fr1 := 1) (lo1 := 21) (As := [.int (nI (15 + j)), .int x]) (st := []) ml_X8_118 (c_X8_becomes (a := a) (i := 15 + j) (M := (md_th M, nR te ho ow hs ra lo (nI n) st av so ln, md_pt M, md_re M, md_sd M, md_be M, md_pb M, md_ac M, md_od M, md_ad M, md_wy M, md_so M, md_rl M, md_io M, md_po M, md_sp M, md_rs M, md_st M, md_av M, md_ip M, md_tx M, md_tm M, md_ta M, md_td M, md_wo M, md_sq M, md_tk M, md_bg M, md_nu M, md_wr M)) (show G 21 = pM v (md_th M) (nR te ho ow hs ra lo (nI n) st av so ln) (md_pt M) (md_re M) (md_sd M) (md_be M) (md_pb M) (md_ac M) (md_od M) (md_ad M) (md_wy M) (md_so M) (md_rl M) (md_io M) (md_po M) (md_sp M) (md_rs M) (md_st M) (md_av M) (md_ip M) (md_tx M) (md_tm M) (md_ta M) (md_td M) (md_wo M) (md_sq M) (md_tk M) (md_bg M) (md_nu M) (md_wr M) from hM) hac ha12 x (by omega)) (xw_at hM rfl) rfl dX8_own_33 ⟨Nat.le_of_ble_eq_true rfl, Nat.le_of_ble_eq_true rfl⟩ rfl (Nat.le_of_ble_eq_true rfl) rfl ?_
        rintro _ _ ⟨be1, pb1, hKP, rfl, rfl⟩
        have hKP : KP a (nR te ho ow hs ra lo (nI n) st av so ln) (md_be M) (md_pt M) (md_pb M) be1 pb1 := hKP
        refine xj.eqi (x' := ow j) (rR_ow (k := j) (by omega)) ?_
        refine xj.eqG (G' := xw_up G 21 (pM v (md_th M) (nR te ho (xu ow j x) hs ra lo (nI n) st av so ln) (md_pt M) (md_re M) (md_sd M) be1 pb1 (nI (min a 11 + 1)) (md_od M) (md_ad M) (md_wy M) (md_so M) (md_rl M) (md_io M) (md_po M) (md_sp M) (md_rs M) (md_st M) (md_av M) (md_ip M) (md_tx M) (md_tm M) (md_ta M) (md_td M) (md_wo M) (md_sq M) (md_tk M) (md_bg M) (md_nu M) (md_wr M))) (by rw [← wR_ow (k := j) (by omega)]; rfl) ?_
        show xj v κ _ z (xw_up G 21 (pM v (md_th M) (nR te ho (xu ow j x) hs ra lo (nI n) st av so ln) (md_pt M) (md_re M) (md_sd M) be1 pb1 (nI (min a 11 + 1)) (md_od M) (md_ad M) (md_wy M) (md_so M) (md_rl M) (md_io M) (md_po M) (md_sp M) (md_rs M) (md_st M) (md_av M) (md_ip M) (md_tx M) (md_tm M) (md_ta M) (md_td M) (md_wo M) (md_sq M) (md_tk M) (md_bg M) (md_nu M) (md_wr M))) 36 _ [.int (ow j)]
        refine xj_goto (tgt := 40) hk dX8_own_36 (by decide) ?_
        refine xj_ireturn hk hz dX8_own_40 ?_
        refine Or.inl ⟨?_, be1, pb1, hKP, ?_, ?_⟩
        · first | (simp [mcOwn, c4, xn_nI (show j < 2 ^ 31 by omega), c11, c24]; done) | contradiction
        · first | rfl | (simp only [xn_nI (show j < 2 ^ 31 by omega)]; done) | (simp only [xn_nI (show j < 2 ^ 31 by omega)]; rfl)
        · first | rfl | (simp only [xn_nI (show j < 2 ^ 31 by omega)]; done) | (simp only [xn_nI (show j < 2 ^ 31 by omega)]; rfl)

set_option maxHeartbeats 1000000 in
set_option maxRecDepth 10000 in
theorem c_X8_hold {v : xw_V} {G : xw_G} {M : md_T} {te ho ow hs ra lo st av so : Nat → Int32} {ln : Int32} {n a : Nat} (hM : G 21 = pM v (md_th M) (nR te ho ow hs ra lo (nI n) st av so ln) (md_pt M) (md_re M) (md_sd M) (md_be M) (md_pb M) (md_ac M) (md_od M) (md_ad M) (md_wy M) (md_so M) (md_rl M) (md_io M) (md_po M) (md_sp M) (md_rs M) (md_st M) (md_av M) (md_ip M) (md_tx M) (md_tm M) (md_ta M) (md_td M) (md_wo M) (md_sq M) (md_tk M) (md_bg M) (md_nu M) (md_wr M)) (hn30 : n ≤ 30) (hac : md_ac M = nI a) (ha12 : a ≤ 12) (h : Int32) (q : Int32) : xk_Con v yX8_hold cX8_hold 3 (some .int) 2 44 [.ref (xw_ad v 21 0), .int h, .int q] G (fun r9 G' => (mcHold ho h q = true ∧ ∃ (be1 : Nat → Int32) (pb1 : Nat → Int64), KP a (nR te ho ow hs ra lo (nI n) st av so ln) (md_be M) (md_pt M) (md_pb M) be1 pb1 ∧ r9 = some (.int (ho (xn h))) ∧ G' = xw_up G 21 (pM v (md_th M) (nR te (xu ho (xn h) q) ow hs ra lo (nI n) st av so ln) (md_pt M) (md_re M) (md_sd M) be1 pb1 (nI (min a 11 + 1)) (md_od M) (md_ad M) (md_wy M) (md_so M) (md_rl M) (md_io M) (md_po M) (md_sp M) (md_rs M) (md_st M) (md_av M) (md_ip M) (md_tx M) (md_tm M) (md_ta M) (md_td M) (md_wo M) (md_sq M) (md_tk M) (md_bg M) (md_nu M) (md_wr M))) ∨ (mcHold ho h q = false ∧ r9 = some (.int (-1)) ∧ G' = G)) := by
  refine xk_of (ls0 := [some (.ref (xw_ad v 21 0)), some (.int h), some (.int q)]) (by decide) rfl (Nat.le_of_ble_eq_true rfl) ?_
  intro κ z hk hz
  refine xj_iload_n (i := 1) hk dX8_hold_0 rfl rfl ?_
  refine xj_callS hk hz (fr1 := 1) (lo1 := 22) (r1 := some (.int (xb (mIn h 0 7)))) (As := [.int h]) (st := []) (st2 := [.int (xb (mIn h 0 7))]) (G1 := G) ml_X8_95 (c_X8_isHouse h) dX8_hold_1 ⟨Nat.le_of_ble_eq_true rfl, Nat.le_of_ble_eq_true rfl⟩ rfl (Nat.le_of_ble_eq_true rfl) rfl rfl ?_
  refine xj_ifb_eq (tgt := 43) hk dX8_hold_4 (by decide) (fun c4 => ?_) (fun c4 => ?_)
  · refine xj_iconst (x := (-1)) hk dX8_hold_43 (by decide) ?_
    refine xj_ireturn hk hz dX8_hold_44 ?_
    exact Or.inr ⟨by simp [mcHold, c4], rfl, rfl⟩
  · obtain ⟨j, hj_j, rfl⟩ := mIn_of (m := 7) (by decide) c4
    refine xj_iload_n (i := 2) hk dX8_hold_7 rfl rfl ?_
    refine xj_iconst (x := 0) hk dX8_hold_8 (by decide) ?_
    refine xj_sipush (x := 9999) hk dX8_hold_9 (by decide) ?_
    refine xj_callS hk hz (fr1 := 0) (lo1 := 0) (r1 := some (.int (xb (mIn q 0 9999)))) (As := [.int q, .int 0, .int 9999]) (st := []) (st2 := [.int (xb (mIn q 0 9999))]) (G1 := G) ml_X8_69 (c_X8_in q 0 9999) dX8_hold_12 ⟨Nat.le_of_ble_eq_true rfl, Nat.le_of_ble_eq_true rfl⟩ rfl (Nat.le_of_ble_eq_true rfl) rfl rfl ?_
    refine xj_ifb_eq (tgt := 43) hk dX8_hold_15 (by decide) (fun c15 => ?_) (fun c15 => ?_)
    · refine xj_iconst (x := (-1)) hk dX8_hold_43 (by decide) ?_
      refine xj_ireturn hk hz dX8_hold_44 ?_
      exact Or.inr ⟨by simp [mcHold, c4, xn_nI (show j < 2 ^ 31 by omega), c15], rfl, rfl⟩
    · refine xj_aload_n (i := 0) hk dX8_hold_18 rfl rfl ?_
      refine xj_getfield hk dX8_hold_19 fl_X8_13 (xw_at hM rfl) rfl ?_
      refine xj_bipush (x := 7) hk dX8_hold_22 (by decide) ?_
      refine xj_iload_n (i := 1) hk dX8_hold_24 rfl rfl ?_
      refine xj_iadd hk dX8_hold_25 ?_
      refine xj.eqi (x' := nI (7 + j)) (nI_add 7 j) ?_
      refine xj_iaload (k := 7 + j) hk dX8_hold_26 (xw_at hM rfl) (xi_n (by omega) (by decide)) ?_
      refine xj.eqi (x' := ho j) (rR_ho (k := j) (by omega)) ?_
      refine xj_iload_n (i := 2) hk dX8_hold_27 rfl rfl ?_
      refine xj_icmp_eq (tgt := 43) hk dX8_hold_28 (by decide) (fun c28 => ?_) (fun c28 => ?_)
      · refine xj_iconst (x := (-1)) hk dX8_hold_43 (by decide) ?_
        refine xj_ireturn hk hz dX8_hold_44 ?_
        exact Or.inr ⟨by simp [mcHold, c4, xn_nI (show j < 2 ^ 31 by omega), c15, c28], rfl, rfl⟩
      · refine xj_aload_n (i := 0) hk dX8_hold_31 rfl rfl ?_
        refine xj_bipush (x := 7) hk dX8_hold_32 (by decide) ?_
        refine xj_iload_n (i := 1) hk dX8_hold_34 rfl rfl ?_
        refine xj_iadd hk dX8_hold_35 ?_
        refine xj.eqi (x' := nI (7 + j)) (nI_add 7 j) ?_
        refine xj_iload_n (i := 2) hk dX8_hold_36 rfl rfl ?_
        refine xj_callVE hk hz (fr1 := 1) (lo1 := 21) (As := [.int (nI (7 + j)), .int q]) (st := []) ml_X8_118 (c_X8_becomes (a := a) (i := 7 + j) (M := (md_th M, nR te ho ow hs ra lo (nI n) st av so ln, md_pt M, md_re M, md_sd M, md_be M, md_pb M, md_ac M, md_od M, md_ad M, md_wy M, md_so M, md_rl M, md_io M, md_po M, md_sp M, md_rs M, md_st M, md_av M, md_ip M, md_tx M, md_tm M, md_ta M, md_td M, md_wo M, md_sq M, md_tk M, md_bg M, md_nu M, md_wr M)) (show G 21 = pM v (md_th M) (nR te ho ow hs ra lo (nI n) st av so ln) (md_pt M) (md_re M) (md_sd M) (md_be M) (md_pb M) (md_ac M) (md_od M) (md_ad M) (md_wy M) (md_so M) (md_rl M) (md_io M) (md_po M) (md_sp M) (md_rs M) (md_st M) (md_av M) (md_ip M) (md_tx M) (md_tm M) (md_ta M) (md_td M) (md_wo M) (md_sq M) (md_tk M) (md_bg M) (md_nu M) (md_wr M) from hM) hac ha12 q (by omega)) (xw_at hM rfl) rfl dX8_hold_37 ⟨Nat.le_of_ble_eq_true rfl, Nat.le_of_ble_eq_true rfl⟩ rfl (Nat.le_of_ble_eq_true rfl) rfl ?_
        rintro _ _ ⟨be1, pb1, hKP, rfl, rfl⟩
        have hKP : KP a (nR te ho ow hs ra lo (nI n) st av so ln) (md_be M) (md_pt M) (md_pb M) be1 pb1 := hKP
        refine xj.eqi (x' := ho j) (rR_ho (k := j) (by omega)) ?_
        refine xj.eqG (G' := xw_up G 21 (pM v (md_th M) (nR te (xu ho j q) ow hs ra lo (nI n) st av so ln) (md_pt M) (md_re M) (md_sd M) be1 pb1 (nI (min a 11 + 1)) (md_od M) (md_ad M) (md_wy M) (md_so M) (md_rl M) (md_io M) (md_po M) (md_sp M) (md_rs M) (md_st M) (md_av M) (md_ip M) (md_tx M) (md_tm M) (md_ta M) (md_td M) (md_wo M) (md_sq M) (md_tk M) (md_bg M) (md_nu M) (md_wr M))) (by rw [← wR_ho (k := j) (by omega)]; rfl) ?_
        show xj v κ _ z (xw_up G 21 (pM v (md_th M) (nR te (xu ho j q) ow hs ra lo (nI n) st av so ln) (md_pt M) (md_re M) (md_sd M) be1 pb1 (nI (min a 11 + 1)) (md_od M) (md_ad M) (md_wy M) (md_so M) (md_rl M) (md_io M) (md_po M) (md_sp M) (md_rs M) (md_st M) (md_av M) (md_ip M) (md_tx M) (md_tm M) (md_ta M) (md_td M) (md_wo M) (md_sq M) (md_tk M) (md_bg M) (md_nu M) (md_wr M))) 40 _ [.int (ho j)]
        refine xj_goto (tgt := 44) hk dX8_hold_40 (by decide) ?_
        refine xj_ireturn hk hz dX8_hold_44 ?_
        refine Or.inl ⟨?_, be1, pb1, hKP, ?_, ?_⟩
        · first | (simp [mcHold, c4, xn_nI (show j < 2 ^ 31 by omega), c15, c28]; done) | contradiction
        · first | rfl | (simp only [xn_nI (show j < 2 ^ 31 by omega)]; done) | (simp only [xn_nI (show j < 2 ^ 31 by omega)]; rfl)
        · first | rfl | (simp only [xn_nI (show j < 2 ^ 31 by omega)]; done) | (simp only [xn_nI (show j < 2 ^ 31 by omega)]; rfl)

set_option maxHeartbeats 1000000 in
set_option maxRecDepth 10000 in
theorem c_X8_mayBe {v : xw_V} {G : xw_G} {M : md_T} {te ho ow hs ra lo st av so : Nat → Int32} {bi ln : Int32} (hM : G 21 = pM v (md_th M) (nR te ho ow hs ra lo bi st av so ln) (md_pt M) (md_re M) (md_sd M) (md_be M) (md_pb M) (md_ac M) (md_od M) (md_ad M) (md_wy M) (md_so M) (md_rl M) (md_io M) (md_po M) (md_sp M) (md_rs M) (md_st M) (md_av M) (md_ip M) (md_tx M) (md_tm M) (md_ta M) (md_td M) (md_wo M) (md_sq M) (md_tk M) (md_bg M) (md_nu M) (md_wr M)) (w v1 : Int32) : xk_Con v yX8_mayBe cX8_mayBe 3 (some .boolean) 1 22 [.ref (xw_ad v 21 0), .int w, .int v1] G (xk_ret (some (.int (xb (mayB te w v1)))) G) := by
  refine xk_of (ls0 := [some (.ref (xw_ad v 21 0)), some (.int w), some (.int v1)]) (by decide) rfl (Nat.le_of_ble_eq_true rfl) ?_
  intro κ z hk hz
  refine xj_iload_n (i := 1) hk dX8_mayBe_0 rfl rfl ?_
  by_cases s1_0 : w = 0
  · refine xj_swIn (tgt := 44) (off := 43) hk dX8_mayBe_1 (by rw [s1_0]; decide) (by rw [s1_0]; decide) (by rw [s1_0]; decide) (by decide) ?_
    refine xj_iload_n (i := 2) hk dX8_mayBe_44 rfl rfl ?_
    refine xj_iconst (x := 1) hk dX8_mayBe_45 (by decide) ?_
    refine xj_sipush (x := 2000) hk dX8_mayBe_46 (by decide) ?_
    refine xj_callS hk hz (fr1 := 0) (lo1 := 0) (r1 := some (.int (xb (mIn v1 1 2000)))) (As := [.int v1, .int 1, .int 2000]) (st := []) (st2 := [.int (xb (mIn v1 1 2000))]) (G1 := G) ml_X8_69 (c_X8_in v1 1 2000) dX8_mayBe_49 ⟨Nat.le_of_ble_eq_true rfl, Nat.le_of_ble_eq_true rfl⟩ rfl (Nat.le_of_ble_eq_true rfl) rfl rfl ?_
    refine xj_zreturn hk hz dX8_mayBe_52 (xb_nar _) ?_
    exact ⟨by simp only [mayB]; rw [if_pos s1_0], rfl⟩
  by_cases s1_1 : w = 1
  · refine xj_swIn (tgt := 53) (off := 52) hk dX8_mayBe_1 (by rw [s1_1]; decide) (by rw [s1_1]; decide) (by rw [s1_1]; decide) (by decide) ?_
    refine xj_iload_n (i := 2) hk dX8_mayBe_53 rfl rfl ?_
    refine xj_iconst (x := 1) hk dX8_mayBe_54 (by decide) ?_
    refine xj_bipush (x := 100) hk dX8_mayBe_55 (by decide) ?_
    refine xj_callS hk hz (fr1 := 0) (lo1 := 0) (r1 := some (.int (xb (mIn v1 1 100)))) (As := [.int v1, .int 1, .int 100]) (st := []) (st2 := [.int (xb (mIn v1 1 100))]) (G1 := G) ml_X8_69 (c_X8_in v1 1 100) dX8_mayBe_57 ⟨Nat.le_of_ble_eq_true rfl, Nat.le_of_ble_eq_true rfl⟩ rfl (Nat.le_of_ble_eq_true rfl) rfl rfl ?_
    refine xj_zreturn hk hz dX8_mayBe_60 (xb_nar _) ?_
    exact ⟨by simp only [mayB]; rw [if_neg s1_0, if_pos s1_1], rfl⟩
  by_cases s1_2 : w = 2
  · refine xj_swIn (tgt := 61) (off := 60) hk dX8_mayBe_1 (by rw [s1_2]; decide) (by rw [s1_2]; decide) (by rw [s1_2]; decide) (by decide) ?_
    refine xj_iload_n (i := 2) hk dX8_mayBe_61 rfl rfl ?_
    refine xj_iconst (x := 0) hk dX8_mayBe_62 (by decide) ?_
    refine xj_bipush (x := 100) hk dX8_mayBe_63 (by decide) ?_
    refine xj_callS hk hz (fr1 := 0) (lo1 := 0) (r1 := some (.int (xb (mIn v1 0 100)))) (As := [.int v1, .int 0, .int 100]) (st := []) (st2 := [.int (xb (mIn v1 0 100))]) (G1 := G) ml_X8_69 (c_X8_in v1 0 100) dX8_mayBe_65 ⟨Nat.le_of_ble_eq_true rfl, Nat.le_of_ble_eq_true rfl⟩ rfl (Nat.le_of_ble_eq_true rfl) rfl rfl ?_
    refine xj_zreturn hk hz dX8_mayBe_68 (xb_nar _) ?_
    exact ⟨by simp only [mayB]; rw [if_neg s1_0, if_neg s1_1, if_pos s1_2], rfl⟩
  by_cases s1_3 : w = 3
  · refine xj_swIn (tgt := 69) (off := 68) hk dX8_mayBe_1 (by rw [s1_3]; decide) (by rw [s1_3]; decide) (by rw [s1_3]; decide) (by decide) ?_
    refine xj_iload_n (i := 2) hk dX8_mayBe_69 rfl rfl ?_
    refine xj_iconst (x := 0) hk dX8_mayBe_70 (by decide) ?_
    refine xj_aload_n (i := 0) hk dX8_mayBe_71 rfl rfl ?_
    refine xj_getfield hk dX8_mayBe_72 fl_X8_13 (xw_at hM rfl) rfl ?_
    refine xj_iconst (x := 4) hk dX8_mayBe_75 (by decide) ?_
    refine xj_iaload (k := 4) hk dX8_mayBe_76 (xw_at hM rfl) (xi_d 4 139 (by decide)) ?_
    refine xj.eqi (x' := te 4) (rR_te (k := 4) (by omega)) ?_
    refine xj_callS hk hz (fr1 := 0) (lo1 := 0) (r1 := some (.int (xb (mIn v1 0 (te 4))))) (As := [.int v1, .int 0, .int (te 4)]) (st := []) (st2 := [.int (xb (mIn v1 0 (te 4)))]) (G1 := G) ml_X8_69 (c_X8_in v1 0 (te 4)) dX8_mayBe_77 ⟨Nat.le_of_ble_eq_true rfl, Nat.le_of_ble_eq_true rfl⟩ rfl (Nat.le_of_ble_eq_true rfl) rfl rfl ?_
    refine xj_zreturn hk hz dX8_mayBe_80 (xb_nar _) ?_
    exact ⟨by simp only [mayB]; rw [if_neg s1_0, if_neg s1_1, if_neg s1_2, if_pos s1_3], rfl⟩
  by_cases s1_4 : w = 4
  · refine xj_swIn (tgt := 81) (off := 80) hk dX8_mayBe_1 (by rw [s1_4]; decide) (by rw [s1_4]; decide) (by rw [s1_4]; decide) (by decide) ?_
    refine xj_iload_n (i := 2) hk dX8_mayBe_81 rfl rfl ?_
    refine xj_aload_n (i := 0) hk dX8_mayBe_82 rfl rfl ?_
    refine xj_getfield hk dX8_mayBe_83 fl_X8_13 (xw_at hM rfl) rfl ?_
    refine xj_iconst (x := 3) hk dX8_mayBe_86 (by decide) ?_
    refine xj_iaload (k := 3) hk dX8_mayBe_87 (xw_at hM rfl) (xi_d 3 139 (by decide)) ?_
    refine xj.eqi (x' := te 3) (rR_te (k := 3) (by omega)) ?_
    refine xj_sipush (x := 999) hk dX8_mayBe_88 (by decide) ?_
    refine xj_callS hk hz (fr1 := 0) (lo1 := 0) (r1 := some (.int (xb (mIn v1 (te 3) 999)))) (As := [.int v1, .int (te 3), .int 999]) (st := []) (st2 := [.int (xb (mIn v1 (te 3) 999))]) (G1 := G) ml_X8_69 (c_X8_in v1 (te 3) 999) dX8_mayBe_91 ⟨Nat.le_of_ble_eq_true rfl, Nat.le_of_ble_eq_true rfl⟩ rfl (Nat.le_of_ble_eq_true rfl) rfl rfl ?_
    refine xj_zreturn hk hz dX8_mayBe_94 (xb_nar _) ?_
    exact ⟨by simp only [mayB]; rw [if_neg s1_0, if_neg s1_1, if_neg s1_2, if_neg s1_3, if_pos s1_4], rfl⟩
  by_cases s1_5 : w = 5
  · refine xj_swIn (tgt := 95) (off := 94) hk dX8_mayBe_1 (by rw [s1_5]; decide) (by rw [s1_5]; decide) (by rw [s1_5]; decide) (by decide) ?_
    refine xj_iload_n (i := 2) hk dX8_mayBe_95 rfl rfl ?_
    refine xj_iconst (x := 1) hk dX8_mayBe_96 (by decide) ?_
    refine xj_sipush (x := 360) hk dX8_mayBe_97 (by decide) ?_
    refine xj_callS hk hz (fr1 := 0) (lo1 := 0) (r1 := some (.int (xb (mIn v1 1 360)))) (As := [.int v1, .int 1, .int 360]) (st := []) (st2 := [.int (xb (mIn v1 1 360))]) (G1 := G) ml_X8_69 (c_X8_in v1 1 360) dX8_mayBe_100 ⟨Nat.le_of_ble_eq_true rfl, Nat.le_of_ble_eq_true rfl⟩ rfl (Nat.le_of_ble_eq_true rfl) rfl rfl ?_
    refine xj_zreturn hk hz dX8_mayBe_103 (xb_nar _) ?_
    exact ⟨by simp only [mayB]; rw [if_neg s1_0, if_neg s1_1, if_neg s1_2, if_neg s1_3, if_neg s1_4, if_pos s1_5], rfl⟩
  by_cases s1_6 : w = 6
  · refine xj_swIn (tgt := 104) (off := 103) hk dX8_mayBe_1 (by rw [s1_6]; decide) (by rw [s1_6]; decide) (by rw [s1_6]; decide) (by decide) ?_
    refine xj_iload_n (i := 2) hk dX8_mayBe_104 rfl rfl ?_
    refine xj_iconst (x := 0) hk dX8_mayBe_105 (by decide) ?_
    refine xj_iconst (x := 1) hk dX8_mayBe_106 (by decide) ?_
    refine xj_callS hk hz (fr1 := 0) (lo1 := 0) (r1 := some (.int (xb (mIn v1 0 1)))) (As := [.int v1, .int 0, .int 1]) (st := []) (st2 := [.int (xb (mIn v1 0 1))]) (G1 := G) ml_X8_69 (c_X8_in v1 0 1) dX8_mayBe_107 ⟨Nat.le_of_ble_eq_true rfl, Nat.le_of_ble_eq_true rfl⟩ rfl (Nat.le_of_ble_eq_true rfl) rfl rfl ?_
    refine xj_zreturn hk hz dX8_mayBe_110 (xb_nar _) ?_
    exact ⟨by simp only [mayB]; rw [if_neg s1_0, if_neg s1_1, if_neg s1_2, if_neg s1_3, if_neg s1_4, if_neg s1_5, if_pos s1_6], rfl⟩
  refine xj_swOut (tgt := 111) hk dX8_mayBe_1 (sw_out7 s1_0 s1_1 s1_2 s1_3 s1_4 s1_5 s1_6) (by decide) ?_
  refine xj_iconst (x := 0) hk dX8_mayBe_111 (by decide) ?_
  refine xj_zreturn hk hz dX8_mayBe_112 (by decide) ?_
  exact ⟨by simp only [mayB]; rw [if_neg s1_0, if_neg s1_1, if_neg s1_2, if_neg s1_3, if_neg s1_4, if_neg s1_5, if_neg s1_6]; rfl, rfl⟩

set_option maxHeartbeats 1000000 in
set_option maxRecDepth 10000 in
theorem c_X8_term {v : xw_V} {G : xw_G} {M : md_T} {te ho ow hs ra lo st av so : Nat → Int32} {ln : Int32} {n a : Nat} (hM : G 21 = pM v (md_th M) (nR te ho ow hs ra lo (nI n) st av so ln) (md_pt M) (md_re M) (md_sd M) (md_be M) (md_pb M) (md_ac M) (md_od M) (md_ad M) (md_wy M) (md_so M) (md_rl M) (md_io M) (md_po M) (md_sp M) (md_rs M) (md_st M) (md_av M) (md_ip M) (md_tx M) (md_tm M) (md_ta M) (md_td M) (md_wo M) (md_sq M) (md_tk M) (md_bg M) (md_nu M) (md_wr M)) (hn30 : n ≤ 30) (hac : md_ac M = nI a) (ha12 : a ≤ 12) (w1 : Int32) (v1 : Int32) : xk_Con v yX8_term cX8_term 3 (some .int) 2 44 [.ref (xw_ad v 21 0), .int w1, .int v1] G (fun r9 G' => (mcTerm te w1 v1 = true ∧ ∃ (be1 : Nat → Int32) (pb1 : Nat → Int64), KP a (nR te ho ow hs ra lo (nI n) st av so ln) (md_be M) (md_pt M) (md_pb M) be1 pb1 ∧ r9 = some (.int (te (xn w1))) ∧ G' = xw_up G 21 (pM v (md_th M) (nR (xu te (xn w1) v1) ho ow hs ra lo (nI n) st av so ln) (md_pt M) (md_re M) (md_sd M) be1 pb1 (nI (min a 11 + 1)) (md_od M) (md_ad M) (md_wy M) (md_so M) (md_rl M) (md_io M) (md_po M) (md_sp M) (md_rs M) (md_st M) (md_av M) (md_ip M) (md_tx M) (md_tm M) (md_ta M) (md_td M) (md_wo M) (md_sq M) (md_tk M) (md_bg M) (md_nu M) (md_wr M))) ∨ (mcTerm te w1 v1 = false ∧ r9 = some (.int (-1)) ∧ G' = G)) := by
  refine xk_of (ls0 := [some (.ref (xw_ad v 21 0)), some (.int w1), some (.int v1)]) (by decide) rfl (Nat.le_of_ble_eq_true rfl) ?_
  intro κ z hk hz
  refine xj_aload_n (i := 0) hk dX8_term_0 rfl rfl ?_
  refine xj_iload_n (i := 1) hk dX8_term_1 rfl rfl ?_
  refine xj_iload_n (i := 2) hk dX8_term_2 rfl rfl ?_
  refine xj_callV hk hz (fr1 := 1) (lo1 := 22) (r1 := some (.int (xb (mayB te w1 v1)))) (As := [.int w1, .int v1]) (st := []) (st2 := [.int (xb (mayB te w1 v1))]) (G1 := G) ml_X8_122 (c_X8_mayBe (M := M) (show G 21 = pM v (md_th M) (nR te ho ow hs ra lo (nI n) st av so ln) (md_pt M) (md_re M) (md_sd M) (md_be M) (md_pb M) (md_ac M) (md_od M) (md_ad M) (md_wy M) (md_so M) (md_rl M) (md_io M) (md_po M) (md_sp M) (md_rs M) (md_st M) (md_av M) (md_ip M) (md_tx M) (md_tm M) (md_ta M) (md_td M) (md_wo M) (md_sq M) (md_tk M) (md_bg M) (md_nu M) (md_wr M) from hM) w1 v1) (xw_at hM rfl) rfl dX8_term_3 ⟨Nat.le_of_ble_eq_true rfl, Nat.le_of_ble_eq_true rfl⟩ rfl (Nat.le_of_ble_eq_true rfl) rfl rfl ?_
  refine xj_ifb_eq (tgt := 28) hk dX8_term_6 (by decide) (fun c6 => ?_) (fun c6 => ?_)
  · refine xj_iconst (x := (-1)) hk dX8_term_28 (by decide) ?_
    refine xj_ireturn hk hz dX8_term_29 ?_
    exact Or.inr ⟨by simp [mcTerm, c6], rfl, rfl⟩
  · obtain ⟨j, hj_j, rfl⟩ := mayB_7 c6
    refine xj_aload_n (i := 0) hk dX8_term_9 rfl rfl ?_
    refine xj_getfield hk dX8_term_10 fl_X8_13 (xw_at hM rfl) rfl ?_
    refine xj_iload_n (i := 1) hk dX8_term_13 rfl rfl ?_
    refine xj_iaload (k := j) hk dX8_term_14 (xw_at hM rfl) (xi_n (by omega) (by decide)) ?_
    refine xj.eqi (x' := te j) (rR_te (k := j) (by omega)) ?_
    refine xj_iload_n (i := 2) hk dX8_term_15 rfl rfl ?_
    refine xj_icmp_eq (tgt := 28) hk dX8_term_16 (by decide) (fun c16 => ?_) (fun c16 => ?_)
    · refine xj_iconst (x := (-1)) hk dX8_term_28 (by decide) ?_
      refine xj_ireturn hk hz dX8_term_29 ?_
      exact Or.inr ⟨by simp [mcTerm, c6, xn_nI (show j < 2 ^ 31 by omega), c16], rfl, rfl⟩
    · refine xj_aload_n (i := 0) hk dX8_term_19 rfl rfl ?_
      refine xj_iload_n (i := 1) hk dX8_term_20 rfl rfl ?_
      refine xj_iload_n (i := 2) hk dX8_term_21 rfl rfl ?_
      refine xj_callVE hk hz (fr1 := 1) (lo1 := 21) (As := [.int (nI j), .int v1]) (st := []) ml_X8_118 (c_X8_becomes (a := a) (i := j) (M := (md_th M, nR te ho ow hs ra lo (nI n) st av so ln, md_pt M, md_re M, md_sd M, md_be M, md_pb M, md_ac M, md_od M, md_ad M, md_wy M, md_so M, md_rl M, md_io M, md_po M, md_sp M, md_rs M, md_st M, md_av M, md_ip M, md_tx M, md_tm M, md_ta M, md_td M, md_wo M, md_sq M, md_tk M, md_bg M, md_nu M, md_wr M)) (show G 21 = pM v (md_th M) (nR te ho ow hs ra lo (nI n) st av so ln) (md_pt M) (md_re M) (md_sd M) (md_be M) (md_pb M) (md_ac M) (md_od M) (md_ad M) (md_wy M) (md_so M) (md_rl M) (md_io M) (md_po M) (md_sp M) (md_rs M) (md_st M) (md_av M) (md_ip M) (md_tx M) (md_tm M) (md_ta M) (md_td M) (md_wo M) (md_sq M) (md_tk M) (md_bg M) (md_nu M) (md_wr M) from hM) hac ha12 v1 (by omega)) (xw_at hM rfl) rfl dX8_term_22 ⟨Nat.le_of_ble_eq_true rfl, Nat.le_of_ble_eq_true rfl⟩ rfl (Nat.le_of_ble_eq_true rfl) rfl ?_
      rintro _ _ ⟨be1, pb1, hKP, rfl, rfl⟩
      have hKP : KP a (nR te ho ow hs ra lo (nI n) st av so ln) (md_be M) (md_pt M) (md_pb M) be1 pb1 := hKP
      refine xj.eqi (x' := te j) (rR_te (k := j) (by omega)) ?_
      refine xj.eqG (G' := xw_up G 21 (pM v (md_th M) (nR (xu te j v1) ho ow hs ra lo (nI n) st av so ln) (md_pt M) (md_re M) (md_sd M) be1 pb1 (nI (min a 11 + 1)) (md_od M) (md_ad M) (md_wy M) (md_so M) (md_rl M) (md_io M) (md_po M) (md_sp M) (md_rs M) (md_st M) (md_av M) (md_ip M) (md_tx M) (md_tm M) (md_ta M) (md_td M) (md_wo M) (md_sq M) (md_tk M) (md_bg M) (md_nu M) (md_wr M))) (by rw [← wR_te (k := j) (by omega)]; rfl) ?_
      show xj v κ _ z (xw_up G 21 (pM v (md_th M) (nR (xu te j v1) ho ow hs ra lo (nI n) st av so ln) (md_pt M) (md_re M) (md_sd M) be1 pb1 (nI (min a 11 + 1)) (md_od M) (md_ad M) (md_wy M) (md_so M) (md_rl M) (md_io M) (md_po M) (md_sp M) (md_rs M) (md_st M) (md_av M) (md_ip M) (md_tx M) (md_tm M) (md_ta M) (md_td M) (md_wo M) (md_sq M) (md_tk M) (md_bg M) (md_nu M) (md_wr M))) 25 _ [.int (te j)]
      refine xj_goto (tgt := 29) hk dX8_term_25 (by decide) ?_
      refine xj_ireturn hk hz dX8_term_29 ?_
      refine Or.inl ⟨?_, be1, pb1, hKP, ?_, ?_⟩
      · first | (simp [mcTerm, c6, xn_nI (show j < 2 ^ 31 by omega), c16]; done) | contradiction
      · first | rfl | (simp only [xn_nI (show j < 2 ^ 31 by omega)]; done) | (simp only [xn_nI (show j < 2 ^ 31 by omega)]; rfl)
      · first | rfl | (simp only [xn_nI (show j < 2 ^ 31 by omega)]; done) | (simp only [xn_nI (show j < 2 ^ 31 by omega)]; rfl)


set_option maxHeartbeats 1000000 in
set_option maxRecDepth 10000 in
theorem l_X8_sells_10 {v : xw_V} {κ : xk_K} {post : Option Value → xw_G → Prop} {z : Nat × Nat × Nat} {G : xw_G} {M : md_T} {te ho ow hs ra lo st av so : Nat → Int32} {ln : Int32} {n : Nat} (hk : xk_Ok v κ yX8_sells cX8_sells 5 none 3 65) (hz : xk_zf κ = z) (hM : G 21 = pM v (md_th M) (nR te ho ow hs ra lo (nI n) st av so ln) (md_pt M) (md_re M) (md_sd M) (md_be M) (md_pb M) (md_ac M) (md_od M) (md_ad M) (md_wy M) (md_so M) (md_rl M) (md_io M) (md_po M) (md_sp M) (md_rs M) (md_st M) (md_av M) (md_ip M) (md_tx M) (md_tm M) (md_ta M) (md_td M) (md_wo M) (md_sq M) (md_tk M) (md_bg M) (md_nu M) (md_wr M)) (hn30 : n ≤ 30) (kx : xj v κ post z (xw_up G 21 (pM v (md_th M) (nR te ho ow hs ra lo (nI n) st av so ln) (md_pt M) (md_re M) (md_sd M) (md_be M) (md_pb M) (md_ac M) (md_od M) (md_ad M) (md_wy M) (cpN n (fun _ => 0) (md_so M)) (md_rl M) (cpN n (fun j => xb (decide (ra j = -1))) (md_io M)) (md_po M) (md_sp M) (md_rs M) (md_st M) (md_av M) (md_ip M) (md_tx M) (md_tm M) (md_ta M) (md_td M) (md_wo M) (md_sq M) (md_tk M) (md_bg M) (md_nu M) (md_wr M))) 42 [some (.ref (xw_ad v 21 0)), some (.int (nI n)), none, none, none] []) : ∀ (m : Nat) (k : Nat), n - k < m → k ≤ n → xj v κ post z (xw_up G 21 (pM v (md_th M) (nR te ho ow hs ra lo (nI n) st av so ln) (md_pt M) (md_re M) (md_sd M) (md_be M) (md_pb M) (md_ac M) (md_od M) (md_ad M) (md_wy M) (cpN k (fun _ => 0) (md_so M)) (md_rl M) (cpN k (fun j => xb (decide (ra j = -1))) (md_io M)) (md_po M) (md_sp M) (md_rs M) (md_st M) (md_av M) (md_ip M) (md_tx M) (md_tm M) (md_ta M) (md_td M) (md_wo M) (md_sq M) (md_tk M) (md_bg M) (md_nu M) (md_wr M))) 10 [some (.ref (xw_ad v 21 0)), some (.int (nI k)), none, none, none] [] := by
  intro m
  induction m with
  | zero => intro k h; exact absurd h (Nat.not_lt_zero _)
  | succ m ih =>
    intro k hm hi
    refine xj_iload_n (i := 1) hk dX8_sells_10 rfl rfl ?_
    refine xj_aload_n (i := 0) hk dX8_sells_11 rfl rfl ?_
    refine xj_callV hk hz (fr1 := 0) (lo1 := 0) (r1 := some (.int (nI n))) (As := []) (st := [.int (nI k)]) (st2 := [.int (nI n), .int (nI k)]) (G1 := xw_up G 21 (pM v (md_th M) (nR te ho ow hs ra lo (nI n) st av so ln) (md_pt M) (md_re M) (md_sd M) (md_be M) (md_pb M) (md_ac M) (md_od M) (md_ad M) (md_wy M) (cpN k (fun _ => 0) (md_so M)) (md_rl M) (cpN k (fun j => xb (decide (ra j = -1))) (md_io M)) (md_po M) (md_sp M) (md_rs M) (md_st M) (md_av M) (md_ip M) (md_tx M) (md_tm M) (md_ta M) (md_td M) (md_wo M) (md_sq M) (md_tk M) (md_bg M) (md_nu M) (md_wr M))) ml_X8_73 (c_X8_many (M := (md_th M, nR te ho ow hs ra lo (nI n) st av so ln, md_pt M, md_re M, md_sd M, md_be M, md_pb M, md_ac M, md_od M, md_ad M, md_wy M, cpN k (fun _ => 0) (md_so M), md_rl M, cpN k (fun j => xb (decide (ra j = -1))) (md_io M), md_po M, md_sp M, md_rs M, md_st M, md_av M, md_ip M, md_tx M, md_tm M, md_ta M, md_td M, md_wo M, md_sq M, md_tk M, md_bg M, md_nu M, md_wr M)) (show (xw_up G 21 (pM v (md_th M) (nR te ho ow hs ra lo (nI n) st av so ln) (md_pt M) (md_re M) (md_sd M) (md_be M) (md_pb M) (md_ac M) (md_od M) (md_ad M) (md_wy M) (cpN k (fun _ => 0) (md_so M)) (md_rl M) (cpN k (fun j => xb (decide (ra j = -1))) (md_io M)) (md_po M) (md_sp M) (md_rs M) (md_st M) (md_av M) (md_ip M) (md_tx M) (md_tm M) (md_ta M) (md_td M) (md_wo M) (md_sq M) (md_tk M) (md_bg M) (md_nu M) (md_wr M))) 21 = pM v (md_th M) (nR te ho ow hs ra lo (nI n) st av so ln) (md_pt M) (md_re M) (md_sd M) (md_be M) (md_pb M) (md_ac M) (md_od M) (md_ad M) (md_wy M) (cpN k (fun _ => 0) (md_so M)) (md_rl M) (cpN k (fun j => xb (decide (ra j = -1))) (md_io M)) (md_po M) (md_sp M) (md_rs M) (md_st M) (md_av M) (md_ip M) (md_tx M) (md_tm M) (md_ta M) (md_td M) (md_wo M) (md_sq M) (md_tk M) (md_bg M) (md_nu M) (md_wr M) from xw_up_s)) (xw_at xw_up_s rfl) rfl dX8_sells_12 ⟨Nat.le_of_ble_eq_true rfl, Nat.le_of_ble_eq_true rfl⟩ rfl (Nat.le_of_ble_eq_true rfl) rfl rfl ?_
    refine xj_icmp_ge (tgt := 42) hk dX8_sells_15 (by decide) (fun c15 => ?_) (fun c15 => ?_)
    · have c15 : n ≤ k := (nI_leI (a := n) (b := k) (by omega) (by omega)).mp c15
      have e9 : k = n := by omega
      subst e9
      exact kx
    · have c15 : ¬ n ≤ k := fun q => c15 ((nI_leI (a := n) (b := k) (by omega) (by omega)).mpr q)
      refine xj_aload_n (i := 0) hk dX8_sells_18 rfl rfl ?_
      refine xj_getfield hk dX8_sells_19 fl_X8_48 (xw_at xw_up_s rfl) rfl ?_
      refine xj_iload_n (i := 1) hk dX8_sells_22 rfl rfl ?_
      refine xj_aload_n (i := 0) hk dX8_sells_23 rfl rfl ?_
      refine xj_iload_n (i := 1) hk dX8_sells_24 rfl rfl ?_
      refine xj_callV hk hz (fr1 := 1) (lo1 := 21) (r1 := some (.int (xb (decide (ra k = -1))))) (As := [.int (nI k)]) (st := [.int (nI k), .ref (xw_ad v 21 12)]) (st2 := [.int (xb (decide (ra k = -1))), .int (nI k), .ref (xw_ad v 21 12)]) (G1 := xw_up G 21 (pM v (md_th M) (nR te ho ow hs ra lo (nI n) st av so ln) (md_pt M) (md_re M) (md_sd M) (md_be M) (md_pb M) (md_ac M) (md_od M) (md_ad M) (md_wy M) (cpN k (fun _ => 0) (md_so M)) (md_rl M) (cpN k (fun j => xb (decide (ra j = -1))) (md_io M)) (md_po M) (md_sp M) (md_rs M) (md_st M) (md_av M) (md_ip M) (md_tx M) (md_tm M) (md_ta M) (md_td M) (md_wo M) (md_sq M) (md_tk M) (md_bg M) (md_nu M) (md_wr M))) ml_X8_115 (c_X8_isPlain (b := k) (M := (md_th M, nR te ho ow hs ra lo (nI n) st av so ln, md_pt M, md_re M, md_sd M, md_be M, md_pb M, md_ac M, md_od M, md_ad M, md_wy M, cpN k (fun _ => 0) (md_so M), md_rl M, cpN k (fun j => xb (decide (ra j = -1))) (md_io M), md_po M, md_sp M, md_rs M, md_st M, md_av M, md_ip M, md_tx M, md_tm M, md_ta M, md_td M, md_wo M, md_sq M, md_tk M, md_bg M, md_nu M, md_wr M)) (show (xw_up G 21 (pM v (md_th M) (nR te ho ow hs ra lo (nI n) st av so ln) (md_pt M) (md_re M) (md_sd M) (md_be M) (md_pb M) (md_ac M) (md_od M) (md_ad M) (md_wy M) (cpN k (fun _ => 0) (md_so M)) (md_rl M) (cpN k (fun j => xb (decide (ra j = -1))) (md_io M)) (md_po M) (md_sp M) (md_rs M) (md_st M) (md_av M) (md_ip M) (md_tx M) (md_tm M) (md_ta M) (md_td M) (md_wo M) (md_sq M) (md_tk M) (md_bg M) (md_nu M) (md_wr M))) 21 = pM v (md_th M) (nR te ho ow hs ra lo (nI n) st av so ln) (md_pt M) (md_re M) (md_sd M) (md_be M) (md_pb M) (md_ac M) (md_od M) (md_ad M) (md_wy M) (cpN k (fun _ => 0) (md_so M)) (md_rl M) (cpN k (fun j => xb (decide (ra j = -1))) (md_io M)) (md_po M) (md_sp M) (md_rs M) (md_st M) (md_av M) (md_ip M) (md_tx M) (md_tm M) (md_ta M) (md_td M) (md_wo M) (md_sq M) (md_tk M) (md_bg M) (md_nu M) (md_wr M) from xw_up_s) (by omega)) (xw_at xw_up_s rfl) rfl dX8_sells_25 ⟨Nat.le_of_ble_eq_true rfl, Nat.le_of_ble_eq_true rfl⟩ rfl (Nat.le_of_ble_eq_true rfl) rfl rfl ?_
      refine xj_zastore (k := k) (G2 := xw_up G 21 (pM v (md_th M) (nR te ho ow hs ra lo (nI n) st av so ln) (md_pt M) (md_re M) (md_sd M) (md_be M) (md_pb M) (md_ac M) (md_od M) (md_ad M) (md_wy M) (cpN k (fun _ => 0) (md_so M)) (md_rl M) (xu (cpN k (fun j => xb (decide (ra j = -1))) (md_io M)) k (xb (decide (ra k = -1)))) (md_po M) (md_sp M) (md_rs M) (md_st M) (md_av M) (md_ip M) (md_tx M) (md_tm M) (md_ta M) (md_td M) (md_wo M) (md_sq M) (md_tk M) (md_bg M) (md_nu M) (md_wr M))) hk dX8_sells_28 (xw_at xw_up_s rfl) (xi_n (by omega) (by decide)) (xb_nar _) (xw_wr2 rfl) ?_
      refine xj_aload_n (i := 0) hk dX8_sells_29 rfl rfl ?_
      refine xj_getfield hk dX8_sells_30 fl_X8_42 (xw_at xw_up_s rfl) rfl ?_
      refine xj_iload_n (i := 1) hk dX8_sells_33 rfl rfl ?_
      refine xj_iconst (x := 0) hk dX8_sells_34 (by decide) ?_
      refine xj_iastore (k := k) (G2 := xw_up G 21 (pM v (md_th M) (nR te ho ow hs ra lo (nI n) st av so ln) (md_pt M) (md_re M) (md_sd M) (md_be M) (md_pb M) (md_ac M) (md_od M) (md_ad M) (md_wy M) (xu (cpN k (fun _ => 0) (md_so M)) k 0) (md_rl M) (xu (cpN k (fun j => xb (decide (ra j = -1))) (md_io M)) k (xb (decide (ra k = -1)))) (md_po M) (md_sp M) (md_rs M) (md_st M) (md_av M) (md_ip M) (md_tx M) (md_tm M) (md_ta M) (md_td M) (md_wo M) (md_sq M) (md_tk M) (md_bg M) (md_nu M) (md_wr M))) hk dX8_sells_35 (xw_at xw_up_s rfl) (xi_n (by omega) (by decide)) (xw_wr2 rfl) ?_
      refine xj_iinc (i := 1) (x2 := nI (k + 1)) (ls2 := [some (.ref (xw_ad v 21 0)), some (.int (nI (k + 1))), none, none, none]) hk dX8_sells_36 rfl (nI_1 k) (by decide) rfl rfl ?_
      refine xj_goto (tgt := 10) hk dX8_sells_39 (by decide) ?_
      refine xj.eqG (G' := xw_up G 21 (pM v (md_th M) (nR te ho ow hs ra lo (nI n) st av so ln) (md_pt M) (md_re M) (md_sd M) (md_be M) (md_pb M) (md_ac M) (md_od M) (md_ad M) (md_wy M) (cpN ((k + 1)) (fun _ => 0) (md_so M)) (md_rl M) (cpN ((k + 1)) (fun j => xb (decide (ra j = -1))) (md_io M)) (md_po M) (md_sp M) (md_rs M) (md_st M) (md_av M) (md_ip M) (md_tx M) (md_tm M) (md_ta M) (md_td M) (md_wo M) (md_sq M) (md_tk M) (md_bg M) (md_nu M) (md_wr M))) (by rw [cp_e (n := k) (f' := fun j => xb (decide (ra j = -1))) rfl, cp_sc]) (ih (k + 1) (by omega) (by omega))

set_option maxHeartbeats 1000000 in
set_option maxRecDepth 10000 in
theorem l_X8_sells_78 {v : xw_V} {κ : xk_K} {post : Option Value → xw_G → Prop} {z : Nat × Nat × Nat} {G : xw_G} {M : md_T} {te ho ow hs ra lo st av so : Nat → Int32} {ln : Int32} {n : Nat} (hk : xk_Ok v κ yX8_sells cX8_sells 5 none 3 65) (hz : xk_zf κ = z) (hM : G 21 = pM v (md_th M) (nR te ho ow hs ra lo (nI n) st av so ln) (md_pt M) (md_re M) (md_sd M) (md_be M) (md_pb M) (md_ac M) (md_od M) (md_ad M) (md_wy M) (md_so M) (md_rl M) (md_io M) (md_po M) (md_sp M) (md_rs M) (md_st M) (md_av M) (md_ip M) (md_tx M) (md_tm M) (md_ta M) (md_td M) (md_wo M) (md_sq M) (md_tk M) (md_bg M) (md_nu M) (md_wr M)) (hn30 : n ≤ 30) (kx : xj v κ post z (xw_up G 21 (pM v (md_th M) (nR te ho ow hs ra lo (nI n) st av so ln) (md_pt M) (md_re M) (md_sd M) (md_be M) (md_pb M) (md_ac M) (md_od M) (md_ad M) (md_wy M) (md_so M) (md_rl M) (md_io M) (md_po M) (sm (md_so M) n) (md_rs M) (md_st M) (md_av M) (md_ip M) (md_tx M) (md_tm M) (md_ta M) (md_td M) (md_wo M) (md_sq M) (md_tk M) (md_bg M) (md_nu M) (md_wr M))) 107 [some (.ref (xw_ad v 21 0)), some (.int (nI n)), none, none, none] []) : ∀ (m : Nat) (k : Nat), n - k < m → k ≤ n → xj v κ post z (xw_up G 21 (pM v (md_th M) (nR te ho ow hs ra lo (nI n) st av so ln) (md_pt M) (md_re M) (md_sd M) (md_be M) (md_pb M) (md_ac M) (md_od M) (md_ad M) (md_wy M) (md_so M) (md_rl M) (md_io M) (md_po M) (sm (md_so M) k) (md_rs M) (md_st M) (md_av M) (md_ip M) (md_tx M) (md_tm M) (md_ta M) (md_td M) (md_wo M) (md_sq M) (md_tk M) (md_bg M) (md_nu M) (md_wr M))) 78 [some (.ref (xw_ad v 21 0)), some (.int (nI k)), none, none, none] [] := by
  intro m
  induction m with
  | zero => intro k h; exact absurd h (Nat.not_lt_zero _)
  | succ m ih =>
    intro k hm hi
    refine xj_iload_n (i := 1) hk dX8_sells_78 rfl rfl ?_
    refine xj_aload_n (i := 0) hk dX8_sells_79 rfl rfl ?_
    refine xj_callV hk hz (fr1 := 0) (lo1 := 0) (r1 := some (.int (nI n))) (As := []) (st := [.int (nI k)]) (st2 := [.int (nI n), .int (nI k)]) (G1 := xw_up G 21 (pM v (md_th M) (nR te ho ow hs ra lo (nI n) st av so ln) (md_pt M) (md_re M) (md_sd M) (md_be M) (md_pb M) (md_ac M) (md_od M) (md_ad M) (md_wy M) (md_so M) (md_rl M) (md_io M) (md_po M) (sm (md_so M) k) (md_rs M) (md_st M) (md_av M) (md_ip M) (md_tx M) (md_tm M) (md_ta M) (md_td M) (md_wo M) (md_sq M) (md_tk M) (md_bg M) (md_nu M) (md_wr M))) ml_X8_73 (c_X8_many (M := (md_th M, nR te ho ow hs ra lo (nI n) st av so ln, md_pt M, md_re M, md_sd M, md_be M, md_pb M, md_ac M, md_od M, md_ad M, md_wy M, md_so M, md_rl M, md_io M, md_po M, sm (md_so M) k, md_rs M, md_st M, md_av M, md_ip M, md_tx M, md_tm M, md_ta M, md_td M, md_wo M, md_sq M, md_tk M, md_bg M, md_nu M, md_wr M)) (show (xw_up G 21 (pM v (md_th M) (nR te ho ow hs ra lo (nI n) st av so ln) (md_pt M) (md_re M) (md_sd M) (md_be M) (md_pb M) (md_ac M) (md_od M) (md_ad M) (md_wy M) (md_so M) (md_rl M) (md_io M) (md_po M) (sm (md_so M) k) (md_rs M) (md_st M) (md_av M) (md_ip M) (md_tx M) (md_tm M) (md_ta M) (md_td M) (md_wo M) (md_sq M) (md_tk M) (md_bg M) (md_nu M) (md_wr M))) 21 = pM v (md_th M) (nR te ho ow hs ra lo (nI n) st av so ln) (md_pt M) (md_re M) (md_sd M) (md_be M) (md_pb M) (md_ac M) (md_od M) (md_ad M) (md_wy M) (md_so M) (md_rl M) (md_io M) (md_po M) (sm (md_so M) k) (md_rs M) (md_st M) (md_av M) (md_ip M) (md_tx M) (md_tm M) (md_ta M) (md_td M) (md_wo M) (md_sq M) (md_tk M) (md_bg M) (md_nu M) (md_wr M) from xw_up_s)) (xw_at xw_up_s rfl) rfl dX8_sells_80 ⟨Nat.le_of_ble_eq_true rfl, Nat.le_of_ble_eq_true rfl⟩ rfl (Nat.le_of_ble_eq_true rfl) rfl rfl ?_
    refine xj_icmp_ge (tgt := 107) hk dX8_sells_83 (by decide) (fun c83 => ?_) (fun c83 => ?_)
    · have c83 : n ≤ k := (nI_leI (a := n) (b := k) (by omega) (by omega)).mp c83
      have e9 : k = n := by omega
      subst e9
      exact kx
    · have c83 : ¬ n ≤ k := fun q => c83 ((nI_leI (a := n) (b := k) (by omega) (by omega)).mpr q)
      refine xj_aload_n (i := 0) hk dX8_sells_86 rfl rfl ?_
      refine xj_dup hk dX8_sells_87 rfl ?_
      refine xj_getfield hk dX8_sells_88 fl_X8_147 (xw_at xw_up_s rfl) rfl ?_
      refine xj_aload_n (i := 0) hk dX8_sells_91 rfl rfl ?_
      refine xj_getfield hk dX8_sells_92 fl_X8_42 (xw_at xw_up_s rfl) rfl ?_
      refine xj_iload_n (i := 1) hk dX8_sells_95 rfl rfl ?_
      refine xj_iaload (k := k) hk dX8_sells_96 (xw_at xw_up_s rfl) (xi_n (by omega) (by decide)) ?_
      refine xj_iadd hk dX8_sells_97 ?_
      refine xj_putfield (G2 := xw_up G 21 (pM v (md_th M) (nR te ho ow hs ra lo (nI n) st av so ln) (md_pt M) (md_re M) (md_sd M) (md_be M) (md_pb M) (md_ac M) (md_od M) (md_ad M) (md_wy M) (md_so M) (md_rl M) (md_io M) (md_po M) ((sm (md_so M) k) + (md_so M k)) (md_rs M) (md_st M) (md_av M) (md_ip M) (md_tx M) (md_tm M) (md_ta M) (md_td M) (md_wo M) (md_sq M) (md_tk M) (md_bg M) (md_nu M) (md_wr M))) hk dX8_sells_98 fl_X8_147 rfl rfl (xw_at xw_up_s rfl) (Nat.le_of_ble_eq_true rfl) (xw_wr2 rfl) ?_
      refine xj_iinc (i := 1) (x2 := nI (k + 1)) (ls2 := [some (.ref (xw_ad v 21 0)), some (.int (nI (k + 1))), none, none, none]) hk dX8_sells_101 rfl (nI_1 k) (by decide) rfl rfl ?_
      refine xj_goto (tgt := 78) hk dX8_sells_104 (by decide) ?_
      refine xj.eqG (G' := xw_up G 21 (pM v (md_th M) (nR te ho ow hs ra lo (nI n) st av so ln) (md_pt M) (md_re M) (md_sd M) (md_be M) (md_pb M) (md_ac M) (md_od M) (md_ad M) (md_wy M) (md_so M) (md_rl M) (md_io M) (md_po M) (sm (md_so M) ((k + 1))) (md_rs M) (md_st M) (md_av M) (md_ip M) (md_tx M) (md_tm M) (md_ta M) (md_td M) (md_wo M) (md_sq M) (md_tk M) (md_bg M) (md_nu M) (md_wr M))) (by rfl) (ih (k + 1) (by omega) (by omega))

set_option maxHeartbeats 1000000 in
set_option maxRecDepth 10000 in
theorem l_X8_sells_337 {v : xw_V} {κ : xk_K} {post : Option Value → xw_G → Prop} {z : Nat × Nat × Nat} {G : xw_G} {M : md_T} {te ho ow hs ra lo st av so : Nat → Int32} {ln : Int32} {n : Nat} (hk : xk_Ok v κ yX8_sells cX8_sells 5 none 3 65) (hz : xk_zf κ = z) (hM : G 21 = pM v (md_th M) (nR te ho ow hs ra lo (nI n) st av so ln) (md_pt M) (md_re M) (md_sd M) (md_be M) (md_pb M) (md_ac M) (md_od M) (md_ad M) (md_wy M) (md_so M) (md_rl M) (md_io M) (md_po M) (md_sp M) (md_rs M) (md_st M) (md_av M) (md_ip M) (md_tx M) (md_tm M) (md_ta M) (md_td M) (md_wo M) (md_sq M) (md_tk M) (md_bg M) (md_nu M) (md_wr M)) (hn30 : n ≤ 30) (kx : xj v κ post z G 391 [some (.ref (xw_ad v 21 0)), none, some (.int (sm (fun j => if ra j = -1 then 0 else md_so M j) n)), some (.int (sm (fun j => if ra j = -1 then 0 else md_so M j * ra j) n)), some (.int (nI n))] []) : ∀ (m : Nat) (k : Nat), n - k < m → k ≤ n → xj v κ post z G 337 [some (.ref (xw_ad v 21 0)), none, some (.int (sm (fun j => if ra j = -1 then 0 else md_so M j) k)), some (.int (sm (fun j => if ra j = -1 then 0 else md_so M j * ra j) k)), some (.int (nI k))] [] := by
  intro m
  induction m with
  | zero => intro k h; exact absurd h (Nat.not_lt_zero _)
  | succ m ih =>
    intro k hm hi
    refine xj_iload hk dX8_sells_337 rfl ?_
    refine xj_aload_n (i := 0) hk dX8_sells_339 rfl rfl ?_
    refine xj_callV hk hz (fr1 := 0) (lo1 := 0) (r1 := some (.int (nI n))) (As := []) (st := [.int (nI k)]) (st2 := [.int (nI n), .int (nI k)]) (G1 := G) ml_X8_73 (c_X8_many (M := M) (show G 21 = pM v (md_th M) (nR te ho ow hs ra lo (nI n) st av so ln) (md_pt M) (md_re M) (md_sd M) (md_be M) (md_pb M) (md_ac M) (md_od M) (md_ad M) (md_wy M) (md_so M) (md_rl M) (md_io M) (md_po M) (md_sp M) (md_rs M) (md_st M) (md_av M) (md_ip M) (md_tx M) (md_tm M) (md_ta M) (md_td M) (md_wo M) (md_sq M) (md_tk M) (md_bg M) (md_nu M) (md_wr M) from hM)) (xw_at hM rfl) rfl dX8_sells_340 ⟨Nat.le_of_ble_eq_true rfl, Nat.le_of_ble_eq_true rfl⟩ rfl (Nat.le_of_ble_eq_true rfl) rfl rfl ?_
    refine xj_icmp_ge (tgt := 391) hk dX8_sells_343 (by decide) (fun c343 => ?_) (fun c343 => ?_)
    · have c343 : n ≤ k := (nI_leI (a := n) (b := k) (by omega) (by omega)).mp c343
      have e9 : k = n := by omega
      subst e9
      exact kx
    · have c343 : ¬ n ≤ k := fun q => c343 ((nI_leI (a := n) (b := k) (by omega) (by omega)).mpr q)
      refine xj_aload_n (i := 0) hk dX8_sells_346 rfl rfl ?_
      refine xj_iload hk dX8_sells_347 rfl ?_
      refine xj_callV hk hz (fr1 := 1) (lo1 := 21) (r1 := some (.int (xb (decide (ra k = -1))))) (As := [.int (nI k)]) (st := []) (st2 := [.int (xb (decide (ra k = -1)))]) (G1 := G) ml_X8_115 (c_X8_isPlain (b := k) (M := M) (show G 21 = pM v (md_th M) (nR te ho ow hs ra lo (nI n) st av so ln) (md_pt M) (md_re M) (md_sd M) (md_be M) (md_pb M) (md_ac M) (md_od M) (md_ad M) (md_wy M) (md_so M) (md_rl M) (md_io M) (md_po M) (md_sp M) (md_rs M) (md_st M) (md_av M) (md_ip M) (md_tx M) (md_tm M) (md_ta M) (md_td M) (md_wo M) (md_sq M) (md_tk M) (md_bg M) (md_nu M) (md_wr M) from hM) (by omega)) (xw_at hM rfl) rfl dX8_sells_349 ⟨Nat.le_of_ble_eq_true rfl, Nat.le_of_ble_eq_true rfl⟩ rfl (Nat.le_of_ble_eq_true rfl) rfl rfl ?_
      refine xj_ifb_eq (tgt := 358) hk dX8_sells_352 (by decide) (fun c352 => ?_) (fun c352 => ?_)
      · refine xj_iload_n (i := 2) hk dX8_sells_358 rfl rfl ?_
        refine xj_aload_n (i := 0) hk dX8_sells_359 rfl rfl ?_
        refine xj_getfield hk dX8_sells_360 fl_X8_42 (xw_at hM rfl) rfl ?_
        refine xj_iload hk dX8_sells_363 rfl ?_
        refine xj_iaload (k := k) hk dX8_sells_365 (xw_at hM rfl) (xi_n (by omega) (by decide)) ?_
        refine xj_iadd hk dX8_sells_366 ?_
        refine xj_istore_n (i := 2) (ls2 := [some (.ref (xw_ad v 21 0)), none, some (.int ((sm (fun j => if ra j = -1 then 0 else md_so M j) k) + (md_so M k))), some (.int (sm (fun j => if ra j = -1 then 0 else md_so M j * ra j) k)), some (.int (nI k))]) hk dX8_sells_367 rfl (by decide) rfl rfl ?_
        refine xj_iload_n (i := 3) hk dX8_sells_368 rfl rfl ?_
        refine xj_aload_n (i := 0) hk dX8_sells_369 rfl rfl ?_
        refine xj_getfield hk dX8_sells_370 fl_X8_42 (xw_at hM rfl) rfl ?_
        refine xj_iload hk dX8_sells_373 rfl ?_
        refine xj_iaload (k := k) hk dX8_sells_375 (xw_at hM rfl) (xi_n (by omega) (by decide)) ?_
        refine xj_aload_n (i := 0) hk dX8_sells_376 rfl rfl ?_
        refine xj_iload hk dX8_sells_377 rfl ?_
        refine xj_callV hk hz (fr1 := 0) (lo1 := 0) (r1 := some (.int (ra k))) (As := [.int (nI k)]) (st := [.int (md_so M k), .int (sm (fun j => if ra j = -1 then 0 else md_so M j * ra j) k)]) (st2 := [.int (ra k), .int (md_so M k), .int (sm (fun j => if ra j = -1 then 0 else md_so M j * ra j) k)]) (G1 := G) ml_X8_77 (c_X8_rateOf (b := k) (M := M) (show G 21 = pM v (md_th M) (nR te ho ow hs ra lo (nI n) st av so ln) (md_pt M) (md_re M) (md_sd M) (md_be M) (md_pb M) (md_ac M) (md_od M) (md_ad M) (md_wy M) (md_so M) (md_rl M) (md_io M) (md_po M) (md_sp M) (md_rs M) (md_st M) (md_av M) (md_ip M) (md_tx M) (md_tm M) (md_ta M) (md_td M) (md_wo M) (md_sq M) (md_tk M) (md_bg M) (md_nu M) (md_wr M) from hM) (by omega)) (xw_at hM rfl) rfl dX8_sells_379 ⟨Nat.le_of_ble_eq_true rfl, Nat.le_of_ble_eq_true rfl⟩ rfl (Nat.le_of_ble_eq_true rfl) rfl rfl ?_
        refine xj_imul hk dX8_sells_382 ?_
        refine xj_iadd hk dX8_sells_383 ?_
        refine xj_istore_n (i := 3) (ls2 := [some (.ref (xw_ad v 21 0)), none, some (.int ((sm (fun j => if ra j = -1 then 0 else md_so M j) k) + (md_so M k))), some (.int ((sm (fun j => if ra j = -1 then 0 else md_so M j * ra j) k) + ((md_so M k) * (ra k)))), some (.int (nI k))]) hk dX8_sells_384 rfl (by decide) rfl rfl ?_
        refine xj_iinc (i := 4) (x2 := nI (k + 1)) (ls2 := [some (.ref (xw_ad v 21 0)), none, some (.int ((sm (fun j => if ra j = -1 then 0 else md_so M j) k) + (md_so M k))), some (.int ((sm (fun j => if ra j = -1 then 0 else md_so M j * ra j) k) + ((md_so M k) * (ra k)))), some (.int (nI (k + 1)))]) hk dX8_sells_385 rfl (nI_1 k) (by decide) rfl rfl ?_
        refine xj_goto (tgt := 337) hk dX8_sells_388 (by decide) ?_
        refine xj.to (ls' := [some (.ref (xw_ad v 21 0)), none, some (.int (sm (fun j => if ra j = -1 then 0 else md_so M j) ((k + 1)))), some (.int (sm (fun j => if ra j = -1 then 0 else md_so M j * ra j) ((k + 1)))), some (.int (nI ((k + 1))))]) (by (try simp only [decide_eq_true_eq, decide_eq_false_iff_not] at c352); simp [sm, *]) (ih (k + 1) (by omega) (by omega))
      · refine xj_goto (tgt := 385) hk dX8_sells_355 (by decide) ?_
        refine xj_iinc (i := 4) (x2 := nI (k + 1)) (ls2 := [some (.ref (xw_ad v 21 0)), none, some (.int (sm (fun j => if ra j = -1 then 0 else md_so M j) k)), some (.int (sm (fun j => if ra j = -1 then 0 else md_so M j * ra j) k)), some (.int (nI (k + 1)))]) hk dX8_sells_385 rfl (nI_1 k) (by decide) rfl rfl ?_
        refine xj_goto (tgt := 337) hk dX8_sells_388 (by decide) ?_
        refine xj.to (ls' := [some (.ref (xw_ad v 21 0)), none, some (.int (sm (fun j => if ra j = -1 then 0 else md_so M j) ((k + 1)))), some (.int (sm (fun j => if ra j = -1 then 0 else md_so M j * ra j) ((k + 1)))), some (.int (nI ((k + 1))))]) (by (try simp only [decide_eq_true_eq, decide_eq_false_iff_not] at c352); simp [sm, *]) (ih (k + 1) (by omega) (by omega))


set_option maxHeartbeats 1000000 in
set_option maxRecDepth 10000 in
theorem c_X8_isResult {v : xw_V} {G : xw_G}  (x : Int32) : xk_Con v yX8_isResult cX8_isResult 1 (some .boolean) 1 22 [.int x] G (xk_ret (some (.int (xb (mIn x 0 11)))) G) := by
  refine xk_of (ls0 := [some (.int x)]) (by decide) rfl (Nat.le_of_ble_eq_true rfl) ?_
  intro κ z hk hz
  refine xj_iload_n (i := 0) hk dX8_isResult_0 rfl rfl ?_
  refine xj_iconst (x := 0) hk dX8_isResult_1 (by decide) ?_
  refine xj_bipush (x := 11) hk dX8_isResult_2 (by decide) ?_
  refine xj_callS hk hz (fr1 := 0) (lo1 := 0) (r1 := some (.int (xb (mIn x 0 11)))) (As := [.int x, .int 0, .int 11]) (st := []) (st2 := [.int (xb (mIn x 0 11))]) (G1 := G) ml_X8_69 (c_X8_in x 0 11) dX8_isResult_4 ⟨Nat.le_of_ble_eq_true rfl, Nat.le_of_ble_eq_true rfl⟩ rfl (Nat.le_of_ble_eq_true rfl) rfl rfl ?_
  refine xj_zreturn hk hz dX8_isResult_7 (xb_nar _) ?_
  exact ⟨rfl, rfl⟩

set_option maxHeartbeats 1000000 in
set_option maxRecDepth 10000 in
theorem c_X8_result {v : xw_V} {G : xw_G} {M : md_T} {te ho ow hs ra lo st av so : Nat → Int32} {ln : Int32} {n : Nat} (hM : G 21 = pM v (md_th M) (nR te ho ow hs ra lo (nI n) st av so ln) (md_pt M) (md_re M) (md_sd M) (md_be M) (md_pb M) (md_ac M) (md_od M) (md_ad M) (md_wy M) (md_so M) (md_rl M) (md_io M) (md_po M) (md_sp M) (md_rs M) (md_st M) (md_av M) (md_ip M) (md_tx M) (md_tm M) (md_ta M) (md_td M) (md_wo M) (md_sq M) (md_tk M) (md_bg M) (md_nu M) (md_wr M)) (hq : MV te ow hs ra lo n) (w : Int32) : xk_Con v yX8_result cX8_result 2 (some .int) 5 113 [.ref (xw_ad v 21 0), .int w] G (fun r9 G' => r9 = some (.int (fig (mB te ho ow hs ra lo n) (kM te ho ow hs ra lo n) n w)) ∧ mQ v G G' (nR te ho ow hs ra lo (nI n) st av so ln) M) := by
  refine xk_of (ls0 := [some (.ref (xw_ad v 21 0)), some (.int w)]) (by decide) rfl (Nat.le_of_ble_eq_true rfl) ?_
  intro κ z hk hz
  refine xj_iload_n (i := 1) hk dX8_result_0 rfl rfl ?_
  refine xj_callS hk hz (fr1 := 1) (lo1 := 22) (r1 := some (.int (xb (mIn w 0 11)))) (As := [.int w]) (st := []) (st2 := [.int (xb (mIn w 0 11))]) (G1 := G) ml_X8_201 (c_X8_isResult w) dX8_result_1 ⟨Nat.le_of_ble_eq_true rfl, Nat.le_of_ble_eq_true rfl⟩ rfl (Nat.le_of_ble_eq_true rfl) rfl rfl ?_
  refine xj_ifb_eq (tgt := 15) hk dX8_result_4 (by decide) (fun c4 => ?_) (fun c4 => ?_)
  · refine xj_iconst (x := (-1)) hk dX8_result_15 (by decide) ?_
    refine xj_ireturn hk hz dX8_result_16 ?_
    refine ⟨?_, ⟨⟨M, hM, rfl, rfl, rfl, rfl, rfl, rfl, rfl⟩, fun _ _ => rfl⟩⟩
    · obtain ⟨u0, u1, u2, u3, u4, u5, u6, u7, u8, u9, u10, u11⟩ := mOut11 c4
      simp [fig, u0, u1, u2, u3, u4, u5, u6, u7, u8, u9, u10, u11]
  · refine xj_aload_n (i := 0) hk dX8_result_7 rfl rfl ?_
    refine xj_iload_n (i := 1) hk dX8_result_8 rfl rfl ?_
    refine xj_callVE hk hz (fr1 := 4) (lo1 := 89) (As := [.int w]) (st := []) ml_X8_204 (c_X8_told (n := n) (M := M) (show G 21 = pM v (md_th M) (nR te ho ow hs ra lo (nI n) st av so ln) (md_pt M) (md_re M) (md_sd M) (md_be M) (md_pb M) (md_ac M) (md_od M) (md_ad M) (md_wy M) (md_so M) (md_rl M) (md_io M) (md_po M) (md_sp M) (md_rs M) (md_st M) (md_av M) (md_ip M) (md_tx M) (md_tm M) (md_ta M) (md_td M) (md_wo M) (md_sq M) (md_tk M) (md_bg M) (md_nu M) (md_wr M) from hM) hq w c4) (xw_at hM rfl) rfl dX8_result_9 ⟨Nat.le_of_ble_eq_true rfl, Nat.le_of_ble_eq_true rfl⟩ rfl (Nat.le_of_ble_eq_true rfl) rfl ?_
    rintro _ G_M1 ⟨rfl, ⟨M1, hM1, hkM1⟩, hfM1⟩
    show xj v κ _ z G_M1 12 _ [.int (fig (mB te ho ow hs ra lo n) (kM te ho ow hs ra lo n) n w)]
    refine xj_goto (tgt := 16) hk dX8_result_12 (by decide) ?_
    refine xj_ireturn hk hz dX8_result_16 ?_
    refine ⟨?_, ⟨⟨M1, hM1, hkM1⟩, hfM1⟩⟩
    · rfl

set_option maxHeartbeats 1000000 in
set_option maxRecDepth 10000 in
theorem l_X8_bids_4 {v : xw_V} {κ : xk_K} {post : Option Value → xw_G → Prop} {z : Nat × Nat × Nat} {G : xw_G} {M : md_T} {te ho ow hs ra lo st av so : Nat → Int32} {ln : Int32} {n : Nat} (hk : xk_Ok v κ yX8_bids cX8_bids 4 (some .int) 1 21) (hz : xk_zf κ = z) (hM : G 21 = pM v (md_th M) (nR te ho ow hs ra lo (nI n) st av so ln) (md_pt M) (md_re M) (md_sd M) (md_be M) (md_pb M) (md_ac M) (md_od M) (md_ad M) (md_wy M) (md_so M) (md_rl M) (md_io M) (md_po M) (md_sp M) (md_rs M) (md_st M) (md_av M) (md_ip M) (md_tx M) (md_tm M) (md_ta M) (md_td M) (md_wo M) (md_sq M) (md_tk M) (md_bg M) (md_nu M) (md_wr M)) (hn30 : n ≤ 30) (x : Int32) (kx : xj v κ post z G 30 [some (.ref (xw_ad v 21 0)), some (.int x), some (.int (sm (fun j => if hs j = x then 1 else 0) n)), some (.int (nI n))] []) : ∀ (m : Nat) (k : Nat), n - k < m → k ≤ n → xj v κ post z G 4 [some (.ref (xw_ad v 21 0)), some (.int x), some (.int (sm (fun j => if hs j = x then 1 else 0) k)), some (.int (nI k))] [] := by
  intro m
  induction m with
  | zero => intro k h; exact absurd h (Nat.not_lt_zero _)
  | succ m ih =>
    intro k hm hi
    refine xj_iload_n (i := 3) hk dX8_bids_4 rfl rfl ?_
    refine xj_aload_n (i := 0) hk dX8_bids_5 rfl rfl ?_
    refine xj_callV hk hz (fr1 := 0) (lo1 := 0) (r1 := some (.int (nI n))) (As := []) (st := [.int (nI k)]) (st2 := [.int (nI n), .int (nI k)]) (G1 := G) ml_X8_73 (c_X8_many (M := M) (show G 21 = pM v (md_th M) (nR te ho ow hs ra lo (nI n) st av so ln) (md_pt M) (md_re M) (md_sd M) (md_be M) (md_pb M) (md_ac M) (md_od M) (md_ad M) (md_wy M) (md_so M) (md_rl M) (md_io M) (md_po M) (md_sp M) (md_rs M) (md_st M) (md_av M) (md_ip M) (md_tx M) (md_tm M) (md_ta M) (md_td M) (md_wo M) (md_sq M) (md_tk M) (md_bg M) (md_nu M) (md_wr M) from hM)) (xw_at hM rfl) rfl dX8_bids_6 ⟨Nat.le_of_ble_eq_true rfl, Nat.le_of_ble_eq_true rfl⟩ rfl (Nat.le_of_ble_eq_true rfl) rfl rfl ?_
    refine xj_icmp_ge (tgt := 30) hk dX8_bids_9 (by decide) (fun c9 => ?_) (fun c9 => ?_)
    · have c9 : n ≤ k := (nI_leI (a := n) (b := k) (by omega) (by omega)).mp c9
      have e9 : k = n := by omega
      subst e9
      exact kx
    · have c9 : ¬ n ≤ k := fun q => c9 ((nI_leI (a := n) (b := k) (by omega) (by omega)).mpr q)
      refine xj_aload_n (i := 0) hk dX8_bids_12 rfl rfl ?_
      refine xj_iload_n (i := 3) hk dX8_bids_13 rfl rfl ?_
      refine xj_callV hk hz (fr1 := 0) (lo1 := 0) (r1 := some (.int (hs k))) (As := [.int (nI k)]) (st := []) (st2 := [.int (hs k)]) (G1 := G) ml_X8_81 (c_X8_houseOf (b := k) (M := M) (show G 21 = pM v (md_th M) (nR te ho ow hs ra lo (nI n) st av so ln) (md_pt M) (md_re M) (md_sd M) (md_be M) (md_pb M) (md_ac M) (md_od M) (md_ad M) (md_wy M) (md_so M) (md_rl M) (md_io M) (md_po M) (md_sp M) (md_rs M) (md_st M) (md_av M) (md_ip M) (md_tx M) (md_tm M) (md_ta M) (md_td M) (md_wo M) (md_sq M) (md_tk M) (md_bg M) (md_nu M) (md_wr M) from hM) (by omega)) (xw_at hM rfl) rfl dX8_bids_14 ⟨Nat.le_of_ble_eq_true rfl, Nat.le_of_ble_eq_true rfl⟩ rfl (Nat.le_of_ble_eq_true rfl) rfl rfl ?_
      refine xj_iload_n (i := 1) hk dX8_bids_17 rfl rfl ?_
      refine xj_icmp_ne (tgt := 24) hk dX8_bids_18 (by decide) (fun c18 => ?_) (fun c18 => ?_)
      · refine xj_iinc (i := 3) (x2 := nI (k + 1)) (ls2 := [some (.ref (xw_ad v 21 0)), some (.int x), some (.int (sm (fun j => if hs j = x then 1 else 0) k)), some (.int (nI (k + 1)))]) hk dX8_bids_24 rfl (nI_1 k) (by decide) rfl rfl ?_
        refine xj_goto (tgt := 4) hk dX8_bids_27 (by decide) ?_
        refine xj.to (ls' := [some (.ref (xw_ad v 21 0)), some (.int x), some (.int (sm (fun j => if hs j = x then 1 else 0) ((k + 1)))), some (.int (nI ((k + 1))))]) (by simp [sm, *]) (ih (k + 1) (by omega) (by omega))
      · refine xj_iinc (i := 2) (x2 := (sm (fun j => if hs j = x then 1 else 0) k) + 1) (ls2 := [some (.ref (xw_ad v 21 0)), some (.int x), some (.int ((sm (fun j => if hs j = x then 1 else 0) k) + 1)), some (.int (nI k))]) hk dX8_bids_21 rfl rfl (by decide) rfl rfl ?_
        refine xj_iinc (i := 3) (x2 := nI (k + 1)) (ls2 := [some (.ref (xw_ad v 21 0)), some (.int x), some (.int ((sm (fun j => if hs j = x then 1 else 0) k) + 1)), some (.int (nI (k + 1)))]) hk dX8_bids_24 rfl (nI_1 k) (by decide) rfl rfl ?_
        refine xj_goto (tgt := 4) hk dX8_bids_27 (by decide) ?_
        refine xj.to (ls' := [some (.ref (xw_ad v 21 0)), some (.int x), some (.int (sm (fun j => if hs j = x then 1 else 0) ((k + 1)))), some (.int (nI ((k + 1))))]) (by simp [sm, *]) (ih (k + 1) (by omega) (by omega))

set_option maxHeartbeats 1000000 in
set_option maxRecDepth 10000 in
theorem c_X8_bids {v : xw_V} {G : xw_G} {M : md_T} {te ho ow hs ra lo st av so : Nat → Int32} {ln : Int32} {n : Nat} (hM : G 21 = pM v (md_th M) (nR te ho ow hs ra lo (nI n) st av so ln) (md_pt M) (md_re M) (md_sd M) (md_be M) (md_pb M) (md_ac M) (md_od M) (md_ad M) (md_wy M) (md_so M) (md_rl M) (md_io M) (md_po M) (md_sp M) (md_rs M) (md_st M) (md_av M) (md_ip M) (md_tx M) (md_tm M) (md_ta M) (md_td M) (md_wo M) (md_sq M) (md_tk M) (md_bg M) (md_nu M) (md_wr M)) (hn30 : n ≤ 30) (x : Int32) : xk_Con v yX8_bids cX8_bids 4 (some .int) 1 21 [.ref (xw_ad v 21 0), .int x] G (xk_ret (some (.int (sm (fun j => if hs j = x then 1 else 0) n))) G) := by
  refine xk_of (ls0 := [some (.ref (xw_ad v 21 0)), some (.int x), none, none]) (by decide) rfl (Nat.le_of_ble_eq_true rfl) ?_
  intro κ z hk hz
  refine xj_iconst (x := 0) hk dX8_bids_0 (by decide) ?_
  refine xj_istore_n (i := 2) (ls2 := [some (.ref (xw_ad v 21 0)), some (.int x), some (.int 0), none]) hk dX8_bids_1 rfl (by decide) rfl rfl ?_
  refine xj_iconst (x := 0) hk dX8_bids_2 (by decide) ?_
  refine xj_istore_n (i := 3) (ls2 := [some (.ref (xw_ad v 21 0)), some (.int x), some (.int 0), some (.int 0)]) hk dX8_bids_3 rfl (by decide) rfl rfl ?_
  refine l_X8_bids_4 hk hz hM hn30 x ?_ (n + 1) 0 (by omega) (by omega)
  refine xj_iload_n (i := 2) hk dX8_bids_30 rfl rfl ?_
  refine xj_ireturn hk hz dX8_bids_31 ?_
  exact ⟨rfl, rfl⟩

set_option maxHeartbeats 1000000 in
set_option maxRecDepth 10000 in
theorem l_X8_crowded {v : xw_V} {κ : xk_K} {post : Option Value → xw_G → Prop} {z : Nat × Nat × Nat} {G : xw_G} {M : md_T} {te ho ow hs ra lo st av so : Nat → Int32} {ln : Int32} {n : Nat} {x : Int32} (hk : xk_Ok v κ yX8_crowded cX8_crowded 5 (some .int) 4 89) (hz : xk_zf κ = z) (hM : G 21 = pM v (md_th M) (nR te ho ow hs ra lo (nI n) st av so ln) (md_pt M) (md_re M) (md_sd M) (md_be M) (md_pb M) (md_ac M) (md_od M) (md_ad M) (md_wy M) (md_so M) (md_rl M) (md_io M) (md_po M) (md_sp M) (md_rs M) (md_st M) (md_av M) (md_ip M) (md_tx M) (md_tm M) (md_ta M) (md_td M) (md_wo M) (md_sq M) (md_tk M) (md_bg M) (md_nu M) (md_wr M)) (hn30 : n ≤ 30) (hx : 0 < x) (kx : xj v κ post z G 49 [some (.ref (xw_ad v 21 0)), some (.int x), some (.int (sm (fun h => sm (sel hs (nI h) (md_so M)) n * 100 / x * (sm (sel hs (nI h) (md_so M)) n * 100 / x)) 8)), some (.int (nI 8)), none] []) : ∀ (m : Nat) (k : Nat), 8 - k < m → k ≤ 8 → xj v κ post z G 13 [some (.ref (xw_ad v 21 0)), some (.int x), some (.int (sm (fun h => sm (sel hs (nI h) (md_so M)) n * 100 / x * (sm (sel hs (nI h) (md_so M)) n * 100 / x)) k)), some (.int (nI k)), none] [] := by
  intro m
  induction m with
  | zero => intro k h; exact absurd h (Nat.not_lt_zero _)
  | succ m ih =>
    intro k hm hi
    refine xj_iload_n (i := 3) hk dX8_crowded_13 rfl rfl ?_
    refine xj_bipush (x := 8) hk dX8_crowded_14 (by decide) ?_
    refine xj_icmp_ge (tgt := 49) hk dX8_crowded_16 (by decide) (fun c16 => ?_) (fun c16 => ?_)
    · have c16 : 8 ≤ k := (nI_leI (a := 8) (b := k) (by omega) (by omega)).mp c16
      have e9 : k = 8 := by omega
      subst e9
      exact kx
    · have c16 : ¬ 8 ≤ k := fun q => c16 ((nI_leI (a := 8) (b := k) (by omega) (by omega)).mpr q)
      refine xj_iload_n (i := 1) hk dX8_crowded_19 rfl rfl ?_
      refine xj_if_le (tgt := 49) hk dX8_crowded_20 (by decide) (fun c20 => ?_) (fun c20 => ?_)
      · exact absurd c20 (Int32.not_le.mpr hx)
      · refine xj_aload_n (i := 0) hk dX8_crowded_23 rfl rfl ?_
        refine xj_iload_n (i := 3) hk dX8_crowded_24 rfl rfl ?_
        refine xj_callV hk hz (fr1 := 1) (lo1 := 21) (r1 := some (.int (sm (sel hs (nI k) (md_so M)) n))) (As := [.int (nI k)]) (st := []) (st2 := [.int (sm (sel hs (nI k) (md_so M)) n)]) (G1 := G) ml_X8_184 (c_X8_soldOf (n := n) (M := M) (show G 21 = pM v (md_th M) (nR te ho ow hs ra lo (nI n) st av so ln) (md_pt M) (md_re M) (md_sd M) (md_be M) (md_pb M) (md_ac M) (md_od M) (md_ad M) (md_wy M) (md_so M) (md_rl M) (md_io M) (md_po M) (md_sp M) (md_rs M) (md_st M) (md_av M) (md_ip M) (md_tx M) (md_tm M) (md_ta M) (md_td M) (md_wo M) (md_sq M) (md_tk M) (md_bg M) (md_nu M) (md_wr M) from hM) hn30 (nI k)) (xw_at hM rfl) rfl dX8_crowded_25 ⟨Nat.le_of_ble_eq_true rfl, Nat.le_of_ble_eq_true rfl⟩ rfl (Nat.le_of_ble_eq_true rfl) rfl rfl ?_
        refine xj_bipush (x := 100) hk dX8_crowded_28 (by decide) ?_
        refine xj_imul hk dX8_crowded_30 ?_
        refine xj_iload_n (i := 1) hk dX8_crowded_31 rfl rfl ?_
        refine xj_idiv hk dX8_crowded_32 (fun q => by rw [q] at hx; exact absurd hx (by decide)) ?_
        refine xj_istore (i := 4) (ls2 := [some (.ref (xw_ad v 21 0)), some (.int x), some (.int (sm (fun h => sm (sel hs (nI h) (md_so M)) n * 100 / x * (sm (sel hs (nI h) (md_so M)) n * 100 / x)) k)), some (.int (nI k)), some (.int (((sm (sel hs (nI k) (md_so M)) n) * 100) / x))]) hk dX8_crowded_33 (by decide) rfl rfl ?_
        refine xj_iload_n (i := 2) hk dX8_crowded_35 rfl rfl ?_
        refine xj_iload hk dX8_crowded_36 rfl ?_
        refine xj_iload hk dX8_crowded_38 rfl ?_
        refine xj_imul hk dX8_crowded_40 ?_
        refine xj_iadd hk dX8_crowded_41 ?_
        refine xj_istore_n (i := 2) (ls2 := [some (.ref (xw_ad v 21 0)), some (.int x), some (.int ((sm (fun h => sm (sel hs (nI h) (md_so M)) n * 100 / x * (sm (sel hs (nI h) (md_so M)) n * 100 / x)) k) + ((((sm (sel hs (nI k) (md_so M)) n) * 100) / x) * (((sm (sel hs (nI k) (md_so M)) n) * 100) / x)))), some (.int (nI k)), some (.int (((sm (sel hs (nI k) (md_so M)) n) * 100) / x))]) hk dX8_crowded_42 rfl (by decide) rfl rfl ?_
        refine xj_iinc (i := 3) (x2 := nI (k + 1)) (ls2 := [some (.ref (xw_ad v 21 0)), some (.int x), some (.int ((sm (fun h => sm (sel hs (nI h) (md_so M)) n * 100 / x * (sm (sel hs (nI h) (md_so M)) n * 100 / x)) k) + ((((sm (sel hs (nI k) (md_so M)) n) * 100) / x) * (((sm (sel hs (nI k) (md_so M)) n) * 100) / x)))), some (.int (nI (k + 1))), some (.int (((sm (sel hs (nI k) (md_so M)) n) * 100) / x))]) hk dX8_crowded_43 rfl (nI_1 k) (by decide) rfl rfl ?_
        refine xj_goto (tgt := 13) hk dX8_crowded_46 (by decide) ?_
        refine xj.le (ls' := [some (.ref (xw_ad v 21 0)), some (.int x), some (.int ((sm (fun h => sm (sel hs (nI h) (md_so M)) n * 100 / x * (sm (sel hs (nI h) (md_so M)) n * 100 / x)) k) + ((((sm (sel hs (nI k) (md_so M)) n) * 100) / x) * (((sm (sel hs (nI k) (md_so M)) n) * 100) / x)))), some (.int (nI (k + 1))), none]) (by simp [xl_le] <;> rfl) ?_
        refine xj.to (ls' := [some (.ref (xw_ad v 21 0)), some (.int x), some (.int (sm (fun h => sm (sel hs (nI h) (md_so M)) n * 100 / x * (sm (sel hs (nI h) (md_so M)) n * 100 / x)) (k + 1))), some (.int (nI (k + 1))), none]) (by simp [sm]) (ih (k + 1) (by omega) (by omega))

set_option maxHeartbeats 1000000 in
set_option maxRecDepth 10000 in
theorem c_X8_crowded {v : xw_V} {G : xw_G} {M : md_T} {te ho ow hs ra lo st av so : Nat → Int32} {ln : Int32} {n : Nat} (hM : G 21 = pM v (md_th M) (nR te ho ow hs ra lo (nI n) st av so ln) (md_pt M) (md_re M) (md_sd M) (md_be M) (md_pb M) (md_ac M) (md_od M) (md_ad M) (md_wy M) (md_so M) (md_rl M) (md_io M) (md_po M) (md_sp M) (md_rs M) (md_st M) (md_av M) (md_ip M) (md_tx M) (md_tm M) (md_ta M) (md_td M) (md_wo M) (md_sq M) (md_tk M) (md_bg M) (md_nu M) (md_wr M)) (hq : MV te ow hs ra lo n) : xk_Con v yX8_crowded cX8_crowded 5 (some .int) 4 89 [.ref (xw_ad v 21 0)] G (fun r9 G' => r9 = some (.int (q_crowd (mB te ho ow hs ra lo n) (kM te ho ow hs ra lo n) n)) ∧ mQ v G G' (nR te ho ow hs ra lo (nI n) st av so ln) M) := by
  refine xk_of (ls0 := [some (.ref (xw_ad v 21 0)), none, none, none, none]) (by decide) rfl (Nat.le_of_ble_eq_true rfl) ?_
  intro κ z hk hz
  have hn30 : n ≤ 30 := hq.1
  refine xj_aload_n (i := 0) hk dX8_crowded_0 rfl rfl ?_
  refine xj_callVE hk hz (fr1 := 3) (lo1 := 65) (As := []) (st := []) ml_X8_174 (c_sellsK (n := n) (M := M) (show G 21 = pM v (md_th M) (nR te ho ow hs ra lo (nI n) st av so ln) (md_pt M) (md_re M) (md_sd M) (md_be M) (md_pb M) (md_ac M) (md_od M) (md_ad M) (md_wy M) (md_so M) (md_rl M) (md_io M) (md_po M) (md_sp M) (md_rs M) (md_st M) (md_av M) (md_ip M) (md_tx M) (md_tm M) (md_ta M) (md_td M) (md_wo M) (md_sq M) (md_tk M) (md_bg M) (md_nu M) (md_wr M) from hM) hq) (xw_at hM rfl) rfl dX8_crowded_1 ⟨Nat.le_of_ble_eq_true rfl, Nat.le_of_ble_eq_true rfl⟩ rfl (Nat.le_of_ble_eq_true rfl) rfl ?_
  rintro _ _ ⟨rfl, od, ad, wy, rl, so3, io3, hag, rfl⟩
  have hag : agS n (sl_w (kM te ho ow hs ra lo n) od ad wy so3) (kM te ho ow hs ra lo n) := hag
  show xj v κ _ z (xw_up G 21 (pM v (md_th M) (nR te ho ow hs ra lo (nI n) st av so ln) (md_pt M) (md_re M) (md_sd M) (md_be M) (md_pb M) (md_ac M) od ad wy so3 rl io3 (sl_po (kM te ho ow hs ra lo n)) (sl_sp (kM te ho ow hs ra lo n)) (sl_rs (kM te ho ow hs ra lo n)) (sl_st (kM te ho ow hs ra lo n)) (sl_av (kM te ho ow hs ra lo n)) (sl_pt (kM te ho ow hs ra lo n)) (md_tx M) (md_tm M) (md_ta M) (md_td M) (md_wo M) (md_sq M) (md_tk M) (md_bg M) (md_nu M) (md_wr M))) 4 _ []
  refine xj_aload_n (i := 0) hk dX8_crowded_4 rfl rfl ?_
  refine xj_callV hk hz (fr1 := 1) (lo1 := 20) (r1 := some (.int (sm so3 n))) (As := []) (st := []) (st2 := [.int (sm so3 n)]) (G1 := xw_up G 21 (pM v (md_th M) (nR te ho ow hs ra lo (nI n) st av so ln) (md_pt M) (md_re M) (md_sd M) (md_be M) (md_pb M) (md_ac M) od ad wy so3 rl io3 (sl_po (kM te ho ow hs ra lo n)) (sl_sp (kM te ho ow hs ra lo n)) (sl_rs (kM te ho ow hs ra lo n)) (sl_st (kM te ho ow hs ra lo n)) (sl_av (kM te ho ow hs ra lo n)) (sl_pt (kM te ho ow hs ra lo n)) (md_tx M) (md_tm M) (md_ta M) (md_td M) (md_wo M) (md_sq M) (md_tk M) (md_bg M) (md_nu M) (md_wr M))) ml_X8_177 (c_X8_soldAll (n := n) (M := (md_th M, nR te ho ow hs ra lo (nI n) st av so ln, md_pt M, md_re M, md_sd M, md_be M, md_pb M, md_ac M, od, ad, wy, so3, rl, io3, sl_po (kM te ho ow hs ra lo n), sl_sp (kM te ho ow hs ra lo n), sl_rs (kM te ho ow hs ra lo n), sl_st (kM te ho ow hs ra lo n), sl_av (kM te ho ow hs ra lo n), sl_pt (kM te ho ow hs ra lo n), md_tx M, md_tm M, md_ta M, md_td M, md_wo M, md_sq M, md_tk M, md_bg M, md_nu M, md_wr M)) (show (xw_up G 21 (pM v (md_th M) (nR te ho ow hs ra lo (nI n) st av so ln) (md_pt M) (md_re M) (md_sd M) (md_be M) (md_pb M) (md_ac M) od ad wy so3 rl io3 (sl_po (kM te ho ow hs ra lo n)) (sl_sp (kM te ho ow hs ra lo n)) (sl_rs (kM te ho ow hs ra lo n)) (sl_st (kM te ho ow hs ra lo n)) (sl_av (kM te ho ow hs ra lo n)) (sl_pt (kM te ho ow hs ra lo n)) (md_tx M) (md_tm M) (md_ta M) (md_td M) (md_wo M) (md_sq M) (md_tk M) (md_bg M) (md_nu M) (md_wr M))) 21 = pM v (md_th M) (nR te ho ow hs ra lo (nI n) st av so ln) (md_pt M) (md_re M) (md_sd M) (md_be M) (md_pb M) (md_ac M) od ad wy so3 rl io3 (sl_po (kM te ho ow hs ra lo n)) (sl_sp (kM te ho ow hs ra lo n)) (sl_rs (kM te ho ow hs ra lo n)) (sl_st (kM te ho ow hs ra lo n)) (sl_av (kM te ho ow hs ra lo n)) (sl_pt (kM te ho ow hs ra lo n)) (md_tx M) (md_tm M) (md_ta M) (md_td M) (md_wo M) (md_sq M) (md_tk M) (md_bg M) (md_nu M) (md_wr M) from xw_up_s) hn30) (xw_at xw_up_s rfl) rfl dX8_crowded_5 ⟨Nat.le_of_ble_eq_true rfl, Nat.le_of_ble_eq_true rfl⟩ rfl (Nat.le_of_ble_eq_true rfl) rfl rfl ?_
  refine xj_istore_n (i := 1) (ls2 := [some (.ref (xw_ad v 21 0)), some (.int (sm so3 n)), none, none, none]) hk dX8_crowded_8 rfl (by decide) rfl rfl ?_
  refine xj_iconst (x := 0) hk dX8_crowded_9 (by decide) ?_
  refine xj_istore_n (i := 2) (ls2 := [some (.ref (xw_ad v 21 0)), some (.int (sm so3 n)), some (.int 0), none, none]) hk dX8_crowded_10 rfl (by decide) rfl rfl ?_
  refine xj_iconst (x := 0) hk dX8_crowded_11 (by decide) ?_
  refine xj_istore_n (i := 3) (ls2 := [some (.ref (xw_ad v 21 0)), some (.int (sm so3 n)), some (.int 0), some (.int 0), none]) hk dX8_crowded_12 rfl (by decide) rfl rfl ?_
  by_cases hx : 0 < sm so3 n
  · refine xj.to (ls' := [some (.ref (xw_ad v 21 0)), some (.int (sm so3 n)), some (.int (sm (fun h => sm (sel hs (nI h) so3) n * 100 / (sm so3 n) * (sm (sel hs (nI h) so3) n * 100 / (sm so3 n))) 0)), some (.int (nI 0)), none]) (by first | rfl | simp [sm]) ?_
    refine l_X8_crowded (M := (md_th M, nR te ho ow hs ra lo (nI n) st av so ln, md_pt M, md_re M, md_sd M, md_be M, md_pb M, md_ac M, od, ad, wy, so3, rl, io3, sl_po (kM te ho ow hs ra lo n), sl_sp (kM te ho ow hs ra lo n), sl_rs (kM te ho ow hs ra lo n), sl_st (kM te ho ow hs ra lo n), sl_av (kM te ho ow hs ra lo n), sl_pt (kM te ho ow hs ra lo n), md_tx M, md_tm M, md_ta M, md_td M, md_wo M, md_sq M, md_tk M, md_bg M, md_nu M, md_wr M)) hk hz (show (xw_up G 21 (pM v (md_th M) (nR te ho ow hs ra lo (nI n) st av so ln) (md_pt M) (md_re M) (md_sd M) (md_be M) (md_pb M) (md_ac M) od ad wy so3 rl io3 (sl_po (kM te ho ow hs ra lo n)) (sl_sp (kM te ho ow hs ra lo n)) (sl_rs (kM te ho ow hs ra lo n)) (sl_st (kM te ho ow hs ra lo n)) (sl_av (kM te ho ow hs ra lo n)) (sl_pt (kM te ho ow hs ra lo n)) (md_tx M) (md_tm M) (md_ta M) (md_td M) (md_wo M) (md_sq M) (md_tk M) (md_bg M) (md_nu M) (md_wr M))) 21 = pM v (md_th M) (nR te ho ow hs ra lo (nI n) st av so ln) (md_pt M) (md_re M) (md_sd M) (md_be M) (md_pb M) (md_ac M) od ad wy so3 rl io3 (sl_po (kM te ho ow hs ra lo n)) (sl_sp (kM te ho ow hs ra lo n)) (sl_rs (kM te ho ow hs ra lo n)) (sl_st (kM te ho ow hs ra lo n)) (sl_av (kM te ho ow hs ra lo n)) (sl_pt (kM te ho ow hs ra lo n)) (md_tx M) (md_tm M) (md_ta M) (md_td M) (md_wo M) (md_sq M) (md_tk M) (md_bg M) (md_nu M) (md_wr M) from xw_up_s) hn30 hx ?_ (8 + 1) 0 (by omega) (by omega)
    refine xj.to (ls' := [some (.ref (xw_ad v 21 0)), some (.int (sm so3 n)), some (.int (sm (fun h => sm (sel hs (nI h) so3) n * 100 / (sm so3 n) * (sm (sel hs (nI h) so3) n * 100 / (sm so3 n))) 8)), some (.int (nI 8)), none]) rfl ?_
    refine xj_iload_n (i := 2) hk dX8_crowded_49 rfl rfl ?_
    refine xj_ireturn hk hz dX8_crowded_50 ?_
    refine ⟨?_, ⟨⟨(md_th M, nR te ho ow hs ra lo (nI n) st av so ln, md_pt M, md_re M, md_sd M, md_be M, md_pb M, md_ac M, od, ad, wy, so3, rl, io3, sl_po (kM te ho ow hs ra lo n), sl_sp (kM te ho ow hs ra lo n), sl_rs (kM te ho ow hs ra lo n), sl_st (kM te ho ow hs ra lo n), sl_av (kM te ho ow hs ra lo n), sl_pt (kM te ho ow hs ra lo n), md_tx M, md_tm M, md_ta M, md_td M, md_wo M, md_sq M, md_tk M, md_bg M, md_nu M, md_wr M), xw_up_s, rfl, rfl, rfl, rfl, rfl, rfl, rfl⟩, fun g h => xw_up_n h⟩⟩
    · rw [← crowd_ag (B := (mB te ho ow hs ra lo n)) (n := n) hag]
      have e8 := fig_so (kMF (ho := ho) hq) hag
      obtain ⟨P9, s9, p1, p2, p3⟩ := kF_nat (kMF (ho := ho) hq)
      simp only [q_crowd]
      rw [if_pos (show 1 ≤ sl_sp (sl_w (kM te ho ow hs ra lo n) od ad wy so3) + sl_sr (sl_w (kM te ho ow hs ra lo n) od ad wy so3) from by show 1 ≤ sl_sp (kM te ho ow hs ra lo n) + sl_sr (kM te ho ow hs ra lo n); rw [p1, p2, nI_add]; rw [e8, p1, p2, nI_add] at hx; exact (nI_leI (a := 1) (b := P9 + s9) (by decide) (by omega)).mpr ((nI_ltI (a := 0) (b := P9 + s9) (by decide) (by omega)).mp hx))]
      rw [e8]
      rfl
  · refine xj_iload_n (i := 3) hk dX8_crowded_13 rfl rfl ?_
    refine xj_bipush (x := 8) hk dX8_crowded_14 (by decide) ?_
    refine xj_icmp_ge (tgt := 49) hk dX8_crowded_16 (by decide) (fun c16 => ?_) (fun c16 => ?_)
    · exact absurd c16 (by decide)
    · refine xj_iload_n (i := 1) hk dX8_crowded_19 rfl rfl ?_
      refine xj_if_le (tgt := 49) hk dX8_crowded_20 (by decide) (fun c20 => ?_) (fun c20 => ?_)
      · refine xj_iload_n (i := 2) hk dX8_crowded_49 rfl rfl ?_
        refine xj_ireturn hk hz dX8_crowded_50 ?_
        refine ⟨?_, ⟨⟨(md_th M, nR te ho ow hs ra lo (nI n) st av so ln, md_pt M, md_re M, md_sd M, md_be M, md_pb M, md_ac M, od, ad, wy, so3, rl, io3, sl_po (kM te ho ow hs ra lo n), sl_sp (kM te ho ow hs ra lo n), sl_rs (kM te ho ow hs ra lo n), sl_st (kM te ho ow hs ra lo n), sl_av (kM te ho ow hs ra lo n), sl_pt (kM te ho ow hs ra lo n), md_tx M, md_tm M, md_ta M, md_td M, md_wo M, md_sq M, md_tk M, md_bg M, md_nu M, md_wr M), xw_up_s, rfl, rfl, rfl, rfl, rfl, rfl, rfl⟩, fun g h => xw_up_n h⟩⟩
        · rw [← crowd_ag (B := (mB te ho ow hs ra lo n)) (n := n) hag]
          have e8 := fig_so (kMF (ho := ho) hq) hag
          obtain ⟨P9, s9, p1, p2, p3⟩ := kF_nat (kMF (ho := ho) hq)
          simp only [q_crowd]
          rw [if_neg (show ¬ 1 ≤ sl_sp (sl_w (kM te ho ow hs ra lo n) od ad wy so3) + sl_sr (sl_w (kM te ho ow hs ra lo n) od ad wy so3) from fun q => hx (by rw [e8]; exact Int32.lt_of_lt_of_le (by decide) q))]
      · exact absurd (Int32.not_le.mp c20) hx


set_option maxHeartbeats 1000000 in
set_option maxRecDepth 10000 in
theorem c_X8_asTerm {v : xw_V} {G : xw_G} {M : md_T} {te ho ow hs ra lo st av so : Nat → Int32} {ln : Int32} {n : Nat} (hM : G 21 = pM v (md_th M) (nR te ho ow hs ra lo (nI n) st av so ln) (md_pt M) (md_re M) (md_sd M) (md_be M) (md_pb M) (md_ac M) (md_od M) (md_ad M) (md_wy M) (md_so M) (md_rl M) (md_io M) (md_po M) (md_sp M) (md_rs M) (md_st M) (md_av M) (md_ip M) (md_tx M) (md_tm M) (md_ta M) (md_td M) (md_wo M) (md_sq M) (md_tk M) (md_bg M) (md_nu M) (md_wr M)) (hq : MV te ow hs ra lo n) (w : Int32) : xk_Con v yX8_asTerm cX8_asTerm 2 (some .int) 1 22 [.ref (xw_ad v 21 0), .int w] G (fun r9 G' => r9 = some (.int (q_asTerm te w)) ∧ mQ v G G' (nR te ho ow hs ra lo (nI n) st av so ln) M) := by
  refine xk_of (ls0 := [some (.ref (xw_ad v 21 0)), some (.int w)]) (by decide) rfl (Nat.le_of_ble_eq_true rfl) ?_
  intro κ z hk hz
  have hn30 : n ≤ 30 := hq.1
  refine xj_iload_n (i := 1) hk dX8_asTerm_0 rfl rfl ?_
  refine xj_iconst (x := 0) hk dX8_asTerm_1 (by decide) ?_
  refine xj_bipush (x := 6) hk dX8_asTerm_2 (by decide) ?_
  refine xj_callS hk hz (fr1 := 0) (lo1 := 0) (r1 := some (.int (xb (mIn w 0 6)))) (As := [.int w, .int 0, .int 6]) (st := []) (st2 := [.int (xb (mIn w 0 6))]) (G1 := G) ml_X8_69 (c_X8_in w 0 6) dX8_asTerm_4 ⟨Nat.le_of_ble_eq_true rfl, Nat.le_of_ble_eq_true rfl⟩ rfl (Nat.le_of_ble_eq_true rfl) rfl rfl ?_
  refine xj_ifb_eq (tgt := 19) hk dX8_asTerm_7 (by decide) (fun c7 => ?_) (fun c7 => ?_)
  · refine xj_iconst (x := (-1)) hk dX8_asTerm_19 (by decide) ?_
    refine xj_ireturn hk hz dX8_asTerm_20 ?_
    refine ⟨?_, ⟨⟨M, hM, rfl, rfl, rfl, rfl, rfl, rfl, rfl⟩, fun _ _ => rfl⟩⟩
    · simp only [q_asTerm]
      by_cases c : w < 0
      · rw [if_pos c]
      · rw [if_neg c, if_neg (fun q => by
          obtain ⟨j, hj, rfl⟩ := nI_of c
          rw [show mIn (nI j) 0 6 = true from mIn_nI (m := 6) (by decide) (by have := (nI_ltI (a := j) (b := 7) hj (by decide)).mp q; omega)] at c7
          cases c7)]
  · obtain ⟨j, hj_j, rfl⟩ := mIn_of (m := 6) (by decide) c7
    refine xj_aload_n (i := 0) hk dX8_asTerm_10 rfl rfl ?_
    refine xj_getfield hk dX8_asTerm_11 fl_X8_13 (xw_at hM rfl) rfl ?_
    refine xj_iload_n (i := 1) hk dX8_asTerm_14 rfl rfl ?_
    refine xj_iaload (k := j) hk dX8_asTerm_15 (xw_at hM rfl) (xi_n (by omega) (by decide)) ?_
    refine xj.eqi (x' := te j) (rR_te (k := j) (by omega)) ?_
    refine xj_goto (tgt := 20) hk dX8_asTerm_16 (by decide) ?_
    refine xj_ireturn hk hz dX8_asTerm_20 ?_
    refine ⟨?_, ⟨⟨M, hM, rfl, rfl, rfl, rfl, rfl, rfl, rfl⟩, fun _ _ => rfl⟩⟩
    · simp only [q_asTerm]
      rw [if_neg (nI_pos (by omega)), if_pos (show nI j < (7 : Int32) from (nI_ltI (a := j) (b := 7) (by omega) (by decide)).mpr (by omega)), xn_nI (by omega)]

def mBL (te ho ow hs ra lo : Nat → Int32) (n : Nat) (st av so : Nat → Int32) (pt : Nat → Int64) (r : Nat) : bk_T := (te, ho, ow, hs, ra, lo, nI n, fun k => st (r - 1 - k), fun k => av (r - 1 - k), fun k => so (r - 1 - k), fun k => pt (r - 1 - k), nI r)
set_option maxHeartbeats 1000000 in
set_option maxRecDepth 10000 in
theorem c_X8_isLine {v : xw_V} {G : xw_G} {M : md_T} {te ho ow hs ra lo st av so : Nat → Int32} {bi ln : Int32} (hM : G 21 = pM v (md_th M) (nR te ho ow hs ra lo bi st av so ln) (md_pt M) (md_re M) (md_sd M) (md_be M) (md_pb M) (md_ac M) (md_od M) (md_ad M) (md_wy M) (md_so M) (md_rl M) (md_io M) (md_po M) (md_sp M) (md_rs M) (md_st M) (md_av M) (md_ip M) (md_tx M) (md_tm M) (md_ta M) (md_td M) (md_wo M) (md_sq M) (md_tk M) (md_bg M) (md_nu M) (md_wr M)) (x : Int32) : xk_Con v yX8_isLine cX8_isLine 2 (some .boolean) 1 22 [.ref (xw_ad v 21 0), .int x] G (xk_ret (some (.int (xb (mIn x 0 (ln - 1))))) G) := by
  refine xk_of (ls0 := [some (.ref (xw_ad v 21 0)), some (.int x)]) (by decide) rfl (Nat.le_of_ble_eq_true rfl) ?_
  intro κ z hk hz
  refine xj_iload_n (i := 1) hk dX8_isLine_0 rfl rfl ?_
  refine xj_iconst (x := 0) hk dX8_isLine_1 (by decide) ?_
  refine xj_aload_n (i := 0) hk dX8_isLine_2 rfl rfl ?_
  refine xj_getfield hk dX8_isLine_3 fl_X8_13 (xw_at hM rfl) rfl ?_
  refine xj_bipush (x := 114) hk dX8_isLine_6 (by decide) ?_
  refine xj_iaload (k := 114) hk dX8_isLine_8 (xw_at hM rfl) (xi_d 114 139 (by decide)) ?_
  refine xj.eqi (x' := ln) rR_ln ?_
  refine xj_iconst (x := 1) hk dX8_isLine_9 (by decide) ?_
  refine xj_isub hk dX8_isLine_10 ?_
  refine xj_callS hk hz (fr1 := 0) (lo1 := 0) (r1 := some (.int (xb (mIn x 0 (ln - 1))))) (As := [.int x, .int 0, .int (ln - 1)]) (st := []) (st2 := [.int (xb (mIn x 0 (ln - 1)))]) (G1 := G) ml_X8_69 (c_X8_in x 0 (ln - 1)) dX8_isLine_11 ⟨Nat.le_of_ble_eq_true rfl, Nat.le_of_ble_eq_true rfl⟩ rfl (Nat.le_of_ble_eq_true rfl) rfl rfl ?_
  refine xj_zreturn hk hz dX8_isLine_14 (xb_nar _) ?_
  exact ⟨rfl, rfl⟩

set_option maxHeartbeats 1000000 in
set_option maxRecDepth 10000 in
theorem c_X8_record {v : xw_V} {G : xw_G} {M : md_T} {te ho ow hs ra lo st av so : Nat → Int32}  {n : Nat} {r : Nat} (hM : G 21 = pM v (md_th M) (nR te ho ow hs ra lo (nI n) st av so (nI r)) (md_pt M) (md_re M) (md_sd M) (md_be M) (md_pb M) (md_ac M) (md_od M) (md_ad M) (md_wy M) (md_so M) (md_rl M) (md_io M) (md_po M) (md_sp M) (md_rs M) (md_st M) (md_av M) (md_ip M) (md_tx M) (md_tm M) (md_ta M) (md_td M) (md_wo M) (md_sq M) (md_tk M) (md_bg M) (md_nu M) (md_wr M)) (hr8 : r ≤ 8) (k : Int32) (w : Int32) : xk_Con v yX8_record cX8_record 3 (some .int) 2 43 [.ref (xw_ad v 21 0), .int k, .int w] G (fun r9 G' => r9 = some (.int (q_record (mBL te ho ow hs ra lo n st av so (md_pt M) r) k w)) ∧ mQ v G G' (nR te ho ow hs ra lo (nI n) st av so (nI r)) M) := by
  refine xk_of (ls0 := [some (.ref (xw_ad v 21 0)), some (.int k), some (.int w)]) (by decide) rfl (Nat.le_of_ble_eq_true rfl) ?_
  intro κ z hk hz
  refine xj_aload_n (i := 0) hk dX8_record_0 rfl rfl ?_
  refine xj_iload_n (i := 1) hk dX8_record_1 rfl rfl ?_
  refine xj_callV hk hz (fr1 := 1) (lo1 := 22) (r1 := some (.int (xb (mIn k 0 ((nI r) - 1))))) (As := [.int k]) (st := []) (st2 := [.int (xb (mIn k 0 ((nI r) - 1)))]) (G1 := G) ml_X8_187 (c_X8_isLine (M := M) (show G 21 = pM v (md_th M) (nR te ho ow hs ra lo (nI n) st av so (nI r)) (md_pt M) (md_re M) (md_sd M) (md_be M) (md_pb M) (md_ac M) (md_od M) (md_ad M) (md_wy M) (md_so M) (md_rl M) (md_io M) (md_po M) (md_sp M) (md_rs M) (md_st M) (md_av M) (md_ip M) (md_tx M) (md_tm M) (md_ta M) (md_td M) (md_wo M) (md_sq M) (md_tk M) (md_bg M) (md_nu M) (md_wr M) from hM) k) (xw_at hM rfl) rfl dX8_record_2 ⟨Nat.le_of_ble_eq_true rfl, Nat.le_of_ble_eq_true rfl⟩ rfl (Nat.le_of_ble_eq_true rfl) rfl rfl ?_
  refine xj_ifb_eq (tgt := 43) hk dX8_record_5 (by decide) (fun c5 => ?_) (fun c5 => ?_)
  · refine xj_iconst (x := (-1)) hk dX8_record_43 (by decide) ?_
    refine xj_ireturn hk hz dX8_record_44 ?_
    refine ⟨?_, ⟨⟨M, hM, rfl, rfl, rfl, rfl, rfl, rfl, rfl⟩, fun _ _ => rfl⟩⟩
    · rw [show q_record (mBL te ho ow hs ra lo n st av so (md_pt M) r) k w = -1 from by simp only [q_record]; rw [show hasB (bk_ln (mBL te ho ow hs ra lo n st av so (md_pt M) r)) k = false from by rw [show bk_ln (mBL te ho ow hs ra lo n st av so (md_pt M) r) = nI r from rfl, ← mIn_bid (n := r) (by omega)]; exact c5]; rfl]
  · refine xj_iload_n (i := 2) hk dX8_record_8 rfl rfl ?_
    refine xj_iconst (x := 0) hk dX8_record_9 (by decide) ?_
    refine xj_iconst (x := 2) hk dX8_record_10 (by decide) ?_
    refine xj_callS hk hz (fr1 := 0) (lo1 := 0) (r1 := some (.int (xb (mIn w 0 2)))) (As := [.int w, .int 0, .int 2]) (st := []) (st2 := [.int (xb (mIn w 0 2))]) (G1 := G) ml_X8_69 (c_X8_in w 0 2) dX8_record_11 ⟨Nat.le_of_ble_eq_true rfl, Nat.le_of_ble_eq_true rfl⟩ rfl (Nat.le_of_ble_eq_true rfl) rfl rfl ?_
    refine xj_ifb_eq (tgt := 43) hk dX8_record_14 (by decide) (fun c14 => ?_) (fun c14 => ?_)
    · refine xj_iconst (x := (-1)) hk dX8_record_43 (by decide) ?_
      refine xj_ireturn hk hz dX8_record_44 ?_
      refine ⟨?_, ⟨⟨M, hM, rfl, rfl, rfl, rfl, rfl, rfl, rfl⟩, fun _ _ => rfl⟩⟩
      · obtain ⟨u0, u1, u2⟩ := mOut2 c14
        simp [q_record, u0, u1, u2]
    · rcases mIn2 c14 with rfl | rfl | rfl
      · obtain ⟨j, hj_j, rfl⟩ := hasB_of (n := r) rfl (by omega) (by rw [← mIn_bid (n := r) (by omega)]; exact c5)
        refine xj_aload_n (i := 0) hk dX8_record_17 rfl rfl ?_
        refine xj_getfield hk dX8_record_18 fl_X8_13 (xw_at hM rfl) rfl ?_
        refine xj_bipush (x := 115) hk dX8_record_21 (by decide) ?_
        refine xj_iconst (x := 3) hk dX8_record_23 (by decide) ?_
        refine xj_aload_n (i := 0) hk dX8_record_24 rfl rfl ?_
        refine xj_getfield hk dX8_record_25 fl_X8_13 (xw_at hM rfl) rfl ?_
        refine xj_bipush (x := 114) hk dX8_record_28 (by decide) ?_
        refine xj_iaload (k := 114) hk dX8_record_30 (xw_at hM rfl) (xi_d 114 139 (by decide)) ?_
        refine xj.eqi (x' := nI r) rR_ln ?_
        refine xj_iconst (x := 1) hk dX8_record_31 (by decide) ?_
        refine xj_isub hk dX8_record_32 ?_
        refine xj.eqi (x' := nI (r - 1)) (nI_sub1 (by omega)) ?_
        refine xj_iload_n (i := 1) hk dX8_record_33 rfl rfl ?_
        refine xj_isub hk dX8_record_34 ?_
        refine xj.eqi (x' := nI (r - 1 - j)) (nI_sub (by omega)) ?_
        refine xj_imul hk dX8_record_35 ?_
        refine xj.eqi (x' := nI (3 * (r - 1 - j))) (nI_mul 3 ((r - 1 - j))) ?_
        refine xj_iadd hk dX8_record_36 ?_
        refine xj.eqi (x' := nI (115 + 3 * (r - 1 - j))) (nI_add 115 (3 * (r - 1 - j))) ?_
        refine xj_iload_n (i := 2) hk dX8_record_37 rfl rfl ?_
        refine xj_iadd hk dX8_record_38 ?_
        refine xj.eqi (x' := nI (115 + 3 * (r - 1 - j))) (Int32.add_zero _) ?_
        refine xj_iaload (k := 115 + 3 * (r - 1 - j)) hk dX8_record_39 (xw_at hM rfl) (xi_n (by omega) (by decide)) ?_
        refine xj.eqi (x' := st (r - 1 - j)) (rR_st (k := r - 1 - j) (by omega)) ?_
        refine xj_goto (tgt := 44) hk dX8_record_40 (by decide) ?_
        refine xj_ireturn hk hz dX8_record_44 ?_
        refine ⟨?_, ⟨⟨M, hM, rfl, rfl, rfl, rfl, rfl, rfl, rfl⟩, fun _ _ => rfl⟩⟩
        · simp only [q_record]
          rw [show hasB (bk_ln (mBL te ho ow hs ra lo n st av so (md_pt M) r)) (nI j) = true from hb_t (by omega) hj_j, xn_nI (show j < 2 ^ 31 by omega)]
          rfl
      · obtain ⟨j, hj_j, rfl⟩ := hasB_of (n := r) rfl (by omega) (by rw [← mIn_bid (n := r) (by omega)]; exact c5)
        refine xj_aload_n (i := 0) hk dX8_record_17 rfl rfl ?_
        refine xj_getfield hk dX8_record_18 fl_X8_13 (xw_at hM rfl) rfl ?_
        refine xj_bipush (x := 115) hk dX8_record_21 (by decide) ?_
        refine xj_iconst (x := 3) hk dX8_record_23 (by decide) ?_
        refine xj_aload_n (i := 0) hk dX8_record_24 rfl rfl ?_
        refine xj_getfield hk dX8_record_25 fl_X8_13 (xw_at hM rfl) rfl ?_
        refine xj_bipush (x := 114) hk dX8_record_28 (by decide) ?_
        refine xj_iaload (k := 114) hk dX8_record_30 (xw_at hM rfl) (xi_d 114 139 (by decide)) ?_
        refine xj.eqi (x' := nI r) rR_ln ?_
        refine xj_iconst (x := 1) hk dX8_record_31 (by decide) ?_
        refine xj_isub hk dX8_record_32 ?_
        refine xj.eqi (x' := nI (r - 1)) (nI_sub1 (by omega)) ?_
        refine xj_iload_n (i := 1) hk dX8_record_33 rfl rfl ?_
        refine xj_isub hk dX8_record_34 ?_
        refine xj.eqi (x' := nI (r - 1 - j)) (nI_sub (by omega)) ?_
        refine xj_imul hk dX8_record_35 ?_
        refine xj.eqi (x' := nI (3 * (r - 1 - j))) (nI_mul 3 ((r - 1 - j))) ?_
        refine xj_iadd hk dX8_record_36 ?_
        refine xj.eqi (x' := nI (115 + 3 * (r - 1 - j))) (nI_add 115 (3 * (r - 1 - j))) ?_
        refine xj_iload_n (i := 2) hk dX8_record_37 rfl rfl ?_
        refine xj_iadd hk dX8_record_38 ?_
        refine xj.eqi (x' := nI (115 + 3 * (r - 1 - j) + 1)) (nI_add _ _) ?_
        refine xj_iaload (k := 115 + 3 * (r - 1 - j) + 1) hk dX8_record_39 (xw_at hM rfl) (xi_n (by omega) (by decide)) ?_
        refine xj.eqi (x' := av (r - 1 - j)) (rR_av (k := r - 1 - j) (by omega)) ?_
        refine xj_goto (tgt := 44) hk dX8_record_40 (by decide) ?_
        refine xj_ireturn hk hz dX8_record_44 ?_
        refine ⟨?_, ⟨⟨M, hM, rfl, rfl, rfl, rfl, rfl, rfl, rfl⟩, fun _ _ => rfl⟩⟩
        · simp only [q_record]
          rw [show hasB (bk_ln (mBL te ho ow hs ra lo n st av so (md_pt M) r)) (nI j) = true from hb_t (by omega) hj_j, xn_nI (show j < 2 ^ 31 by omega)]
          rfl
      · obtain ⟨j, hj_j, rfl⟩ := hasB_of (n := r) rfl (by omega) (by rw [← mIn_bid (n := r) (by omega)]; exact c5)
        refine xj_aload_n (i := 0) hk dX8_record_17 rfl rfl ?_
        refine xj_getfield hk dX8_record_18 fl_X8_13 (xw_at hM rfl) rfl ?_
        refine xj_bipush (x := 115) hk dX8_record_21 (by decide) ?_
        refine xj_iconst (x := 3) hk dX8_record_23 (by decide) ?_
        refine xj_aload_n (i := 0) hk dX8_record_24 rfl rfl ?_
        refine xj_getfield hk dX8_record_25 fl_X8_13 (xw_at hM rfl) rfl ?_
        refine xj_bipush (x := 114) hk dX8_record_28 (by decide) ?_
        refine xj_iaload (k := 114) hk dX8_record_30 (xw_at hM rfl) (xi_d 114 139 (by decide)) ?_
        refine xj.eqi (x' := nI r) rR_ln ?_
        refine xj_iconst (x := 1) hk dX8_record_31 (by decide) ?_
        refine xj_isub hk dX8_record_32 ?_
        refine xj.eqi (x' := nI (r - 1)) (nI_sub1 (by omega)) ?_
        refine xj_iload_n (i := 1) hk dX8_record_33 rfl rfl ?_
        refine xj_isub hk dX8_record_34 ?_
        refine xj.eqi (x' := nI (r - 1 - j)) (nI_sub (by omega)) ?_
        refine xj_imul hk dX8_record_35 ?_
        refine xj.eqi (x' := nI (3 * (r - 1 - j))) (nI_mul 3 ((r - 1 - j))) ?_
        refine xj_iadd hk dX8_record_36 ?_
        refine xj.eqi (x' := nI (115 + 3 * (r - 1 - j))) (nI_add 115 (3 * (r - 1 - j))) ?_
        refine xj_iload_n (i := 2) hk dX8_record_37 rfl rfl ?_
        refine xj_iadd hk dX8_record_38 ?_
        refine xj.eqi (x' := nI (115 + 3 * (r - 1 - j) + 2)) (nI_add _ _) ?_
        refine xj_iaload (k := 115 + 3 * (r - 1 - j) + 2) hk dX8_record_39 (xw_at hM rfl) (xi_n (by omega) (by decide)) ?_
        refine xj.eqi (x' := so (r - 1 - j)) (rR_so (k := r - 1 - j) (by omega)) ?_
        refine xj_goto (tgt := 44) hk dX8_record_40 (by decide) ?_
        refine xj_ireturn hk hz dX8_record_44 ?_
        refine ⟨?_, ⟨⟨M, hM, rfl, rfl, rfl, rfl, rfl, rfl, rfl⟩, fun _ _ => rfl⟩⟩
        · simp only [q_record]
          rw [show hasB (bk_ln (mBL te ho ow hs ra lo n st av so (md_pt M) r)) (nI j) = true from hb_t (by omega) hj_j, xn_nI (show j < 2 ^ 31 by omega)]
          rfl

set_option maxHeartbeats 1000000 in
set_option maxRecDepth 10000 in
theorem c_X8_recordPaid {v : xw_V} {G : xw_G} {M : md_T} {te ho ow hs ra lo st av so : Nat → Int32}  {n : Nat} {r : Nat} (hM : G 21 = pM v (md_th M) (nR te ho ow hs ra lo (nI n) st av so (nI r)) (md_pt M) (md_re M) (md_sd M) (md_be M) (md_pb M) (md_ac M) (md_od M) (md_ad M) (md_wy M) (md_so M) (md_rl M) (md_io M) (md_po M) (md_sp M) (md_rs M) (md_st M) (md_av M) (md_ip M) (md_tx M) (md_tm M) (md_ta M) (md_td M) (md_wo M) (md_sq M) (md_tk M) (md_bg M) (md_nu M) (md_wr M)) (hr8 : r ≤ 8) (k : Int32) : xk_Con v yX8_recordPaid cX8_recordPaid 2 (some .long) 2 43 [.ref (xw_ad v 21 0), .int k] G (fun r9 G' => r9 = some (.long (q_rpaid (mBL te ho ow hs ra lo n st av so (md_pt M) r) k)) ∧ mQ v G G' (nR te ho ow hs ra lo (nI n) st av so (nI r)) M) := by
  refine xk_of (ls0 := [some (.ref (xw_ad v 21 0)), some (.int k)]) (by decide) rfl (Nat.le_of_ble_eq_true rfl) ?_
  intro κ z hk hz
  refine xj_aload_n (i := 0) hk dX8_recordPaid_0 rfl rfl ?_
  refine xj_iload_n (i := 1) hk dX8_recordPaid_1 rfl rfl ?_
  refine xj_callV hk hz (fr1 := 1) (lo1 := 22) (r1 := some (.int (xb (mIn k 0 ((nI r) - 1))))) (As := [.int k]) (st := []) (st2 := [.int (xb (mIn k 0 ((nI r) - 1)))]) (G1 := G) ml_X8_187 (c_X8_isLine (M := M) (show G 21 = pM v (md_th M) (nR te ho ow hs ra lo (nI n) st av so (nI r)) (md_pt M) (md_re M) (md_sd M) (md_be M) (md_pb M) (md_ac M) (md_od M) (md_ad M) (md_wy M) (md_so M) (md_rl M) (md_io M) (md_po M) (md_sp M) (md_rs M) (md_st M) (md_av M) (md_ip M) (md_tx M) (md_tm M) (md_ta M) (md_td M) (md_wo M) (md_sq M) (md_tk M) (md_bg M) (md_nu M) (md_wr M) from hM) k) (xw_at hM rfl) rfl dX8_recordPaid_2 ⟨Nat.le_of_ble_eq_true rfl, Nat.le_of_ble_eq_true rfl⟩ rfl (Nat.le_of_ble_eq_true rfl) rfl rfl ?_
  refine xj_ifb_eq (tgt := 27) hk dX8_recordPaid_5 (by decide) (fun c5 => ?_) (fun c5 => ?_)
  · refine xj_ldc2 (x := -1) hk dX8_recordPaid_27 kl_X8_190 ?_
    refine xj_lreturn hk hz dX8_recordPaid_30 ?_
    refine ⟨?_, ⟨⟨M, hM, rfl, rfl, rfl, rfl, rfl, rfl, rfl⟩, fun _ _ => rfl⟩⟩
    · rw [show q_rpaid (mBL te ho ow hs ra lo n st av so (md_pt M) r) k = -1 from by simp only [q_rpaid]; rw [show hasB (bk_ln (mBL te ho ow hs ra lo n st av so (md_pt M) r)) k = false from by rw [show bk_ln (mBL te ho ow hs ra lo n st av so (md_pt M) r) = nI r from rfl, ← mIn_bid (n := r) (by omega)]; exact c5]; rfl]
  · obtain ⟨j, hj_j, rfl⟩ := hasB_of (n := r) rfl (by omega) (by rw [← mIn_bid (n := r) (by omega)]; exact c5)
    refine xj_aload_n (i := 0) hk dX8_recordPaid_8 rfl rfl ?_
    refine xj_getfield hk dX8_recordPaid_9 fl_X8_17 (xw_at hM rfl) rfl ?_
    refine xj_aload_n (i := 0) hk dX8_recordPaid_12 rfl rfl ?_
    refine xj_getfield hk dX8_recordPaid_13 fl_X8_13 (xw_at hM rfl) rfl ?_
    refine xj_bipush (x := 114) hk dX8_recordPaid_16 (by decide) ?_
    refine xj_iaload (k := 114) hk dX8_recordPaid_18 (xw_at hM rfl) (xi_d 114 139 (by decide)) ?_
    refine xj.eqi (x' := nI r) rR_ln ?_
    refine xj_iconst (x := 1) hk dX8_recordPaid_19 (by decide) ?_
    refine xj_isub hk dX8_recordPaid_20 ?_
    refine xj.eqi (x' := nI (r - 1)) (nI_sub1 (by omega)) ?_
    refine xj_iload_n (i := 1) hk dX8_recordPaid_21 rfl rfl ?_
    refine xj_isub hk dX8_recordPaid_22 ?_
    refine xj.eqi (x' := nI (r - 1 - j)) (nI_sub (by omega)) ?_
    refine xj_laload (k := r - 1 - j) hk dX8_recordPaid_23 (xw_at hM rfl) (xi_n (by omega) (by decide)) ?_
    refine xj_goto (tgt := 30) hk dX8_recordPaid_24 (by decide) ?_
    refine xj_lreturn hk hz dX8_recordPaid_30 ?_
    refine ⟨?_, ⟨⟨M, hM, rfl, rfl, rfl, rfl, rfl, rfl, rfl⟩, fun _ _ => rfl⟩⟩
    · simp only [q_rpaid]
      rw [show hasB (bk_ln (mBL te ho ow hs ra lo n st av so (md_pt M) r)) (nI j) = true from hb_t (by omega) hj_j, xn_nI (show j < 2 ^ 31 by omega)]
      rfl

set_option maxHeartbeats 1000000 in
set_option maxRecDepth 10000 in
theorem c_X8_ranked {v : xw_V} {G : xw_G} {M : md_T} {te ho ow hs ra lo st av so : Nat → Int32} {ln : Int32} {n : Nat} (hM : G 21 = pM v (md_th M) (nR te ho ow hs ra lo (nI n) st av so ln) (md_pt M) (md_re M) (md_sd M) (md_be M) (md_pb M) (md_ac M) (md_od M) (md_ad M) (md_wy M) (md_so M) (md_rl M) (md_io M) (md_po M) (md_sp M) (md_rs M) (md_st M) (md_av M) (md_ip M) (md_tx M) (md_tm M) (md_ta M) (md_td M) (md_wo M) (md_sq M) (md_tk M) (md_bg M) (md_nu M) (md_wr M)) (hq : MV te ow hs ra lo n) (b : Int32) : xk_Con v yX8_ranked cX8_ranked 2 (some .int) 2 43 [.ref (xw_ad v 21 0), .int b] G (fun r9 G' => r9 = some (.int (q_ranked (mB te ho ow hs ra lo n) (kM te ho ow hs ra lo n) b)) ∧ mQ v G G' (nR te ho ow hs ra lo (nI n) st av so ln) M) := by
  refine xk_of (ls0 := [some (.ref (xw_ad v 21 0)), some (.int b)]) (by decide) rfl (Nat.le_of_ble_eq_true rfl) ?_
  intro κ z hk hz
  have hn30 : n ≤ 30 := hq.1
  refine xj_aload_n (i := 0) hk dX8_ranked_0 rfl rfl ?_
  refine xj_iload_n (i := 1) hk dX8_ranked_1 rfl rfl ?_
  refine xj_callV hk hz (fr1 := 1) (lo1 := 22) (r1 := some (.int (xb (mIn b 0 ((nI n) - 1))))) (As := [.int b]) (st := []) (st2 := [.int (xb (mIn b 0 ((nI n) - 1)))]) (G1 := G) ml_X8_108 (c_X8_isBid (M := M) (show G 21 = pM v (md_th M) (nR te ho ow hs ra lo (nI n) st av so ln) (md_pt M) (md_re M) (md_sd M) (md_be M) (md_pb M) (md_ac M) (md_od M) (md_ad M) (md_wy M) (md_so M) (md_rl M) (md_io M) (md_po M) (md_sp M) (md_rs M) (md_st M) (md_av M) (md_ip M) (md_tx M) (md_tm M) (md_ta M) (md_td M) (md_wo M) (md_sq M) (md_tk M) (md_bg M) (md_nu M) (md_wr M) from hM) b) (xw_at hM rfl) rfl dX8_ranked_2 ⟨Nat.le_of_ble_eq_true rfl, Nat.le_of_ble_eq_true rfl⟩ rfl (Nat.le_of_ble_eq_true rfl) rfl rfl ?_
  refine xj_ifb_ne (tgt := 10) hk dX8_ranked_5 (by decide) (fun c5 => ?_) (fun c5 => ?_)
  · obtain ⟨j, hj_j, rfl⟩ := hasB_of (n := n) rfl hn30 (by rw [← mIn_bid hn30]; exact c5)
    refine xj_aload_n (i := 0) hk dX8_ranked_10 rfl rfl ?_
    refine xj_callVE hk hz (fr1 := 1) (lo1 := 21) (As := []) (st := []) ml_X8_135 (c_X8_laysOrder hM hn30) (xw_at hM rfl) rfl dX8_ranked_11 ⟨Nat.le_of_ble_eq_true rfl, Nat.le_of_ble_eq_true rfl⟩ rfl (Nat.le_of_ble_eq_true rfl) rfl ?_
    rintro _ _ ⟨rfl, od, p, hod, hi, hsr, rfl⟩
    show xj v κ _ z (xw_up G 21 (pM v (md_th M) (nR te ho ow hs ra lo (nI n) st av so ln) (md_pt M) (md_re M) (md_sd M) (md_be M) (md_pb M) (md_ac M) od (md_ad M) (md_wy M) (md_so M) (md_rl M) (md_io M) (md_po M) (md_sp M) (md_rs M) (md_st M) (md_av M) (md_ip M) (md_tx M) (md_tm M) (md_ta M) (md_td M) (md_wo M) (md_sq M) (md_tk M) (md_bg M) (md_nu M) (md_wr M))) 14 _ []
    refine xj_aload_n (i := 0) hk dX8_ranked_14 rfl rfl ?_
    refine xj_getfield hk dX8_ranked_15 fl_X8_33 (xw_at xw_up_s rfl) rfl ?_
    refine xj_iload_n (i := 1) hk dX8_ranked_18 rfl rfl ?_
    refine xj_iaload (k := j) hk dX8_ranked_19 (xw_at xw_up_s rfl) (xi_n (by omega) (by decide)) ?_
    refine xj_ireturn hk hz dX8_ranked_20 ?_
    refine ⟨?_, ⟨⟨(md_th M, nR te ho ow hs ra lo (nI n) st av so ln, md_pt M, md_re M, md_sd M, md_be M, md_pb M, md_ac M, od, md_ad M, md_wy M, md_so M, md_rl M, md_io M, md_po M, md_sp M, md_rs M, md_st M, md_av M, md_ip M, md_tx M, md_tm M, md_ta M, md_td M, md_wo M, md_sq M, md_tk M, md_bg M, md_nu M, md_wr M), xw_up_s, rfl, rfl, rfl, rfl, rfl, rfl, rfl⟩, fun g h => xw_up_n h⟩⟩
    · simp only [q_ranked]
      rw [show hasB (bk_bi (mB te ho ow hs ra lo n)) (nI j) = true from hb_t hn30 hj_j, xn_nI (show j < 2 ^ 31 by omega), if_pos rfl]
      obtain ⟨p9, so9, re9, b1, b2, b3, -⟩ := kR_is (mB te ho ow hs ra lo n) n
      rw [hod j hj_j, show sl_od (kM te ho ow hs ra lo n) j = nI (p9 j) from b1 j hj_j, srt_uniq (fun _ _ => rfl) hi b2 hsr b3 j hj_j]
  · refine xj_iconst (x := (-1)) hk dX8_ranked_8 (by decide) ?_
    refine xj_ireturn hk hz dX8_ranked_9 ?_
    refine ⟨?_, ⟨⟨M, hM, rfl, rfl, rfl, rfl, rfl, rfl, rfl⟩, fun _ _ => rfl⟩⟩
    · rw [show q_ranked (mB te ho ow hs ra lo n) (kM te ho ow hs ra lo n) b = -1 from by simp only [q_ranked]; rw [show hasB (bk_bi (mB te ho ow hs ra lo n)) b = false from hb_f hn30 c5]; rfl]

set_option maxHeartbeats 1000000 in
set_option maxRecDepth 10000 in
theorem l_X8_dearest_14 {v : xw_V} {κ : xk_K} {post : Option Value → xw_G → Prop} {z : Nat × Nat × Nat} {G : xw_G} {M : md_T} {te ho ow hs ra lo st av so : Nat → Int32} {ln : Int32} {n : Nat} (hk : xk_Ok v κ yX8_dearest cX8_dearest 5 (some .int) 4 89) (hz : xk_zf κ = z) (hM : G 21 = pM v (md_th M) (nR te ho ow hs ra lo (nI n) st av so ln) (md_pt M) (md_re M) (md_sd M) (md_be M) (md_pb M) (md_ac M) (md_od M) (md_ad M) (md_wy M) (md_so M) (md_rl M) (md_io M) (md_po M) (md_sp M) (md_rs M) (md_st M) (md_av M) (md_ip M) (md_tx M) (md_tm M) (md_ta M) (md_td M) (md_wo M) (md_sq M) (md_tk M) (md_bg M) (md_nu M) (md_wr M)) (hn30 : n ≤ 30) (kx : xj v κ post z G 53 [some (.ref (xw_ad v 21 0)), some (.int ((q_dear (payM te ra (md_so M) (md_st M) (md_av M)) n).1)), some (.long ((q_dear (payM te ra (md_so M) (md_st M) (md_av M)) n).2)), none, some (.int (nI n))] []) : ∀ (m : Nat) (k : Nat), n - k < m → k ≤ n → xj v κ post z G 14 [some (.ref (xw_ad v 21 0)), some (.int ((q_dear (payM te ra (md_so M) (md_st M) (md_av M)) k).1)), some (.long ((q_dear (payM te ra (md_so M) (md_st M) (md_av M)) k).2)), none, some (.int (nI k))] [] := by
  intro m
  induction m with
  | zero => intro k h; exact absurd h (Nat.not_lt_zero _)
  | succ m ih =>
    intro k hm hi
    refine xj_iload hk dX8_dearest_14 rfl ?_
    refine xj_aload_n (i := 0) hk dX8_dearest_16 rfl rfl ?_
    refine xj_callV hk hz (fr1 := 0) (lo1 := 0) (r1 := some (.int (nI n))) (As := []) (st := [.int (nI k)]) (st2 := [.int (nI n), .int (nI k)]) (G1 := G) ml_X8_73 (c_X8_many (M := M) (show G 21 = pM v (md_th M) (nR te ho ow hs ra lo (nI n) st av so ln) (md_pt M) (md_re M) (md_sd M) (md_be M) (md_pb M) (md_ac M) (md_od M) (md_ad M) (md_wy M) (md_so M) (md_rl M) (md_io M) (md_po M) (md_sp M) (md_rs M) (md_st M) (md_av M) (md_ip M) (md_tx M) (md_tm M) (md_ta M) (md_td M) (md_wo M) (md_sq M) (md_tk M) (md_bg M) (md_nu M) (md_wr M) from hM)) (xw_at hM rfl) rfl dX8_dearest_17 ⟨Nat.le_of_ble_eq_true rfl, Nat.le_of_ble_eq_true rfl⟩ rfl (Nat.le_of_ble_eq_true rfl) rfl rfl ?_
    refine xj_icmp_ge (tgt := 53) hk dX8_dearest_20 (by decide) (fun c20 => ?_) (fun c20 => ?_)
    · have c20 : n ≤ k := (nI_leI (a := n) (b := k) (by omega) (by omega)).mp c20
      have e9 : k = n := by omega
      subst e9
      exact kx
    · have c20 : ¬ n ≤ k := fun q => c20 ((nI_leI (a := n) (b := k) (by omega) (by omega)).mpr q)
      refine xj_aload_n (i := 0) hk dX8_dearest_23 rfl rfl ?_
      refine xj_iload hk dX8_dearest_24 rfl ?_
      refine xj_callV hk hz (fr1 := 2) (lo1 := 42) (r1 := some (.long (payM te ra (md_so M) (md_st M) (md_av M) k))) (As := [.int (nI k)]) (st := []) (st2 := [.long (payM te ra (md_so M) (md_st M) (md_av M) k)]) (G1 := G) ml_X8_170 (c_X8_paysOf (b := k) (M := M) (show G 21 = pM v (md_th M) (nR te ho ow hs ra lo (nI n) st av so ln) (md_pt M) (md_re M) (md_sd M) (md_be M) (md_pb M) (md_ac M) (md_od M) (md_ad M) (md_wy M) (md_so M) (md_rl M) (md_io M) (md_po M) (md_sp M) (md_rs M) (md_st M) (md_av M) (md_ip M) (md_tx M) (md_tm M) (md_ta M) (md_td M) (md_wo M) (md_sq M) (md_tk M) (md_bg M) (md_nu M) (md_wr M) from hM) (by omega)) (xw_at hM rfl) rfl dX8_dearest_26 ⟨Nat.le_of_ble_eq_true rfl, Nat.le_of_ble_eq_true rfl⟩ rfl (Nat.le_of_ble_eq_true rfl) rfl rfl ?_
      refine xj_lload_n (i := 2) hk dX8_dearest_29 rfl rfl ?_
      refine xj_lcmp hk dX8_dearest_30 ?_
      refine xj_if_gt (tgt := 37) hk dX8_dearest_31 (by decide) (fun c31 => ?_) (fun c31 => ?_)
      · refine xj_aload_n (i := 0) hk dX8_dearest_37 rfl rfl ?_
        refine xj_iload hk dX8_dearest_38 rfl ?_
        refine xj_callV hk hz (fr1 := 2) (lo1 := 42) (r1 := some (.long (payM te ra (md_so M) (md_st M) (md_av M) k))) (As := [.int (nI k)]) (st := []) (st2 := [.long (payM te ra (md_so M) (md_st M) (md_av M) k)]) (G1 := G) ml_X8_170 (c_X8_paysOf (b := k) (M := M) (show G 21 = pM v (md_th M) (nR te ho ow hs ra lo (nI n) st av so ln) (md_pt M) (md_re M) (md_sd M) (md_be M) (md_pb M) (md_ac M) (md_od M) (md_ad M) (md_wy M) (md_so M) (md_rl M) (md_io M) (md_po M) (md_sp M) (md_rs M) (md_st M) (md_av M) (md_ip M) (md_tx M) (md_tm M) (md_ta M) (md_td M) (md_wo M) (md_sq M) (md_tk M) (md_bg M) (md_nu M) (md_wr M) from hM) (by omega)) (xw_at hM rfl) rfl dX8_dearest_40 ⟨Nat.le_of_ble_eq_true rfl, Nat.le_of_ble_eq_true rfl⟩ rfl (Nat.le_of_ble_eq_true rfl) rfl rfl ?_
        refine xj_lstore_n (i := 2) (ls2 := [some (.ref (xw_ad v 21 0)), some (.int ((q_dear (payM te ra (md_so M) (md_st M) (md_av M)) k).1)), some (.long (payM te ra (md_so M) (md_st M) (md_av M) k)), none, some (.int (nI k))]) hk dX8_dearest_43 rfl (by decide) rfl rfl ?_
        refine xj_iload hk dX8_dearest_44 rfl ?_
        refine xj_istore_n (i := 1) (ls2 := [some (.ref (xw_ad v 21 0)), some (.int (nI k)), some (.long (payM te ra (md_so M) (md_st M) (md_av M) k)), none, some (.int (nI k))]) hk dX8_dearest_46 rfl (by decide) rfl rfl ?_
        refine xj_iinc (i := 4) (x2 := nI (k + 1)) (ls2 := [some (.ref (xw_ad v 21 0)), some (.int (nI k)), some (.long (payM te ra (md_so M) (md_st M) (md_av M) k)), none, some (.int (nI (k + 1)))]) hk dX8_dearest_47 rfl (nI_1 k) (by decide) rfl rfl ?_
        refine xj_goto (tgt := 14) hk dX8_dearest_50 (by decide) ?_
        refine xj.to (ls' := [some (.ref (xw_ad v 21 0)), some (.int ((q_dear (payM te ra (md_so M) (md_st M) (md_av M)) ((k + 1))).1)), some (.long ((q_dear (payM te ra (md_so M) (md_st M) (md_av M)) ((k + 1))).2)), none, some (.int (nI ((k + 1))))]) (by simp only [q_dear]; first | rw [if_neg (Int32.not_le.mpr c31)] | rw [if_pos (Int32.not_lt.mp c31)]) (ih (k + 1) (by omega) (by omega))
      · refine xj_goto (tgt := 47) hk dX8_dearest_34 (by decide) ?_
        refine xj_iinc (i := 4) (x2 := nI (k + 1)) (ls2 := [some (.ref (xw_ad v 21 0)), some (.int ((q_dear (payM te ra (md_so M) (md_st M) (md_av M)) k).1)), some (.long ((q_dear (payM te ra (md_so M) (md_st M) (md_av M)) k).2)), none, some (.int (nI (k + 1)))]) hk dX8_dearest_47 rfl (nI_1 k) (by decide) rfl rfl ?_
        refine xj_goto (tgt := 14) hk dX8_dearest_50 (by decide) ?_
        refine xj.to (ls' := [some (.ref (xw_ad v 21 0)), some (.int ((q_dear (payM te ra (md_so M) (md_st M) (md_av M)) ((k + 1))).1)), some (.long ((q_dear (payM te ra (md_so M) (md_st M) (md_av M)) ((k + 1))).2)), none, some (.int (nI ((k + 1))))]) (by simp only [q_dear]; first | rw [if_neg (Int32.not_le.mpr c31)] | rw [if_pos (Int32.not_lt.mp c31)]) (ih (k + 1) (by omega) (by omega))

set_option maxHeartbeats 1000000 in
set_option maxRecDepth 10000 in
theorem c_X8_dearest {v : xw_V} {G : xw_G} {M : md_T} {te ho ow hs ra lo st av so : Nat → Int32} {ln : Int32} {n : Nat} (hM : G 21 = pM v (md_th M) (nR te ho ow hs ra lo (nI n) st av so ln) (md_pt M) (md_re M) (md_sd M) (md_be M) (md_pb M) (md_ac M) (md_od M) (md_ad M) (md_wy M) (md_so M) (md_rl M) (md_io M) (md_po M) (md_sp M) (md_rs M) (md_st M) (md_av M) (md_ip M) (md_tx M) (md_tm M) (md_ta M) (md_td M) (md_wo M) (md_sq M) (md_tk M) (md_bg M) (md_nu M) (md_wr M)) (hq : MV te ow hs ra lo n) : xk_Con v yX8_dearest cX8_dearest 5 (some .int) 4 89 [.ref (xw_ad v 21 0)] G (fun r9 G' => r9 = some (.int ((q_dear (payF (mB te ho ow hs ra lo n) (kM te ho ow hs ra lo n)) n).1)) ∧ mQ v G G' (nR te ho ow hs ra lo (nI n) st av so ln) M) := by
  refine xk_of (ls0 := [some (.ref (xw_ad v 21 0)), none, none, none, none]) (by decide) rfl (Nat.le_of_ble_eq_true rfl) ?_
  intro κ z hk hz
  have hn30 : n ≤ 30 := hq.1
  refine xj_aload_n (i := 0) hk dX8_dearest_0 rfl rfl ?_
  refine xj_callVE hk hz (fr1 := 3) (lo1 := 65) (As := []) (st := []) ml_X8_174 (c_sellsK (n := n) (M := M) (show G 21 = pM v (md_th M) (nR te ho ow hs ra lo (nI n) st av so ln) (md_pt M) (md_re M) (md_sd M) (md_be M) (md_pb M) (md_ac M) (md_od M) (md_ad M) (md_wy M) (md_so M) (md_rl M) (md_io M) (md_po M) (md_sp M) (md_rs M) (md_st M) (md_av M) (md_ip M) (md_tx M) (md_tm M) (md_ta M) (md_td M) (md_wo M) (md_sq M) (md_tk M) (md_bg M) (md_nu M) (md_wr M) from hM) hq) (xw_at hM rfl) rfl dX8_dearest_1 ⟨Nat.le_of_ble_eq_true rfl, Nat.le_of_ble_eq_true rfl⟩ rfl (Nat.le_of_ble_eq_true rfl) rfl ?_
  rintro _ _ ⟨rfl, od, ad, wy, rl, so3, io3, hag, rfl⟩
  have hag : agS n (sl_w (kM te ho ow hs ra lo n) od ad wy so3) (kM te ho ow hs ra lo n) := hag
  show xj v κ _ z (xw_up G 21 (pM v (md_th M) (nR te ho ow hs ra lo (nI n) st av so ln) (md_pt M) (md_re M) (md_sd M) (md_be M) (md_pb M) (md_ac M) od ad wy so3 rl io3 (sl_po (kM te ho ow hs ra lo n)) (sl_sp (kM te ho ow hs ra lo n)) (sl_rs (kM te ho ow hs ra lo n)) (sl_st (kM te ho ow hs ra lo n)) (sl_av (kM te ho ow hs ra lo n)) (sl_pt (kM te ho ow hs ra lo n)) (md_tx M) (md_tm M) (md_ta M) (md_td M) (md_wo M) (md_sq M) (md_tk M) (md_bg M) (md_nu M) (md_wr M))) 4 _ []
  refine xj_bipush (x := (-2)) hk dX8_dearest_4 (by decide) ?_
  refine xj_istore_n (i := 1) (ls2 := [some (.ref (xw_ad v 21 0)), some (.int ((-2))), none, none, none]) hk dX8_dearest_6 rfl (by decide) rfl rfl ?_
  refine xj_ldc2 (x := -1) hk dX8_dearest_7 kl_X8_190 ?_
  refine xj_lstore_n (i := 2) (ls2 := [some (.ref (xw_ad v 21 0)), some (.int ((-2))), some (.long ((-1))), none, none]) hk dX8_dearest_10 rfl (by decide) rfl rfl ?_
  refine xj_iconst (x := 0) hk dX8_dearest_11 (by decide) ?_
  refine xj_istore (i := 4) (ls2 := [some (.ref (xw_ad v 21 0)), some (.int ((-2))), some (.long ((-1))), none, some (.int 0)]) hk dX8_dearest_12 (by decide) rfl rfl ?_
  refine xj.to (ls' := [some (.ref (xw_ad v 21 0)), some (.int ((q_dear (payM te ra (so3) ((sl_st (kM te ho ow hs ra lo n))) ((sl_av (kM te ho ow hs ra lo n)))) 0).1)), some (.long ((q_dear (payM te ra (so3) ((sl_st (kM te ho ow hs ra lo n))) ((sl_av (kM te ho ow hs ra lo n)))) 0).2)), none, some (.int (nI 0))]) (by first | rfl | simp [sm]) ?_
  refine l_X8_dearest_14 (M := (md_th M, nR te ho ow hs ra lo (nI n) st av so ln, md_pt M, md_re M, md_sd M, md_be M, md_pb M, md_ac M, od, ad, wy, so3, rl, io3, sl_po (kM te ho ow hs ra lo n), sl_sp (kM te ho ow hs ra lo n), sl_rs (kM te ho ow hs ra lo n), sl_st (kM te ho ow hs ra lo n), sl_av (kM te ho ow hs ra lo n), sl_pt (kM te ho ow hs ra lo n), md_tx M, md_tm M, md_ta M, md_td M, md_wo M, md_sq M, md_tk M, md_bg M, md_nu M, md_wr M)) hk hz (show (xw_up G 21 (pM v (md_th M) (nR te ho ow hs ra lo (nI n) st av so ln) (md_pt M) (md_re M) (md_sd M) (md_be M) (md_pb M) (md_ac M) od ad wy so3 rl io3 (sl_po (kM te ho ow hs ra lo n)) (sl_sp (kM te ho ow hs ra lo n)) (sl_rs (kM te ho ow hs ra lo n)) (sl_st (kM te ho ow hs ra lo n)) (sl_av (kM te ho ow hs ra lo n)) (sl_pt (kM te ho ow hs ra lo n)) (md_tx M) (md_tm M) (md_ta M) (md_td M) (md_wo M) (md_sq M) (md_tk M) (md_bg M) (md_nu M) (md_wr M))) 21 = pM v (md_th M) (nR te ho ow hs ra lo (nI n) st av so ln) (md_pt M) (md_re M) (md_sd M) (md_be M) (md_pb M) (md_ac M) od ad wy so3 rl io3 (sl_po (kM te ho ow hs ra lo n)) (sl_sp (kM te ho ow hs ra lo n)) (sl_rs (kM te ho ow hs ra lo n)) (sl_st (kM te ho ow hs ra lo n)) (sl_av (kM te ho ow hs ra lo n)) (sl_pt (kM te ho ow hs ra lo n)) (md_tx M) (md_tm M) (md_ta M) (md_td M) (md_wo M) (md_sq M) (md_tk M) (md_bg M) (md_nu M) (md_wr M) from xw_up_s) hn30 ?_ (n + 1) 0 (by omega) (by omega)
  refine xj.to (ls' := [some (.ref (xw_ad v 21 0)), some (.int ((q_dear (payM te ra (so3) ((sl_st (kM te ho ow hs ra lo n))) ((sl_av (kM te ho ow hs ra lo n)))) n).1)), some (.long ((q_dear (payM te ra (so3) ((sl_st (kM te ho ow hs ra lo n))) ((sl_av (kM te ho ow hs ra lo n)))) n).2)), none, some (.int (nI n))]) rfl ?_
  refine xj_iload_n (i := 1) hk dX8_dearest_53 rfl rfl ?_
  refine xj_ireturn hk hz dX8_dearest_54 ?_
  refine ⟨?_, ⟨⟨(md_th M, nR te ho ow hs ra lo (nI n) st av so ln, md_pt M, md_re M, md_sd M, md_be M, md_pb M, md_ac M, od, ad, wy, so3, rl, io3, sl_po (kM te ho ow hs ra lo n), sl_sp (kM te ho ow hs ra lo n), sl_rs (kM te ho ow hs ra lo n), sl_st (kM te ho ow hs ra lo n), sl_av (kM te ho ow hs ra lo n), sl_pt (kM te ho ow hs ra lo n), md_tx M, md_tm M, md_ta M, md_td M, md_wo M, md_sq M, md_tk M, md_bg M, md_nu M, md_wr M), xw_up_s, rfl, rfl, rfl, rfl, rfl, rfl, rfl⟩, fun g h => xw_up_n h⟩⟩
  · have e9 := dear_ag (n := n) (fun j _ => (show ∀ j, payM te ra so3 (sl_st (kM te ho ow hs ra lo n)) (sl_av (kM te ho ow hs ra lo n)) j = payF (mB te ho ow hs ra lo n) (sl_w (kM te ho ow hs ra lo n) od ad wy so3) j from fun j => payM_F (K := (sl_w (kM te ho ow hs ra lo n) od ad wy so3)) hq.2.2.2.1 j) j)
    have e8 := dear_ag (n := n) (fun j hj => payF_ag (B := (mB te ho ow hs ra lo n)) hag hj)
    rw [e9, e8]


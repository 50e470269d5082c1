set_option maxHeartbeats 1000000 in
set_option maxRecDepth 10000 in
theorem l_X8_house_28 {v : xw_V} {κ : xk_K} {post : Option Value → xw_G → Prop} {z : Nat × Nat × Nat} {G : xw_G} {M : md_T} {te ho ow hs ra lo st av so : Nat → Int32} {ln : Int32} {n : Nat} (hk : xk_Ok v κ yX8_house cX8_house 5 (some .int) 4 89) (hz : xk_zf κ = z) (hM : G 21 = pM v (md_th M) (nR te ho ow hs ra lo (nI n) st av so ln) (md_pt M) (md_re M) (md_sd M) (md_be M) (md_pb M) (md_ac M) (md_od M) (md_ad M) (md_wy M) (md_so M) (md_rl M) (md_io M) (md_po M) (md_sp M) (md_rs M) (md_st M) (md_av M) (md_ip M) (md_tx M) (md_tm M) (md_ta M) (md_td M) (md_wo M) (md_sq M) (md_tk M) (md_bg M) (md_nu M) (md_wr M)) (hn30 : n ≤ 30) (h w : Int32) (kx : xj v κ post z G 77 [some (.ref (xw_ad v 21 0)), some (.int h), some (.int w), some (.int (sm (sel hs h (if w = 2 then lo else md_ad M)) n)), some (.int (nI n))] []) : ∀ (m : Nat) (k : Nat), n - k < m → k ≤ n → xj v κ post z G 28 [some (.ref (xw_ad v 21 0)), some (.int h), some (.int w), some (.int (sm (sel hs h (if w = 2 then lo else md_ad M)) k)), some (.int (nI k))] [] := by
  intro m
  induction m with
  | zero => intro k h; exact absurd h (Nat.not_lt_zero _)
  | succ m ih =>
    intro k hm hi
    refine xj_iload hk dX8_house_28 rfl ?_
    refine xj_aload_n (i := 0) hk dX8_house_30 rfl rfl ?_
    refine xj_callV hk hz (fr1 := 0) (lo1 := 0) (r1 := some (.int (nI n))) (As := []) (st := [.int (nI k)]) (st2 := [.int (nI n), .int (nI k)]) (G1 := G) ml_X8_73 (c_X8_many (M := M) (show G 21 = pM v (md_th M) (nR te ho ow hs ra lo (nI n) st av so ln) (md_pt M) (md_re M) (md_sd M) (md_be M) (md_pb M) (md_ac M) (md_od M) (md_ad M) (md_wy M) (md_so M) (md_rl M) (md_io M) (md_po M) (md_sp M) (md_rs M) (md_st M) (md_av M) (md_ip M) (md_tx M) (md_tm M) (md_ta M) (md_td M) (md_wo M) (md_sq M) (md_tk M) (md_bg M) (md_nu M) (md_wr M) from hM)) (xw_at hM rfl) rfl dX8_house_31 ⟨Nat.le_of_ble_eq_true rfl, Nat.le_of_ble_eq_true rfl⟩ rfl (Nat.le_of_ble_eq_true rfl) rfl rfl ?_
    refine xj_icmp_ge (tgt := 77) hk dX8_house_34 (by decide) (fun c34 => ?_) (fun c34 => ?_)
    · have c34 : n ≤ k := (nI_leI (a := n) (b := k) (by omega) (by omega)).mp c34
      have e9 : k = n := by omega
      subst e9
      exact kx
    · have c34 : ¬ n ≤ k := fun q => c34 ((nI_leI (a := n) (b := k) (by omega) (by omega)).mpr q)
      refine xj_aload_n (i := 0) hk dX8_house_37 rfl rfl ?_
      refine xj_iload hk dX8_house_38 rfl ?_
      refine xj_callV hk hz (fr1 := 0) (lo1 := 0) (r1 := some (.int (hs k))) (As := [.int (nI k)]) (st := []) (st2 := [.int (hs k)]) (G1 := G) ml_X8_81 (c_X8_houseOf (b := k) (M := M) (show G 21 = pM v (md_th M) (nR te ho ow hs ra lo (nI n) st av so ln) (md_pt M) (md_re M) (md_sd M) (md_be M) (md_pb M) (md_ac M) (md_od M) (md_ad M) (md_wy M) (md_so M) (md_rl M) (md_io M) (md_po M) (md_sp M) (md_rs M) (md_st M) (md_av M) (md_ip M) (md_tx M) (md_tm M) (md_ta M) (md_td M) (md_wo M) (md_sq M) (md_tk M) (md_bg M) (md_nu M) (md_wr M) from hM) (by omega)) (xw_at hM rfl) rfl dX8_house_40 ⟨Nat.le_of_ble_eq_true rfl, Nat.le_of_ble_eq_true rfl⟩ rfl (Nat.le_of_ble_eq_true rfl) rfl rfl ?_
      refine xj_iload_n (i := 1) hk dX8_house_43 rfl rfl ?_
      refine xj_icmp_ne (tgt := 71) hk dX8_house_44 (by decide) (fun c44 => ?_) (fun c44 => ?_)
      · refine xj_iinc (i := 4) (x2 := nI (k + 1)) (ls2 := [some (.ref (xw_ad v 21 0)), some (.int h), some (.int w), some (.int (sm (sel hs h (if w = 2 then lo else md_ad M)) k)), some (.int (nI (k + 1)))]) hk dX8_house_71 rfl (nI_1 k) (by decide) rfl rfl ?_
        refine xj_goto (tgt := 28) hk dX8_house_74 (by decide) ?_
        refine xj.to (ls' := [some (.ref (xw_ad v 21 0)), some (.int h), some (.int w), some (.int (sm (sel hs h (if w = 2 then lo else md_ad M)) ((k + 1)))), some (.int (nI ((k + 1))))]) (by simp [sm, sel, *]) (ih (k + 1) (by omega) (by omega))
      · refine xj_iload_n (i := 3) hk dX8_house_47 rfl rfl ?_
        refine xj_iload_n (i := 2) hk dX8_house_48 rfl rfl ?_
        refine xj_iconst (x := 2) hk dX8_house_49 (by decide) ?_
        refine xj_icmp_ne (tgt := 62) hk dX8_house_50 (by decide) (fun c50 => ?_) (fun c50 => ?_)
        · refine xj_aload_n (i := 0) hk dX8_house_62 rfl rfl ?_
          refine xj_getfield hk dX8_house_63 fl_X8_36 (xw_at hM rfl) rfl ?_
          refine xj_iload hk dX8_house_66 rfl ?_
          refine xj_iaload (k := k) hk dX8_house_68 (xw_at hM rfl) (xi_n (by omega) (by decide)) ?_
          refine xj_iadd hk dX8_house_69 ?_
          refine xj_istore_n (i := 3) (ls2 := [some (.ref (xw_ad v 21 0)), some (.int h), some (.int w), some (.int ((sm (sel hs h (if w = 2 then lo else md_ad M)) k) + (md_ad M k))), some (.int (nI k))]) hk dX8_house_70 rfl (by decide) rfl rfl ?_
          refine xj_iinc (i := 4) (x2 := nI (k + 1)) (ls2 := [some (.ref (xw_ad v 21 0)), some (.int h), some (.int w), some (.int ((sm (sel hs h (if w = 2 then lo else md_ad M)) k) + (md_ad M k))), some (.int (nI (k + 1)))]) hk dX8_house_71 rfl (nI_1 k) (by decide) rfl rfl ?_
          refine xj_goto (tgt := 28) hk dX8_house_74 (by decide) ?_
          refine xj.to (ls' := [some (.ref (xw_ad v 21 0)), some (.int h), some (.int w), some (.int (sm (sel hs h (if w = 2 then lo else md_ad M)) ((k + 1)))), some (.int (nI ((k + 1))))]) (by simp [sm, sel, *]) (ih (k + 1) (by omega) (by omega))
        · refine xj_aload_n (i := 0) hk dX8_house_53 rfl rfl ?_
          refine xj_iload hk dX8_house_54 rfl ?_
          refine xj_callV hk hz (fr1 := 0) (lo1 := 0) (r1 := some (.int (lo k))) (As := [.int (nI k)]) (st := [.int (sm (sel hs h (if w = 2 then lo else md_ad M)) k)]) (st2 := [.int (lo k), .int (sm (sel hs h (if w = 2 then lo else md_ad M)) k)]) (G1 := G) ml_X8_84 (c_X8_lotsOf (b := k) (M := M) (show G 21 = pM v (md_th M) (nR te ho ow hs ra lo (nI n) st av so ln) (md_pt M) (md_re M) (md_sd M) (md_be M) (md_pb M) (md_ac M) (md_od M) (md_ad M) (md_wy M) (md_so M) (md_rl M) (md_io M) (md_po M) (md_sp M) (md_rs M) (md_st M) (md_av M) (md_ip M) (md_tx M) (md_tm M) (md_ta M) (md_td M) (md_wo M) (md_sq M) (md_tk M) (md_bg M) (md_nu M) (md_wr M) from hM) (by omega)) (xw_at hM rfl) rfl dX8_house_56 ⟨Nat.le_of_ble_eq_true rfl, Nat.le_of_ble_eq_true rfl⟩ rfl (Nat.le_of_ble_eq_true rfl) rfl rfl ?_
          refine xj_goto (tgt := 69) hk dX8_house_59 (by decide) ?_
          refine xj_iadd hk dX8_house_69 ?_
          refine xj_istore_n (i := 3) (ls2 := [some (.ref (xw_ad v 21 0)), some (.int h), some (.int w), some (.int ((sm (sel hs h (if w = 2 then lo else md_ad M)) k) + (lo k))), some (.int (nI k))]) hk dX8_house_70 rfl (by decide) rfl rfl ?_
          refine xj_iinc (i := 4) (x2 := nI (k + 1)) (ls2 := [some (.ref (xw_ad v 21 0)), some (.int h), some (.int w), some (.int ((sm (sel hs h (if w = 2 then lo else md_ad M)) k) + (lo k))), some (.int (nI (k + 1)))]) hk dX8_house_71 rfl (nI_1 k) (by decide) rfl rfl ?_
          refine xj_goto (tgt := 28) hk dX8_house_74 (by decide) ?_
          refine xj.to (ls' := [some (.ref (xw_ad v 21 0)), some (.int h), some (.int w), some (.int (sm (sel hs h (if w = 2 then lo else md_ad M)) ((k + 1)))), some (.int (nI ((k + 1))))]) (by simp [sm, sel, *]) (ih (k + 1) (by omega) (by omega))

set_option maxHeartbeats 1000000 in
set_option maxRecDepth 10000 in
theorem c_X8_house {v : xw_V} {G : xw_G} {M : md_T} {te ho ow hs ra lo st av so : Nat → Int32} {ln : Int32} {n : Nat} (hM : G 21 = pM v (md_th M) (nR te ho ow hs ra lo (nI n) st av so ln) (md_pt M) (md_re M) (md_sd M) (md_be M) (md_pb M) (md_ac M) (md_od M) (md_ad M) (md_wy M) (md_so M) (md_rl M) (md_io M) (md_po M) (md_sp M) (md_rs M) (md_st M) (md_av M) (md_ip M) (md_tx M) (md_tm M) (md_ta M) (md_td M) (md_wo M) (md_sq M) (md_tk M) (md_bg M) (md_nu M) (md_wr M)) (hq : MV te ow hs ra lo n) (h : Int32) (w : Int32) : xk_Con v yX8_house cX8_house 5 (some .int) 4 89 [.ref (xw_ad v 21 0), .int h, .int w] G (fun r9 G' => r9 = some (.int (q_house (mB te ho ow hs ra lo n) (kM te ho ow hs ra lo n) n h w)) ∧ mQ v G G' (nR te ho ow hs ra lo (nI n) st av so ln) M) := by
  refine xk_of (ls0 := [some (.ref (xw_ad v 21 0)), some (.int h), some (.int w), none, none]) (by decide) rfl (Nat.le_of_ble_eq_true rfl) ?_
  intro κ z hk hz
  have hn30 : n ≤ 30 := hq.1
  refine xj_iload_n (i := 1) hk dX8_house_0 rfl rfl ?_
  refine xj_callS hk hz (fr1 := 1) (lo1 := 22) (r1 := some (.int (xb (mIn h 0 7)))) (As := [.int h]) (st := []) (st2 := [.int (xb (mIn h 0 7))]) (G1 := G) ml_X8_95 (c_X8_isHouse h) dX8_house_1 ⟨Nat.le_of_ble_eq_true rfl, Nat.le_of_ble_eq_true rfl⟩ rfl (Nat.le_of_ble_eq_true rfl) rfl rfl ?_
  refine xj_ifb_eq (tgt := 17) hk dX8_house_4 (by decide) (fun c4 => ?_) (fun c4 => ?_)
  · refine xj_iconst (x := (-1)) hk dX8_house_17 (by decide) ?_
    refine xj_ireturn hk hz dX8_house_18 ?_
    refine ⟨?_, ⟨⟨M, hM, rfl, rfl, rfl, rfl, rfl, rfl, rfl⟩, fun _ _ => rfl⟩⟩
    · rw [show q_house (mB te ho ow hs ra lo n) (kM te ho ow hs ra lo n) n h w = -1 from by simp only [q_house]; rw [show isH h = false from ih_f c4]; rfl]
  · obtain ⟨j, hj_j, rfl⟩ := isH_of (by rw [← mIn_isH]; exact c4)
    refine xj_iload_n (i := 2) hk dX8_house_7 rfl rfl ?_
    refine xj_iconst (x := 0) hk dX8_house_8 (by decide) ?_
    refine xj_bipush (x := 6) hk dX8_house_9 (by decide) ?_
    refine xj_callS hk hz (fr1 := 0) (lo1 := 0) (r1 := some (.int (xb (mIn w 0 6)))) (As := [.int w, .int 0, .int 6]) (st := []) (st2 := [.int (xb (mIn w 0 6))]) (G1 := G) ml_X8_69 (c_X8_in w 0 6) dX8_house_11 ⟨Nat.le_of_ble_eq_true rfl, Nat.le_of_ble_eq_true rfl⟩ rfl (Nat.le_of_ble_eq_true rfl) rfl rfl ?_
    refine xj_ifb_ne (tgt := 19) hk dX8_house_14 (by decide) (fun c14 => ?_) (fun c14 => ?_)
    · refine xj_aload_n (i := 0) hk dX8_house_19 rfl rfl ?_
      refine xj_callVE hk hz (fr1 := 3) (lo1 := 65) (As := []) (st := []) ml_X8_174 (c_sellsK (n := n) (M := M) (show G 21 = pM v (md_th M) (nR te ho ow hs ra lo (nI n) st av so ln) (md_pt M) (md_re M) (md_sd M) (md_be M) (md_pb M) (md_ac M) (md_od M) (md_ad M) (md_wy M) (md_so M) (md_rl M) (md_io M) (md_po M) (md_sp M) (md_rs M) (md_st M) (md_av M) (md_ip M) (md_tx M) (md_tm M) (md_ta M) (md_td M) (md_wo M) (md_sq M) (md_tk M) (md_bg M) (md_nu M) (md_wr M) from hM) hq) (xw_at hM rfl) rfl dX8_house_20 ⟨Nat.le_of_ble_eq_true rfl, Nat.le_of_ble_eq_true rfl⟩ rfl (Nat.le_of_ble_eq_true rfl) rfl ?_
      rintro _ _ ⟨rfl, od, ad, wy, rl, so3, io3, hag, rfl⟩
      have hag : agS n (sl_w (kM te ho ow hs ra lo n) od ad wy so3) (kM te ho ow hs ra lo n) := hag
      show xj v κ _ z (xw_up G 21 (pM v (md_th M) (nR te ho ow hs ra lo (nI n) st av so ln) (md_pt M) (md_re M) (md_sd M) (md_be M) (md_pb M) (md_ac M) od ad wy so3 rl io3 (sl_po (kM te ho ow hs ra lo n)) (sl_sp (kM te ho ow hs ra lo n)) (sl_rs (kM te ho ow hs ra lo n)) (sl_st (kM te ho ow hs ra lo n)) (sl_av (kM te ho ow hs ra lo n)) (sl_pt (kM te ho ow hs ra lo n)) (md_tx M) (md_tm M) (md_ta M) (md_td M) (md_wo M) (md_sq M) (md_tk M) (md_bg M) (md_nu M) (md_wr M))) 23 _ []
      refine xj_iconst (x := 0) hk dX8_house_23 (by decide) ?_
      refine xj_istore_n (i := 3) (ls2 := [some (.ref (xw_ad v 21 0)), some (.int (nI j)), some (.int w), some (.int 0), none]) hk dX8_house_24 rfl (by decide) rfl rfl ?_
      refine xj_iconst (x := 0) hk dX8_house_25 (by decide) ?_
      refine xj_istore (i := 4) (ls2 := [some (.ref (xw_ad v 21 0)), some (.int (nI j)), some (.int w), some (.int 0), some (.int 0)]) hk dX8_house_26 (by decide) rfl rfl ?_
      refine xj.to (ls' := [some (.ref (xw_ad v 21 0)), some (.int (nI j)), some (.int w), some (.int (sm (sel hs (nI j) (if w = 2 then lo else ad)) 0)), some (.int (nI 0))]) (by first | rfl | simp [sm]) ?_
      refine l_X8_house_28 (M := (md_th M, nR te ho ow hs ra lo (nI n) st av so ln, md_pt M, md_re M, md_sd M, md_be M, md_pb M, md_ac M, od, ad, wy, so3, rl, io3, sl_po (kM te ho ow hs ra lo n), sl_sp (kM te ho ow hs ra lo n), sl_rs (kM te ho ow hs ra lo n), sl_st (kM te ho ow hs ra lo n), sl_av (kM te ho ow hs ra lo n), sl_pt (kM te ho ow hs ra lo n), md_tx M, md_tm M, md_ta M, md_td M, md_wo M, md_sq M, md_tk M, md_bg M, md_nu M, md_wr M)) hk hz (show (xw_up G 21 (pM v (md_th M) (nR te ho ow hs ra lo (nI n) st av so ln) (md_pt M) (md_re M) (md_sd M) (md_be M) (md_pb M) (md_ac M) od ad wy so3 rl io3 (sl_po (kM te ho ow hs ra lo n)) (sl_sp (kM te ho ow hs ra lo n)) (sl_rs (kM te ho ow hs ra lo n)) (sl_st (kM te ho ow hs ra lo n)) (sl_av (kM te ho ow hs ra lo n)) (sl_pt (kM te ho ow hs ra lo n)) (md_tx M) (md_tm M) (md_ta M) (md_td M) (md_wo M) (md_sq M) (md_tk M) (md_bg M) (md_nu M) (md_wr M))) 21 = pM v (md_th M) (nR te ho ow hs ra lo (nI n) st av so ln) (md_pt M) (md_re M) (md_sd M) (md_be M) (md_pb M) (md_ac M) od ad wy so3 rl io3 (sl_po (kM te ho ow hs ra lo n)) (sl_sp (kM te ho ow hs ra lo n)) (sl_rs (kM te ho ow hs ra lo n)) (sl_st (kM te ho ow hs ra lo n)) (sl_av (kM te ho ow hs ra lo n)) (sl_pt (kM te ho ow hs ra lo n)) (md_tx M) (md_tm M) (md_ta M) (md_td M) (md_wo M) (md_sq M) (md_tk M) (md_bg M) (md_nu M) (md_wr M) from xw_up_s) hn30 (nI j) w ?_ (n + 1) 0 (by omega) (by omega)
      refine xj.to (ls' := [some (.ref (xw_ad v 21 0)), some (.int (nI j)), some (.int w), some (.int (sm (sel hs (nI j) (if w = 2 then lo else ad)) n)), some (.int (nI n))]) rfl ?_
      refine xj_iload_n (i := 2) hk dX8_house_77 rfl rfl ?_
      by_cases s78_0 : w = 0
      · refine xj_swIn (tgt := 116) (off := 38) hk dX8_house_78 (by rw [s78_0]; decide) (by rw [s78_0]; decide) (by rw [s78_0]; decide) (by decide) ?_
        refine xj_aload_n (i := 0) hk dX8_house_116 rfl rfl ?_
        refine xj_getfield hk dX8_house_117 fl_X8_13 (xw_at xw_up_s rfl) rfl ?_
        refine xj_bipush (x := 7) hk dX8_house_120 (by decide) ?_
        refine xj_iload_n (i := 1) hk dX8_house_122 rfl rfl ?_
        refine xj_iadd hk dX8_house_123 ?_
        refine xj.eqi (x' := nI (7 + j)) (nI_add 7 j) ?_
        refine xj_iaload (k := 7 + j) hk dX8_house_124 (xw_at xw_up_s rfl) (xi_n (by omega) (by decide)) ?_
        refine xj.eqi (x' := ho j) (rR_ho (k := j) (by omega)) ?_
        refine xj_ireturn hk hz dX8_house_125 ?_
        refine ⟨?_, ⟨⟨(md_th M, nR te ho ow hs ra lo (nI n) st av so ln, md_pt M, md_re M, md_sd M, md_be M, md_pb M, md_ac M, od, ad, wy, so3, rl, io3, sl_po (kM te ho ow hs ra lo n), sl_sp (kM te ho ow hs ra lo n), sl_rs (kM te ho ow hs ra lo n), sl_st (kM te ho ow hs ra lo n), sl_av (kM te ho ow hs ra lo n), sl_pt (kM te ho ow hs ra lo n), md_tx M, md_tm M, md_ta M, md_td M, md_wo M, md_sq M, md_tk M, md_bg M, md_nu M, md_wr M), xw_up_s, rfl, rfl, rfl, rfl, rfl, rfl, rfl⟩, fun g h => xw_up_n h⟩⟩
        · rw [← q_house_ag (B := (mB te ho ow hs ra lo n)) (n := n) _ _ hq.2.1 hag]
          simp only [q_house]
          rw [ih_t hj_j, xn_nI (show j < 2 ^ 31 by omega), if_pos rfl]
          first | (rw [s78_0]; rfl) | (rw [s78_1]; exact congrArg (fun q => some (Value.int q)) (kF_ro (kMF (ho := ho) hq) _ (hq.2.1 j hj_j).2.2).symm) | (rw [s78_2]; rfl) | (rw [s78_3]; rfl) | (rw [s78_4]; rfl) | (rw [s78_5]; rfl) | (rcases mIn6 c14 with h9 | h9 | h9 | h9 | h9 | h9 | h9 <;> first | contradiction | (rw [h9]; rfl))
      by_cases s78_1 : w = 1
      · refine xj_swIn (tgt := 126) (off := 48) hk dX8_house_78 (by rw [s78_1]; decide) (by rw [s78_1]; decide) (by rw [s78_1]; decide) (by decide) ?_
        refine xj_aload_n (i := 0) hk dX8_house_126 rfl rfl ?_
        refine xj_aload_n (i := 0) hk dX8_house_127 rfl rfl ?_
        refine xj_getfield hk dX8_house_128 fl_X8_13 (xw_at xw_up_s rfl) rfl ?_
        refine xj_bipush (x := 15) hk dX8_house_131 (by decide) ?_
        refine xj_iload_n (i := 1) hk dX8_house_133 rfl rfl ?_
        refine xj_iadd hk dX8_house_134 ?_
        refine xj.eqi (x' := nI (15 + j)) (nI_add 15 j) ?_
        refine xj_iaload (k := 15 + j) hk dX8_house_135 (xw_at xw_up_s rfl) (xi_n (by omega) (by decide)) ?_
        refine xj.eqi (x' := ow j) (rR_ow (k := j) (by omega)) ?_
        refine xj.eqi (x' := nI (xn (ow j))) (xi_of (hq.2.1 j hj_j)) ?_
        refine xj_callV hk hz (fr1 := 0) (lo1 := 0) (r1 := some (.int (rm8 te ho ow (xn (ow j))))) (As := [.int (nI (xn (ow j)))]) (st := []) (st2 := [.int (rm8 te ho ow (xn (ow j)))]) (G1 := xw_up G 21 (pM v (md_th M) (nR te ho ow hs ra lo (nI n) st av so ln) (md_pt M) (md_re M) (md_sd M) (md_be M) (md_pb M) (md_ac M) od ad wy so3 rl io3 (sl_po (kM te ho ow hs ra lo n)) (sl_sp (kM te ho ow hs ra lo n)) (sl_rs (kM te ho ow hs ra lo n)) (sl_st (kM te ho ow hs ra lo n)) (sl_av (kM te ho ow hs ra lo n)) (sl_pt (kM te ho ow hs ra lo n)) (md_tx M) (md_tm M) (md_ta M) (md_td M) (md_wo M) (md_sq M) (md_tk M) (md_bg M) (md_nu M) (md_wr M))) ml_X8_132 (c_X8_roomOf (o := xn (ow j)) (M := (md_th M, nR te ho ow hs ra lo (nI n) st av so ln, md_pt M, md_re M, md_sd M, md_be M, md_pb M, md_ac M, od, ad, wy, so3, rl, io3, sl_po (kM te ho ow hs ra lo n), sl_sp (kM te ho ow hs ra lo n), sl_rs (kM te ho ow hs ra lo n), sl_st (kM te ho ow hs ra lo n), sl_av (kM te ho ow hs ra lo n), sl_pt (kM te ho ow hs ra lo n), md_tx M, md_tm M, md_ta M, md_td M, md_wo M, md_sq M, md_tk M, md_bg M, md_nu M, md_wr M)) (show (xw_up G 21 (pM v (md_th M) (nR te ho ow hs ra lo (nI n) st av so ln) (md_pt M) (md_re M) (md_sd M) (md_be M) (md_pb M) (md_ac M) od ad wy so3 rl io3 (sl_po (kM te ho ow hs ra lo n)) (sl_sp (kM te ho ow hs ra lo n)) (sl_rs (kM te ho ow hs ra lo n)) (sl_st (kM te ho ow hs ra lo n)) (sl_av (kM te ho ow hs ra lo n)) (sl_pt (kM te ho ow hs ra lo n)) (md_tx M) (md_tm M) (md_ta M) (md_td M) (md_wo M) (md_sq M) (md_tk M) (md_bg M) (md_nu M) (md_wr M))) 21 = pM v (md_th M) (nR te ho ow hs ra lo (nI n) st av so ln) (md_pt M) (md_re M) (md_sd M) (md_be M) (md_pb M) (md_ac M) od ad wy so3 rl io3 (sl_po (kM te ho ow hs ra lo n)) (sl_sp (kM te ho ow hs ra lo n)) (sl_rs (kM te ho ow hs ra lo n)) (sl_st (kM te ho ow hs ra lo n)) (sl_av (kM te ho ow hs ra lo n)) (sl_pt (kM te ho ow hs ra lo n)) (md_tx M) (md_tm M) (md_ta M) (md_td M) (md_wo M) (md_sq M) (md_tk M) (md_bg M) (md_nu M) (md_wr M) from xw_up_s) hq.2.1 (hq.2.1 j hj_j).2.2) (xw_at xw_up_s rfl) rfl dX8_house_136 ⟨Nat.le_of_ble_eq_true rfl, Nat.le_of_ble_eq_true rfl⟩ rfl (Nat.le_of_ble_eq_true rfl) rfl rfl ?_
        refine xj_ireturn hk hz dX8_house_139 ?_
        refine ⟨?_, ⟨⟨(md_th M, nR te ho ow hs ra lo (nI n) st av so ln, md_pt M, md_re M, md_sd M, md_be M, md_pb M, md_ac M, od, ad, wy, so3, rl, io3, sl_po (kM te ho ow hs ra lo n), sl_sp (kM te ho ow hs ra lo n), sl_rs (kM te ho ow hs ra lo n), sl_st (kM te ho ow hs ra lo n), sl_av (kM te ho ow hs ra lo n), sl_pt (kM te ho ow hs ra lo n), md_tx M, md_tm M, md_ta M, md_td M, md_wo M, md_sq M, md_tk M, md_bg M, md_nu M, md_wr M), xw_up_s, rfl, rfl, rfl, rfl, rfl, rfl, rfl⟩, fun g h => xw_up_n h⟩⟩
        · rw [← q_house_ag (B := (mB te ho ow hs ra lo n)) (n := n) _ _ hq.2.1 hag]
          simp only [q_house]
          rw [ih_t hj_j, xn_nI (show j < 2 ^ 31 by omega), if_pos rfl]
          first | (rw [s78_0]; rfl) | (rw [s78_1]; exact congrArg (fun q => some (Value.int q)) (kF_ro (kMF (ho := ho) hq) _ (hq.2.1 j hj_j).2.2).symm) | (rw [s78_2]; rfl) | (rw [s78_3]; rfl) | (rw [s78_4]; rfl) | (rw [s78_5]; rfl) | (rcases mIn6 c14 with h9 | h9 | h9 | h9 | h9 | h9 | h9 <;> first | contradiction | (rw [h9]; rfl))
      by_cases s78_2 : w = 2
      · refine xj_swIn (tgt := 140) (off := 62) hk dX8_house_78 (by rw [s78_2]; decide) (by rw [s78_2]; decide) (by rw [s78_2]; decide) (by decide) ?_
        refine xj_iload_n (i := 3) hk dX8_house_140 rfl rfl ?_
        refine xj_ireturn hk hz dX8_house_141 ?_
        refine ⟨?_, ⟨⟨(md_th M, nR te ho ow hs ra lo (nI n) st av so ln, md_pt M, md_re M, md_sd M, md_be M, md_pb M, md_ac M, od, ad, wy, so3, rl, io3, sl_po (kM te ho ow hs ra lo n), sl_sp (kM te ho ow hs ra lo n), sl_rs (kM te ho ow hs ra lo n), sl_st (kM te ho ow hs ra lo n), sl_av (kM te ho ow hs ra lo n), sl_pt (kM te ho ow hs ra lo n), md_tx M, md_tm M, md_ta M, md_td M, md_wo M, md_sq M, md_tk M, md_bg M, md_nu M, md_wr M), xw_up_s, rfl, rfl, rfl, rfl, rfl, rfl, rfl⟩, fun g h => xw_up_n h⟩⟩
        · rw [← q_house_ag (B := (mB te ho ow hs ra lo n)) (n := n) _ _ hq.2.1 hag]
          simp only [q_house]
          rw [ih_t hj_j, xn_nI (show j < 2 ^ 31 by omega), if_pos rfl]
          first | (rw [s78_0]; rfl) | (rw [s78_1]; exact congrArg (fun q => some (Value.int q)) (kF_ro (kMF (ho := ho) hq) _ (hq.2.1 j hj_j).2.2).symm) | (rw [s78_2]; rfl) | (rw [s78_3]; rfl) | (rw [s78_4]; rfl) | (rw [s78_5]; rfl) | (rcases mIn6 c14 with h9 | h9 | h9 | h9 | h9 | h9 | h9 <;> first | contradiction | (rw [h9]; rfl))
      by_cases s78_3 : w = 3
      · refine xj_swIn (tgt := 140) (off := 62) hk dX8_house_78 (by rw [s78_3]; decide) (by rw [s78_3]; decide) (by rw [s78_3]; decide) (by decide) ?_
        refine xj_iload_n (i := 3) hk dX8_house_140 rfl rfl ?_
        refine xj_ireturn hk hz dX8_house_141 ?_
        refine ⟨?_, ⟨⟨(md_th M, nR te ho ow hs ra lo (nI n) st av so ln, md_pt M, md_re M, md_sd M, md_be M, md_pb M, md_ac M, od, ad, wy, so3, rl, io3, sl_po (kM te ho ow hs ra lo n), sl_sp (kM te ho ow hs ra lo n), sl_rs (kM te ho ow hs ra lo n), sl_st (kM te ho ow hs ra lo n), sl_av (kM te ho ow hs ra lo n), sl_pt (kM te ho ow hs ra lo n), md_tx M, md_tm M, md_ta M, md_td M, md_wo M, md_sq M, md_tk M, md_bg M, md_nu M, md_wr M), xw_up_s, rfl, rfl, rfl, rfl, rfl, rfl, rfl⟩, fun g h => xw_up_n h⟩⟩
        · rw [← q_house_ag (B := (mB te ho ow hs ra lo n)) (n := n) _ _ hq.2.1 hag]
          simp only [q_house]
          rw [ih_t hj_j, xn_nI (show j < 2 ^ 31 by omega), if_pos rfl]
          first | (rw [s78_0]; rfl) | (rw [s78_1]; exact congrArg (fun q => some (Value.int q)) (kF_ro (kMF (ho := ho) hq) _ (hq.2.1 j hj_j).2.2).symm) | (rw [s78_2]; rfl) | (rw [s78_3]; rfl) | (rw [s78_4]; rfl) | (rw [s78_5]; rfl) | (rcases mIn6 c14 with h9 | h9 | h9 | h9 | h9 | h9 | h9 <;> first | contradiction | (rw [h9]; rfl))
      by_cases s78_4 : w = 4
      · refine xj_swIn (tgt := 142) (off := 64) hk dX8_house_78 (by rw [s78_4]; decide) (by rw [s78_4]; decide) (by rw [s78_4]; decide) (by decide) ?_
        refine xj_aload_n (i := 0) hk dX8_house_142 rfl rfl ?_
        refine xj_iload_n (i := 1) hk dX8_house_143 rfl rfl ?_
        refine xj_callV hk hz (fr1 := 1) (lo1 := 21) (r1 := some (.int (sm (sel hs (nI j) so3) n))) (As := [.int (nI j)]) (st := []) (st2 := [.int (sm (sel hs (nI j) so3) n)]) (G1 := xw_up G 21 (pM v (md_th M) (nR te ho ow hs ra lo (nI n) st av so ln) (md_pt M) (md_re M) (md_sd M) (md_be M) (md_pb M) (md_ac M) od ad wy so3 rl io3 (sl_po (kM te ho ow hs ra lo n)) (sl_sp (kM te ho ow hs ra lo n)) (sl_rs (kM te ho ow hs ra lo n)) (sl_st (kM te ho ow hs ra lo n)) (sl_av (kM te ho ow hs ra lo n)) (sl_pt (kM te ho ow hs ra lo n)) (md_tx M) (md_tm M) (md_ta M) (md_td M) (md_wo M) (md_sq M) (md_tk M) (md_bg M) (md_nu M) (md_wr M))) ml_X8_184 (c_X8_soldOf (n := n) (M := (md_th M, nR te ho ow hs ra lo (nI n) st av so ln, md_pt M, md_re M, md_sd M, md_be M, md_pb M, md_ac M, od, ad, wy, so3, rl, io3, sl_po (kM te ho ow hs ra lo n), sl_sp (kM te ho ow hs ra lo n), sl_rs (kM te ho ow hs ra lo n), sl_st (kM te ho ow hs ra lo n), sl_av (kM te ho ow hs ra lo n), sl_pt (kM te ho ow hs ra lo n), md_tx M, md_tm M, md_ta M, md_td M, md_wo M, md_sq M, md_tk M, md_bg M, md_nu M, md_wr M)) (show (xw_up G 21 (pM v (md_th M) (nR te ho ow hs ra lo (nI n) st av so ln) (md_pt M) (md_re M) (md_sd M) (md_be M) (md_pb M) (md_ac M) od ad wy so3 rl io3 (sl_po (kM te ho ow hs ra lo n)) (sl_sp (kM te ho ow hs ra lo n)) (sl_rs (kM te ho ow hs ra lo n)) (sl_st (kM te ho ow hs ra lo n)) (sl_av (kM te ho ow hs ra lo n)) (sl_pt (kM te ho ow hs ra lo n)) (md_tx M) (md_tm M) (md_ta M) (md_td M) (md_wo M) (md_sq M) (md_tk M) (md_bg M) (md_nu M) (md_wr M))) 21 = pM v (md_th M) (nR te ho ow hs ra lo (nI n) st av so ln) (md_pt M) (md_re M) (md_sd M) (md_be M) (md_pb M) (md_ac M) od ad wy so3 rl io3 (sl_po (kM te ho ow hs ra lo n)) (sl_sp (kM te ho ow hs ra lo n)) (sl_rs (kM te ho ow hs ra lo n)) (sl_st (kM te ho ow hs ra lo n)) (sl_av (kM te ho ow hs ra lo n)) (sl_pt (kM te ho ow hs ra lo n)) (md_tx M) (md_tm M) (md_ta M) (md_td M) (md_wo M) (md_sq M) (md_tk M) (md_bg M) (md_nu M) (md_wr M) from xw_up_s) hn30 (nI j)) (xw_at xw_up_s rfl) rfl dX8_house_144 ⟨Nat.le_of_ble_eq_true rfl, Nat.le_of_ble_eq_true rfl⟩ rfl (Nat.le_of_ble_eq_true rfl) rfl rfl ?_
        refine xj_ireturn hk hz dX8_house_147 ?_
        refine ⟨?_, ⟨⟨(md_th M, nR te ho ow hs ra lo (nI n) st av so ln, md_pt M, md_re M, md_sd M, md_be M, md_pb M, md_ac M, od, ad, wy, so3, rl, io3, sl_po (kM te ho ow hs ra lo n), sl_sp (kM te ho ow hs ra lo n), sl_rs (kM te ho ow hs ra lo n), sl_st (kM te ho ow hs ra lo n), sl_av (kM te ho ow hs ra lo n), sl_pt (kM te ho ow hs ra lo n), md_tx M, md_tm M, md_ta M, md_td M, md_wo M, md_sq M, md_tk M, md_bg M, md_nu M, md_wr M), xw_up_s, rfl, rfl, rfl, rfl, rfl, rfl, rfl⟩, fun g h => xw_up_n h⟩⟩
        · rw [← q_house_ag (B := (mB te ho ow hs ra lo n)) (n := n) _ _ hq.2.1 hag]
          simp only [q_house]
          rw [ih_t hj_j, xn_nI (show j < 2 ^ 31 by omega), if_pos rfl]
          first | (rw [s78_0]; rfl) | (rw [s78_1]; exact congrArg (fun q => some (Value.int q)) (kF_ro (kMF (ho := ho) hq) _ (hq.2.1 j hj_j).2.2).symm) | (rw [s78_2]; rfl) | (rw [s78_3]; rfl) | (rw [s78_4]; rfl) | (rw [s78_5]; rfl) | (rcases mIn6 c14 with h9 | h9 | h9 | h9 | h9 | h9 | h9 <;> first | contradiction | (rw [h9]; rfl))
      by_cases s78_5 : w = 5
      · refine xj_swIn (tgt := 148) (off := 70) hk dX8_house_78 (by rw [s78_5]; decide) (by rw [s78_5]; decide) (by rw [s78_5]; decide) (by decide) ?_
        refine xj_aload_n (i := 0) hk dX8_house_148 rfl rfl ?_
        refine xj_getfield hk dX8_house_149 fl_X8_13 (xw_at xw_up_s rfl) rfl ?_
        refine xj_bipush (x := 15) hk dX8_house_152 (by decide) ?_
        refine xj_iload_n (i := 1) hk dX8_house_154 rfl rfl ?_
        refine xj_iadd hk dX8_house_155 ?_
        refine xj.eqi (x' := nI (15 + j)) (nI_add 15 j) ?_
        refine xj_iaload (k := 15 + j) hk dX8_house_156 (xw_at xw_up_s rfl) (xi_n (by omega) (by decide)) ?_
        refine xj.eqi (x' := ow j) (rR_ow (k := j) (by omega)) ?_
        refine xj_ireturn hk hz dX8_house_157 ?_
        refine ⟨?_, ⟨⟨(md_th M, nR te ho ow hs ra lo (nI n) st av so ln, md_pt M, md_re M, md_sd M, md_be M, md_pb M, md_ac M, od, ad, wy, so3, rl, io3, sl_po (kM te ho ow hs ra lo n), sl_sp (kM te ho ow hs ra lo n), sl_rs (kM te ho ow hs ra lo n), sl_st (kM te ho ow hs ra lo n), sl_av (kM te ho ow hs ra lo n), sl_pt (kM te ho ow hs ra lo n), md_tx M, md_tm M, md_ta M, md_td M, md_wo M, md_sq M, md_tk M, md_bg M, md_nu M, md_wr M), xw_up_s, rfl, rfl, rfl, rfl, rfl, rfl, rfl⟩, fun g h => xw_up_n h⟩⟩
        · rw [← q_house_ag (B := (mB te ho ow hs ra lo n)) (n := n) _ _ hq.2.1 hag]
          simp only [q_house]
          rw [ih_t hj_j, xn_nI (show j < 2 ^ 31 by omega), if_pos rfl]
          first | (rw [s78_0]; rfl) | (rw [s78_1]; exact congrArg (fun q => some (Value.int q)) (kF_ro (kMF (ho := ho) hq) _ (hq.2.1 j hj_j).2.2).symm) | (rw [s78_2]; rfl) | (rw [s78_3]; rfl) | (rw [s78_4]; rfl) | (rw [s78_5]; rfl) | (rcases mIn6 c14 with h9 | h9 | h9 | h9 | h9 | h9 | h9 <;> first | contradiction | (rw [h9]; rfl))
      refine xj_swOut (tgt := 158) hk dX8_house_78 (sw_out6 s78_0 s78_1 s78_2 s78_3 s78_4 s78_5) (by decide) ?_
      refine xj_aload_n (i := 0) hk dX8_house_158 rfl rfl ?_
      refine xj_iload_n (i := 1) hk dX8_house_159 rfl rfl ?_
      refine xj_callV hk hz (fr1 := 0) (lo1 := 0) (r1 := some (.int (ownd ow (nI j)))) (As := [.int (nI j)]) (st := []) (st2 := [.int (ownd ow (nI j))]) (G1 := xw_up G 21 (pM v (md_th M) (nR te ho ow hs ra lo (nI n) st av so ln) (md_pt M) (md_re M) (md_sd M) (md_be M) (md_pb M) (md_ac M) od ad wy so3 rl io3 (sl_po (kM te ho ow hs ra lo n)) (sl_sp (kM te ho ow hs ra lo n)) (sl_rs (kM te ho ow hs ra lo n)) (sl_st (kM te ho ow hs ra lo n)) (sl_av (kM te ho ow hs ra lo n)) (sl_pt (kM te ho ow hs ra lo n)) (md_tx M) (md_tm M) (md_ta M) (md_td M) (md_wo M) (md_sq M) (md_tk M) (md_bg M) (md_nu M) (md_wr M))) ml_X8_192 (c_X8_ownedBy (M := (md_th M, nR te ho ow hs ra lo (nI n) st av so ln, md_pt M, md_re M, md_sd M, md_be M, md_pb M, md_ac M, od, ad, wy, so3, rl, io3, sl_po (kM te ho ow hs ra lo n), sl_sp (kM te ho ow hs ra lo n), sl_rs (kM te ho ow hs ra lo n), sl_st (kM te ho ow hs ra lo n), sl_av (kM te ho ow hs ra lo n), sl_pt (kM te ho ow hs ra lo n), md_tx M, md_tm M, md_ta M, md_td M, md_wo M, md_sq M, md_tk M, md_bg M, md_nu M, md_wr M)) (show (xw_up G 21 (pM v (md_th M) (nR te ho ow hs ra lo (nI n) st av so ln) (md_pt M) (md_re M) (md_sd M) (md_be M) (md_pb M) (md_ac M) od ad wy so3 rl io3 (sl_po (kM te ho ow hs ra lo n)) (sl_sp (kM te ho ow hs ra lo n)) (sl_rs (kM te ho ow hs ra lo n)) (sl_st (kM te ho ow hs ra lo n)) (sl_av (kM te ho ow hs ra lo n)) (sl_pt (kM te ho ow hs ra lo n)) (md_tx M) (md_tm M) (md_ta M) (md_td M) (md_wo M) (md_sq M) (md_tk M) (md_bg M) (md_nu M) (md_wr M))) 21 = pM v (md_th M) (nR te ho ow hs ra lo (nI n) st av so ln) (md_pt M) (md_re M) (md_sd M) (md_be M) (md_pb M) (md_ac M) od ad wy so3 rl io3 (sl_po (kM te ho ow hs ra lo n)) (sl_sp (kM te ho ow hs ra lo n)) (sl_rs (kM te ho ow hs ra lo n)) (sl_st (kM te ho ow hs ra lo n)) (sl_av (kM te ho ow hs ra lo n)) (sl_pt (kM te ho ow hs ra lo n)) (md_tx M) (md_tm M) (md_ta M) (md_td M) (md_wo M) (md_sq M) (md_tk M) (md_bg M) (md_nu M) (md_wr M) from xw_up_s) (nI j)) (xw_at xw_up_s rfl) rfl dX8_house_160 ⟨Nat.le_of_ble_eq_true rfl, Nat.le_of_ble_eq_true rfl⟩ rfl (Nat.le_of_ble_eq_true rfl) rfl rfl ?_
      refine xj_ireturn hk hz dX8_house_163 ?_
      refine ⟨?_, ⟨⟨(md_th M, nR te ho ow hs ra lo (nI n) st av so ln, md_pt M, md_re M, md_sd M, md_be M, md_pb M, md_ac M, od, ad, wy, so3, rl, io3, sl_po (kM te ho ow hs ra lo n), sl_sp (kM te ho ow hs ra lo n), sl_rs (kM te ho ow hs ra lo n), sl_st (kM te ho ow hs ra lo n), sl_av (kM te ho ow hs ra lo n), sl_pt (kM te ho ow hs ra lo n), md_tx M, md_tm M, md_ta M, md_td M, md_wo M, md_sq M, md_tk M, md_bg M, md_nu M, md_wr M), xw_up_s, rfl, rfl, rfl, rfl, rfl, rfl, rfl⟩, fun g h => xw_up_n h⟩⟩
      · rw [← q_house_ag (B := (mB te ho ow hs ra lo n)) (n := n) _ _ hq.2.1 hag]
        simp only [q_house]
        rw [ih_t hj_j, xn_nI (show j < 2 ^ 31 by omega), if_pos rfl]
        first | (rw [s78_0]; rfl) | (rw [s78_1]; exact congrArg (fun q => some (Value.int q)) (kF_ro (kMF (ho := ho) hq) _ (hq.2.1 j hj_j).2.2).symm) | (rw [s78_2]; rfl) | (rw [s78_3]; rfl) | (rw [s78_4]; rfl) | (rw [s78_5]; rfl) | (rcases mIn6 c14 with h9 | h9 | h9 | h9 | h9 | h9 | h9 <;> first | contradiction | (rw [h9]; rfl))
    · refine xj_iconst (x := (-1)) hk dX8_house_17 (by decide) ?_
      refine xj_ireturn hk hz dX8_house_18 ?_
      refine ⟨?_, ⟨⟨M, hM, rfl, rfl, rfl, rfl, rfl, rfl, rfl⟩, fun _ _ => rfl⟩⟩
      · obtain ⟨u0, u1, u2, u3, u4, u5, u6⟩ := mOut6 c14
        simp [q_house, u0, u1, u2, u3, u4, u5, u6]

theorem sw_out11 {x : Int32} (h0 : ¬ x = 0) (h1 : ¬ x = 1) (h2 : ¬ x = 2) (h3 : ¬ x = 3) (h4 : ¬ x = 4) (h5 : ¬ x = 5) (h6 : ¬ x = 6) (h7 : ¬ x = 7) (h8 : ¬ x = 8) (h9 : ¬ x = 9) (h10 : ¬ x = 10) : x.toInt < 0 ∨ 10 < x.toInt := by
  simp only [← Int32.toInt_inj] at h0 h1 h2 h3 h4 h5 h6 h7 h8 h9 h10
  simp at h0 h1 h2 h3 h4 h5 h6 h7 h8 h9 h10
  omega
set_option maxHeartbeats 1000000 in
set_option maxRecDepth 10000 in
theorem l_X8_told_14 {v : xw_V} {κ : xk_K} {post : Option Value → xw_G → Prop} {z : Nat × Nat × Nat} {G : xw_G} {M : md_T} {te ho ow hs ra lo st av so : Nat → Int32} {ln : Int32} {n : Nat} (hk : xk_Ok v κ yX8_told cX8_told 5 (some .int) 4 89) (hz : xk_zf κ = z) (hM : G 21 = pM v (md_th M) (nR te ho ow hs ra lo (nI n) st av so ln) (md_pt M) (md_re M) (md_sd M) (md_be M) (md_pb M) (md_ac M) (md_od M) (md_ad M) (md_wy M) (md_so M) (md_rl M) (md_io M) (md_po M) (md_sp M) (md_rs M) (md_st M) (md_av M) (md_ip M) (md_tx M) (md_tm M) (md_ta M) (md_td M) (md_wo M) (md_sq M) (md_tk M) (md_bg M) (md_nu M) (md_wr M)) (hn30 : n ≤ 30) (w x : Int32) (kx : xj v κ post z G 64 [some (.ref (xw_ad v 21 0)), some (.int w), some (.int x), some (.int (sm (fun j => if ra j = -1 then 0 else if ra j = md_st M then (if md_ad M j ≤ 0 then 0 else 1) else 0) n)), some (.int (nI n))] []) : ∀ (m : Nat) (k : Nat), n - k < m → k ≤ n → xj v κ post z G 14 [some (.ref (xw_ad v 21 0)), some (.int w), some (.int x), some (.int (sm (fun j => if ra j = -1 then 0 else if ra j = md_st M then (if md_ad M j ≤ 0 then 0 else 1) else 0) k)), some (.int (nI k))] [] := by
  intro m
  induction m with
  | zero => intro k h; exact absurd h (Nat.not_lt_zero _)
  | succ m ih =>
    intro k hm hi
    refine xj_iload hk dX8_told_14 rfl ?_
    refine xj_aload_n (i := 0) hk dX8_told_16 rfl rfl ?_
    refine xj_callV hk hz (fr1 := 0) (lo1 := 0) (r1 := some (.int (nI n))) (As := []) (st := [.int (nI k)]) (st2 := [.int (nI n), .int (nI k)]) (G1 := G) ml_X8_73 (c_X8_many (M := M) (show G 21 = pM v (md_th M) (nR te ho ow hs ra lo (nI n) st av so ln) (md_pt M) (md_re M) (md_sd M) (md_be M) (md_pb M) (md_ac M) (md_od M) (md_ad M) (md_wy M) (md_so M) (md_rl M) (md_io M) (md_po M) (md_sp M) (md_rs M) (md_st M) (md_av M) (md_ip M) (md_tx M) (md_tm M) (md_ta M) (md_td M) (md_wo M) (md_sq M) (md_tk M) (md_bg M) (md_nu M) (md_wr M) from hM)) (xw_at hM rfl) rfl dX8_told_17 ⟨Nat.le_of_ble_eq_true rfl, Nat.le_of_ble_eq_true rfl⟩ rfl (Nat.le_of_ble_eq_true rfl) rfl rfl ?_
    refine xj_icmp_ge (tgt := 64) hk dX8_told_20 (by decide) (fun c20 => ?_) (fun c20 => ?_)
    · have c20 : n ≤ k := (nI_leI (a := n) (b := k) (by omega) (by omega)).mp c20
      have e9 : k = n := by omega
      subst e9
      exact kx
    · have c20 : ¬ n ≤ k := fun q => c20 ((nI_leI (a := n) (b := k) (by omega) (by omega)).mpr q)
      refine xj_aload_n (i := 0) hk dX8_told_23 rfl rfl ?_
      refine xj_iload hk dX8_told_24 rfl ?_
      refine xj_callV hk hz (fr1 := 1) (lo1 := 21) (r1 := some (.int (xb (decide (ra k = -1))))) (As := [.int (nI k)]) (st := []) (st2 := [.int (xb (decide (ra k = -1)))]) (G1 := G) ml_X8_115 (c_X8_isPlain (b := k) (M := M) (show G 21 = pM v (md_th M) (nR te ho ow hs ra lo (nI n) st av so ln) (md_pt M) (md_re M) (md_sd M) (md_be M) (md_pb M) (md_ac M) (md_od M) (md_ad M) (md_wy M) (md_so M) (md_rl M) (md_io M) (md_po M) (md_sp M) (md_rs M) (md_st M) (md_av M) (md_ip M) (md_tx M) (md_tm M) (md_ta M) (md_td M) (md_wo M) (md_sq M) (md_tk M) (md_bg M) (md_nu M) (md_wr M) from hM) (by omega)) (xw_at hM rfl) rfl dX8_told_26 ⟨Nat.le_of_ble_eq_true rfl, Nat.le_of_ble_eq_true rfl⟩ rfl (Nat.le_of_ble_eq_true rfl) rfl rfl ?_
      refine xj_ifb_ne (tgt := 58) hk dX8_told_29 (by decide) (fun c29 => ?_) (fun c29 => ?_)
      · refine xj_iinc (i := 4) (x2 := nI (k + 1)) (ls2 := [some (.ref (xw_ad v 21 0)), some (.int w), some (.int x), some (.int (sm (fun j => if ra j = -1 then 0 else if ra j = md_st M then (if md_ad M j ≤ 0 then 0 else 1) else 0) k)), some (.int (nI (k + 1)))]) hk dX8_told_58 rfl (nI_1 k) (by decide) rfl rfl ?_
        refine xj_goto (tgt := 14) hk dX8_told_61 (by decide) ?_
        refine xj.to (ls' := [some (.ref (xw_ad v 21 0)), some (.int w), some (.int x), some (.int (sm (fun j => if ra j = -1 then 0 else if ra j = md_st M then (if md_ad M j ≤ 0 then 0 else 1) else 0) ((k + 1)))), some (.int (nI ((k + 1))))]) (by simp only [sm]; first | (rw [if_pos (of_decide_eq_true c29), Int32.add_zero]) | (rw [if_neg (of_decide_eq_false c29), if_neg c42, Int32.add_zero]) | (rw [if_neg (of_decide_eq_false c29), if_pos c42, if_pos c52, Int32.add_zero]) | (rw [if_neg (of_decide_eq_false c29), if_pos c42, if_neg c52])) (ih (k + 1) (by omega) (by omega))
      · refine xj_aload_n (i := 0) hk dX8_told_32 rfl rfl ?_
        refine xj_iload hk dX8_told_33 rfl ?_
        refine xj_callV hk hz (fr1 := 0) (lo1 := 0) (r1 := some (.int (ra k))) (As := [.int (nI k)]) (st := []) (st2 := [.int (ra k)]) (G1 := G) ml_X8_77 (c_X8_rateOf (b := k) (M := M) (show G 21 = pM v (md_th M) (nR te ho ow hs ra lo (nI n) st av so ln) (md_pt M) (md_re M) (md_sd M) (md_be M) (md_pb M) (md_ac M) (md_od M) (md_ad M) (md_wy M) (md_so M) (md_rl M) (md_io M) (md_po M) (md_sp M) (md_rs M) (md_st M) (md_av M) (md_ip M) (md_tx M) (md_tm M) (md_ta M) (md_td M) (md_wo M) (md_sq M) (md_tk M) (md_bg M) (md_nu M) (md_wr M) from hM) (by omega)) (xw_at hM rfl) rfl dX8_told_35 ⟨Nat.le_of_ble_eq_true rfl, Nat.le_of_ble_eq_true rfl⟩ rfl (Nat.le_of_ble_eq_true rfl) rfl rfl ?_
        refine xj_aload_n (i := 0) hk dX8_told_38 rfl rfl ?_
        refine xj_getfield hk dX8_told_39 fl_X8_153 (xw_at hM rfl) rfl ?_
        refine xj_icmp_ne (tgt := 58) hk dX8_told_42 (by decide) (fun c42 => ?_) (fun c42 => ?_)
        · refine xj_iinc (i := 4) (x2 := nI (k + 1)) (ls2 := [some (.ref (xw_ad v 21 0)), some (.int w), some (.int x), some (.int (sm (fun j => if ra j = -1 then 0 else if ra j = md_st M then (if md_ad M j ≤ 0 then 0 else 1) else 0) k)), some (.int (nI (k + 1)))]) hk dX8_told_58 rfl (nI_1 k) (by decide) rfl rfl ?_
          refine xj_goto (tgt := 14) hk dX8_told_61 (by decide) ?_
          refine xj.to (ls' := [some (.ref (xw_ad v 21 0)), some (.int w), some (.int x), some (.int (sm (fun j => if ra j = -1 then 0 else if ra j = md_st M then (if md_ad M j ≤ 0 then 0 else 1) else 0) ((k + 1)))), some (.int (nI ((k + 1))))]) (by simp only [sm]; first | (rw [if_pos (of_decide_eq_true c29), Int32.add_zero]) | (rw [if_neg (of_decide_eq_false c29), if_neg c42, Int32.add_zero]) | (rw [if_neg (of_decide_eq_false c29), if_pos c42, if_pos c52, Int32.add_zero]) | (rw [if_neg (of_decide_eq_false c29), if_pos c42, if_neg c52])) (ih (k + 1) (by omega) (by omega))
        · refine xj_aload_n (i := 0) hk dX8_told_45 rfl rfl ?_
          refine xj_getfield hk dX8_told_46 fl_X8_36 (xw_at hM rfl) rfl ?_
          refine xj_iload hk dX8_told_49 rfl ?_
          refine xj_iaload (k := k) hk dX8_told_51 (xw_at hM rfl) (xi_n (by omega) (by decide)) ?_
          refine xj_if_le (tgt := 58) hk dX8_told_52 (by decide) (fun c52 => ?_) (fun c52 => ?_)
          · refine xj_iinc (i := 4) (x2 := nI (k + 1)) (ls2 := [some (.ref (xw_ad v 21 0)), some (.int w), some (.int x), some (.int (sm (fun j => if ra j = -1 then 0 else if ra j = md_st M then (if md_ad M j ≤ 0 then 0 else 1) else 0) k)), some (.int (nI (k + 1)))]) hk dX8_told_58 rfl (nI_1 k) (by decide) rfl rfl ?_
            refine xj_goto (tgt := 14) hk dX8_told_61 (by decide) ?_
            refine xj.to (ls' := [some (.ref (xw_ad v 21 0)), some (.int w), some (.int x), some (.int (sm (fun j => if ra j = -1 then 0 else if ra j = md_st M then (if md_ad M j ≤ 0 then 0 else 1) else 0) ((k + 1)))), some (.int (nI ((k + 1))))]) (by simp only [sm]; first | (rw [if_pos (of_decide_eq_true c29), Int32.add_zero]) | (rw [if_neg (of_decide_eq_false c29), if_neg c42, Int32.add_zero]) | (rw [if_neg (of_decide_eq_false c29), if_pos c42, if_pos c52, Int32.add_zero]) | (rw [if_neg (of_decide_eq_false c29), if_pos c42, if_neg c52])) (ih (k + 1) (by omega) (by omega))
          · refine xj_iinc (i := 3) (x2 := (sm (fun j => if ra j = -1 then 0 else if ra j = md_st M then (if md_ad M j ≤ 0 then 0 else 1) else 0) k) + 1) (ls2 := [some (.ref (xw_ad v 21 0)), some (.int w), some (.int x), some (.int ((sm (fun j => if ra j = -1 then 0 else if ra j = md_st M then (if md_ad M j ≤ 0 then 0 else 1) else 0) k) + 1)), some (.int (nI k))]) hk dX8_told_55 rfl rfl (by decide) rfl rfl ?_
            refine xj_iinc (i := 4) (x2 := nI (k + 1)) (ls2 := [some (.ref (xw_ad v 21 0)), some (.int w), some (.int x), some (.int ((sm (fun j => if ra j = -1 then 0 else if ra j = md_st M then (if md_ad M j ≤ 0 then 0 else 1) else 0) k) + 1)), some (.int (nI (k + 1)))]) hk dX8_told_58 rfl (nI_1 k) (by decide) rfl rfl ?_
            refine xj_goto (tgt := 14) hk dX8_told_61 (by decide) ?_
            refine xj.to (ls' := [some (.ref (xw_ad v 21 0)), some (.int w), some (.int x), some (.int (sm (fun j => if ra j = -1 then 0 else if ra j = md_st M then (if md_ad M j ≤ 0 then 0 else 1) else 0) ((k + 1)))), some (.int (nI ((k + 1))))]) (by simp only [sm]; first | (rw [if_pos (of_decide_eq_true c29), Int32.add_zero]) | (rw [if_neg (of_decide_eq_false c29), if_neg c42, Int32.add_zero]) | (rw [if_neg (of_decide_eq_false c29), if_pos c42, if_pos c52, Int32.add_zero]) | (rw [if_neg (of_decide_eq_false c29), if_pos c42, if_neg c52])) (ih (k + 1) (by omega) (by omega))

theorem fig_so {B : bk_T} {n : Nat} {K : sl_T} (h : kF B n K) {od ad wy so : Nat → Int32} (hag : agS n (sl_w K od ad wy so) K) : sm so n = sl_sp K + sl_sr K := by
  rw [← kF_sum h]
  exact sm_congr (fun j hj => (hag.1 j hj).2.2.2)
theorem fig_ad {B : bk_T} {n : Nat} {K : sl_T} (h : kF B n K) {od ad wy so : Nat → Int32} (hag : agS n (sl_w K od ad wy so) K) : sm ad n = sl_ap K + sl_ar K := by
  rw [kF_ap h, kF_ar h, ← sm_add]
  refine sm_congr (fun j hj => ?_)
  rw [show ad j = sl_ad K j from (hag.1 j hj).2.1]
  split
  · rw [Int32.add_zero]
  · rw [Int32.zero_add]
theorem fig_ar {B : bk_T} {n : Nat} {K : sl_T} (h : kF B n K) (hl : vL (bk_ra B) (bk_lo B) n) {od ad wy so : Nat → Int32} (hag : agS n (sl_w K od ad wy so) K) : sm (fun j => if bk_ra B j = -1 then 0 else if 999 < bk_ra B j then 0 else ad j) n = sl_ar K := by
  rw [kF_ar h]
  refine sm_congr (fun j hj => ?_)
  rw [show ad j = sl_ad K j from (hag.1 j hj).2.1, if_neg (show ¬ 999 < bk_ra B j from Int32.not_lt.mpr (hl j hj).1.2)]
theorem fig_bi {B : bk_T} {n : Nat} {K : sl_T} (h : kF B n K) {od ad wy so : Nat → Int32} (hag : agS n (sl_w K od ad wy so) K) : sm (fun j => if bk_ra B j = -1 then 0 else if bk_ra B j = sl_st K then (if ad j ≤ 0 then 0 else 1) else 0) n = sm (fun j => if bk_ra B j = sl_st K then (if sl_ad K j ≤ 0 then 0 else 1) else 0) n := by
  refine sm_congr (fun j hj => ?_)
  rw [show ad j = sl_ad K j from (hag.1 j hj).2.1]
  by_cases c : bk_ra B j = -1
  · rw [if_pos c, if_neg (fun q => ?_)]
    rw [c] at q
    rcases kF_st h with ⟨g, -⟩ | g
    · rw [← q] at g; exact absurd g (by decide)
    · rw [← q] at g; exact absurd g (by decide)
  · rw [if_neg c]
set_option maxHeartbeats 1000000 in
set_option maxRecDepth 10000 in
theorem c_X8_told {v : xw_V} {G : xw_G} {M : md_T} {te ho ow hs ra lo st av so : Nat → Int32} {ln : Int32} {n : Nat} (hM : G 21 = pM v (md_th M) (nR te ho ow hs ra lo (nI n) st av so ln) (md_pt M) (md_re M) (md_sd M) (md_be M) (md_pb M) (md_ac M) (md_od M) (md_ad M) (md_wy M) (md_so M) (md_rl M) (md_io M) (md_po M) (md_sp M) (md_rs M) (md_st M) (md_av M) (md_ip M) (md_tx M) (md_tm M) (md_ta M) (md_td M) (md_wo M) (md_sq M) (md_tk M) (md_bg M) (md_nu M) (md_wr M)) (hq : MV te ow hs ra lo n) (w : Int32) (hw : mIn w 0 11 = true) : xk_Con v yX8_told cX8_told 5 (some .int) 4 89 [.ref (xw_ad v 21 0), .int w] G (fun r9 G' => r9 = some (.int (fig (mB te ho ow hs ra lo n) (kM te ho ow hs ra lo n) n w)) ∧ mQ v G G' (nR te ho ow hs ra lo (nI n) st av so ln) M) := by
  refine xk_of (ls0 := [some (.ref (xw_ad v 21 0)), some (.int w), none, none, none]) (by decide) rfl (Nat.le_of_ble_eq_true rfl) ?_
  intro κ z hk hz
  have hn30 : n ≤ 30 := hq.1
  refine xj_aload_n (i := 0) hk dX8_told_0 rfl rfl ?_
  refine xj_callVE hk hz (fr1 := 3) (lo1 := 65) (As := []) (st := []) ml_X8_174 (c_sellsK (n := n) (M := M) (show G 21 = pM v (md_th M) (nR te ho ow hs ra lo (nI n) st av so ln) (md_pt M) (md_re M) (md_sd M) (md_be M) (md_pb M) (md_ac M) (md_od M) (md_ad M) (md_wy M) (md_so M) (md_rl M) (md_io M) (md_po M) (md_sp M) (md_rs M) (md_st M) (md_av M) (md_ip M) (md_tx M) (md_tm M) (md_ta M) (md_td M) (md_wo M) (md_sq M) (md_tk M) (md_bg M) (md_nu M) (md_wr M) from hM) hq) (xw_at hM rfl) rfl dX8_told_1 ⟨Nat.le_of_ble_eq_true rfl, Nat.le_of_ble_eq_true rfl⟩ rfl (Nat.le_of_ble_eq_true rfl) rfl ?_
  rintro _ _ ⟨rfl, od, ad, wy, rl, so3, io3, hag, rfl⟩
  have hag : agS n (sl_w (kM te ho ow hs ra lo n) od ad wy so3) (kM te ho ow hs ra lo n) := hag
  show xj v κ _ z (xw_up G 21 (pM v (md_th M) (nR te ho ow hs ra lo (nI n) st av so ln) (md_pt M) (md_re M) (md_sd M) (md_be M) (md_pb M) (md_ac M) od ad wy so3 rl io3 (sl_po (kM te ho ow hs ra lo n)) (sl_sp (kM te ho ow hs ra lo n)) (sl_rs (kM te ho ow hs ra lo n)) (sl_st (kM te ho ow hs ra lo n)) (sl_av (kM te ho ow hs ra lo n)) (sl_pt (kM te ho ow hs ra lo n)) (md_tx M) (md_tm M) (md_ta M) (md_td M) (md_wo M) (md_sq M) (md_tk M) (md_bg M) (md_nu M) (md_wr M))) 4 _ []
  refine xj_aload_n (i := 0) hk dX8_told_4 rfl rfl ?_
  refine xj_callV hk hz (fr1 := 1) (lo1 := 20) (r1 := some (.int (sm so3 n))) (As := []) (st := []) (st2 := [.int (sm so3 n)]) (G1 := xw_up G 21 (pM v (md_th M) (nR te ho ow hs ra lo (nI n) st av so ln) (md_pt M) (md_re M) (md_sd M) (md_be M) (md_pb M) (md_ac M) od ad wy so3 rl io3 (sl_po (kM te ho ow hs ra lo n)) (sl_sp (kM te ho ow hs ra lo n)) (sl_rs (kM te ho ow hs ra lo n)) (sl_st (kM te ho ow hs ra lo n)) (sl_av (kM te ho ow hs ra lo n)) (sl_pt (kM te ho ow hs ra lo n)) (md_tx M) (md_tm M) (md_ta M) (md_td M) (md_wo M) (md_sq M) (md_tk M) (md_bg M) (md_nu M) (md_wr M))) ml_X8_177 (c_X8_soldAll (n := n) (M := (md_th M, nR te ho ow hs ra lo (nI n) st av so ln, md_pt M, md_re M, md_sd M, md_be M, md_pb M, md_ac M, od, ad, wy, so3, rl, io3, sl_po (kM te ho ow hs ra lo n), sl_sp (kM te ho ow hs ra lo n), sl_rs (kM te ho ow hs ra lo n), sl_st (kM te ho ow hs ra lo n), sl_av (kM te ho ow hs ra lo n), sl_pt (kM te ho ow hs ra lo n), md_tx M, md_tm M, md_ta M, md_td M, md_wo M, md_sq M, md_tk M, md_bg M, md_nu M, md_wr M)) (show (xw_up G 21 (pM v (md_th M) (nR te ho ow hs ra lo (nI n) st av so ln) (md_pt M) (md_re M) (md_sd M) (md_be M) (md_pb M) (md_ac M) od ad wy so3 rl io3 (sl_po (kM te ho ow hs ra lo n)) (sl_sp (kM te ho ow hs ra lo n)) (sl_rs (kM te ho ow hs ra lo n)) (sl_st (kM te ho ow hs ra lo n)) (sl_av (kM te ho ow hs ra lo n)) (sl_pt (kM te ho ow hs ra lo n)) (md_tx M) (md_tm M) (md_ta M) (md_td M) (md_wo M) (md_sq M) (md_tk M) (md_bg M) (md_nu M) (md_wr M))) 21 = pM v (md_th M) (nR te ho ow hs ra lo (nI n) st av so ln) (md_pt M) (md_re M) (md_sd M) (md_be M) (md_pb M) (md_ac M) od ad wy so3 rl io3 (sl_po (kM te ho ow hs ra lo n)) (sl_sp (kM te ho ow hs ra lo n)) (sl_rs (kM te ho ow hs ra lo n)) (sl_st (kM te ho ow hs ra lo n)) (sl_av (kM te ho ow hs ra lo n)) (sl_pt (kM te ho ow hs ra lo n)) (md_tx M) (md_tm M) (md_ta M) (md_td M) (md_wo M) (md_sq M) (md_tk M) (md_bg M) (md_nu M) (md_wr M) from xw_up_s) hn30) (xw_at xw_up_s rfl) rfl dX8_told_5 ⟨Nat.le_of_ble_eq_true rfl, Nat.le_of_ble_eq_true rfl⟩ rfl (Nat.le_of_ble_eq_true rfl) rfl rfl ?_
  refine xj_istore_n (i := 2) (ls2 := [some (.ref (xw_ad v 21 0)), some (.int w), some (.int (sm so3 n)), none, none]) hk dX8_told_8 rfl (by decide) rfl rfl ?_
  refine xj_iconst (x := 0) hk dX8_told_9 (by decide) ?_
  refine xj_istore_n (i := 3) (ls2 := [some (.ref (xw_ad v 21 0)), some (.int w), some (.int (sm so3 n)), some (.int 0), none]) hk dX8_told_10 rfl (by decide) rfl rfl ?_
  refine xj_iconst (x := 0) hk dX8_told_11 (by decide) ?_
  refine xj_istore (i := 4) (ls2 := [some (.ref (xw_ad v 21 0)), some (.int w), some (.int (sm so3 n)), some (.int 0), some (.int 0)]) hk dX8_told_12 (by decide) rfl rfl ?_
  refine xj.to (ls' := [some (.ref (xw_ad v 21 0)), some (.int w), some (.int (sm so3 n)), some (.int (sm (fun j => if ra j = -1 then 0 else if ra j = (sl_st (kM te ho ow hs ra lo n)) then (if ad j ≤ 0 then 0 else 1) else 0) 0)), some (.int (nI 0))]) (by first | rfl | simp [sm]) ?_
  refine l_X8_told_14 (M := (md_th M, nR te ho ow hs ra lo (nI n) st av so ln, md_pt M, md_re M, md_sd M, md_be M, md_pb M, md_ac M, od, ad, wy, so3, rl, io3, sl_po (kM te ho ow hs ra lo n), sl_sp (kM te ho ow hs ra lo n), sl_rs (kM te ho ow hs ra lo n), sl_st (kM te ho ow hs ra lo n), sl_av (kM te ho ow hs ra lo n), sl_pt (kM te ho ow hs ra lo n), md_tx M, md_tm M, md_ta M, md_td M, md_wo M, md_sq M, md_tk M, md_bg M, md_nu M, md_wr M)) hk hz (show (xw_up G 21 (pM v (md_th M) (nR te ho ow hs ra lo (nI n) st av so ln) (md_pt M) (md_re M) (md_sd M) (md_be M) (md_pb M) (md_ac M) od ad wy so3 rl io3 (sl_po (kM te ho ow hs ra lo n)) (sl_sp (kM te ho ow hs ra lo n)) (sl_rs (kM te ho ow hs ra lo n)) (sl_st (kM te ho ow hs ra lo n)) (sl_av (kM te ho ow hs ra lo n)) (sl_pt (kM te ho ow hs ra lo n)) (md_tx M) (md_tm M) (md_ta M) (md_td M) (md_wo M) (md_sq M) (md_tk M) (md_bg M) (md_nu M) (md_wr M))) 21 = pM v (md_th M) (nR te ho ow hs ra lo (nI n) st av so ln) (md_pt M) (md_re M) (md_sd M) (md_be M) (md_pb M) (md_ac M) od ad wy so3 rl io3 (sl_po (kM te ho ow hs ra lo n)) (sl_sp (kM te ho ow hs ra lo n)) (sl_rs (kM te ho ow hs ra lo n)) (sl_st (kM te ho ow hs ra lo n)) (sl_av (kM te ho ow hs ra lo n)) (sl_pt (kM te ho ow hs ra lo n)) (md_tx M) (md_tm M) (md_ta M) (md_td M) (md_wo M) (md_sq M) (md_tk M) (md_bg M) (md_nu M) (md_wr M) from xw_up_s) hn30 w _ ?_ (n + 1) 0 (by omega) (by omega)
  refine xj.to (ls' := [some (.ref (xw_ad v 21 0)), some (.int w), some (.int (sm so3 n)), some (.int (sm (fun j => if ra j = -1 then 0 else if ra j = (sl_st (kM te ho ow hs ra lo n)) then (if ad j ≤ 0 then 0 else 1) else 0) n)), some (.int (nI n))]) rfl ?_
  refine xj_iload_n (i := 1) hk dX8_told_64 rfl rfl ?_
  by_cases s65_0 : w = 0
  · refine xj_swIn (tgt := 124) (off := 59) hk dX8_told_65 (by rw [s65_0]; decide) (by rw [s65_0]; decide) (by rw [s65_0]; decide) (by decide) ?_
    refine xj_aload_n (i := 0) hk dX8_told_124 rfl rfl ?_
    refine xj_getfield hk dX8_told_125 fl_X8_153 (xw_at xw_up_s rfl) rfl ?_
    refine xj_ireturn hk hz dX8_told_128 ?_
    refine ⟨?_, ⟨⟨(md_th M, nR te ho ow hs ra lo (nI n) st av so ln, md_pt M, md_re M, md_sd M, md_be M, md_pb M, md_ac M, od, ad, wy, so3, rl, io3, sl_po (kM te ho ow hs ra lo n), sl_sp (kM te ho ow hs ra lo n), sl_rs (kM te ho ow hs ra lo n), sl_st (kM te ho ow hs ra lo n), sl_av (kM te ho ow hs ra lo n), sl_pt (kM te ho ow hs ra lo n), md_tx M, md_tm M, md_ta M, md_td M, md_wo M, md_sq M, md_tk M, md_bg M, md_nu M, md_wr M), xw_up_s, rfl, rfl, rfl, rfl, rfl, rfl, rfl⟩, fun g h => xw_up_n h⟩⟩
    · have hF := kMF (ho := ho) hq
      simp only [fig]
      first | (rw [s65_0]; rfl) | (rw [s65_1]; rfl) | (rw [s65_4]; rfl) | (rw [s65_5]; rfl) | (rw [s65_6]; rfl) | (rw [s65_2, if_neg (by decide), if_neg (by decide), if_pos rfl, if_pos c140]) | (rw [s65_2, if_neg (by decide), if_neg (by decide), if_pos rfl, if_neg c140]) | (rw [s65_3, fig_so hF hag]; rfl) | (rw [s65_7]; exact congrArg (fun q => some (Value.int q)) (fig_ar hF hq.2.2.2.2 hag)) | (rw [s65_8, fig_ad hF hag]; exact congrArg (fun q => some (Value.int q)) (if_neg (show ¬ te 0 ≤ 0 from fun q => absurd (Int32.le_trans hq.2.2.2.1.1.1 q) (by decide))).symm) | (rw [s65_9]; exact congrArg (fun q => some (Value.int q)) (fig_bi hF hag)) | (rw [s65_10]; simp [c204]; done) | (rcases mIn11 hw with h9 | h9 | h9 | h9 | h9 | h9 | h9 | h9 | h9 | h9 | h9 | h9 <;> first | contradiction | (rw [h9, fig_so hF hag]; rfl))
  by_cases s65_1 : w = 1
  · refine xj_swIn (tgt := 129) (off := 64) hk dX8_told_65 (by rw [s65_1]; decide) (by rw [s65_1]; decide) (by rw [s65_1]; decide) (by decide) ?_
    refine xj_aload_n (i := 0) hk dX8_told_129 rfl rfl ?_
    refine xj_getfield hk dX8_told_130 fl_X8_163 (xw_at xw_up_s rfl) rfl ?_
    refine xj_ireturn hk hz dX8_told_133 ?_
    refine ⟨?_, ⟨⟨(md_th M, nR te ho ow hs ra lo (nI n) st av so ln, md_pt M, md_re M, md_sd M, md_be M, md_pb M, md_ac M, od, ad, wy, so3, rl, io3, sl_po (kM te ho ow hs ra lo n), sl_sp (kM te ho ow hs ra lo n), sl_rs (kM te ho ow hs ra lo n), sl_st (kM te ho ow hs ra lo n), sl_av (kM te ho ow hs ra lo n), sl_pt (kM te ho ow hs ra lo n), md_tx M, md_tm M, md_ta M, md_td M, md_wo M, md_sq M, md_tk M, md_bg M, md_nu M, md_wr M), xw_up_s, rfl, rfl, rfl, rfl, rfl, rfl, rfl⟩, fun g h => xw_up_n h⟩⟩
    · have hF := kMF (ho := ho) hq
      simp only [fig]
      first | (rw [s65_0]; rfl) | (rw [s65_1]; rfl) | (rw [s65_4]; rfl) | (rw [s65_5]; rfl) | (rw [s65_6]; rfl) | (rw [s65_2, if_neg (by decide), if_neg (by decide), if_pos rfl, if_pos c140]) | (rw [s65_2, if_neg (by decide), if_neg (by decide), if_pos rfl, if_neg c140]) | (rw [s65_3, fig_so hF hag]; rfl) | (rw [s65_7]; exact congrArg (fun q => some (Value.int q)) (fig_ar hF hq.2.2.2.2 hag)) | (rw [s65_8, fig_ad hF hag]; exact congrArg (fun q => some (Value.int q)) (if_neg (show ¬ te 0 ≤ 0 from fun q => absurd (Int32.le_trans hq.2.2.2.1.1.1 q) (by decide))).symm) | (rw [s65_9]; exact congrArg (fun q => some (Value.int q)) (fig_bi hF hag)) | (rw [s65_10]; simp [c204]; done) | (rcases mIn11 hw with h9 | h9 | h9 | h9 | h9 | h9 | h9 | h9 | h9 | h9 | h9 | h9 <;> first | contradiction | (rw [h9, fig_so hF hag]; rfl))
  by_cases s65_2 : w = 2
  · refine xj_swIn (tgt := 134) (off := 69) hk dX8_told_65 (by rw [s65_2]; decide) (by rw [s65_2]; decide) (by rw [s65_2]; decide) (by decide) ?_
    refine xj_aload_n (i := 0) hk dX8_told_134 rfl rfl ?_
    refine xj_getfield hk dX8_told_135 fl_X8_153 (xw_at xw_up_s rfl) rfl ?_
    refine xj_bipush (x := (-2)) hk dX8_told_138 (by decide) ?_
    refine xj_icmp_ne (tgt := 148) hk dX8_told_140 (by decide) (fun c140 => ?_) (fun c140 => ?_)
    · refine xj_aload_n (i := 0) hk dX8_told_148 rfl rfl ?_
      refine xj_getfield hk dX8_told_149 fl_X8_153 (xw_at xw_up_s rfl) rfl ?_
      refine xj_aload_n (i := 0) hk dX8_told_152 rfl rfl ?_
      refine xj_getfield hk dX8_told_153 fl_X8_163 (xw_at xw_up_s rfl) rfl ?_
      refine xj_isub hk dX8_told_156 ?_
      refine xj_ireturn hk hz dX8_told_157 ?_
      refine ⟨?_, ⟨⟨(md_th M, nR te ho ow hs ra lo (nI n) st av so ln, md_pt M, md_re M, md_sd M, md_be M, md_pb M, md_ac M, od, ad, wy, so3, rl, io3, sl_po (kM te ho ow hs ra lo n), sl_sp (kM te ho ow hs ra lo n), sl_rs (kM te ho ow hs ra lo n), sl_st (kM te ho ow hs ra lo n), sl_av (kM te ho ow hs ra lo n), sl_pt (kM te ho ow hs ra lo n), md_tx M, md_tm M, md_ta M, md_td M, md_wo M, md_sq M, md_tk M, md_bg M, md_nu M, md_wr M), xw_up_s, rfl, rfl, rfl, rfl, rfl, rfl, rfl⟩, fun g h => xw_up_n h⟩⟩
      · have hF := kMF (ho := ho) hq
        simp only [fig]
        first | (rw [s65_0]; rfl) | (rw [s65_1]; rfl) | (rw [s65_4]; rfl) | (rw [s65_5]; rfl) | (rw [s65_6]; rfl) | (rw [s65_2, if_neg (by decide), if_neg (by decide), if_pos rfl, if_pos c140]) | (rw [s65_2, if_neg (by decide), if_neg (by decide), if_pos rfl, if_neg c140]) | (rw [s65_3, fig_so hF hag]; rfl) | (rw [s65_7]; exact congrArg (fun q => some (Value.int q)) (fig_ar hF hq.2.2.2.2 hag)) | (rw [s65_8, fig_ad hF hag]; exact congrArg (fun q => some (Value.int q)) (if_neg (show ¬ te 0 ≤ 0 from fun q => absurd (Int32.le_trans hq.2.2.2.1.1.1 q) (by decide))).symm) | (rw [s65_9]; exact congrArg (fun q => some (Value.int q)) (fig_bi hF hag)) | (rw [s65_10]; simp [c204]; done) | (rcases mIn11 hw with h9 | h9 | h9 | h9 | h9 | h9 | h9 | h9 | h9 | h9 | h9 | h9 <;> first | contradiction | (rw [h9, fig_so hF hag]; rfl))
    · refine xj_bipush (x := (-2)) hk dX8_told_143 (by decide) ?_
      refine xj_goto (tgt := 157) hk dX8_told_145 (by decide) ?_
      refine xj_ireturn hk hz dX8_told_157 ?_
      refine ⟨?_, ⟨⟨(md_th M, nR te ho ow hs ra lo (nI n) st av so ln, md_pt M, md_re M, md_sd M, md_be M, md_pb M, md_ac M, od, ad, wy, so3, rl, io3, sl_po (kM te ho ow hs ra lo n), sl_sp (kM te ho ow hs ra lo n), sl_rs (kM te ho ow hs ra lo n), sl_st (kM te ho ow hs ra lo n), sl_av (kM te ho ow hs ra lo n), sl_pt (kM te ho ow hs ra lo n), md_tx M, md_tm M, md_ta M, md_td M, md_wo M, md_sq M, md_tk M, md_bg M, md_nu M, md_wr M), xw_up_s, rfl, rfl, rfl, rfl, rfl, rfl, rfl⟩, fun g h => xw_up_n h⟩⟩
      · have hF := kMF (ho := ho) hq
        simp only [fig]
        first | (rw [s65_0]; rfl) | (rw [s65_1]; rfl) | (rw [s65_4]; rfl) | (rw [s65_5]; rfl) | (rw [s65_6]; rfl) | (rw [s65_2, if_neg (by decide), if_neg (by decide), if_pos rfl, if_pos c140]) | (rw [s65_2, if_neg (by decide), if_neg (by decide), if_pos rfl, if_neg c140]) | (rw [s65_3, fig_so hF hag]; rfl) | (rw [s65_7]; exact congrArg (fun q => some (Value.int q)) (fig_ar hF hq.2.2.2.2 hag)) | (rw [s65_8, fig_ad hF hag]; exact congrArg (fun q => some (Value.int q)) (if_neg (show ¬ te 0 ≤ 0 from fun q => absurd (Int32.le_trans hq.2.2.2.1.1.1 q) (by decide))).symm) | (rw [s65_9]; exact congrArg (fun q => some (Value.int q)) (fig_bi hF hag)) | (rw [s65_10]; simp [c204]; done) | (rcases mIn11 hw with h9 | h9 | h9 | h9 | h9 | h9 | h9 | h9 | h9 | h9 | h9 | h9 <;> first | contradiction | (rw [h9, fig_so hF hag]; rfl))
  by_cases s65_3 : w = 3
  · refine xj_swIn (tgt := 158) (off := 93) hk dX8_told_65 (by rw [s65_3]; decide) (by rw [s65_3]; decide) (by rw [s65_3]; decide) (by decide) ?_
    refine xj_iload_n (i := 2) hk dX8_told_158 rfl rfl ?_
    refine xj_ireturn hk hz dX8_told_159 ?_
    refine ⟨?_, ⟨⟨(md_th M, nR te ho ow hs ra lo (nI n) st av so ln, md_pt M, md_re M, md_sd M, md_be M, md_pb M, md_ac M, od, ad, wy, so3, rl, io3, sl_po (kM te ho ow hs ra lo n), sl_sp (kM te ho ow hs ra lo n), sl_rs (kM te ho ow hs ra lo n), sl_st (kM te ho ow hs ra lo n), sl_av (kM te ho ow hs ra lo n), sl_pt (kM te ho ow hs ra lo n), md_tx M, md_tm M, md_ta M, md_td M, md_wo M, md_sq M, md_tk M, md_bg M, md_nu M, md_wr M), xw_up_s, rfl, rfl, rfl, rfl, rfl, rfl, rfl⟩, fun g h => xw_up_n h⟩⟩
    · have hF := kMF (ho := ho) hq
      simp only [fig]
      first | (rw [s65_0]; rfl) | (rw [s65_1]; rfl) | (rw [s65_4]; rfl) | (rw [s65_5]; rfl) | (rw [s65_6]; rfl) | (rw [s65_2, if_neg (by decide), if_neg (by decide), if_pos rfl, if_pos c140]) | (rw [s65_2, if_neg (by decide), if_neg (by decide), if_pos rfl, if_neg c140]) | (rw [s65_3, fig_so hF hag]; rfl) | (rw [s65_7]; exact congrArg (fun q => some (Value.int q)) (fig_ar hF hq.2.2.2.2 hag)) | (rw [s65_8, fig_ad hF hag]; exact congrArg (fun q => some (Value.int q)) (if_neg (show ¬ te 0 ≤ 0 from fun q => absurd (Int32.le_trans hq.2.2.2.1.1.1 q) (by decide))).symm) | (rw [s65_9]; exact congrArg (fun q => some (Value.int q)) (fig_bi hF hag)) | (rw [s65_10]; simp [c204]; done) | (rcases mIn11 hw with h9 | h9 | h9 | h9 | h9 | h9 | h9 | h9 | h9 | h9 | h9 | h9 <;> first | contradiction | (rw [h9, fig_so hF hag]; rfl))
  by_cases s65_4 : w = 4
  · refine xj_swIn (tgt := 160) (off := 95) hk dX8_told_65 (by rw [s65_4]; decide) (by rw [s65_4]; decide) (by rw [s65_4]; decide) (by decide) ?_
    refine xj_aload_n (i := 0) hk dX8_told_160 rfl rfl ?_
    refine xj_getfield hk dX8_told_161 fl_X8_147 (xw_at xw_up_s rfl) rfl ?_
    refine xj_ireturn hk hz dX8_told_164 ?_
    refine ⟨?_, ⟨⟨(md_th M, nR te ho ow hs ra lo (nI n) st av so ln, md_pt M, md_re M, md_sd M, md_be M, md_pb M, md_ac M, od, ad, wy, so3, rl, io3, sl_po (kM te ho ow hs ra lo n), sl_sp (kM te ho ow hs ra lo n), sl_rs (kM te ho ow hs ra lo n), sl_st (kM te ho ow hs ra lo n), sl_av (kM te ho ow hs ra lo n), sl_pt (kM te ho ow hs ra lo n), md_tx M, md_tm M, md_ta M, md_td M, md_wo M, md_sq M, md_tk M, md_bg M, md_nu M, md_wr M), xw_up_s, rfl, rfl, rfl, rfl, rfl, rfl, rfl⟩, fun g h => xw_up_n h⟩⟩
    · have hF := kMF (ho := ho) hq
      simp only [fig]
      first | (rw [s65_0]; rfl) | (rw [s65_1]; rfl) | (rw [s65_4]; rfl) | (rw [s65_5]; rfl) | (rw [s65_6]; rfl) | (rw [s65_2, if_neg (by decide), if_neg (by decide), if_pos rfl, if_pos c140]) | (rw [s65_2, if_neg (by decide), if_neg (by decide), if_pos rfl, if_neg c140]) | (rw [s65_3, fig_so hF hag]; rfl) | (rw [s65_7]; exact congrArg (fun q => some (Value.int q)) (fig_ar hF hq.2.2.2.2 hag)) | (rw [s65_8, fig_ad hF hag]; exact congrArg (fun q => some (Value.int q)) (if_neg (show ¬ te 0 ≤ 0 from fun q => absurd (Int32.le_trans hq.2.2.2.1.1.1 q) (by decide))).symm) | (rw [s65_9]; exact congrArg (fun q => some (Value.int q)) (fig_bi hF hag)) | (rw [s65_10]; simp [c204]; done) | (rcases mIn11 hw with h9 | h9 | h9 | h9 | h9 | h9 | h9 | h9 | h9 | h9 | h9 | h9 <;> first | contradiction | (rw [h9, fig_so hF hag]; rfl))
  by_cases s65_5 : w = 5
  · refine xj_swIn (tgt := 165) (off := 100) hk dX8_told_65 (by rw [s65_5]; decide) (by rw [s65_5]; decide) (by rw [s65_5]; decide) (by decide) ?_
    refine xj_aload_n (i := 0) hk dX8_told_165 rfl rfl ?_
    refine xj_getfield hk dX8_told_166 fl_X8_141 (xw_at xw_up_s rfl) rfl ?_
    refine xj_ireturn hk hz dX8_told_169 ?_
    refine ⟨?_, ⟨⟨(md_th M, nR te ho ow hs ra lo (nI n) st av so ln, md_pt M, md_re M, md_sd M, md_be M, md_pb M, md_ac M, od, ad, wy, so3, rl, io3, sl_po (kM te ho ow hs ra lo n), sl_sp (kM te ho ow hs ra lo n), sl_rs (kM te ho ow hs ra lo n), sl_st (kM te ho ow hs ra lo n), sl_av (kM te ho ow hs ra lo n), sl_pt (kM te ho ow hs ra lo n), md_tx M, md_tm M, md_ta M, md_td M, md_wo M, md_sq M, md_tk M, md_bg M, md_nu M, md_wr M), xw_up_s, rfl, rfl, rfl, rfl, rfl, rfl, rfl⟩, fun g h => xw_up_n h⟩⟩
    · have hF := kMF (ho := ho) hq
      simp only [fig]
      first | (rw [s65_0]; rfl) | (rw [s65_1]; rfl) | (rw [s65_4]; rfl) | (rw [s65_5]; rfl) | (rw [s65_6]; rfl) | (rw [s65_2, if_neg (by decide), if_neg (by decide), if_pos rfl, if_pos c140]) | (rw [s65_2, if_neg (by decide), if_neg (by decide), if_pos rfl, if_neg c140]) | (rw [s65_3, fig_so hF hag]; rfl) | (rw [s65_7]; exact congrArg (fun q => some (Value.int q)) (fig_ar hF hq.2.2.2.2 hag)) | (rw [s65_8, fig_ad hF hag]; exact congrArg (fun q => some (Value.int q)) (if_neg (show ¬ te 0 ≤ 0 from fun q => absurd (Int32.le_trans hq.2.2.2.1.1.1 q) (by decide))).symm) | (rw [s65_9]; exact congrArg (fun q => some (Value.int q)) (fig_bi hF hag)) | (rw [s65_10]; simp [c204]; done) | (rcases mIn11 hw with h9 | h9 | h9 | h9 | h9 | h9 | h9 | h9 | h9 | h9 | h9 | h9 <;> first | contradiction | (rw [h9, fig_so hF hag]; rfl))
  by_cases s65_6 : w = 6
  · refine xj_swIn (tgt := 170) (off := 105) hk dX8_told_65 (by rw [s65_6]; decide) (by rw [s65_6]; decide) (by rw [s65_6]; decide) (by decide) ?_
    refine xj_aload_n (i := 0) hk dX8_told_170 rfl rfl ?_
    refine xj_getfield hk dX8_told_171 fl_X8_150 (xw_at xw_up_s rfl) rfl ?_
    refine xj_ireturn hk hz dX8_told_174 ?_
    refine ⟨?_, ⟨⟨(md_th M, nR te ho ow hs ra lo (nI n) st av so ln, md_pt M, md_re M, md_sd M, md_be M, md_pb M, md_ac M, od, ad, wy, so3, rl, io3, sl_po (kM te ho ow hs ra lo n), sl_sp (kM te ho ow hs ra lo n), sl_rs (kM te ho ow hs ra lo n), sl_st (kM te ho ow hs ra lo n), sl_av (kM te ho ow hs ra lo n), sl_pt (kM te ho ow hs ra lo n), md_tx M, md_tm M, md_ta M, md_td M, md_wo M, md_sq M, md_tk M, md_bg M, md_nu M, md_wr M), xw_up_s, rfl, rfl, rfl, rfl, rfl, rfl, rfl⟩, fun g h => xw_up_n h⟩⟩
    · have hF := kMF (ho := ho) hq
      simp only [fig]
      first | (rw [s65_0]; rfl) | (rw [s65_1]; rfl) | (rw [s65_4]; rfl) | (rw [s65_5]; rfl) | (rw [s65_6]; rfl) | (rw [s65_2, if_neg (by decide), if_neg (by decide), if_pos rfl, if_pos c140]) | (rw [s65_2, if_neg (by decide), if_neg (by decide), if_pos rfl, if_neg c140]) | (rw [s65_3, fig_so hF hag]; rfl) | (rw [s65_7]; exact congrArg (fun q => some (Value.int q)) (fig_ar hF hq.2.2.2.2 hag)) | (rw [s65_8, fig_ad hF hag]; exact congrArg (fun q => some (Value.int q)) (if_neg (show ¬ te 0 ≤ 0 from fun q => absurd (Int32.le_trans hq.2.2.2.1.1.1 q) (by decide))).symm) | (rw [s65_9]; exact congrArg (fun q => some (Value.int q)) (fig_bi hF hag)) | (rw [s65_10]; simp [c204]; done) | (rcases mIn11 hw with h9 | h9 | h9 | h9 | h9 | h9 | h9 | h9 | h9 | h9 | h9 | h9 <;> first | contradiction | (rw [h9, fig_so hF hag]; rfl))
  by_cases s65_7 : w = 7
  · refine xj_swIn (tgt := 175) (off := 110) hk dX8_told_65 (by rw [s65_7]; decide) (by rw [s65_7]; decide) (by rw [s65_7]; decide) (by decide) ?_
    refine xj_aload_n (i := 0) hk dX8_told_175 rfl rfl ?_
    refine xj_sipush (x := 999) hk dX8_told_176 (by decide) ?_
    refine xj_callV hk hz (fr1 := 2) (lo1 := 42) (r1 := some (.int (sm (fun j => if ra j = -1 then 0 else if 999 < ra j then 0 else ad j) n))) (As := [.int 999]) (st := []) (st2 := [.int (sm (fun j => if ra j = -1 then 0 else if 999 < ra j then 0 else ad j) n)]) (G1 := xw_up G 21 (pM v (md_th M) (nR te ho ow hs ra lo (nI n) st av so ln) (md_pt M) (md_re M) (md_sd M) (md_be M) (md_pb M) (md_ac M) od ad wy so3 rl io3 (sl_po (kM te ho ow hs ra lo n)) (sl_sp (kM te ho ow hs ra lo n)) (sl_rs (kM te ho ow hs ra lo n)) (sl_st (kM te ho ow hs ra lo n)) (sl_av (kM te ho ow hs ra lo n)) (sl_pt (kM te ho ow hs ra lo n)) (md_tx M) (md_tm M) (md_ta M) (md_td M) (md_wo M) (md_sq M) (md_tk M) (md_bg M) (md_nu M) (md_wr M))) ml_X8_160 (c_X8_admittedTo (n := n) (M := (md_th M, nR te ho ow hs ra lo (nI n) st av so ln, md_pt M, md_re M, md_sd M, md_be M, md_pb M, md_ac M, od, ad, wy, so3, rl, io3, sl_po (kM te ho ow hs ra lo n), sl_sp (kM te ho ow hs ra lo n), sl_rs (kM te ho ow hs ra lo n), sl_st (kM te ho ow hs ra lo n), sl_av (kM te ho ow hs ra lo n), sl_pt (kM te ho ow hs ra lo n), md_tx M, md_tm M, md_ta M, md_td M, md_wo M, md_sq M, md_tk M, md_bg M, md_nu M, md_wr M)) (show (xw_up G 21 (pM v (md_th M) (nR te ho ow hs ra lo (nI n) st av so ln) (md_pt M) (md_re M) (md_sd M) (md_be M) (md_pb M) (md_ac M) od ad wy so3 rl io3 (sl_po (kM te ho ow hs ra lo n)) (sl_sp (kM te ho ow hs ra lo n)) (sl_rs (kM te ho ow hs ra lo n)) (sl_st (kM te ho ow hs ra lo n)) (sl_av (kM te ho ow hs ra lo n)) (sl_pt (kM te ho ow hs ra lo n)) (md_tx M) (md_tm M) (md_ta M) (md_td M) (md_wo M) (md_sq M) (md_tk M) (md_bg M) (md_nu M) (md_wr M))) 21 = pM v (md_th M) (nR te ho ow hs ra lo (nI n) st av so ln) (md_pt M) (md_re M) (md_sd M) (md_be M) (md_pb M) (md_ac M) od ad wy so3 rl io3 (sl_po (kM te ho ow hs ra lo n)) (sl_sp (kM te ho ow hs ra lo n)) (sl_rs (kM te ho ow hs ra lo n)) (sl_st (kM te ho ow hs ra lo n)) (sl_av (kM te ho ow hs ra lo n)) (sl_pt (kM te ho ow hs ra lo n)) (md_tx M) (md_tm M) (md_ta M) (md_td M) (md_wo M) (md_sq M) (md_tk M) (md_bg M) (md_nu M) (md_wr M) from xw_up_s) hn30 999) (xw_at xw_up_s rfl) rfl dX8_told_179 ⟨Nat.le_of_ble_eq_true rfl, Nat.le_of_ble_eq_true rfl⟩ rfl (Nat.le_of_ble_eq_true rfl) rfl rfl ?_
    refine xj_ireturn hk hz dX8_told_182 ?_
    refine ⟨?_, ⟨⟨(md_th M, nR te ho ow hs ra lo (nI n) st av so ln, md_pt M, md_re M, md_sd M, md_be M, md_pb M, md_ac M, od, ad, wy, so3, rl, io3, sl_po (kM te ho ow hs ra lo n), sl_sp (kM te ho ow hs ra lo n), sl_rs (kM te ho ow hs ra lo n), sl_st (kM te ho ow hs ra lo n), sl_av (kM te ho ow hs ra lo n), sl_pt (kM te ho ow hs ra lo n), md_tx M, md_tm M, md_ta M, md_td M, md_wo M, md_sq M, md_tk M, md_bg M, md_nu M, md_wr M), xw_up_s, rfl, rfl, rfl, rfl, rfl, rfl, rfl⟩, fun g h => xw_up_n h⟩⟩
    · have hF := kMF (ho := ho) hq
      simp only [fig]
      first | (rw [s65_0]; rfl) | (rw [s65_1]; rfl) | (rw [s65_4]; rfl) | (rw [s65_5]; rfl) | (rw [s65_6]; rfl) | (rw [s65_2, if_neg (by decide), if_neg (by decide), if_pos rfl, if_pos c140]) | (rw [s65_2, if_neg (by decide), if_neg (by decide), if_pos rfl, if_neg c140]) | (rw [s65_3, fig_so hF hag]; rfl) | (rw [s65_7]; exact congrArg (fun q => some (Value.int q)) (fig_ar hF hq.2.2.2.2 hag)) | (rw [s65_8, fig_ad hF hag]; exact congrArg (fun q => some (Value.int q)) (if_neg (show ¬ te 0 ≤ 0 from fun q => absurd (Int32.le_trans hq.2.2.2.1.1.1 q) (by decide))).symm) | (rw [s65_9]; exact congrArg (fun q => some (Value.int q)) (fig_bi hF hag)) | (rw [s65_10]; simp [c204]; done) | (rcases mIn11 hw with h9 | h9 | h9 | h9 | h9 | h9 | h9 | h9 | h9 | h9 | h9 | h9 <;> first | contradiction | (rw [h9, fig_so hF hag]; rfl))
  by_cases s65_8 : w = 8
  · refine xj_swIn (tgt := 183) (off := 118) hk dX8_told_65 (by rw [s65_8]; decide) (by rw [s65_8]; decide) (by rw [s65_8]; decide) (by decide) ?_
    refine xj_aload_n (i := 0) hk dX8_told_183 rfl rfl ?_
    refine xj_callV hk hz (fr1 := 1) (lo1 := 20) (r1 := some (.int (sm ad n))) (As := []) (st := []) (st2 := [.int (sm ad n)]) (G1 := xw_up G 21 (pM v (md_th M) (nR te ho ow hs ra lo (nI n) st av so ln) (md_pt M) (md_re M) (md_sd M) (md_be M) (md_pb M) (md_ac M) od ad wy so3 rl io3 (sl_po (kM te ho ow hs ra lo n)) (sl_sp (kM te ho ow hs ra lo n)) (sl_rs (kM te ho ow hs ra lo n)) (sl_st (kM te ho ow hs ra lo n)) (sl_av (kM te ho ow hs ra lo n)) (sl_pt (kM te ho ow hs ra lo n)) (md_tx M) (md_tm M) (md_ta M) (md_td M) (md_wo M) (md_sq M) (md_tk M) (md_bg M) (md_nu M) (md_wr M))) ml_X8_198 (c_X8_admittedAll (n := n) (M := (md_th M, nR te ho ow hs ra lo (nI n) st av so ln, md_pt M, md_re M, md_sd M, md_be M, md_pb M, md_ac M, od, ad, wy, so3, rl, io3, sl_po (kM te ho ow hs ra lo n), sl_sp (kM te ho ow hs ra lo n), sl_rs (kM te ho ow hs ra lo n), sl_st (kM te ho ow hs ra lo n), sl_av (kM te ho ow hs ra lo n), sl_pt (kM te ho ow hs ra lo n), md_tx M, md_tm M, md_ta M, md_td M, md_wo M, md_sq M, md_tk M, md_bg M, md_nu M, md_wr M)) (show (xw_up G 21 (pM v (md_th M) (nR te ho ow hs ra lo (nI n) st av so ln) (md_pt M) (md_re M) (md_sd M) (md_be M) (md_pb M) (md_ac M) od ad wy so3 rl io3 (sl_po (kM te ho ow hs ra lo n)) (sl_sp (kM te ho ow hs ra lo n)) (sl_rs (kM te ho ow hs ra lo n)) (sl_st (kM te ho ow hs ra lo n)) (sl_av (kM te ho ow hs ra lo n)) (sl_pt (kM te ho ow hs ra lo n)) (md_tx M) (md_tm M) (md_ta M) (md_td M) (md_wo M) (md_sq M) (md_tk M) (md_bg M) (md_nu M) (md_wr M))) 21 = pM v (md_th M) (nR te ho ow hs ra lo (nI n) st av so ln) (md_pt M) (md_re M) (md_sd M) (md_be M) (md_pb M) (md_ac M) od ad wy so3 rl io3 (sl_po (kM te ho ow hs ra lo n)) (sl_sp (kM te ho ow hs ra lo n)) (sl_rs (kM te ho ow hs ra lo n)) (sl_st (kM te ho ow hs ra lo n)) (sl_av (kM te ho ow hs ra lo n)) (sl_pt (kM te ho ow hs ra lo n)) (md_tx M) (md_tm M) (md_ta M) (md_td M) (md_wo M) (md_sq M) (md_tk M) (md_bg M) (md_nu M) (md_wr M) from xw_up_s) hn30) (xw_at xw_up_s rfl) rfl dX8_told_184 ⟨Nat.le_of_ble_eq_true rfl, Nat.le_of_ble_eq_true rfl⟩ rfl (Nat.le_of_ble_eq_true rfl) rfl rfl ?_
    refine xj_bipush (x := 100) hk dX8_told_187 (by decide) ?_
    refine xj_imul hk dX8_told_189 ?_
    refine xj_aload_n (i := 0) hk dX8_told_190 rfl rfl ?_
    refine xj_getfield hk dX8_told_191 fl_X8_13 (xw_at xw_up_s rfl) rfl ?_
    refine xj_iconst (x := 0) hk dX8_told_194 (by decide) ?_
    refine xj_iaload (k := 0) hk dX8_told_195 (xw_at xw_up_s rfl) (xi_d 0 139 (by decide)) ?_
    refine xj.eqi (x' := te 0) (rR_te (k := 0) (by omega)) ?_
    refine xj_idiv hk dX8_told_196 (fun q => absurd hq.2.2.2.1.1.1 (by rw [q]; decide)) ?_
    refine xj_ireturn hk hz dX8_told_197 ?_
    refine ⟨?_, ⟨⟨(md_th M, nR te ho ow hs ra lo (nI n) st av so ln, md_pt M, md_re M, md_sd M, md_be M, md_pb M, md_ac M, od, ad, wy, so3, rl, io3, sl_po (kM te ho ow hs ra lo n), sl_sp (kM te ho ow hs ra lo n), sl_rs (kM te ho ow hs ra lo n), sl_st (kM te ho ow hs ra lo n), sl_av (kM te ho ow hs ra lo n), sl_pt (kM te ho ow hs ra lo n), md_tx M, md_tm M, md_ta M, md_td M, md_wo M, md_sq M, md_tk M, md_bg M, md_nu M, md_wr M), xw_up_s, rfl, rfl, rfl, rfl, rfl, rfl, rfl⟩, fun g h => xw_up_n h⟩⟩
    · have hF := kMF (ho := ho) hq
      simp only [fig]
      first | (rw [s65_0]; rfl) | (rw [s65_1]; rfl) | (rw [s65_4]; rfl) | (rw [s65_5]; rfl) | (rw [s65_6]; rfl) | (rw [s65_2, if_neg (by decide), if_neg (by decide), if_pos rfl, if_pos c140]) | (rw [s65_2, if_neg (by decide), if_neg (by decide), if_pos rfl, if_neg c140]) | (rw [s65_3, fig_so hF hag]; rfl) | (rw [s65_7]; exact congrArg (fun q => some (Value.int q)) (fig_ar hF hq.2.2.2.2 hag)) | (rw [s65_8, fig_ad hF hag]; exact congrArg (fun q => some (Value.int q)) (if_neg (show ¬ te 0 ≤ 0 from fun q => absurd (Int32.le_trans hq.2.2.2.1.1.1 q) (by decide))).symm) | (rw [s65_9]; exact congrArg (fun q => some (Value.int q)) (fig_bi hF hag)) | (rw [s65_10]; simp [c204]; done) | (rcases mIn11 hw with h9 | h9 | h9 | h9 | h9 | h9 | h9 | h9 | h9 | h9 | h9 | h9 <;> first | contradiction | (rw [h9, fig_so hF hag]; rfl))
  by_cases s65_9 : w = 9
  · refine xj_swIn (tgt := 198) (off := 133) hk dX8_told_65 (by rw [s65_9]; decide) (by rw [s65_9]; decide) (by rw [s65_9]; decide) (by decide) ?_
    refine xj_iload_n (i := 3) hk dX8_told_198 rfl rfl ?_
    refine xj_ireturn hk hz dX8_told_199 ?_
    refine ⟨?_, ⟨⟨(md_th M, nR te ho ow hs ra lo (nI n) st av so ln, md_pt M, md_re M, md_sd M, md_be M, md_pb M, md_ac M, od, ad, wy, so3, rl, io3, sl_po (kM te ho ow hs ra lo n), sl_sp (kM te ho ow hs ra lo n), sl_rs (kM te ho ow hs ra lo n), sl_st (kM te ho ow hs ra lo n), sl_av (kM te ho ow hs ra lo n), sl_pt (kM te ho ow hs ra lo n), md_tx M, md_tm M, md_ta M, md_td M, md_wo M, md_sq M, md_tk M, md_bg M, md_nu M, md_wr M), xw_up_s, rfl, rfl, rfl, rfl, rfl, rfl, rfl⟩, fun g h => xw_up_n h⟩⟩
    · have hF := kMF (ho := ho) hq
      simp only [fig]
      first | (rw [s65_0]; rfl) | (rw [s65_1]; rfl) | (rw [s65_4]; rfl) | (rw [s65_5]; rfl) | (rw [s65_6]; rfl) | (rw [s65_2, if_neg (by decide), if_neg (by decide), if_pos rfl, if_pos c140]) | (rw [s65_2, if_neg (by decide), if_neg (by decide), if_pos rfl, if_neg c140]) | (rw [s65_3, fig_so hF hag]; rfl) | (rw [s65_7]; exact congrArg (fun q => some (Value.int q)) (fig_ar hF hq.2.2.2.2 hag)) | (rw [s65_8, fig_ad hF hag]; exact congrArg (fun q => some (Value.int q)) (if_neg (show ¬ te 0 ≤ 0 from fun q => absurd (Int32.le_trans hq.2.2.2.1.1.1 q) (by decide))).symm) | (rw [s65_9]; exact congrArg (fun q => some (Value.int q)) (fig_bi hF hag)) | (rw [s65_10]; simp [c204]; done) | (rcases mIn11 hw with h9 | h9 | h9 | h9 | h9 | h9 | h9 | h9 | h9 | h9 | h9 | h9 <;> first | contradiction | (rw [h9, fig_so hF hag]; rfl))
  by_cases s65_10 : w = 10
  · refine xj_swIn (tgt := 200) (off := 135) hk dX8_told_65 (by rw [s65_10]; decide) (by rw [s65_10]; decide) (by rw [s65_10]; decide) (by decide) ?_
    refine xj_aload_n (i := 0) hk dX8_told_200 rfl rfl ?_
    refine xj_getfield hk dX8_told_201 fl_X8_156 (xw_at xw_up_s rfl) rfl ?_
    refine xj_if_eq (tgt := 211) hk dX8_told_204 (by decide) (fun c204 => ?_) (fun c204 => ?_)
    · refine xj_iconst (x := 0) hk dX8_told_211 (by decide) ?_
      refine xj_ireturn hk hz dX8_told_212 ?_
      refine ⟨?_, ⟨⟨(md_th M, nR te ho ow hs ra lo (nI n) st av so ln, md_pt M, md_re M, md_sd M, md_be M, md_pb M, md_ac M, od, ad, wy, so3, rl, io3, sl_po (kM te ho ow hs ra lo n), sl_sp (kM te ho ow hs ra lo n), sl_rs (kM te ho ow hs ra lo n), sl_st (kM te ho ow hs ra lo n), sl_av (kM te ho ow hs ra lo n), sl_pt (kM te ho ow hs ra lo n), md_tx M, md_tm M, md_ta M, md_td M, md_wo M, md_sq M, md_tk M, md_bg M, md_nu M, md_wr M), xw_up_s, rfl, rfl, rfl, rfl, rfl, rfl, rfl⟩, fun g h => xw_up_n h⟩⟩
      · have hF := kMF (ho := ho) hq
        simp only [fig]
        first | (rw [s65_0]; rfl) | (rw [s65_1]; rfl) | (rw [s65_4]; rfl) | (rw [s65_5]; rfl) | (rw [s65_6]; rfl) | (rw [s65_2, if_neg (by decide), if_neg (by decide), if_pos rfl, if_pos c140]) | (rw [s65_2, if_neg (by decide), if_neg (by decide), if_pos rfl, if_neg c140]) | (rw [s65_3, fig_so hF hag]; rfl) | (rw [s65_7]; exact congrArg (fun q => some (Value.int q)) (fig_ar hF hq.2.2.2.2 hag)) | (rw [s65_8, fig_ad hF hag]; exact congrArg (fun q => some (Value.int q)) (if_neg (show ¬ te 0 ≤ 0 from fun q => absurd (Int32.le_trans hq.2.2.2.1.1.1 q) (by decide))).symm) | (rw [s65_9]; exact congrArg (fun q => some (Value.int q)) (fig_bi hF hag)) | (rw [s65_10]; simp [c204]; done) | (rcases mIn11 hw with h9 | h9 | h9 | h9 | h9 | h9 | h9 | h9 | h9 | h9 | h9 | h9 <;> first | contradiction | (rw [h9, fig_so hF hag]; rfl))
    · refine xj_iconst (x := 1) hk dX8_told_207 (by decide) ?_
      refine xj_goto (tgt := 212) hk dX8_told_208 (by decide) ?_
      refine xj_ireturn hk hz dX8_told_212 ?_
      refine ⟨?_, ⟨⟨(md_th M, nR te ho ow hs ra lo (nI n) st av so ln, md_pt M, md_re M, md_sd M, md_be M, md_pb M, md_ac M, od, ad, wy, so3, rl, io3, sl_po (kM te ho ow hs ra lo n), sl_sp (kM te ho ow hs ra lo n), sl_rs (kM te ho ow hs ra lo n), sl_st (kM te ho ow hs ra lo n), sl_av (kM te ho ow hs ra lo n), sl_pt (kM te ho ow hs ra lo n), md_tx M, md_tm M, md_ta M, md_td M, md_wo M, md_sq M, md_tk M, md_bg M, md_nu M, md_wr M), xw_up_s, rfl, rfl, rfl, rfl, rfl, rfl, rfl⟩, fun g h => xw_up_n h⟩⟩
      · have hF := kMF (ho := ho) hq
        simp only [fig]
        first | (rw [s65_0]; rfl) | (rw [s65_1]; rfl) | (rw [s65_4]; rfl) | (rw [s65_5]; rfl) | (rw [s65_6]; rfl) | (rw [s65_2, if_neg (by decide), if_neg (by decide), if_pos rfl, if_pos c140]) | (rw [s65_2, if_neg (by decide), if_neg (by decide), if_pos rfl, if_neg c140]) | (rw [s65_3, fig_so hF hag]; rfl) | (rw [s65_7]; exact congrArg (fun q => some (Value.int q)) (fig_ar hF hq.2.2.2.2 hag)) | (rw [s65_8, fig_ad hF hag]; exact congrArg (fun q => some (Value.int q)) (if_neg (show ¬ te 0 ≤ 0 from fun q => absurd (Int32.le_trans hq.2.2.2.1.1.1 q) (by decide))).symm) | (rw [s65_9]; exact congrArg (fun q => some (Value.int q)) (fig_bi hF hag)) | (rw [s65_10]; simp [c204]; done) | (rcases mIn11 hw with h9 | h9 | h9 | h9 | h9 | h9 | h9 | h9 | h9 | h9 | h9 | h9 <;> first | contradiction | (rw [h9, fig_so hF hag]; rfl))
  refine xj_swOut (tgt := 213) hk dX8_told_65 (sw_out11 s65_0 s65_1 s65_2 s65_3 s65_4 s65_5 s65_6 s65_7 s65_8 s65_9 s65_10) (by decide) ?_
  refine xj_aload_n (i := 0) hk dX8_told_213 rfl rfl ?_
  refine xj_getfield hk dX8_told_214 fl_X8_13 (xw_at xw_up_s rfl) rfl ?_
  refine xj_iconst (x := 0) hk dX8_told_217 (by decide) ?_
  refine xj_iaload (k := 0) hk dX8_told_218 (xw_at xw_up_s rfl) (xi_d 0 139 (by decide)) ?_
  refine xj.eqi (x' := te 0) (rR_te (k := 0) (by omega)) ?_
  refine xj_iload_n (i := 2) hk dX8_told_219 rfl rfl ?_
  refine xj_isub hk dX8_told_220 ?_
  refine xj_ireturn hk hz dX8_told_221 ?_
  refine ⟨?_, ⟨⟨(md_th M, nR te ho ow hs ra lo (nI n) st av so ln, md_pt M, md_re M, md_sd M, md_be M, md_pb M, md_ac M, od, ad, wy, so3, rl, io3, sl_po (kM te ho ow hs ra lo n), sl_sp (kM te ho ow hs ra lo n), sl_rs (kM te ho ow hs ra lo n), sl_st (kM te ho ow hs ra lo n), sl_av (kM te ho ow hs ra lo n), sl_pt (kM te ho ow hs ra lo n), md_tx M, md_tm M, md_ta M, md_td M, md_wo M, md_sq M, md_tk M, md_bg M, md_nu M, md_wr M), xw_up_s, rfl, rfl, rfl, rfl, rfl, rfl, rfl⟩, fun g h => xw_up_n h⟩⟩
  · have hF := kMF (ho := ho) hq
    simp only [fig]
    first | (rw [s65_0]; rfl) | (rw [s65_1]; rfl) | (rw [s65_4]; rfl) | (rw [s65_5]; rfl) | (rw [s65_6]; rfl) | (rw [s65_2, if_neg (by decide), if_neg (by decide), if_pos rfl, if_pos c140]) | (rw [s65_2, if_neg (by decide), if_neg (by decide), if_pos rfl, if_neg c140]) | (rw [s65_3, fig_so hF hag]; rfl) | (rw [s65_7]; exact congrArg (fun q => some (Value.int q)) (fig_ar hF hq.2.2.2.2 hag)) | (rw [s65_8, fig_ad hF hag]; exact congrArg (fun q => some (Value.int q)) (if_neg (show ¬ te 0 ≤ 0 from fun q => absurd (Int32.le_trans hq.2.2.2.1.1.1 q) (by decide))).symm) | (rw [s65_9]; exact congrArg (fun q => some (Value.int q)) (fig_bi hF hag)) | (rw [s65_10]; simp [c204]; done) | (rcases mIn11 hw with h9 | h9 | h9 | h9 | h9 | h9 | h9 | h9 | h9 | h9 | h9 | h9 <;> first | contradiction | (rw [h9, fig_so hF hag]; rfl))


def mcChL (n : Nat) (lo : Nat → Int32) (b v : Int32) : Bool := mIn b 0 (nI n - 1) && mIn v 1 1000 && !(decide (v = lo (xn b)))
def mcChR (n : Nat) (ra : Nat → Int32) (b v : Int32) : Bool := mIn b 0 (nI n - 1) && !(decide (ra (xn b) = -1)) && mIn v 0 999 && !(decide (v = ra (xn b)))
def mcCh (n : Nat) (ra lo : Nat → Int32) (b w v : Int32) : Bool := if w = 0 then mcChL n lo b v else if w = 1 then mcChR n ra b v else false
theorem mIn01 {w : Int32} (h : mIn w 0 1 = true) : w = 0 ∨ w = 1 := by
  obtain ⟨j, hj, rfl⟩ := mIn_of (m := 1) (by decide) h
  rcases (show j = 0 ∨ j = 1 by omega) with q | q <;> subst q
  · exact Or.inl rfl
  · exact Or.inr rfl
theorem mIn01n {w : Int32} (h : mIn w 0 1 = false) : ¬ w = 0 ∧ ¬ w = 1 := ⟨fun q => by subst q; revert h; decide, fun q => by subst q; revert h; decide⟩
set_option maxHeartbeats 1000000 in
set_option maxRecDepth 10000 in
theorem c_X8_change {v : xw_V} {G : xw_G} {M : md_T} {te ho ow hs ra lo st av so : Nat → Int32} {ln : Int32} {n a : Nat} (hM : G 21 = pM v (md_th M) (nR te ho ow hs ra lo (nI n) st av so ln) (md_pt M) (md_re M) (md_sd M) (md_be M) (md_pb M) (md_ac M) (md_od M) (md_ad M) (md_wy M) (md_so M) (md_rl M) (md_io M) (md_po M) (md_sp M) (md_rs M) (md_st M) (md_av M) (md_ip M) (md_tx M) (md_tm M) (md_ta M) (md_td M) (md_wo M) (md_sq M) (md_tk M) (md_bg M) (md_nu M) (md_wr M)) (hn30 : n ≤ 30) (hac : md_ac M = nI a) (ha12 : a ≤ 12) (b w1 v1 : Int32) : xk_Con v yX8_change cX8_change 5 (some .int) 2 44 [.ref (xw_ad v 21 0), .int b, .int w1, .int v1] G (fun r9 G' => (mcCh n ra lo b w1 v1 = true ∧ w1 = 0 ∧ ∃ (be1 : Nat → Int32) (pb1 : Nat → Int64), KP a (nR te ho ow hs ra lo (nI n) st av so ln) (md_be M) (md_pt M) (md_pb M) be1 pb1 ∧ r9 = some (.int (lo (xn b))) ∧ G' = xw_up G 21 (pM v (md_th M) (nR te ho ow hs ra (xu lo (xn b) v1) (nI n) st av so ln) (md_pt M) (md_re M) (md_sd M) be1 pb1 (nI (min a 11 + 1)) (md_od M) (md_ad M) (md_wy M) (md_so M) (md_rl M) (md_io M) (md_po M) (md_sp M) (md_rs M) (md_st M) (md_av M) (md_ip M) (md_tx M) (md_tm M) (md_ta M) (md_td M) (md_wo M) (md_sq M) (md_tk M) (md_bg M) (md_nu M) (md_wr M))) ∨ (mcCh n ra lo b w1 v1 = true ∧ ¬ w1 = 0 ∧ ∃ (be1 : Nat → Int32) (pb1 : Nat → Int64), KP a (nR te ho ow hs ra lo (nI n) st av so ln) (md_be M) (md_pt M) (md_pb M) be1 pb1 ∧ r9 = some (.int (ra (xn b))) ∧ G' = xw_up G 21 (pM v (md_th M) (nR te ho ow hs (xu ra (xn b) v1) lo (nI n) st av so ln) (md_pt M) (md_re M) (md_sd M) be1 pb1 (nI (min a 11 + 1)) (md_od M) (md_ad M) (md_wy M) (md_so M) (md_rl M) (md_io M) (md_po M) (md_sp M) (md_rs M) (md_st M) (md_av M) (md_ip M) (md_tx M) (md_tm M) (md_ta M) (md_td M) (md_wo M) (md_sq M) (md_tk M) (md_bg M) (md_nu M) (md_wr M))) ∨ (mcCh n ra lo b w1 v1 = false ∧ r9 = some (.int (-1)) ∧ G' = G)) := by
  refine xk_of (ls0 := [some (.ref (xw_ad v 21 0)), some (.int b), some (.int w1), some (.int v1), none]) (by decide) rfl (Nat.le_of_ble_eq_true rfl) ?_
  intro κ z hk hz
  refine xj_aload_n (i := 0) hk dX8_change_0 rfl rfl ?_
  refine xj_iload_n (i := 1) hk dX8_change_1 rfl rfl ?_
  refine xj_callV hk hz (fr1 := 1) (lo1 := 22) (r1 := some (.int (xb (mIn b 0 ((nI n) - 1))))) (As := [.int b]) (st := []) (st2 := [.int (xb (mIn b 0 ((nI n) - 1)))]) (G1 := G) ml_X8_108 (c_X8_isBid (M := M) (show G 21 = pM v (md_th M) (nR te ho ow hs ra lo (nI n) st av so ln) (md_pt M) (md_re M) (md_sd M) (md_be M) (md_pb M) (md_ac M) (md_od M) (md_ad M) (md_wy M) (md_so M) (md_rl M) (md_io M) (md_po M) (md_sp M) (md_rs M) (md_st M) (md_av M) (md_ip M) (md_tx M) (md_tm M) (md_ta M) (md_td M) (md_wo M) (md_sq M) (md_tk M) (md_bg M) (md_nu M) (md_wr M) from hM) b) (xw_at hM rfl) rfl dX8_change_2 ⟨Nat.le_of_ble_eq_true rfl, Nat.le_of_ble_eq_true rfl⟩ rfl (Nat.le_of_ble_eq_true rfl) rfl rfl ?_
  refine xj_ifb_eq (tgt := 17) hk dX8_change_5 (by decide) (fun c5 => ?_) (fun c5 => ?_)
  · refine xj_iconst (x := (-1)) hk dX8_change_17 (by decide) ?_
    refine xj_ireturn hk hz dX8_change_18 ?_
    exact Or.inr (Or.inr ⟨by simp [mcCh, mcChL, mcChR, c5], rfl, rfl⟩)
  · obtain ⟨j, hj_j, rfl⟩ := hasB_of (n := n) rfl hn30 (by rw [← mIn_bid hn30]; exact c5)
    refine xj_iload_n (i := 2) hk dX8_change_8 rfl rfl ?_
    refine xj_iconst (x := 0) hk dX8_change_9 (by decide) ?_
    refine xj_iconst (x := 1) hk dX8_change_10 (by decide) ?_
    refine xj_callS hk hz (fr1 := 0) (lo1 := 0) (r1 := some (.int (xb (mIn w1 0 1)))) (As := [.int w1, .int 0, .int 1]) (st := []) (st2 := [.int (xb (mIn w1 0 1))]) (G1 := G) ml_X8_69 (c_X8_in w1 0 1) dX8_change_11 ⟨Nat.le_of_ble_eq_true rfl, Nat.le_of_ble_eq_true rfl⟩ rfl (Nat.le_of_ble_eq_true rfl) rfl rfl ?_
    refine xj_ifb_ne (tgt := 19) hk dX8_change_14 (by decide) (fun c14 => ?_) (fun c14 => ?_)
    · refine xj_iload_n (i := 2) hk dX8_change_19 rfl rfl ?_
      refine xj_if_ne (tgt := 47) hk dX8_change_20 (by decide) (fun c20 => ?_) (fun c20 => ?_)
      · refine xj_aload_n (i := 0) hk dX8_change_47 rfl rfl ?_
        refine xj_iload_n (i := 1) hk dX8_change_48 rfl rfl ?_
        refine xj_callV hk hz (fr1 := 1) (lo1 := 21) (r1 := some (.int (xb (decide (ra j = -1))))) (As := [.int (nI j)]) (st := []) (st2 := [.int (xb (decide (ra j = -1)))]) (G1 := G) ml_X8_115 (c_X8_isPlain (b := j) (M := M) (show G 21 = pM v (md_th M) (nR te ho ow hs ra lo (nI n) st av so ln) (md_pt M) (md_re M) (md_sd M) (md_be M) (md_pb M) (md_ac M) (md_od M) (md_ad M) (md_wy M) (md_so M) (md_rl M) (md_io M) (md_po M) (md_sp M) (md_rs M) (md_st M) (md_av M) (md_ip M) (md_tx M) (md_tm M) (md_ta M) (md_td M) (md_wo M) (md_sq M) (md_tk M) (md_bg M) (md_nu M) (md_wr M) from hM) (by omega)) (xw_at hM rfl) rfl dX8_change_49 ⟨Nat.le_of_ble_eq_true rfl, Nat.le_of_ble_eq_true rfl⟩ rfl (Nat.le_of_ble_eq_true rfl) rfl rfl ?_
        refine xj_ifb_ne (tgt := 75) hk dX8_change_52 (by decide) (fun c52 => ?_) (fun c52 => ?_)
        · refine xj_iconst (x := 0) hk dX8_change_75 (by decide) ?_
          refine xj_istore (i := 4) (ls2 := [some (.ref (xw_ad v 21 0)), some (.int (nI j)), some (.int w1), some (.int v1), some (.int 0)]) hk dX8_change_76 (by decide) rfl rfl ?_
          refine xj_iload hk dX8_change_78 rfl ?_
          refine xj_if_eq (tgt := 107) hk dX8_change_80 (by decide) (fun c80 => ?_) (fun c80 => ?_)
          · refine xj_iconst (x := (-1)) hk dX8_change_107 (by decide) ?_
            refine xj_ireturn hk hz dX8_change_108 ?_
            exact Or.inr (Or.inr ⟨by simp only [mcCh]; rw [if_neg c20, if_pos ((mIn01 c14).resolve_left c20)]; simp at c52; simp [mcChR, xn_nI (show j < 2 ^ 31 by omega), c52], rfl, rfl⟩)
          · exact absurd c80 (by decide)
        · refine xj_iload_n (i := 3) hk dX8_change_55 rfl rfl ?_
          refine xj_callS hk hz (fr1 := 1) (lo1 := 22) (r1 := some (.int (xb (mIn v1 0 999)))) (As := [.int v1]) (st := []) (st2 := [.int (xb (mIn v1 0 999))]) (G1 := G) ml_X8_99 (c_X8_isRate v1) dX8_change_56 ⟨Nat.le_of_ble_eq_true rfl, Nat.le_of_ble_eq_true rfl⟩ rfl (Nat.le_of_ble_eq_true rfl) rfl rfl ?_
          refine xj_ifb_eq (tgt := 75) hk dX8_change_59 (by decide) (fun c59 => ?_) (fun c59 => ?_)
          · refine xj_iconst (x := 0) hk dX8_change_75 (by decide) ?_
            refine xj_istore (i := 4) (ls2 := [some (.ref (xw_ad v 21 0)), some (.int (nI j)), some (.int w1), some (.int v1), some (.int 0)]) hk dX8_change_76 (by decide) rfl rfl ?_
            refine xj_iload hk dX8_change_78 rfl ?_
            refine xj_if_eq (tgt := 107) hk dX8_change_80 (by decide) (fun c80 => ?_) (fun c80 => ?_)
            · refine xj_iconst (x := (-1)) hk dX8_change_107 (by decide) ?_
              refine xj_ireturn hk hz dX8_change_108 ?_
              exact Or.inr (Or.inr ⟨by simp only [mcCh]; rw [if_neg c20, if_pos ((mIn01 c14).resolve_left c20)]; simp at c52; simp [mcChR, xn_nI (show j < 2 ^ 31 by omega), c52, c59], rfl, rfl⟩)
            · exact absurd c80 (by decide)
          · refine xj_iload_n (i := 3) hk dX8_change_62 rfl rfl ?_
            refine xj_aload_n (i := 0) hk dX8_change_63 rfl rfl ?_
            refine xj_iload_n (i := 1) hk dX8_change_64 rfl rfl ?_
            refine xj_callV hk hz (fr1 := 0) (lo1 := 0) (r1 := some (.int (ra j))) (As := [.int (nI j)]) (st := [.int v1]) (st2 := [.int (ra j), .int v1]) (G1 := G) ml_X8_77 (c_X8_rateOf (b := j) (M := M) (show G 21 = pM v (md_th M) (nR te ho ow hs ra lo (nI n) st av so ln) (md_pt M) (md_re M) (md_sd M) (md_be M) (md_pb M) (md_ac M) (md_od M) (md_ad M) (md_wy M) (md_so M) (md_rl M) (md_io M) (md_po M) (md_sp M) (md_rs M) (md_st M) (md_av M) (md_ip M) (md_tx M) (md_tm M) (md_ta M) (md_td M) (md_wo M) (md_sq M) (md_tk M) (md_bg M) (md_nu M) (md_wr M) from hM) (by omega)) (xw_at hM rfl) rfl dX8_change_65 ⟨Nat.le_of_ble_eq_true rfl, Nat.le_of_ble_eq_true rfl⟩ rfl (Nat.le_of_ble_eq_true rfl) rfl rfl ?_
            refine xj_icmp_eq (tgt := 75) hk dX8_change_68 (by decide) (fun c68 => ?_) (fun c68 => ?_)
            · refine xj_iconst (x := 0) hk dX8_change_75 (by decide) ?_
              refine xj_istore (i := 4) (ls2 := [some (.ref (xw_ad v 21 0)), some (.int (nI j)), some (.int w1), some (.int v1), some (.int 0)]) hk dX8_change_76 (by decide) rfl rfl ?_
              refine xj_iload hk dX8_change_78 rfl ?_
              refine xj_if_eq (tgt := 107) hk dX8_change_80 (by decide) (fun c80 => ?_) (fun c80 => ?_)
              · refine xj_iconst (x := (-1)) hk dX8_change_107 (by decide) ?_
                refine xj_ireturn hk hz dX8_change_108 ?_
                exact Or.inr (Or.inr ⟨by simp only [mcCh]; rw [if_neg c20, if_pos ((mIn01 c14).resolve_left c20)]; simp at c52; simp [mcChR, xn_nI (show j < 2 ^ 31 by omega), c52, c59, c68], rfl, rfl⟩)
              · exact absurd c80 (by decide)
            · refine xj_iconst (x := 1) hk dX8_change_71 (by decide) ?_
              refine xj_goto (tgt := 76) hk dX8_change_72 (by decide) ?_
              refine xj_istore (i := 4) (ls2 := [some (.ref (xw_ad v 21 0)), some (.int (nI j)), some (.int w1), some (.int v1), some (.int 1)]) hk dX8_change_76 (by decide) rfl rfl ?_
              refine xj_iload hk dX8_change_78 rfl ?_
              refine xj_if_eq (tgt := 107) hk dX8_change_80 (by decide) (fun c80 => ?_) (fun c80 => ?_)
              · exact absurd c80 (by decide)
              · refine xj_aload_n (i := 0) hk dX8_change_83 rfl rfl ?_
                refine xj_bipush (x := 24) hk dX8_change_84 (by decide) ?_
                refine xj_iconst (x := 3) hk dX8_change_86 (by decide) ?_
                refine xj_iload_n (i := 1) hk dX8_change_87 rfl rfl ?_
                refine xj_imul hk dX8_change_88 ?_
                refine xj.eqi (x' := nI (3 * j)) (nI_mul 3 j) ?_
                refine xj_iadd hk dX8_change_89 ?_
                refine xj.eqi (x' := nI (24 + 3 * j)) (nI_add 24 (3 * j)) ?_
                refine xj_iload_n (i := 2) hk dX8_change_90 rfl rfl ?_
                refine xj_if_ne (tgt := 98) hk dX8_change_91 (by decide) (fun c91 => ?_) (fun c91 => ?_)
                · refine xj_iconst (x := 1) hk dX8_change_98 (by decide) ?_
                  refine xj_iadd hk dX8_change_99 ?_
                  refine xj.eqi (x' := nI (24 + 3 * j + 1)) (nI_add (24 + 3 * j) 1) ?_
                  refine xj_iload_n (i := 3) hk dX8_change_100 rfl rfl ?_
                  refine xj_callVE hk hz (fr1 := 1) (lo1 := 21) (As := [.int (nI (24 + 3 * j + 1)), .int v1]) (st := []) ml_X8_118 (c_X8_becomes (a := a) (i := 24 + 3 * j + 1) (M := (md_th M, nR te ho ow hs ra lo (nI n) st av so ln, md_pt M, md_re M, md_sd M, md_be M, md_pb M, md_ac M, md_od M, md_ad M, md_wy M, md_so M, md_rl M, md_io M, md_po M, md_sp M, md_rs M, md_st M, md_av M, md_ip M, md_tx M, md_tm M, md_ta M, md_td M, md_wo M, md_sq M, md_tk M, md_bg M, md_nu M, md_wr M)) (show G 21 = pM v (md_th M) (nR te ho ow hs ra lo (nI n) st av so ln) (md_pt M) (md_re M) (md_sd M) (md_be M) (md_pb M) (md_ac M) (md_od M) (md_ad M) (md_wy M) (md_so M) (md_rl M) (md_io M) (md_po M) (md_sp M) (md_rs M) (md_st M) (md_av M) (md_ip M) (md_tx M) (md_tm M) (md_ta M) (md_td M) (md_wo M) (md_sq M) (md_tk M) (md_bg M) (md_nu M) (md_wr M) from hM) hac ha12 v1 (by omega)) (xw_at hM rfl) rfl dX8_change_101 ⟨Nat.le_of_ble_eq_true rfl, Nat.le_of_ble_eq_true rfl⟩ rfl (Nat.le_of_ble_eq_true rfl) rfl ?_
                  rintro _ _ ⟨be1, pb1, hKP, rfl, rfl⟩
                  have hKP : KP a (nR te ho ow hs ra lo (nI n) st av so ln) (md_be M) (md_pt M) (md_pb M) be1 pb1 := hKP
                  refine xj.eqi (x' := ra j) (rR_ra (k := j) (by omega)) ?_
                  refine xj.eqG (G' := xw_up G 21 (pM v (md_th M) (nR te ho ow hs (xu ra j v1) lo (nI n) st av so ln) (md_pt M) (md_re M) (md_sd M) be1 pb1 (nI (min a 11 + 1)) (md_od M) (md_ad M) (md_wy M) (md_so M) (md_rl M) (md_io M) (md_po M) (md_sp M) (md_rs M) (md_st M) (md_av M) (md_ip M) (md_tx M) (md_tm M) (md_ta M) (md_td M) (md_wo M) (md_sq M) (md_tk M) (md_bg M) (md_nu M) (md_wr M))) (by rw [← wR_ra (k := j) (by omega)]; rfl) ?_
                  show xj v κ _ z (xw_up G 21 (pM v (md_th M) (nR te ho ow hs (xu ra j v1) lo (nI n) st av so ln) (md_pt M) (md_re M) (md_sd M) be1 pb1 (nI (min a 11 + 1)) (md_od M) (md_ad M) (md_wy M) (md_so M) (md_rl M) (md_io M) (md_po M) (md_sp M) (md_rs M) (md_st M) (md_av M) (md_ip M) (md_tx M) (md_tm M) (md_ta M) (md_td M) (md_wo M) (md_sq M) (md_tk M) (md_bg M) (md_nu M) (md_wr M))) 104 _ [.int (ra j)]
                  refine xj_goto (tgt := 108) hk dX8_change_104 (by decide) ?_
                  refine xj_ireturn hk hz dX8_change_108 ?_
                  exact Or.inr (Or.inl ⟨by simp only [mcCh]; rw [if_neg c20, if_pos ((mIn01 c14).resolve_left c20)]; simp [mcChR, c5, xn_nI (show j < 2 ^ 31 by omega), (show ¬ ra j = -1 by simpa using c52), c59, c68], c20, be1, pb1, hKP, by rw [xn_nI (show j < 2 ^ 31 by omega)], by rw [xn_nI (show j < 2 ^ 31 by omega)]⟩)
                · exact absurd c91 c20
      · refine xj_iload_n (i := 3) hk dX8_change_23 rfl rfl ?_
        refine xj_callS hk hz (fr1 := 1) (lo1 := 22) (r1 := some (.int (xb (mIn v1 1 1000)))) (As := [.int v1]) (st := []) (st2 := [.int (xb (mIn v1 1 1000))]) (G1 := G) ml_X8_102 (c_X8_areLots v1) dX8_change_24 ⟨Nat.le_of_ble_eq_true rfl, Nat.le_of_ble_eq_true rfl⟩ rfl (Nat.le_of_ble_eq_true rfl) rfl rfl ?_
        refine xj_ifb_eq (tgt := 43) hk dX8_change_27 (by decide) (fun c27 => ?_) (fun c27 => ?_)
        · refine xj_iconst (x := 0) hk dX8_change_43 (by decide) ?_
          refine xj_goto (tgt := 76) hk dX8_change_44 (by decide) ?_
          refine xj_istore (i := 4) (ls2 := [some (.ref (xw_ad v 21 0)), some (.int (nI j)), some (.int w1), some (.int v1), some (.int 0)]) hk dX8_change_76 (by decide) rfl rfl ?_
          refine xj_iload hk dX8_change_78 rfl ?_
          refine xj_if_eq (tgt := 107) hk dX8_change_80 (by decide) (fun c80 => ?_) (fun c80 => ?_)
          · refine xj_iconst (x := (-1)) hk dX8_change_107 (by decide) ?_
            refine xj_ireturn hk hz dX8_change_108 ?_
            exact Or.inr (Or.inr ⟨by simp only [mcCh]; rw [if_pos c20]; simp [mcChL, xn_nI (show j < 2 ^ 31 by omega), c27], rfl, rfl⟩)
          · exact absurd c80 (by decide)
        · refine xj_iload_n (i := 3) hk dX8_change_30 rfl rfl ?_
          refine xj_aload_n (i := 0) hk dX8_change_31 rfl rfl ?_
          refine xj_iload_n (i := 1) hk dX8_change_32 rfl rfl ?_
          refine xj_callV hk hz (fr1 := 0) (lo1 := 0) (r1 := some (.int (lo j))) (As := [.int (nI j)]) (st := [.int v1]) (st2 := [.int (lo j), .int v1]) (G1 := G) ml_X8_84 (c_X8_lotsOf (b := j) (M := M) (show G 21 = pM v (md_th M) (nR te ho ow hs ra lo (nI n) st av so ln) (md_pt M) (md_re M) (md_sd M) (md_be M) (md_pb M) (md_ac M) (md_od M) (md_ad M) (md_wy M) (md_so M) (md_rl M) (md_io M) (md_po M) (md_sp M) (md_rs M) (md_st M) (md_av M) (md_ip M) (md_tx M) (md_tm M) (md_ta M) (md_td M) (md_wo M) (md_sq M) (md_tk M) (md_bg M) (md_nu M) (md_wr M) from hM) (by omega)) (xw_at hM rfl) rfl dX8_change_33 ⟨Nat.le_of_ble_eq_true rfl, Nat.le_of_ble_eq_true rfl⟩ rfl (Nat.le_of_ble_eq_true rfl) rfl rfl ?_
          refine xj_icmp_eq (tgt := 43) hk dX8_change_36 (by decide) (fun c36 => ?_) (fun c36 => ?_)
          · refine xj_iconst (x := 0) hk dX8_change_43 (by decide) ?_
            refine xj_goto (tgt := 76) hk dX8_change_44 (by decide) ?_
            refine xj_istore (i := 4) (ls2 := [some (.ref (xw_ad v 21 0)), some (.int (nI j)), some (.int w1), some (.int v1), some (.int 0)]) hk dX8_change_76 (by decide) rfl rfl ?_
            refine xj_iload hk dX8_change_78 rfl ?_
            refine xj_if_eq (tgt := 107) hk dX8_change_80 (by decide) (fun c80 => ?_) (fun c80 => ?_)
            · refine xj_iconst (x := (-1)) hk dX8_change_107 (by decide) ?_
              refine xj_ireturn hk hz dX8_change_108 ?_
              exact Or.inr (Or.inr ⟨by simp only [mcCh]; rw [if_pos c20]; simp [mcChL, xn_nI (show j < 2 ^ 31 by omega), c27, c36], rfl, rfl⟩)
            · exact absurd c80 (by decide)
          · refine xj_iconst (x := 1) hk dX8_change_39 (by decide) ?_
            refine xj_goto (tgt := 76) hk dX8_change_40 (by decide) ?_
            refine xj_istore (i := 4) (ls2 := [some (.ref (xw_ad v 21 0)), some (.int (nI j)), some (.int w1), some (.int v1), some (.int 1)]) hk dX8_change_76 (by decide) rfl rfl ?_
            refine xj_iload hk dX8_change_78 rfl ?_
            refine xj_if_eq (tgt := 107) hk dX8_change_80 (by decide) (fun c80 => ?_) (fun c80 => ?_)
            · exact absurd c80 (by decide)
            · refine xj_aload_n (i := 0) hk dX8_change_83 rfl rfl ?_
              refine xj_bipush (x := 24) hk dX8_change_84 (by decide) ?_
              refine xj_iconst (x := 3) hk dX8_change_86 (by decide) ?_
              refine xj_iload_n (i := 1) hk dX8_change_87 rfl rfl ?_
              refine xj_imul hk dX8_change_88 ?_
              refine xj.eqi (x' := nI (3 * j)) (nI_mul 3 j) ?_
              refine xj_iadd hk dX8_change_89 ?_
              refine xj.eqi (x' := nI (24 + 3 * j)) (nI_add 24 (3 * j)) ?_
              refine xj_iload_n (i := 2) hk dX8_change_90 rfl rfl ?_
              refine xj_if_ne (tgt := 98) hk dX8_change_91 (by decide) (fun c91 => ?_) (fun c91 => ?_)
              · exact absurd c20 c91
              · refine xj_iconst (x := 2) hk dX8_change_94 (by decide) ?_
                refine xj_goto (tgt := 99) hk dX8_change_95 (by decide) ?_
                refine xj_iadd hk dX8_change_99 ?_
                refine xj.eqi (x' := nI (24 + 3 * j + 2)) (nI_add (24 + 3 * j) 2) ?_
                refine xj_iload_n (i := 3) hk dX8_change_100 rfl rfl ?_
                refine xj_callVE hk hz (fr1 := 1) (lo1 := 21) (As := [.int (nI (24 + 3 * j + 2)), .int v1]) (st := []) ml_X8_118 (c_X8_becomes (a := a) (i := 24 + 3 * j + 2) (M := (md_th M, nR te ho ow hs ra lo (nI n) st av so ln, md_pt M, md_re M, md_sd M, md_be M, md_pb M, md_ac M, md_od M, md_ad M, md_wy M, md_so M, md_rl M, md_io M, md_po M, md_sp M, md_rs M, md_st M, md_av M, md_ip M, md_tx M, md_tm M, md_ta M, md_td M, md_wo M, md_sq M, md_tk M, md_bg M, md_nu M, md_wr M)) (show G 21 = pM v (md_th M) (nR te ho ow hs ra lo (nI n) st av so ln) (md_pt M) (md_re M) (md_sd M) (md_be M) (md_pb M) (md_ac M) (md_od M) (md_ad M) (md_wy M) (md_so M) (md_rl M) (md_io M) (md_po M) (md_sp M) (md_rs M) (md_st M) (md_av M) (md_ip M) (md_tx M) (md_tm M) (md_ta M) (md_td M) (md_wo M) (md_sq M) (md_tk M) (md_bg M) (md_nu M) (md_wr M) from hM) hac ha12 v1 (by omega)) (xw_at hM rfl) rfl dX8_change_101 ⟨Nat.le_of_ble_eq_true rfl, Nat.le_of_ble_eq_true rfl⟩ rfl (Nat.le_of_ble_eq_true rfl) rfl ?_
                rintro _ _ ⟨be1, pb1, hKP, rfl, rfl⟩
                have hKP : KP a (nR te ho ow hs ra lo (nI n) st av so ln) (md_be M) (md_pt M) (md_pb M) be1 pb1 := hKP
                refine xj.eqi (x' := lo j) (rR_lo (k := j) (by omega)) ?_
                refine xj.eqG (G' := xw_up G 21 (pM v (md_th M) (nR te ho ow hs ra (xu lo j v1) (nI n) st av so ln) (md_pt M) (md_re M) (md_sd M) be1 pb1 (nI (min a 11 + 1)) (md_od M) (md_ad M) (md_wy M) (md_so M) (md_rl M) (md_io M) (md_po M) (md_sp M) (md_rs M) (md_st M) (md_av M) (md_ip M) (md_tx M) (md_tm M) (md_ta M) (md_td M) (md_wo M) (md_sq M) (md_tk M) (md_bg M) (md_nu M) (md_wr M))) (by rw [← wR_lo (k := j) (by omega)]; rfl) ?_
                show xj v κ _ z (xw_up G 21 (pM v (md_th M) (nR te ho ow hs ra (xu lo j v1) (nI n) st av so ln) (md_pt M) (md_re M) (md_sd M) be1 pb1 (nI (min a 11 + 1)) (md_od M) (md_ad M) (md_wy M) (md_so M) (md_rl M) (md_io M) (md_po M) (md_sp M) (md_rs M) (md_st M) (md_av M) (md_ip M) (md_tx M) (md_tm M) (md_ta M) (md_td M) (md_wo M) (md_sq M) (md_tk M) (md_bg M) (md_nu M) (md_wr M))) 104 _ [.int (lo j)]
                refine xj_goto (tgt := 108) hk dX8_change_104 (by decide) ?_
                refine xj_ireturn hk hz dX8_change_108 ?_
                exact Or.inl ⟨by simp only [mcCh]; rw [if_pos c20]; simp [mcChL, c5, xn_nI (show j < 2 ^ 31 by omega), c27, c36], c20, be1, pb1, hKP, by rw [xn_nI (show j < 2 ^ 31 by omega)], by rw [xn_nI (show j < 2 ^ 31 by omega)]⟩
    · refine xj_iconst (x := (-1)) hk dX8_change_17 (by decide) ?_
      refine xj_ireturn hk hz dX8_change_18 ?_
      exact Or.inr (Or.inr ⟨by simp only [mcCh]; rw [if_neg (mIn01n c14).1, if_neg (mIn01n c14).2], rfl, rfl⟩)


def fdX (x1 x2 x3 x4 x5 : Int32) (k : Nat) : Int32 := if k < 4 then x1 else if k < 8 then x2 else if k < 12 then x3 else if k < 16 then x4 else x5
def fdV (x1 x2 x3 x4 x5 : Int32) (k : Nat) : Int32 := (fdX x1 x2 x3 x4 x5 k >>> ((24 - 8 * (nI k - nI k / 4 * 4)) &&& 31)) &&& 255
set_option maxHeartbeats 1000000 in
set_option maxRecDepth 10000 in
theorem l_X8_feed {v : xw_V} {κ : xk_K} {post : Option Value → xw_G → Prop} {z : Nat × Nat × Nat} {G : xw_G} {M : md_T} {te ho ow hs ra lo st av so : Nat → Int32} {ln : Int32} {n l : Nat} {x1 x2 x3 x4 x5 : Int32} (hk : xk_Ok v κ yX8_feed cX8_feed 8 (some .int) 0 0) (hz : xk_zf κ = z) (hM : G 21 = pM v (md_th M) (nR te ho ow hs ra lo (nI n) st av so ln) (md_pt M) (md_re M) (md_sd M) (md_be M) (md_pb M) (md_ac M) (md_od M) (md_ad M) (md_wy M) (md_so M) (md_rl M) (md_io M) (md_po M) (md_sp M) (md_rs M) (md_st M) (md_av M) (md_ip M) (md_tx M) (md_tm M) (md_ta M) (md_td M) (md_wo M) (md_sq M) (md_tk M) (md_bg M) (md_nu M) (md_wr M)) (hl : l + 20 ≤ 700) (kx : xj v κ post z (xw_up G 21 (pM v (md_th M) (nR te ho ow hs ra lo (nI n) st av so ln) (md_pt M) (md_re M) (md_sd M) (md_be M) (md_pb M) (md_ac M) (md_od M) (md_ad M) (md_wy M) (md_so M) (md_rl M) (md_io M) (md_po M) (md_sp M) (md_rs M) (md_st M) (md_av M) (md_ip M) (md_tx M) (md_tm M) (wrB l 20 (fdV x1 x2 x3 x4 x5) (md_ta M)) (nI (l + 20)) (md_wo M) (md_sq M) (md_tk M) (md_bg M) (md_nu M) (md_wr M))) 115 [some (.ref (xw_ad v 21 0)), some (.int x1), some (.int x2), some (.int x3), some (.int x4), some (.int x5), some (.int (nI 20)), none] []) : ∀ (m : Nat) (k : Nat), 20 - k < m → k ≤ 20 → xj v κ post z (xw_up G 21 (pM v (md_th M) (nR te ho ow hs ra lo (nI n) st av so ln) (md_pt M) (md_re M) (md_sd M) (md_be M) (md_pb M) (md_ac M) (md_od M) (md_ad M) (md_wy M) (md_so M) (md_rl M) (md_io M) (md_po M) (md_sp M) (md_rs M) (md_st M) (md_av M) (md_ip M) (md_tx M) (md_tm M) (wrB l k (fdV x1 x2 x3 x4 x5) (md_ta M)) (nI (l + k)) (md_wo M) (md_sq M) (md_tk M) (md_bg M) (md_nu M) (md_wr M))) 18 [some (.ref (xw_ad v 21 0)), some (.int x1), some (.int x2), some (.int x3), some (.int x4), some (.int x5), some (.int (nI k)), none] [] := by
  intro m
  induction m with
  | zero => intro k h; exact absurd h (Nat.not_lt_zero _)
  | succ m ih =>
    intro k hm hi
    refine xj_iload hk dX8_feed_18 rfl ?_
    refine xj_bipush (x := 20) hk dX8_feed_20 (by decide) ?_
    refine xj_icmp_ge (tgt := 115) hk dX8_feed_22 (by decide) (fun c22 => ?_) (fun c22 => ?_)
    · have c22 : 20 ≤ k := (nI_leI (a := 20) (b := k) (by omega) (by omega)).mp c22
      have e9 : k = 20 := by omega
      subst e9
      exact kx
    · have c22 : ¬ 20 ≤ k := fun q => c22 ((nI_leI (a := 20) (b := k) (by omega) (by omega)).mpr q)
      refine xj_iload hk dX8_feed_25 rfl ?_
      refine xj_iconst (x := 4) hk dX8_feed_27 (by decide) ?_
      refine xj_icmp_ge (tgt := 35) hk dX8_feed_28 (by decide) (fun c28 => ?_) (fun c28 => ?_)
      · have c28 : 4 ≤ k := (nI_leI (a := 4) (b := k) (by omega) (by omega)).mp c28
        refine xj_iload hk dX8_feed_35 rfl ?_
        refine xj_bipush (x := 8) hk dX8_feed_37 (by decide) ?_
        refine xj_icmp_ge (tgt := 46) hk dX8_feed_39 (by decide) (fun c39 => ?_) (fun c39 => ?_)
        · have c39 : 8 ≤ k := (nI_leI (a := 8) (b := k) (by omega) (by omega)).mp c39
          refine xj_iload hk dX8_feed_46 rfl ?_
          refine xj_bipush (x := 12) hk dX8_feed_48 (by decide) ?_
          refine xj_icmp_ge (tgt := 57) hk dX8_feed_50 (by decide) (fun c50 => ?_) (fun c50 => ?_)
          · have c50 : 12 ≤ k := (nI_leI (a := 12) (b := k) (by omega) (by omega)).mp c50
            refine xj_iload hk dX8_feed_57 rfl ?_
            refine xj_bipush (x := 16) hk dX8_feed_59 (by decide) ?_
            refine xj_icmp_ge (tgt := 69) hk dX8_feed_61 (by decide) (fun c61 => ?_) (fun c61 => ?_)
            · have c61 : 16 ≤ k := (nI_leI (a := 16) (b := k) (by omega) (by omega)).mp c61
              refine xj_iload hk dX8_feed_69 rfl ?_
              refine xj_istore (i := 7) (ls2 := [some (.ref (xw_ad v 21 0)), some (.int x1), some (.int x2), some (.int x3), some (.int x4), some (.int x5), some (.int (nI k)), some (.int x5)]) hk dX8_feed_71 (by decide) rfl rfl ?_
              refine xj_aload_n (i := 0) hk dX8_feed_73 rfl rfl ?_
              refine xj_getfield hk dX8_feed_74 fl_X8_55 (xw_at xw_up_s rfl) rfl ?_
              refine xj_aload_n (i := 0) hk dX8_feed_77 rfl rfl ?_
              refine xj_getfield hk dX8_feed_78 fl_X8_250 (xw_at xw_up_s rfl) rfl ?_
              refine xj_iload hk dX8_feed_81 rfl ?_
              refine xj_bipush (x := 24) hk dX8_feed_83 (by decide) ?_
              refine xj_bipush (x := 8) hk dX8_feed_85 (by decide) ?_
              refine xj_iload hk dX8_feed_87 rfl ?_
              refine xj_iconst (x := 4) hk dX8_feed_89 (by decide) ?_
              refine xj_irem hk dX8_feed_90 (by decide) ?_
              refine xj_imul hk dX8_feed_91 ?_
              refine xj_isub hk dX8_feed_92 ?_
              refine xj_ishr hk dX8_feed_93 ?_
              refine xj_sipush (x := 255) hk dX8_feed_94 (by decide) ?_
              refine xj_iand hk dX8_feed_97 ?_
              refine xj_iastore (k := l + k) (G2 := xw_up G 21 (pM v (md_th M) (nR te ho ow hs ra lo (nI n) st av so ln) (md_pt M) (md_re M) (md_sd M) (md_be M) (md_pb M) (md_ac M) (md_od M) (md_ad M) (md_wy M) (md_so M) (md_rl M) (md_io M) (md_po M) (md_sp M) (md_rs M) (md_st M) (md_av M) (md_ip M) (md_tx M) (md_tm M) (xu (wrB l k (fdV x1 x2 x3 x4 x5) (md_ta M)) (l + k) ((x5 >>> ((24 - (8 * ((nI k) - (nI k) / 4 * 4))) &&& 31)) &&& 255)) (nI (l + k)) (md_wo M) (md_sq M) (md_tk M) (md_bg M) (md_nu M) (md_wr M))) hk dX8_feed_98 (xw_at xw_up_s rfl) (xi_n (by omega) (by decide)) (xw_wr2 rfl) ?_
              refine xj_aload_n (i := 0) hk dX8_feed_99 rfl rfl ?_
              refine xj_dup hk dX8_feed_100 rfl ?_
              refine xj_getfield hk dX8_feed_101 fl_X8_250 (xw_at xw_up_s rfl) rfl ?_
              refine xj_iconst (x := 1) hk dX8_feed_104 (by decide) ?_
              refine xj_iadd hk dX8_feed_105 ?_
              refine xj.eqi (x' := nI (l + (k + 1))) (nI_1 (l + k)) ?_
              refine xj_putfield (G2 := xw_up G 21 (pM v (md_th M) (nR te ho ow hs ra lo (nI n) st av so ln) (md_pt M) (md_re M) (md_sd M) (md_be M) (md_pb M) (md_ac M) (md_od M) (md_ad M) (md_wy M) (md_so M) (md_rl M) (md_io M) (md_po M) (md_sp M) (md_rs M) (md_st M) (md_av M) (md_ip M) (md_tx M) (md_tm M) (xu (wrB l k (fdV x1 x2 x3 x4 x5) (md_ta M)) (l + k) ((x5 >>> ((24 - (8 * ((nI k) - (nI k) / 4 * 4))) &&& 31)) &&& 255)) (nI (l + (k + 1))) (md_wo M) (md_sq M) (md_tk M) (md_bg M) (md_nu M) (md_wr M))) hk dX8_feed_106 fl_X8_250 rfl rfl (xw_at xw_up_s rfl) (Nat.le_of_ble_eq_true rfl) (xw_wr2 rfl) ?_
              refine xj_iinc (i := 6) (x2 := nI (k + 1)) (ls2 := [some (.ref (xw_ad v 21 0)), some (.int x1), some (.int x2), some (.int x3), some (.int x4), some (.int x5), some (.int (nI (k + 1))), some (.int x5)]) hk dX8_feed_109 rfl (nI_1 k) (by decide) rfl rfl ?_
              refine xj_goto (tgt := 18) hk dX8_feed_112 (by decide) ?_
              refine xj.le (ls' := [some (.ref (xw_ad v 21 0)), some (.int x1), some (.int x2), some (.int x3), some (.int x4), some (.int x5), some (.int (nI (k + 1))), none]) (by simp [xl_le] <;> rfl) ?_
              refine xj.eqG (G' := xw_up G 21 (pM v (md_th M) (nR te ho ow hs ra lo (nI n) st av so ln) (md_pt M) (md_re M) (md_sd M) (md_be M) (md_pb M) (md_ac M) (md_od M) (md_ad M) (md_wy M) (md_so M) (md_rl M) (md_io M) (md_po M) (md_sp M) (md_rs M) (md_st M) (md_av M) (md_ip M) (md_tx M) (md_tm M) (wrB l ((k + 1)) (fdV x1 x2 x3 x4 x5) (md_ta M)) (nI (l + (k + 1))) (md_wo M) (md_sq M) (md_tk M) (md_bg M) (md_nu M) (md_wr M))) (by rw [← wrB_s, show fdV x1 x2 x3 x4 x5 k = (x5 >>> ((24 - 8 * (nI k - nI k / 4 * 4)) &&& 31)) &&& 255 from by simp only [fdV]; rw [show fdX x1 x2 x3 x4 x5 k = x5 from by simp only [fdX]; rw [if_neg (by omega), if_neg (by omega), if_neg (by omega), if_neg (by omega)]]]) (ih (k + 1) (by omega) (by omega))
            · have c61 : ¬ 16 ≤ k := fun q => c61 ((nI_leI (a := 16) (b := k) (by omega) (by omega)).mpr q)
              refine xj_iload hk dX8_feed_64 rfl ?_
              refine xj_goto (tgt := 71) hk dX8_feed_66 (by decide) ?_
              refine xj_istore (i := 7) (ls2 := [some (.ref (xw_ad v 21 0)), some (.int x1), some (.int x2), some (.int x3), some (.int x4), some (.int x5), some (.int (nI k)), some (.int x4)]) hk dX8_feed_71 (by decide) rfl rfl ?_
              refine xj_aload_n (i := 0) hk dX8_feed_73 rfl rfl ?_
              refine xj_getfield hk dX8_feed_74 fl_X8_55 (xw_at xw_up_s rfl) rfl ?_
              refine xj_aload_n (i := 0) hk dX8_feed_77 rfl rfl ?_
              refine xj_getfield hk dX8_feed_78 fl_X8_250 (xw_at xw_up_s rfl) rfl ?_
              refine xj_iload hk dX8_feed_81 rfl ?_
              refine xj_bipush (x := 24) hk dX8_feed_83 (by decide) ?_
              refine xj_bipush (x := 8) hk dX8_feed_85 (by decide) ?_
              refine xj_iload hk dX8_feed_87 rfl ?_
              refine xj_iconst (x := 4) hk dX8_feed_89 (by decide) ?_
              refine xj_irem hk dX8_feed_90 (by decide) ?_
              refine xj_imul hk dX8_feed_91 ?_
              refine xj_isub hk dX8_feed_92 ?_
              refine xj_ishr hk dX8_feed_93 ?_
              refine xj_sipush (x := 255) hk dX8_feed_94 (by decide) ?_
              refine xj_iand hk dX8_feed_97 ?_
              refine xj_iastore (k := l + k) (G2 := xw_up G 21 (pM v (md_th M) (nR te ho ow hs ra lo (nI n) st av so ln) (md_pt M) (md_re M) (md_sd M) (md_be M) (md_pb M) (md_ac M) (md_od M) (md_ad M) (md_wy M) (md_so M) (md_rl M) (md_io M) (md_po M) (md_sp M) (md_rs M) (md_st M) (md_av M) (md_ip M) (md_tx M) (md_tm M) (xu (wrB l k (fdV x1 x2 x3 x4 x5) (md_ta M)) (l + k) ((x4 >>> ((24 - (8 * ((nI k) - (nI k) / 4 * 4))) &&& 31)) &&& 255)) (nI (l + k)) (md_wo M) (md_sq M) (md_tk M) (md_bg M) (md_nu M) (md_wr M))) hk dX8_feed_98 (xw_at xw_up_s rfl) (xi_n (by omega) (by decide)) (xw_wr2 rfl) ?_
              refine xj_aload_n (i := 0) hk dX8_feed_99 rfl rfl ?_
              refine xj_dup hk dX8_feed_100 rfl ?_
              refine xj_getfield hk dX8_feed_101 fl_X8_250 (xw_at xw_up_s rfl) rfl ?_
              refine xj_iconst (x := 1) hk dX8_feed_104 (by decide) ?_
              refine xj_iadd hk dX8_feed_105 ?_
              refine xj.eqi (x' := nI (l + (k + 1))) (nI_1 (l + k)) ?_
              refine xj_putfield (G2 := xw_up G 21 (pM v (md_th M) (nR te ho ow hs ra lo (nI n) st av so ln) (md_pt M) (md_re M) (md_sd M) (md_be M) (md_pb M) (md_ac M) (md_od M) (md_ad M) (md_wy M) (md_so M) (md_rl M) (md_io M) (md_po M) (md_sp M) (md_rs M) (md_st M) (md_av M) (md_ip M) (md_tx M) (md_tm M) (xu (wrB l k (fdV x1 x2 x3 x4 x5) (md_ta M)) (l + k) ((x4 >>> ((24 - (8 * ((nI k) - (nI k) / 4 * 4))) &&& 31)) &&& 255)) (nI (l + (k + 1))) (md_wo M) (md_sq M) (md_tk M) (md_bg M) (md_nu M) (md_wr M))) hk dX8_feed_106 fl_X8_250 rfl rfl (xw_at xw_up_s rfl) (Nat.le_of_ble_eq_true rfl) (xw_wr2 rfl) ?_
              refine xj_iinc (i := 6) (x2 := nI (k + 1)) (ls2 := [some (.ref (xw_ad v 21 0)), some (.int x1), some (.int x2), some (.int x3), some (.int x4), some (.int x5), some (.int (nI (k + 1))), some (.int x4)]) hk dX8_feed_109 rfl (nI_1 k) (by decide) rfl rfl ?_
              refine xj_goto (tgt := 18) hk dX8_feed_112 (by decide) ?_
              refine xj.le (ls' := [some (.ref (xw_ad v 21 0)), some (.int x1), some (.int x2), some (.int x3), some (.int x4), some (.int x5), some (.int (nI (k + 1))), none]) (by simp [xl_le] <;> rfl) ?_
              refine xj.eqG (G' := xw_up G 21 (pM v (md_th M) (nR te ho ow hs ra lo (nI n) st av so ln) (md_pt M) (md_re M) (md_sd M) (md_be M) (md_pb M) (md_ac M) (md_od M) (md_ad M) (md_wy M) (md_so M) (md_rl M) (md_io M) (md_po M) (md_sp M) (md_rs M) (md_st M) (md_av M) (md_ip M) (md_tx M) (md_tm M) (wrB l ((k + 1)) (fdV x1 x2 x3 x4 x5) (md_ta M)) (nI (l + (k + 1))) (md_wo M) (md_sq M) (md_tk M) (md_bg M) (md_nu M) (md_wr M))) (by rw [← wrB_s, show fdV x1 x2 x3 x4 x5 k = (x4 >>> ((24 - 8 * (nI k - nI k / 4 * 4)) &&& 31)) &&& 255 from by simp only [fdV]; rw [show fdX x1 x2 x3 x4 x5 k = x4 from by simp only [fdX]; rw [if_neg (by omega), if_neg (by omega), if_neg (by omega), if_pos (by omega)]]]) (ih (k + 1) (by omega) (by omega))
          · have c50 : ¬ 12 ≤ k := fun q => c50 ((nI_leI (a := 12) (b := k) (by omega) (by omega)).mpr q)
            refine xj_iload_n (i := 3) hk dX8_feed_53 rfl rfl ?_
            refine xj_goto (tgt := 71) hk dX8_feed_54 (by decide) ?_
            refine xj_istore (i := 7) (ls2 := [some (.ref (xw_ad v 21 0)), some (.int x1), some (.int x2), some (.int x3), some (.int x4), some (.int x5), some (.int (nI k)), some (.int x3)]) hk dX8_feed_71 (by decide) rfl rfl ?_
            refine xj_aload_n (i := 0) hk dX8_feed_73 rfl rfl ?_
            refine xj_getfield hk dX8_feed_74 fl_X8_55 (xw_at xw_up_s rfl) rfl ?_
            refine xj_aload_n (i := 0) hk dX8_feed_77 rfl rfl ?_
            refine xj_getfield hk dX8_feed_78 fl_X8_250 (xw_at xw_up_s rfl) rfl ?_
            refine xj_iload hk dX8_feed_81 rfl ?_
            refine xj_bipush (x := 24) hk dX8_feed_83 (by decide) ?_
            refine xj_bipush (x := 8) hk dX8_feed_85 (by decide) ?_
            refine xj_iload hk dX8_feed_87 rfl ?_
            refine xj_iconst (x := 4) hk dX8_feed_89 (by decide) ?_
            refine xj_irem hk dX8_feed_90 (by decide) ?_
            refine xj_imul hk dX8_feed_91 ?_
            refine xj_isub hk dX8_feed_92 ?_
            refine xj_ishr hk dX8_feed_93 ?_
            refine xj_sipush (x := 255) hk dX8_feed_94 (by decide) ?_
            refine xj_iand hk dX8_feed_97 ?_
            refine xj_iastore (k := l + k) (G2 := xw_up G 21 (pM v (md_th M) (nR te ho ow hs ra lo (nI n) st av so ln) (md_pt M) (md_re M) (md_sd M) (md_be M) (md_pb M) (md_ac M) (md_od M) (md_ad M) (md_wy M) (md_so M) (md_rl M) (md_io M) (md_po M) (md_sp M) (md_rs M) (md_st M) (md_av M) (md_ip M) (md_tx M) (md_tm M) (xu (wrB l k (fdV x1 x2 x3 x4 x5) (md_ta M)) (l + k) ((x3 >>> ((24 - (8 * ((nI k) - (nI k) / 4 * 4))) &&& 31)) &&& 255)) (nI (l + k)) (md_wo M) (md_sq M) (md_tk M) (md_bg M) (md_nu M) (md_wr M))) hk dX8_feed_98 (xw_at xw_up_s rfl) (xi_n (by omega) (by decide)) (xw_wr2 rfl) ?_
            refine xj_aload_n (i := 0) hk dX8_feed_99 rfl rfl ?_
            refine xj_dup hk dX8_feed_100 rfl ?_
            refine xj_getfield hk dX8_feed_101 fl_X8_250 (xw_at xw_up_s rfl) rfl ?_
            refine xj_iconst (x := 1) hk dX8_feed_104 (by decide) ?_
            refine xj_iadd hk dX8_feed_105 ?_
            refine xj.eqi (x' := nI (l + (k + 1))) (nI_1 (l + k)) ?_
            refine xj_putfield (G2 := xw_up G 21 (pM v (md_th M) (nR te ho ow hs ra lo (nI n) st av so ln) (md_pt M) (md_re M) (md_sd M) (md_be M) (md_pb M) (md_ac M) (md_od M) (md_ad M) (md_wy M) (md_so M) (md_rl M) (md_io M) (md_po M) (md_sp M) (md_rs M) (md_st M) (md_av M) (md_ip M) (md_tx M) (md_tm M) (xu (wrB l k (fdV x1 x2 x3 x4 x5) (md_ta M)) (l + k) ((x3 >>> ((24 - (8 * ((nI k) - (nI k) / 4 * 4))) &&& 31)) &&& 255)) (nI (l + (k + 1))) (md_wo M) (md_sq M) (md_tk M) (md_bg M) (md_nu M) (md_wr M))) hk dX8_feed_106 fl_X8_250 rfl rfl (xw_at xw_up_s rfl) (Nat.le_of_ble_eq_true rfl) (xw_wr2 rfl) ?_
            refine xj_iinc (i := 6) (x2 := nI (k + 1)) (ls2 := [some (.ref (xw_ad v 21 0)), some (.int x1), some (.int x2), some (.int x3), some (.int x4), some (.int x5), some (.int (nI (k + 1))), some (.int x3)]) hk dX8_feed_109 rfl (nI_1 k) (by decide) rfl rfl ?_
            refine xj_goto (tgt := 18) hk dX8_feed_112 (by decide) ?_
            refine xj.le (ls' := [some (.ref (xw_ad v 21 0)), some (.int x1), some (.int x2), some (.int x3), some (.int x4), some (.int x5), some (.int (nI (k + 1))), none]) (by simp [xl_le] <;> rfl) ?_
            refine xj.eqG (G' := xw_up G 21 (pM v (md_th M) (nR te ho ow hs ra lo (nI n) st av so ln) (md_pt M) (md_re M) (md_sd M) (md_be M) (md_pb M) (md_ac M) (md_od M) (md_ad M) (md_wy M) (md_so M) (md_rl M) (md_io M) (md_po M) (md_sp M) (md_rs M) (md_st M) (md_av M) (md_ip M) (md_tx M) (md_tm M) (wrB l ((k + 1)) (fdV x1 x2 x3 x4 x5) (md_ta M)) (nI (l + (k + 1))) (md_wo M) (md_sq M) (md_tk M) (md_bg M) (md_nu M) (md_wr M))) (by rw [← wrB_s, show fdV x1 x2 x3 x4 x5 k = (x3 >>> ((24 - 8 * (nI k - nI k / 4 * 4)) &&& 31)) &&& 255 from by simp only [fdV]; rw [show fdX x1 x2 x3 x4 x5 k = x3 from by simp only [fdX]; rw [if_neg (by omega), if_neg (by omega), if_pos (by omega)]]]) (ih (k + 1) (by omega) (by omega))
        · have c39 : ¬ 8 ≤ k := fun q => c39 ((nI_leI (a := 8) (b := k) (by omega) (by omega)).mpr q)
          refine xj_iload_n (i := 2) hk dX8_feed_42 rfl rfl ?_
          refine xj_goto (tgt := 71) hk dX8_feed_43 (by decide) ?_
          refine xj_istore (i := 7) (ls2 := [some (.ref (xw_ad v 21 0)), some (.int x1), some (.int x2), some (.int x3), some (.int x4), some (.int x5), some (.int (nI k)), some (.int x2)]) hk dX8_feed_71 (by decide) rfl rfl ?_
          refine xj_aload_n (i := 0) hk dX8_feed_73 rfl rfl ?_
          refine xj_getfield hk dX8_feed_74 fl_X8_55 (xw_at xw_up_s rfl) rfl ?_
          refine xj_aload_n (i := 0) hk dX8_feed_77 rfl rfl ?_
          refine xj_getfield hk dX8_feed_78 fl_X8_250 (xw_at xw_up_s rfl) rfl ?_
          refine xj_iload hk dX8_feed_81 rfl ?_
          refine xj_bipush (x := 24) hk dX8_feed_83 (by decide) ?_
          refine xj_bipush (x := 8) hk dX8_feed_85 (by decide) ?_
          refine xj_iload hk dX8_feed_87 rfl ?_
          refine xj_iconst (x := 4) hk dX8_feed_89 (by decide) ?_
          refine xj_irem hk dX8_feed_90 (by decide) ?_
          refine xj_imul hk dX8_feed_91 ?_
          refine xj_isub hk dX8_feed_92 ?_
          refine xj_ishr hk dX8_feed_93 ?_
          refine xj_sipush (x := 255) hk dX8_feed_94 (by decide) ?_
          refine xj_iand hk dX8_feed_97 ?_
          refine xj_iastore (k := l + k) (G2 := xw_up G 21 (pM v (md_th M) (nR te ho ow hs ra lo (nI n) st av so ln) (md_pt M) (md_re M) (md_sd M) (md_be M) (md_pb M) (md_ac M) (md_od M) (md_ad M) (md_wy M) (md_so M) (md_rl M) (md_io M) (md_po M) (md_sp M) (md_rs M) (md_st M) (md_av M) (md_ip M) (md_tx M) (md_tm M) (xu (wrB l k (fdV x1 x2 x3 x4 x5) (md_ta M)) (l + k) ((x2 >>> ((24 - (8 * ((nI k) - (nI k) / 4 * 4))) &&& 31)) &&& 255)) (nI (l + k)) (md_wo M) (md_sq M) (md_tk M) (md_bg M) (md_nu M) (md_wr M))) hk dX8_feed_98 (xw_at xw_up_s rfl) (xi_n (by omega) (by decide)) (xw_wr2 rfl) ?_
          refine xj_aload_n (i := 0) hk dX8_feed_99 rfl rfl ?_
          refine xj_dup hk dX8_feed_100 rfl ?_
          refine xj_getfield hk dX8_feed_101 fl_X8_250 (xw_at xw_up_s rfl) rfl ?_
          refine xj_iconst (x := 1) hk dX8_feed_104 (by decide) ?_
          refine xj_iadd hk dX8_feed_105 ?_
          refine xj.eqi (x' := nI (l + (k + 1))) (nI_1 (l + k)) ?_
          refine xj_putfield (G2 := xw_up G 21 (pM v (md_th M) (nR te ho ow hs ra lo (nI n) st av so ln) (md_pt M) (md_re M) (md_sd M) (md_be M) (md_pb M) (md_ac M) (md_od M) (md_ad M) (md_wy M) (md_so M) (md_rl M) (md_io M) (md_po M) (md_sp M) (md_rs M) (md_st M) (md_av M) (md_ip M) (md_tx M) (md_tm M) (xu (wrB l k (fdV x1 x2 x3 x4 x5) (md_ta M)) (l + k) ((x2 >>> ((24 - (8 * ((nI k) - (nI k) / 4 * 4))) &&& 31)) &&& 255)) (nI (l + (k + 1))) (md_wo M) (md_sq M) (md_tk M) (md_bg M) (md_nu M) (md_wr M))) hk dX8_feed_106 fl_X8_250 rfl rfl (xw_at xw_up_s rfl) (Nat.le_of_ble_eq_true rfl) (xw_wr2 rfl) ?_
          refine xj_iinc (i := 6) (x2 := nI (k + 1)) (ls2 := [some (.ref (xw_ad v 21 0)), some (.int x1), some (.int x2), some (.int x3), some (.int x4), some (.int x5), some (.int (nI (k + 1))), some (.int x2)]) hk dX8_feed_109 rfl (nI_1 k) (by decide) rfl rfl ?_
          refine xj_goto (tgt := 18) hk dX8_feed_112 (by decide) ?_
          refine xj.le (ls' := [some (.ref (xw_ad v 21 0)), some (.int x1), some (.int x2), some (.int x3), some (.int x4), some (.int x5), some (.int (nI (k + 1))), none]) (by simp [xl_le] <;> rfl) ?_
          refine xj.eqG (G' := xw_up G 21 (pM v (md_th M) (nR te ho ow hs ra lo (nI n) st av so ln) (md_pt M) (md_re M) (md_sd M) (md_be M) (md_pb M) (md_ac M) (md_od M) (md_ad M) (md_wy M) (md_so M) (md_rl M) (md_io M) (md_po M) (md_sp M) (md_rs M) (md_st M) (md_av M) (md_ip M) (md_tx M) (md_tm M) (wrB l ((k + 1)) (fdV x1 x2 x3 x4 x5) (md_ta M)) (nI (l + (k + 1))) (md_wo M) (md_sq M) (md_tk M) (md_bg M) (md_nu M) (md_wr M))) (by rw [← wrB_s, show fdV x1 x2 x3 x4 x5 k = (x2 >>> ((24 - 8 * (nI k - nI k / 4 * 4)) &&& 31)) &&& 255 from by simp only [fdV]; rw [show fdX x1 x2 x3 x4 x5 k = x2 from by simp only [fdX]; rw [if_neg (by omega), if_pos (by omega)]]]) (ih (k + 1) (by omega) (by omega))
      · have c28 : ¬ 4 ≤ k := fun q => c28 ((nI_leI (a := 4) (b := k) (by omega) (by omega)).mpr q)
        refine xj_iload_n (i := 1) hk dX8_feed_31 rfl rfl ?_
        refine xj_goto (tgt := 71) hk dX8_feed_32 (by decide) ?_
        refine xj_istore (i := 7) (ls2 := [some (.ref (xw_ad v 21 0)), some (.int x1), some (.int x2), some (.int x3), some (.int x4), some (.int x5), some (.int (nI k)), some (.int x1)]) hk dX8_feed_71 (by decide) rfl rfl ?_
        refine xj_aload_n (i := 0) hk dX8_feed_73 rfl rfl ?_
        refine xj_getfield hk dX8_feed_74 fl_X8_55 (xw_at xw_up_s rfl) rfl ?_
        refine xj_aload_n (i := 0) hk dX8_feed_77 rfl rfl ?_
        refine xj_getfield hk dX8_feed_78 fl_X8_250 (xw_at xw_up_s rfl) rfl ?_
        refine xj_iload hk dX8_feed_81 rfl ?_
        refine xj_bipush (x := 24) hk dX8_feed_83 (by decide) ?_
        refine xj_bipush (x := 8) hk dX8_feed_85 (by decide) ?_
        refine xj_iload hk dX8_feed_87 rfl ?_
        refine xj_iconst (x := 4) hk dX8_feed_89 (by decide) ?_
        refine xj_irem hk dX8_feed_90 (by decide) ?_
        refine xj_imul hk dX8_feed_91 ?_
        refine xj_isub hk dX8_feed_92 ?_
        refine xj_ishr hk dX8_feed_93 ?_
        refine xj_sipush (x := 255) hk dX8_feed_94 (by decide) ?_
        refine xj_iand hk dX8_feed_97 ?_
        refine xj_iastore (k := l + k) (G2 := xw_up G 21 (pM v (md_th M) (nR te ho ow hs ra lo (nI n) st av so ln) (md_pt M) (md_re M) (md_sd M) (md_be M) (md_pb M) (md_ac M) (md_od M) (md_ad M) (md_wy M) (md_so M) (md_rl M) (md_io M) (md_po M) (md_sp M) (md_rs M) (md_st M) (md_av M) (md_ip M) (md_tx M) (md_tm M) (xu (wrB l k (fdV x1 x2 x3 x4 x5) (md_ta M)) (l + k) ((x1 >>> ((24 - (8 * ((nI k) - (nI k) / 4 * 4))) &&& 31)) &&& 255)) (nI (l + k)) (md_wo M) (md_sq M) (md_tk M) (md_bg M) (md_nu M) (md_wr M))) hk dX8_feed_98 (xw_at xw_up_s rfl) (xi_n (by omega) (by decide)) (xw_wr2 rfl) ?_
        refine xj_aload_n (i := 0) hk dX8_feed_99 rfl rfl ?_
        refine xj_dup hk dX8_feed_100 rfl ?_
        refine xj_getfield hk dX8_feed_101 fl_X8_250 (xw_at xw_up_s rfl) rfl ?_
        refine xj_iconst (x := 1) hk dX8_feed_104 (by decide) ?_
        refine xj_iadd hk dX8_feed_105 ?_
        refine xj.eqi (x' := nI (l + (k + 1))) (nI_1 (l + k)) ?_
        refine xj_putfield (G2 := xw_up G 21 (pM v (md_th M) (nR te ho ow hs ra lo (nI n) st av so ln) (md_pt M) (md_re M) (md_sd M) (md_be M) (md_pb M) (md_ac M) (md_od M) (md_ad M) (md_wy M) (md_so M) (md_rl M) (md_io M) (md_po M) (md_sp M) (md_rs M) (md_st M) (md_av M) (md_ip M) (md_tx M) (md_tm M) (xu (wrB l k (fdV x1 x2 x3 x4 x5) (md_ta M)) (l + k) ((x1 >>> ((24 - (8 * ((nI k) - (nI k) / 4 * 4))) &&& 31)) &&& 255)) (nI (l + (k + 1))) (md_wo M) (md_sq M) (md_tk M) (md_bg M) (md_nu M) (md_wr M))) hk dX8_feed_106 fl_X8_250 rfl rfl (xw_at xw_up_s rfl) (Nat.le_of_ble_eq_true rfl) (xw_wr2 rfl) ?_
        refine xj_iinc (i := 6) (x2 := nI (k + 1)) (ls2 := [some (.ref (xw_ad v 21 0)), some (.int x1), some (.int x2), some (.int x3), some (.int x4), some (.int x5), some (.int (nI (k + 1))), some (.int x1)]) hk dX8_feed_109 rfl (nI_1 k) (by decide) rfl rfl ?_
        refine xj_goto (tgt := 18) hk dX8_feed_112 (by decide) ?_
        refine xj.le (ls' := [some (.ref (xw_ad v 21 0)), some (.int x1), some (.int x2), some (.int x3), some (.int x4), some (.int x5), some (.int (nI (k + 1))), none]) (by simp [xl_le] <;> rfl) ?_
        refine xj.eqG (G' := xw_up G 21 (pM v (md_th M) (nR te ho ow hs ra lo (nI n) st av so ln) (md_pt M) (md_re M) (md_sd M) (md_be M) (md_pb M) (md_ac M) (md_od M) (md_ad M) (md_wy M) (md_so M) (md_rl M) (md_io M) (md_po M) (md_sp M) (md_rs M) (md_st M) (md_av M) (md_ip M) (md_tx M) (md_tm M) (wrB l ((k + 1)) (fdV x1 x2 x3 x4 x5) (md_ta M)) (nI (l + (k + 1))) (md_wo M) (md_sq M) (md_tk M) (md_bg M) (md_nu M) (md_wr M))) (by rw [← wrB_s, show fdV x1 x2 x3 x4 x5 k = (x1 >>> ((24 - 8 * (nI k - nI k / 4 * 4)) &&& 31)) &&& 255 from by simp only [fdV]; rw [show fdX x1 x2 x3 x4 x5 k = x1 from by simp only [fdX]; rw [if_pos (by omega)]]]) (ih (k + 1) (by omega) (by omega))

def mAc (v : xw_V) (G G' : xw_G) (N : Nat → Int32) (pt : Nat → Int64) (be : Nat → Int32) (pb : Nat → Int64) (ac : Int32) (ta : Nat → Int32) (td : Int32) (wo : Nat → Int32) : Prop := (∃ M' : md_T, MS v G' N M' ∧ md_pt M' = pt ∧ md_be M' = be ∧ md_pb M' = pb ∧ md_ac M' = ac ∧ md_ta M' = ta ∧ md_td M' = td ∧ md_wo M' = wo) ∧ ∀ g, g ≠ 21 → G' g = G g
set_option maxHeartbeats 1000000 in
set_option maxRecDepth 10000 in
theorem c_X8_feed {v : xw_V} {G : xw_G} {M : md_T} {te ho ow hs ra lo st av so : Nat → Int32} {ln : Int32} {n l : Nat} (hM : G 21 = pM v (md_th M) (nR te ho ow hs ra lo (nI n) st av so ln) (md_pt M) (md_re M) (md_sd M) (md_be M) (md_pb M) (md_ac M) (md_od M) (md_ad M) (md_wy M) (md_so M) (md_rl M) (md_io M) (md_po M) (md_sp M) (md_rs M) (md_st M) (md_av M) (md_ip M) (md_tx M) (md_tm M) (md_ta M) (md_td M) (md_wo M) (md_sq M) (md_tk M) (md_bg M) (md_nu M) (md_wr M)) (htd : md_td M = nI l) (hl7 : l ≤ 700) (x1 : Int32) (x2 : Int32) (x3 : Int32) (x4 : Int32) (x5 : Int32) : xk_Con v yX8_feed cX8_feed 8 (some .int) 0 0 [.ref (xw_ad v 21 0), .int x1, .int x2, .int x3, .int x4, .int x5] G (fun r9 G' => (l + 20 ≤ 700 ∧ r9 = some (.int (nI (l + 20))) ∧ mAc v G G' (nR te ho ow hs ra lo (nI n) st av so ln) (md_pt M) (md_be M) (md_pb M) (md_ac M) (wrB l 20 (fdV x1 x2 x3 x4 x5) (md_ta M)) (nI (l + 20)) (md_wo M)) ∨ (¬ l + 20 ≤ 700 ∧ r9 = some (.int (-1)) ∧ mQ v G G' (nR te ho ow hs ra lo (nI n) st av so ln) M)) := by
  refine xk_of (ls0 := [some (.ref (xw_ad v 21 0)), some (.int x1), some (.int x2), some (.int x3), some (.int x4), some (.int x5), none, none]) (by decide) rfl (Nat.le_of_ble_eq_true rfl) ?_
  intro κ z hk hz
  refine xj_aload_n (i := 0) hk dX8_feed_0 rfl rfl ?_
  refine xj_getfield hk dX8_feed_1 fl_X8_250 (xw_at hM rfl) rfl ?_
  refine xj.eqi (x' := nI l) htd ?_
  refine xj_bipush (x := 20) hk dX8_feed_4 (by decide) ?_
  refine xj_iadd hk dX8_feed_6 ?_
  refine xj.eqi (x' := nI (l + 20)) (nI_add l 20) ?_
  refine xj_sipush (x := 700) hk dX8_feed_7 (by decide) ?_
  refine xj_icmp_le (tgt := 15) hk dX8_feed_10 (by decide) (fun c10 => ?_) (fun c10 => ?_)
  · have c10 : l + 20 ≤ 700 := (nI_leI (a := l + 20) (b := 700) (by omega) (by omega)).mp c10
    refine xj_iconst (x := 0) hk dX8_feed_15 (by decide) ?_
    refine xj_istore (i := 6) (ls2 := [some (.ref (xw_ad v 21 0)), some (.int x1), some (.int x2), some (.int x3), some (.int x4), some (.int x5), some (.int 0), none]) hk dX8_feed_16 (by decide) rfl rfl ?_
    refine xj.eqG (G' := xw_up G 21 (pM v (md_th M) (nR te ho ow hs ra lo (nI n) st av so ln) (md_pt M) (md_re M) (md_sd M) (md_be M) (md_pb M) (md_ac M) (md_od M) (md_ad M) (md_wy M) (md_so M) (md_rl M) (md_io M) (md_po M) (md_sp M) (md_rs M) (md_st M) (md_av M) (md_ip M) (md_tx M) (md_tm M) (wrB l 0 (fdV x1 x2 x3 x4 x5) (md_ta M)) (nI (l + 0)) (md_wo M) (md_sq M) (md_tk M) (md_bg M) (md_nu M) (md_wr M))) (by rw [wrB_0, Nat.add_zero, ← htd]; exact (xw_up_same hM).symm) ?_
    refine l_X8_feed hk hz hM c10 ?_ (20 + 1) 0 (by omega) (by omega)
    refine xj_aload_n (i := 0) hk dX8_feed_115 rfl rfl ?_
    refine xj_getfield hk dX8_feed_116 fl_X8_250 (xw_at xw_up_s rfl) rfl ?_
    refine xj_ireturn hk hz dX8_feed_119 ?_
    exact Or.inl ⟨c10, rfl, ⟨⟨(md_th M, nR te ho ow hs ra lo (nI n) st av so ln, md_pt M, md_re M, md_sd M, md_be M, md_pb M, md_ac M, md_od M, md_ad M, md_wy M, md_so M, md_rl M, md_io M, md_po M, md_sp M, md_rs M, md_st M, md_av M, md_ip M, md_tx M, md_tm M, wrB l 20 (fdV x1 x2 x3 x4 x5) (md_ta M), nI (l + 20), md_wo M, md_sq M, md_tk M, md_bg M, md_nu M, md_wr M), xw_up_s, rfl, rfl, rfl, rfl, rfl, rfl, rfl⟩, fun g h => xw_up_n h⟩⟩
  · have c10 : ¬ l + 20 ≤ 700 := fun q => c10 ((nI_leI (a := l + 20) (b := 700) (by omega) (by omega)).mpr q)
    refine xj_iconst (x := (-1)) hk dX8_feed_13 (by decide) ?_
    refine xj_ireturn hk hz dX8_feed_14 ?_
    exact Or.inr ⟨c10, rfl, ⟨⟨M, hM, rfl, rfl, rfl, rfl, rfl, rfl, rfl⟩, fun _ _ => rfl⟩⟩


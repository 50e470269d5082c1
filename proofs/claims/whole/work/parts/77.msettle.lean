def hsM (ho hs so : Nat → Int32) (n : Nat) (h : Nat) : Int32 := if ho h + sm (sel hs (nI h) so) n ≤ 9999 then ho h + sm (sel hs (nI h) so) n else 9999
def shE (k : Nat) (R : Nat → Int32) : Nat → Int32 := fun x => if 115 ≤ x ∧ x < 112 + k then R (x + 3) else R x
theorem shE_0 (R : Nat → Int32) : shE 3 R = R := by funext x; simp only [shE]; rw [if_neg (by omega)]
theorem shE_s {k : Nat} (R : Nat → Int32) (h : 3 ≤ k) : xu (shE k R) (115 + k - 3) (shE k R (115 + k)) = shE (k + 1) R := by
  funext x
  simp only [xu, shE]
  by_cases q : x = 115 + k - 3
  · rw [if_pos q, if_neg (by omega), if_pos (by omega)]; congr 1; omega
  · rw [if_neg q]
    by_cases d : 115 ≤ x ∧ x < 112 + k
    · rw [if_pos d, if_pos (by omega)]
    · rw [if_neg d, if_neg (by omega)]
theorem shE_e {te ho ow hs ra lo st av so : Nat → Int32} {bi ln : Int32} : shE 24 (nR te ho ow hs ra lo bi st av so ln) = nR te ho ow hs ra lo bi (shD 0 7 st) (shD 0 7 av) (shD 0 7 so) ln := by
  funext x
  by_cases q : 115 ≤ x ∧ x < 139
  · obtain ⟨j, c, hj, hc, rfl⟩ : ∃ j c, j < 8 ∧ c < 3 ∧ x = 115 + 3 * j + c := ⟨(x - 115) / 3, (x - 115) % 3, by omega, by omega, by omega⟩
    by_cases d : j < 7
    · have e1 : ∀ f : Nat → Int32, shD 0 7 f j = f (j + 1) := fun f => by simp only [shD]; rw [if_pos ⟨by omega, d⟩]
      have e2 : shE 24 (nR te ho ow hs ra lo bi st av so ln) (115 + 3 * j + c) = nR te ho ow hs ra lo bi st av so ln (115 + 3 * (j + 1) + c) := by
        simp only [shE]
        rw [if_pos (by omega)]
        congr 1
        omega
      rw [e2]
      match c, hc with
      | 0, _ => simp only [Nat.add_zero]; rw [rR_st (by omega), rR_st (by omega), e1]
      | 1, _ => rw [rR_av (by omega), rR_av (by omega), e1]
      | 2, _ => rw [rR_so (by omega), rR_so (by omega), e1]
      | c + 3, h => exact absurd h (by omega)
    · have e1 : ∀ f : Nat → Int32, shD 0 7 f j = f j := fun f => by simp only [shD]; rw [if_neg (by omega)]
      have e2 : shE 24 (nR te ho ow hs ra lo bi st av so ln) (115 + 3 * j + c) = nR te ho ow hs ra lo bi st av so ln (115 + 3 * j + c) := by
        simp only [shE]
        rw [if_neg (by omega)]
      rw [e2]
      match c, hc with
      | 0, _ => simp only [Nat.add_zero]; rw [rR_st (by omega), rR_st (by omega), e1]
      | 1, _ => rw [rR_av (by omega), rR_av (by omega), e1]
      | 2, _ => rw [rR_so (by omega), rR_so (by omega), e1]
      | c + 3, h => exact absurd h (by omega)
  · have e2 : shE 24 (nR te ho ow hs ra lo bi st av so ln) x = nR te ho ow hs ra lo bi st av so ln x := by
      simp only [shE]
      rw [if_neg (by omega)]
    rw [e2]
    simp only [nR]
    repeat' split
    all_goals first | rfl | (exfalso; omega)
def lnS {α : Type} (r : Nat) (f : Nat → α) : Nat → α := if r = 8 then shD 0 7 f else f
theorem shB_D {α : Type} {f : Nat → α} : shB 1 f 8 = shD 0 7 f := by
  funext x
  simp only [shB, shD]
  by_cases c : x < 7
  · rw [if_pos (by omega), if_pos (by omega)]
  · rw [if_neg (by omega), if_neg (by omega)]
set_option maxHeartbeats 1000000 in
set_option maxRecDepth 10000 in
theorem l_X8_settle_30 {v : xw_V} {κ : xk_K} {post : Option Value → xw_G → Prop} {z : Nat × Nat × Nat} {G : xw_G} {M : md_T} {te ho ow hs ra lo st av so : Nat → Int32} {ln : Int32} {n : Nat} {x : Int32} {y : Int64} (hk : xk_Ok v κ yX8_settle cX8_settle 6 (some .int) 4 89) (hz : xk_zf κ = z) (hM : G 21 = pM v (md_th M) (nR te ho ow hs ra lo (nI n) st av so ln) (md_pt M) (md_re M) (md_sd M) (md_be M) (md_pb M) (md_ac M) (md_od M) (md_ad M) (md_wy M) (md_so M) (md_rl M) (md_io M) (md_po M) (md_sp M) (md_rs M) (md_st M) (md_av M) (md_ip M) (md_tx M) (md_tm M) (md_ta M) (md_td M) (md_wo M) (md_sq M) (md_tk M) (md_bg M) (md_nu M) (md_wr M)) (hn30 : n ≤ 30) (kx : xj v κ post z (xw_up G 21 (pM v (md_th M) (nR te (cpN 8 (hsM ho hs (md_so M) n) ho) ow hs ra lo (nI n) st av so ln) (md_pt M) (md_re M) (md_sd M) (md_be M) (md_pb M) (md_ac M) (md_od M) (md_ad M) (md_wy M) (md_so M) (md_rl M) (md_io M) (md_po M) (md_sp M) (md_rs M) (md_st M) (md_av M) (md_ip M) (md_tx M) (md_tm M) (md_ta M) (md_td M) (md_wo M) (md_sq M) (md_tk M) (md_bg M) (md_nu M) (md_wr M))) 88 [some (.ref (xw_ad v 21 0)), some (.int x), some (.long (y)), none, some (.int (nI 8)), none] []) : ∀ (m : Nat) (k : Nat), 8 - k < m → k ≤ 8 → xj v κ post z (xw_up G 21 (pM v (md_th M) (nR te (cpN k (hsM ho hs (md_so M) n) ho) ow hs ra lo (nI n) st av so ln) (md_pt M) (md_re M) (md_sd M) (md_be M) (md_pb M) (md_ac M) (md_od M) (md_ad M) (md_wy M) (md_so M) (md_rl M) (md_io M) (md_po M) (md_sp M) (md_rs M) (md_st M) (md_av M) (md_ip M) (md_tx M) (md_tm M) (md_ta M) (md_td M) (md_wo M) (md_sq M) (md_tk M) (md_bg M) (md_nu M) (md_wr M))) 30 [some (.ref (xw_ad v 21 0)), some (.int x), some (.long (y)), none, some (.int (nI k)), none] [] := by
  intro m
  induction m with
  | zero => intro k h; exact absurd h (Nat.not_lt_zero _)
  | succ m ih =>
    intro k hm hi
    refine xj_iload hk dX8_settle_30 rfl ?_
    refine xj_bipush (x := 8) hk dX8_settle_32 (by decide) ?_
    refine xj_icmp_ge (tgt := 88) hk dX8_settle_34 (by decide) (fun c34 => ?_) (fun c34 => ?_)
    · have c34 : 8 ≤ k := (nI_leI (a := 8) (b := k) (by omega) (by omega)).mp c34
      have e9 : k = 8 := by omega
      subst e9
      exact kx
    · have c34 : ¬ 8 ≤ k := fun q => c34 ((nI_leI (a := 8) (b := k) (by omega) (by omega)).mpr q)
      refine xj_aload_n (i := 0) hk dX8_settle_37 rfl rfl ?_
      refine xj_getfield hk dX8_settle_38 fl_X8_13 (xw_at xw_up_s rfl) rfl ?_
      refine xj_bipush (x := 7) hk dX8_settle_41 (by decide) ?_
      refine xj_iload hk dX8_settle_43 rfl ?_
      refine xj_iadd hk dX8_settle_45 ?_
      refine xj.eqi (x' := nI (7 + k)) (nI_add 7 k) ?_
      refine xj_iaload (k := 7 + k) hk dX8_settle_46 (xw_at xw_up_s rfl) (xi_n (by omega) (by decide)) ?_
      refine xj.eqi (x' := (cpN k (hsM ho hs (md_so M) n) ho) k) (rR_ho (k := k) (by omega)) ?_
      refine xj.eqi (x' := ho k) cp_at ?_
      refine xj_aload_n (i := 0) hk dX8_settle_47 rfl rfl ?_
      refine xj_iload hk dX8_settle_48 rfl ?_
      refine xj_callV hk hz (fr1 := 1) (lo1 := 21) (r1 := some (.int (sm (sel hs (nI k) (md_so M)) n))) (As := [.int (nI k)]) (st := [.int (ho k)]) (st2 := [.int (sm (sel hs (nI k) (md_so M)) n), .int (ho k)]) (G1 := xw_up G 21 (pM v (md_th M) (nR te (cpN k (hsM ho hs (md_so M) n) ho) ow hs ra lo (nI n) st av so ln) (md_pt M) (md_re M) (md_sd M) (md_be M) (md_pb M) (md_ac M) (md_od M) (md_ad M) (md_wy M) (md_so M) (md_rl M) (md_io M) (md_po M) (md_sp M) (md_rs M) (md_st M) (md_av M) (md_ip M) (md_tx M) (md_tm M) (md_ta M) (md_td M) (md_wo M) (md_sq M) (md_tk M) (md_bg M) (md_nu M) (md_wr M))) ml_X8_184 (c_X8_soldOf (n := n) (M := M) (show (xw_up G 21 (pM v (md_th M) (nR te (cpN k (hsM ho hs (md_so M) n) ho) ow hs ra lo (nI n) st av so ln) (md_pt M) (md_re M) (md_sd M) (md_be M) (md_pb M) (md_ac M) (md_od M) (md_ad M) (md_wy M) (md_so M) (md_rl M) (md_io M) (md_po M) (md_sp M) (md_rs M) (md_st M) (md_av M) (md_ip M) (md_tx M) (md_tm M) (md_ta M) (md_td M) (md_wo M) (md_sq M) (md_tk M) (md_bg M) (md_nu M) (md_wr M))) 21 = pM v (md_th M) (nR te (cpN k (hsM ho hs (md_so M) n) ho) ow hs ra lo (nI n) st av so ln) (md_pt M) (md_re M) (md_sd M) (md_be M) (md_pb M) (md_ac M) (md_od M) (md_ad M) (md_wy M) (md_so M) (md_rl M) (md_io M) (md_po M) (md_sp M) (md_rs M) (md_st M) (md_av M) (md_ip M) (md_tx M) (md_tm M) (md_ta M) (md_td M) (md_wo M) (md_sq M) (md_tk M) (md_bg M) (md_nu M) (md_wr M) from xw_up_s) hn30 (nI k)) (xw_at xw_up_s rfl) rfl dX8_settle_50 ⟨Nat.le_of_ble_eq_true rfl, Nat.le_of_ble_eq_true rfl⟩ rfl (Nat.le_of_ble_eq_true rfl) rfl rfl ?_
      refine xj_iadd hk dX8_settle_53 ?_
      refine xj_istore (i := 5) (ls2 := [some (.ref (xw_ad v 21 0)), some (.int x), some (.long (y)), none, some (.int (nI k)), some (.int ((ho k) + (sm (sel hs (nI k) (md_so M)) n)))]) hk dX8_settle_54 (by decide) rfl rfl ?_
      refine xj_aload_n (i := 0) hk dX8_settle_56 rfl rfl ?_
      refine xj_getfield hk dX8_settle_57 fl_X8_13 (xw_at xw_up_s rfl) rfl ?_
      refine xj_bipush (x := 7) hk dX8_settle_60 (by decide) ?_
      refine xj_iload hk dX8_settle_62 rfl ?_
      refine xj_iadd hk dX8_settle_64 ?_
      refine xj.eqi (x' := nI (7 + k)) (nI_add 7 k) ?_
      refine xj_iload hk dX8_settle_65 rfl ?_
      refine xj_sipush (x := 9999) hk dX8_settle_67 (by decide) ?_
      refine xj_icmp_le (tgt := 79) hk dX8_settle_70 (by decide) (fun c70 => ?_) (fun c70 => ?_)
      · refine xj_iload hk dX8_settle_79 rfl ?_
        refine xj_iastore (k := 7 + k) (G2 := xw_up G 21 (pM v (md_th M) (xu (nR te (cpN k (hsM ho hs (md_so M) n) ho) ow hs ra lo (nI n) st av so ln) (7 + k) ((ho k) + (sm (sel hs (nI k) (md_so M)) n))) (md_pt M) (md_re M) (md_sd M) (md_be M) (md_pb M) (md_ac M) (md_od M) (md_ad M) (md_wy M) (md_so M) (md_rl M) (md_io M) (md_po M) (md_sp M) (md_rs M) (md_st M) (md_av M) (md_ip M) (md_tx M) (md_tm M) (md_ta M) (md_td M) (md_wo M) (md_sq M) (md_tk M) (md_bg M) (md_nu M) (md_wr M))) hk dX8_settle_81 (xw_at xw_up_s rfl) (xi_n (by omega) (by decide)) (xw_wr2 rfl) ?_
        refine xj.eqG (G' := xw_up G 21 (pM v (md_th M) (nR te (xu (cpN k (hsM ho hs (md_so M) n) ho) k ((ho k) + (sm (sel hs (nI k) (md_so M)) n))) ow hs ra lo (nI n) st av so ln) (md_pt M) (md_re M) (md_sd M) (md_be M) (md_pb M) (md_ac M) (md_od M) (md_ad M) (md_wy M) (md_so M) (md_rl M) (md_io M) (md_po M) (md_sp M) (md_rs M) (md_st M) (md_av M) (md_ip M) (md_tx M) (md_tm M) (md_ta M) (md_td M) (md_wo M) (md_sq M) (md_tk M) (md_bg M) (md_nu M) (md_wr M))) (by rw [wR_ho (k := k) (by omega)]) ?_
        refine xj_iinc (i := 4) (x2 := nI (k + 1)) (ls2 := [some (.ref (xw_ad v 21 0)), some (.int x), some (.long (y)), none, some (.int (nI (k + 1))), some (.int ((ho k) + (sm (sel hs (nI k) (md_so M)) n)))]) hk dX8_settle_82 rfl (nI_1 k) (by decide) rfl rfl ?_
        refine xj_goto (tgt := 30) hk dX8_settle_85 (by decide) ?_
        refine xj.le (ls' := [some (.ref (xw_ad v 21 0)), some (.int x), some (.long (y)), none, some (.int (nI (k + 1))), none]) (by simp [xl_le] <;> rfl) ?_
        refine xj.eqG (G' := xw_up G 21 (pM v (md_th M) (nR te (cpN ((k + 1)) (hsM ho hs (md_so M) n) ho) ow hs ra lo (nI n) st av so ln) (md_pt M) (md_re M) (md_sd M) (md_be M) (md_pb M) (md_ac M) (md_od M) (md_ad M) (md_wy M) (md_so M) (md_rl M) (md_io M) (md_po M) (md_sp M) (md_rs M) (md_st M) (md_av M) (md_ip M) (md_tx M) (md_tm M) (md_ta M) (md_td M) (md_wo M) (md_sq M) (md_tk M) (md_bg M) (md_nu M) (md_wr M))) (by rw [← cp_s]; simp only [hsM]; first | rw [if_pos c70] | rw [if_neg c70]) (ih (k + 1) (by omega) (by omega))
      · refine xj_sipush (x := 9999) hk dX8_settle_73 (by decide) ?_
        refine xj_goto (tgt := 81) hk dX8_settle_76 (by decide) ?_
        refine xj_iastore (k := 7 + k) (G2 := xw_up G 21 (pM v (md_th M) (xu (nR te (cpN k (hsM ho hs (md_so M) n) ho) ow hs ra lo (nI n) st av so ln) (7 + k) 9999) (md_pt M) (md_re M) (md_sd M) (md_be M) (md_pb M) (md_ac M) (md_od M) (md_ad M) (md_wy M) (md_so M) (md_rl M) (md_io M) (md_po M) (md_sp M) (md_rs M) (md_st M) (md_av M) (md_ip M) (md_tx M) (md_tm M) (md_ta M) (md_td M) (md_wo M) (md_sq M) (md_tk M) (md_bg M) (md_nu M) (md_wr M))) hk dX8_settle_81 (xw_at xw_up_s rfl) (xi_n (by omega) (by decide)) (xw_wr2 rfl) ?_
        refine xj.eqG (G' := xw_up G 21 (pM v (md_th M) (nR te (xu (cpN k (hsM ho hs (md_so M) n) ho) k 9999) ow hs ra lo (nI n) st av so ln) (md_pt M) (md_re M) (md_sd M) (md_be M) (md_pb M) (md_ac M) (md_od M) (md_ad M) (md_wy M) (md_so M) (md_rl M) (md_io M) (md_po M) (md_sp M) (md_rs M) (md_st M) (md_av M) (md_ip M) (md_tx M) (md_tm M) (md_ta M) (md_td M) (md_wo M) (md_sq M) (md_tk M) (md_bg M) (md_nu M) (md_wr M))) (by rw [wR_ho (k := k) (by omega)]) ?_
        refine xj_iinc (i := 4) (x2 := nI (k + 1)) (ls2 := [some (.ref (xw_ad v 21 0)), some (.int x), some (.long (y)), none, some (.int (nI (k + 1))), some (.int ((ho k) + (sm (sel hs (nI k) (md_so M)) n)))]) hk dX8_settle_82 rfl (nI_1 k) (by decide) rfl rfl ?_
        refine xj_goto (tgt := 30) hk dX8_settle_85 (by decide) ?_
        refine xj.le (ls' := [some (.ref (xw_ad v 21 0)), some (.int x), some (.long (y)), none, some (.int (nI (k + 1))), none]) (by simp [xl_le] <;> rfl) ?_
        refine xj.eqG (G' := xw_up G 21 (pM v (md_th M) (nR te (cpN ((k + 1)) (hsM ho hs (md_so M) n) ho) ow hs ra lo (nI n) st av so ln) (md_pt M) (md_re M) (md_sd M) (md_be M) (md_pb M) (md_ac M) (md_od M) (md_ad M) (md_wy M) (md_so M) (md_rl M) (md_io M) (md_po M) (md_sp M) (md_rs M) (md_st M) (md_av M) (md_ip M) (md_tx M) (md_tm M) (md_ta M) (md_td M) (md_wo M) (md_sq M) (md_tk M) (md_bg M) (md_nu M) (md_wr M))) (by rw [← cp_s]; simp only [hsM]; first | rw [if_pos c70] | rw [if_neg c70]) (ih (k + 1) (by omega) (by omega))

set_option maxHeartbeats 1000000 in
set_option maxRecDepth 10000 in
theorem l_X8_settle_103 {v : xw_V} {κ : xk_K} {post : Option Value → xw_G → Prop} {z : Nat × Nat × Nat} {G : xw_G} {M : md_T} {x : Int32} {y : Int64} (hk : xk_Ok v κ yX8_settle cX8_settle 6 (some .int) 4 89) (hz : xk_zf κ = z) (hM0 : G 21 = pc_M v M) (kx : xj v κ post z (xw_up G 21 (pM v (md_th M) (shE 24 (md_no M)) (md_pt M) (md_re M) (md_sd M) (md_be M) (md_pb M) (md_ac M) (md_od M) (md_ad M) (md_wy M) (md_so M) (md_rl M) (md_io M) (md_po M) (md_sp M) (md_rs M) (md_st M) (md_av M) (md_ip M) (md_tx M) (md_tm M) (md_ta M) (md_td M) (md_wo M) (md_sq M) (md_tk M) (md_bg M) (md_nu M) (md_wr M))) 138 [some (.ref (xw_ad v 21 0)), some (.int x), some (.long (y)), none, some (.int (nI 24)), none] []) : ∀ (m : Nat) (k : Nat), 24 - k < m → k ≤ 24 → 3 ≤ k → xj v κ post z (xw_up G 21 (pM v (md_th M) (shE k (md_no M)) (md_pt M) (md_re M) (md_sd M) (md_be M) (md_pb M) (md_ac M) (md_od M) (md_ad M) (md_wy M) (md_so M) (md_rl M) (md_io M) (md_po M) (md_sp M) (md_rs M) (md_st M) (md_av M) (md_ip M) (md_tx M) (md_tm M) (md_ta M) (md_td M) (md_wo M) (md_sq M) (md_tk M) (md_bg M) (md_nu M) (md_wr M))) 103 [some (.ref (xw_ad v 21 0)), some (.int x), some (.long (y)), none, some (.int (nI k)), none] [] := by
  intro m
  induction m with
  | zero => intro k h; exact absurd h (Nat.not_lt_zero _)
  | succ m ih =>
    intro k hm hi hj
    refine xj_iload hk dX8_settle_103 rfl ?_
    refine xj_bipush (x := 24) hk dX8_settle_105 (by decide) ?_
    refine xj_icmp_ge (tgt := 138) hk dX8_settle_107 (by decide) (fun c107 => ?_) (fun c107 => ?_)
    · have c107 : 24 ≤ k := (nI_leI (a := 24) (b := k) (by omega) (by omega)).mp c107
      have e9 : k = 24 := by omega
      subst e9
      exact kx
    · have c107 : ¬ 24 ≤ k := fun q => c107 ((nI_leI (a := 24) (b := k) (by omega) (by omega)).mpr q)
      refine xj_aload_n (i := 0) hk dX8_settle_110 rfl rfl ?_
      refine xj_getfield hk dX8_settle_111 fl_X8_13 (xw_at xw_up_s rfl) rfl ?_
      refine xj_bipush (x := 115) hk dX8_settle_114 (by decide) ?_
      refine xj_iload hk dX8_settle_116 rfl ?_
      refine xj_iadd hk dX8_settle_118 ?_
      refine xj.eqi (x' := nI (115 + k)) (nI_add 115 k) ?_
      refine xj_iconst (x := 3) hk dX8_settle_119 (by decide) ?_
      refine xj_isub hk dX8_settle_120 ?_
      refine xj.eqi (x' := nI (115 + k - 3)) (nI_sub (a := 115 + k) (b := 3) (by omega)) ?_
      refine xj_aload_n (i := 0) hk dX8_settle_121 rfl rfl ?_
      refine xj_getfield hk dX8_settle_122 fl_X8_13 (xw_at xw_up_s rfl) rfl ?_
      refine xj_bipush (x := 115) hk dX8_settle_125 (by decide) ?_
      refine xj_iload hk dX8_settle_127 rfl ?_
      refine xj_iadd hk dX8_settle_129 ?_
      refine xj.eqi (x' := nI (115 + k)) (nI_add 115 k) ?_
      refine xj_iaload (k := 115 + k) hk dX8_settle_130 (xw_at xw_up_s rfl) (xi_n (by omega) (by decide)) ?_
      refine xj_iastore (k := 115 + k - 3) (G2 := xw_up G 21 (pM v (md_th M) (xu (shE k (md_no M)) (115 + k - 3) ((shE k (md_no M)) (115 + k))) (md_pt M) (md_re M) (md_sd M) (md_be M) (md_pb M) (md_ac M) (md_od M) (md_ad M) (md_wy M) (md_so M) (md_rl M) (md_io M) (md_po M) (md_sp M) (md_rs M) (md_st M) (md_av M) (md_ip M) (md_tx M) (md_tm M) (md_ta M) (md_td M) (md_wo M) (md_sq M) (md_tk M) (md_bg M) (md_nu M) (md_wr M))) hk dX8_settle_131 (xw_at xw_up_s rfl) (xi_n (by omega) (by decide)) (xw_wr2 rfl) ?_
      refine xj_iinc (i := 4) (x2 := nI (k + 1)) (ls2 := [some (.ref (xw_ad v 21 0)), some (.int x), some (.long (y)), none, some (.int (nI (k + 1))), none]) hk dX8_settle_132 rfl (nI_1 k) (by decide) rfl rfl ?_
      refine xj_goto (tgt := 103) hk dX8_settle_135 (by decide) ?_
      refine xj.eqG (G' := xw_up G 21 (pM v (md_th M) (shE ((k + 1)) (md_no M)) (md_pt M) (md_re M) (md_sd M) (md_be M) (md_pb M) (md_ac M) (md_od M) (md_ad M) (md_wy M) (md_so M) (md_rl M) (md_io M) (md_po M) (md_sp M) (md_rs M) (md_st M) (md_av M) (md_ip M) (md_tx M) (md_tm M) (md_ta M) (md_td M) (md_wo M) (md_sq M) (md_tk M) (md_bg M) (md_nu M) (md_wr M))) (by rw [shE_s _ (by omega)]) (ih (k + 1) (by omega) (by omega) (by omega))

set_option maxHeartbeats 1000000 in
set_option maxRecDepth 10000 in
theorem l_X8_settle_141 {v : xw_V} {κ : xk_K} {post : Option Value → xw_G → Prop} {z : Nat × Nat × Nat} {G : xw_G} {M : md_T} {x : Int32} {y : Int64} (hk : xk_Ok v κ yX8_settle cX8_settle 6 (some .int) 4 89) (hz : xk_zf κ = z) (hM0 : G 21 = pc_M v M) (kx : xj v κ post z (xw_up G 21 (pM v (md_th M) (md_no M) (shB 1 (md_pt M) 8) (md_re M) (md_sd M) (md_be M) (md_pb M) (md_ac M) (md_od M) (md_ad M) (md_wy M) (md_so M) (md_rl M) (md_io M) (md_po M) (md_sp M) (md_rs M) (md_st M) (md_av M) (md_ip M) (md_tx M) (md_tm M) (md_ta M) (md_td M) (md_wo M) (md_sq M) (md_tk M) (md_bg M) (md_nu M) (md_wr M))) 170 [some (.ref (xw_ad v 21 0)), some (.int x), some (.long (y)), none, some (.int (nI 8)), none] []) : ∀ (m : Nat) (k : Nat), 8 - k < m → k ≤ 8 → 1 ≤ k → xj v κ post z (xw_up G 21 (pM v (md_th M) (md_no M) (shB 1 (md_pt M) k) (md_re M) (md_sd M) (md_be M) (md_pb M) (md_ac M) (md_od M) (md_ad M) (md_wy M) (md_so M) (md_rl M) (md_io M) (md_po M) (md_sp M) (md_rs M) (md_st M) (md_av M) (md_ip M) (md_tx M) (md_tm M) (md_ta M) (md_td M) (md_wo M) (md_sq M) (md_tk M) (md_bg M) (md_nu M) (md_wr M))) 141 [some (.ref (xw_ad v 21 0)), some (.int x), some (.long (y)), none, some (.int (nI k)), none] [] := by
  intro m
  induction m with
  | zero => intro k h; exact absurd h (Nat.not_lt_zero _)
  | succ m ih =>
    intro k hm hi hj
    refine xj_iload hk dX8_settle_141 rfl ?_
    refine xj_bipush (x := 8) hk dX8_settle_143 (by decide) ?_
    refine xj_icmp_ge (tgt := 170) hk dX8_settle_145 (by decide) (fun c145 => ?_) (fun c145 => ?_)
    · have c145 : 8 ≤ k := (nI_leI (a := 8) (b := k) (by omega) (by omega)).mp c145
      have e9 : k = 8 := by omega
      subst e9
      exact kx
    · have c145 : ¬ 8 ≤ k := fun q => c145 ((nI_leI (a := 8) (b := k) (by omega) (by omega)).mpr q)
      refine xj_aload_n (i := 0) hk dX8_settle_148 rfl rfl ?_
      refine xj_getfield hk dX8_settle_149 fl_X8_17 (xw_at xw_up_s rfl) rfl ?_
      refine xj_iload hk dX8_settle_152 rfl ?_
      refine xj_iconst (x := 1) hk dX8_settle_154 (by decide) ?_
      refine xj_isub hk dX8_settle_155 ?_
      refine xj.eqi (x' := nI (k - 1)) (nI_sub1 (by omega)) ?_
      refine xj_aload_n (i := 0) hk dX8_settle_156 rfl rfl ?_
      refine xj_getfield hk dX8_settle_157 fl_X8_17 (xw_at xw_up_s rfl) rfl ?_
      refine xj_iload hk dX8_settle_160 rfl ?_
      refine xj_laload (k := k) hk dX8_settle_162 (xw_at xw_up_s rfl) (xi_n (by omega) (by decide)) ?_
      refine xj_lastore (k := k - 1) (G2 := xw_up G 21 (pM v (md_th M) (md_no M) (xu (shB 1 (md_pt M) k) (k - 1) ((shB 1 (md_pt M) k) k)) (md_re M) (md_sd M) (md_be M) (md_pb M) (md_ac M) (md_od M) (md_ad M) (md_wy M) (md_so M) (md_rl M) (md_io M) (md_po M) (md_sp M) (md_rs M) (md_st M) (md_av M) (md_ip M) (md_tx M) (md_tm M) (md_ta M) (md_td M) (md_wo M) (md_sq M) (md_tk M) (md_bg M) (md_nu M) (md_wr M))) hk dX8_settle_163 (xw_at xw_up_s rfl) (xi_n (by omega) (by decide)) (xw_wr2 rfl) ?_
      refine xj_iinc (i := 4) (x2 := nI (k + 1)) (ls2 := [some (.ref (xw_ad v 21 0)), some (.int x), some (.long (y)), none, some (.int (nI (k + 1))), none]) hk dX8_settle_164 rfl (nI_1 k) (by decide) rfl rfl ?_
      refine xj_goto (tgt := 141) hk dX8_settle_167 (by decide) ?_
      refine xj.eqG (G' := xw_up G 21 (pM v (md_th M) (md_no M) (shB 1 (md_pt M) ((k + 1))) (md_re M) (md_sd M) (md_be M) (md_pb M) (md_ac M) (md_od M) (md_ad M) (md_wy M) (md_so M) (md_rl M) (md_io M) (md_po M) (md_sp M) (md_rs M) (md_st M) (md_av M) (md_ip M) (md_tx M) (md_tm M) (md_ta M) (md_td M) (md_wo M) (md_sq M) (md_tk M) (md_bg M) (md_nu M) (md_wr M))) (by rw [shB_s (md_pt M) (by omega) (by decide)]) (ih (k + 1) (by omega) (by omega) (by omega))

theorem hsM_ag {n : Nat} {K : sl_T} {ho hs od ad wy so : Nat → Int32} (hag : agS n (sl_w K od ad wy so) K) : cpN 8 (hsM ho hs so n) ho = cpN 8 (hsM ho hs (sl_so K) n) ho := by
  funext j
  simp only [cpN, hsM]
  rw [show sm (sel hs (nI j) so) n = sm (sel hs (nI j) (sl_so K)) n from selso2_ag hag]
set_option maxHeartbeats 1000000 in
set_option maxRecDepth 10000 in
theorem c_X8_settle {v : xw_V} {G : xw_G} {M : md_T} {te ho ow hs ra lo st av so : Nat → Int32}  {n r a : Nat} (hM : G 21 = pM v (md_th M) (nR te ho ow hs ra lo (nI n) st av so (nI r)) (md_pt M) (md_re M) (md_sd M) (md_be M) (md_pb M) (md_ac M) (md_od M) (md_ad M) (md_wy M) (md_so M) (md_rl M) (md_io M) (md_po M) (md_sp M) (md_rs M) (md_st M) (md_av M) (md_ip M) (md_tx M) (md_tm M) (md_ta M) (md_td M) (md_wo M) (md_sq M) (md_tk M) (md_bg M) (md_nu M) (md_wr M)) (hq : MV te ow hs ra lo n) (hr8 : r ≤ 8) (hac : md_ac M = nI a) (ha12 : a ≤ 12) : xk_Con v yX8_settle cX8_settle 6 (some .int) 4 89 [.ref (xw_ad v 21 0)] G (fun r9 G' => (¬ n = 0 ∧ ∃ (be1 : Nat → Int32) (pb1 : Nat → Int64), KP a (nR te ho ow hs ra lo (nI n) st av so (nI r)) (md_be M) (md_pt M) (md_pb M) be1 pb1 ∧ r9 = some (.int (sl_sp (kM te ho ow hs ra lo n) + sl_sr (kM te ho ow hs ra lo n))) ∧ mAc v G G' (nR te (cpN 8 (hsM ho hs (sl_so (kM te ho ow hs ra lo n)) n) ho) ow hs ra lo 0 (xu (lnS r st) (min r 7) (sl_st (kM te ho ow hs ra lo n))) (xu (lnS r av) (min r 7) (sl_av (kM te ho ow hs ra lo n))) (xu (lnS r so) (min r 7) (sl_sp (kM te ho ow hs ra lo n) + sl_sr (kM te ho ow hs ra lo n))) (nI (min r 7 + 1))) (xu (lnS r (md_pt M)) (min r 7) (sml (payF (mB te ho ow hs ra lo n) (kM te ho ow hs ra lo n)) n)) be1 pb1 (nI (min a 11 + 1)) (md_ta M) (md_td M) (md_wo M)) ∨ (n = 0 ∧ r9 = some (.int (-1)) ∧ mQ v G G' (nR te ho ow hs ra lo (nI n) st av so (nI r)) M)) := by
  refine xk_of (ls0 := [some (.ref (xw_ad v 21 0)), none, none, none, none, none]) (by decide) rfl (Nat.le_of_ble_eq_true rfl) ?_
  intro κ z hk hz
  have hn30 : n ≤ 30 := hq.1
  refine xj_aload_n (i := 0) hk dX8_settle_0 rfl rfl ?_
  refine xj_callV hk hz (fr1 := 0) (lo1 := 0) (r1 := some (.int (nI n))) (As := []) (st := []) (st2 := [.int (nI n)]) (G1 := G) ml_X8_73 (c_X8_many (M := M) (show G 21 = pM v (md_th M) (nR te ho ow hs ra lo (nI n) st av so (nI r)) (md_pt M) (md_re M) (md_sd M) (md_be M) (md_pb M) (md_ac M) (md_od M) (md_ad M) (md_wy M) (md_so M) (md_rl M) (md_io M) (md_po M) (md_sp M) (md_rs M) (md_st M) (md_av M) (md_ip M) (md_tx M) (md_tm M) (md_ta M) (md_td M) (md_wo M) (md_sq M) (md_tk M) (md_bg M) (md_nu M) (md_wr M) from hM)) (xw_at hM rfl) rfl dX8_settle_1 ⟨Nat.le_of_ble_eq_true rfl, Nat.le_of_ble_eq_true rfl⟩ rfl (Nat.le_of_ble_eq_true rfl) rfl rfl ?_
  refine xj_if_ne (tgt := 9) hk dX8_settle_4 (by decide) (fun c4 => ?_) (fun c4 => ?_)
  · have c4 : ¬ n = 0 := fun q => c4 ((nI_eq (a := n) (b := 0) (by omega) (by omega)).mpr q)
    refine xj_aload_n (i := 0) hk dX8_settle_9 rfl rfl ?_
    refine xj_callVE hk hz (fr1 := 0) (lo1 := 0) (As := []) (st := []) ml_X8_105 (c_X8_keeps (a := a) (M := (md_th M, nR te ho ow hs ra lo (nI n) st av so (nI r), md_pt M, md_re M, md_sd M, md_be M, md_pb M, md_ac M, md_od M, md_ad M, md_wy M, md_so M, md_rl M, md_io M, md_po M, md_sp M, md_rs M, md_st M, md_av M, md_ip M, md_tx M, md_tm M, md_ta M, md_td M, md_wo M, md_sq M, md_tk M, md_bg M, md_nu M, md_wr M)) (show G 21 = pM v (md_th M) (nR te ho ow hs ra lo (nI n) st av so (nI r)) (md_pt M) (md_re M) (md_sd M) (md_be M) (md_pb M) (md_ac M) (md_od M) (md_ad M) (md_wy M) (md_so M) (md_rl M) (md_io M) (md_po M) (md_sp M) (md_rs M) (md_st M) (md_av M) (md_ip M) (md_tx M) (md_tm M) (md_ta M) (md_td M) (md_wo M) (md_sq M) (md_tk M) (md_bg M) (md_nu M) (md_wr M) from hM) hac ha12) (xw_at hM rfl) rfl dX8_settle_10 ⟨Nat.le_of_ble_eq_true rfl, Nat.le_of_ble_eq_true rfl⟩ rfl (Nat.le_of_ble_eq_true rfl) rfl ?_
    rintro _ _ ⟨rfl, be1, pb1, hKP, rfl⟩
    have hKP : KP a (nR te ho ow hs ra lo (nI n) st av so (nI r)) (md_be M) (md_pt M) (md_pb M) be1 pb1 := hKP
    show xj v κ _ z (xw_up G 21 (pM v (md_th M) (nR te ho ow hs ra lo (nI n) st av so (nI r)) (md_pt M) (md_re M) (md_sd M) be1 pb1 (nI (min a 11 + 1)) (md_od M) (md_ad M) (md_wy M) (md_so M) (md_rl M) (md_io M) (md_po M) (md_sp M) (md_rs M) (md_st M) (md_av M) (md_ip M) (md_tx M) (md_tm M) (md_ta M) (md_td M) (md_wo M) (md_sq M) (md_tk M) (md_bg M) (md_nu M) (md_wr M))) 13 _ []
    refine xj_aload_n (i := 0) hk dX8_settle_13 rfl rfl ?_
    refine xj_callVE hk hz (fr1 := 3) (lo1 := 65) (As := []) (st := []) ml_X8_174 (c_sellsK (n := n) (M := (md_th M, nR te ho ow hs ra lo (nI n) st av so (nI r), md_pt M, md_re M, md_sd M, be1, pb1, nI (min a 11 + 1), md_od M, md_ad M, md_wy M, md_so M, md_rl M, md_io M, md_po M, md_sp M, md_rs M, md_st M, md_av M, md_ip M, md_tx M, md_tm M, md_ta M, md_td M, md_wo M, md_sq M, md_tk M, md_bg M, md_nu M, md_wr M)) (show (xw_up G 21 (pM v (md_th M) (nR te ho ow hs ra lo (nI n) st av so (nI r)) (md_pt M) (md_re M) (md_sd M) be1 pb1 (nI (min a 11 + 1)) (md_od M) (md_ad M) (md_wy M) (md_so M) (md_rl M) (md_io M) (md_po M) (md_sp M) (md_rs M) (md_st M) (md_av M) (md_ip M) (md_tx M) (md_tm M) (md_ta M) (md_td M) (md_wo M) (md_sq M) (md_tk M) (md_bg M) (md_nu M) (md_wr M))) 21 = pM v (md_th M) (nR te ho ow hs ra lo (nI n) st av so (nI r)) (md_pt M) (md_re M) (md_sd M) be1 pb1 (nI (min a 11 + 1)) (md_od M) (md_ad M) (md_wy M) (md_so M) (md_rl M) (md_io M) (md_po M) (md_sp M) (md_rs M) (md_st M) (md_av M) (md_ip M) (md_tx M) (md_tm M) (md_ta M) (md_td M) (md_wo M) (md_sq M) (md_tk M) (md_bg M) (md_nu M) (md_wr M) from xw_up_s) hq) (xw_at xw_up_s rfl) rfl dX8_settle_14 ⟨Nat.le_of_ble_eq_true rfl, Nat.le_of_ble_eq_true rfl⟩ rfl (Nat.le_of_ble_eq_true rfl) rfl ?_
    rintro _ _ ⟨rfl, od, ad, wy, rl, so3, io3, hag, rfl⟩
    simp only [xw_up_u]
    have hag : agS n (sl_w (kM te ho ow hs ra lo n) od ad wy so3) (kM te ho ow hs ra lo n) := hag
    show xj v κ _ z (xw_up G 21 (pM v (md_th M) (nR te ho ow hs ra lo (nI n) st av so (nI r)) (md_pt M) (md_re M) (md_sd M) be1 pb1 (nI (min a 11 + 1)) od ad wy so3 rl io3 (sl_po (kM te ho ow hs ra lo n)) (sl_sp (kM te ho ow hs ra lo n)) (sl_rs (kM te ho ow hs ra lo n)) (sl_st (kM te ho ow hs ra lo n)) (sl_av (kM te ho ow hs ra lo n)) (sl_pt (kM te ho ow hs ra lo n)) (md_tx M) (md_tm M) (md_ta M) (md_td M) (md_wo M) (md_sq M) (md_tk M) (md_bg M) (md_nu M) (md_wr M))) 17 _ []
    refine xj_aload_n (i := 0) hk dX8_settle_17 rfl rfl ?_
    refine xj_callV hk hz (fr1 := 1) (lo1 := 20) (r1 := some (.int (sm so3 n))) (As := []) (st := []) (st2 := [.int (sm so3 n)]) (G1 := xw_up G 21 (pM v (md_th M) (nR te ho ow hs ra lo (nI n) st av so (nI r)) (md_pt M) (md_re M) (md_sd M) be1 pb1 (nI (min a 11 + 1)) od ad wy so3 rl io3 (sl_po (kM te ho ow hs ra lo n)) (sl_sp (kM te ho ow hs ra lo n)) (sl_rs (kM te ho ow hs ra lo n)) (sl_st (kM te ho ow hs ra lo n)) (sl_av (kM te ho ow hs ra lo n)) (sl_pt (kM te ho ow hs ra lo n)) (md_tx M) (md_tm M) (md_ta M) (md_td M) (md_wo M) (md_sq M) (md_tk M) (md_bg M) (md_nu M) (md_wr M))) ml_X8_177 (c_X8_soldAll (n := n) (M := (md_th M, nR te ho ow hs ra lo (nI n) st av so (nI r), md_pt M, md_re M, md_sd M, be1, pb1, nI (min a 11 + 1), od, ad, wy, so3, rl, io3, sl_po (kM te ho ow hs ra lo n), sl_sp (kM te ho ow hs ra lo n), sl_rs (kM te ho ow hs ra lo n), sl_st (kM te ho ow hs ra lo n), sl_av (kM te ho ow hs ra lo n), sl_pt (kM te ho ow hs ra lo n), md_tx M, md_tm M, md_ta M, md_td M, md_wo M, md_sq M, md_tk M, md_bg M, md_nu M, md_wr M)) (show (xw_up G 21 (pM v (md_th M) (nR te ho ow hs ra lo (nI n) st av so (nI r)) (md_pt M) (md_re M) (md_sd M) be1 pb1 (nI (min a 11 + 1)) od ad wy so3 rl io3 (sl_po (kM te ho ow hs ra lo n)) (sl_sp (kM te ho ow hs ra lo n)) (sl_rs (kM te ho ow hs ra lo n)) (sl_st (kM te ho ow hs ra lo n)) (sl_av (kM te ho ow hs ra lo n)) (sl_pt (kM te ho ow hs ra lo n)) (md_tx M) (md_tm M) (md_ta M) (md_td M) (md_wo M) (md_sq M) (md_tk M) (md_bg M) (md_nu M) (md_wr M))) 21 = pM v (md_th M) (nR te ho ow hs ra lo (nI n) st av so (nI r)) (md_pt M) (md_re M) (md_sd M) be1 pb1 (nI (min a 11 + 1)) od ad wy so3 rl io3 (sl_po (kM te ho ow hs ra lo n)) (sl_sp (kM te ho ow hs ra lo n)) (sl_rs (kM te ho ow hs ra lo n)) (sl_st (kM te ho ow hs ra lo n)) (sl_av (kM te ho ow hs ra lo n)) (sl_pt (kM te ho ow hs ra lo n)) (md_tx M) (md_tm M) (md_ta M) (md_td M) (md_wo M) (md_sq M) (md_tk M) (md_bg M) (md_nu M) (md_wr M) from xw_up_s) hn30) (xw_at xw_up_s rfl) rfl dX8_settle_18 ⟨Nat.le_of_ble_eq_true rfl, Nat.le_of_ble_eq_true rfl⟩ rfl (Nat.le_of_ble_eq_true rfl) rfl rfl ?_
    refine xj.eqi (x' := sl_sp (kM te ho ow hs ra lo n) + sl_sr (kM te ho ow hs ra lo n)) (fig_so (kMF (ho := ho) hq) hag) ?_
    refine xj_istore_n (i := 1) (ls2 := [some (.ref (xw_ad v 21 0)), some (.int (sl_sp (kM te ho ow hs ra lo n) + sl_sr (kM te ho ow hs ra lo n))), none, none, none, none]) hk dX8_settle_21 rfl (by decide) rfl rfl ?_
    refine xj_aload_n (i := 0) hk dX8_settle_22 rfl rfl ?_
    refine xj_callV hk hz (fr1 := 3) (lo1 := 64) (r1 := some (.long (sml (payM te ra so3 (sl_st (kM te ho ow hs ra lo n)) (sl_av (kM te ho ow hs ra lo n))) n))) (As := []) (st := []) (st2 := [.long (sml (payM te ra so3 (sl_st (kM te ho ow hs ra lo n)) (sl_av (kM te ho ow hs ra lo n))) n)]) (G1 := xw_up G 21 (pM v (md_th M) (nR te ho ow hs ra lo (nI n) st av so (nI r)) (md_pt M) (md_re M) (md_sd M) be1 pb1 (nI (min a 11 + 1)) od ad wy so3 rl io3 (sl_po (kM te ho ow hs ra lo n)) (sl_sp (kM te ho ow hs ra lo n)) (sl_rs (kM te ho ow hs ra lo n)) (sl_st (kM te ho ow hs ra lo n)) (sl_av (kM te ho ow hs ra lo n)) (sl_pt (kM te ho ow hs ra lo n)) (md_tx M) (md_tm M) (md_ta M) (md_td M) (md_wo M) (md_sq M) (md_tk M) (md_bg M) (md_nu M) (md_wr M))) ml_X8_180 (c_X8_paidAll (n := n) (M := (md_th M, nR te ho ow hs ra lo (nI n) st av so (nI r), md_pt M, md_re M, md_sd M, be1, pb1, nI (min a 11 + 1), od, ad, wy, so3, rl, io3, sl_po (kM te ho ow hs ra lo n), sl_sp (kM te ho ow hs ra lo n), sl_rs (kM te ho ow hs ra lo n), sl_st (kM te ho ow hs ra lo n), sl_av (kM te ho ow hs ra lo n), sl_pt (kM te ho ow hs ra lo n), md_tx M, md_tm M, md_ta M, md_td M, md_wo M, md_sq M, md_tk M, md_bg M, md_nu M, md_wr M)) (show (xw_up G 21 (pM v (md_th M) (nR te ho ow hs ra lo (nI n) st av so (nI r)) (md_pt M) (md_re M) (md_sd M) be1 pb1 (nI (min a 11 + 1)) od ad wy so3 rl io3 (sl_po (kM te ho ow hs ra lo n)) (sl_sp (kM te ho ow hs ra lo n)) (sl_rs (kM te ho ow hs ra lo n)) (sl_st (kM te ho ow hs ra lo n)) (sl_av (kM te ho ow hs ra lo n)) (sl_pt (kM te ho ow hs ra lo n)) (md_tx M) (md_tm M) (md_ta M) (md_td M) (md_wo M) (md_sq M) (md_tk M) (md_bg M) (md_nu M) (md_wr M))) 21 = pM v (md_th M) (nR te ho ow hs ra lo (nI n) st av so (nI r)) (md_pt M) (md_re M) (md_sd M) be1 pb1 (nI (min a 11 + 1)) od ad wy so3 rl io3 (sl_po (kM te ho ow hs ra lo n)) (sl_sp (kM te ho ow hs ra lo n)) (sl_rs (kM te ho ow hs ra lo n)) (sl_st (kM te ho ow hs ra lo n)) (sl_av (kM te ho ow hs ra lo n)) (sl_pt (kM te ho ow hs ra lo n)) (md_tx M) (md_tm M) (md_ta M) (md_td M) (md_wo M) (md_sq M) (md_tk M) (md_bg M) (md_nu M) (md_wr M) from xw_up_s) hn30) (xw_at xw_up_s rfl) rfl dX8_settle_23 ⟨Nat.le_of_ble_eq_true rfl, Nat.le_of_ble_eq_true rfl⟩ rfl (Nat.le_of_ble_eq_true rfl) rfl rfl ?_
    refine xj.eql (x' := sml (payF (mB te ho ow hs ra lo n) (kM te ho ow hs ra lo n)) n) (Eq.trans (sml_congr (fun j _ => payM_F (ho := ho) (ow := ow) (hs := hs) (lo := lo) (n := n) (K := (sl_w (kM te ho ow hs ra lo n) od ad wy so3)) hq.2.2.2.1 j)) (pa_ag (B := (mB te ho ow hs ra lo n)) hag)) ?_
    refine xj_lstore_n (i := 2) (ls2 := [some (.ref (xw_ad v 21 0)), some (.int (sl_sp (kM te ho ow hs ra lo n) + sl_sr (kM te ho ow hs ra lo n))), some (.long (sml (payF (mB te ho ow hs ra lo n) (kM te ho ow hs ra lo n)) n)), none, none, none]) hk dX8_settle_26 rfl (by decide) rfl rfl ?_
    refine xj_iconst (x := 0) hk dX8_settle_27 (by decide) ?_
    refine xj_istore (i := 4) (ls2 := [some (.ref (xw_ad v 21 0)), some (.int (sl_sp (kM te ho ow hs ra lo n) + sl_sr (kM te ho ow hs ra lo n))), some (.long (sml (payF (mB te ho ow hs ra lo n) (kM te ho ow hs ra lo n)) n)), none, some (.int 0), none]) hk dX8_settle_28 (by decide) rfl rfl ?_
    refine xj.eqG (G' := xw_up (xw_up G 21 (pM v (md_th M) (nR te ho ow hs ra lo (nI n) st av so (nI r)) (md_pt M) (md_re M) (md_sd M) be1 pb1 (nI (min a 11 + 1)) od ad wy so3 rl io3 (sl_po (kM te ho ow hs ra lo n)) (sl_sp (kM te ho ow hs ra lo n)) (sl_rs (kM te ho ow hs ra lo n)) (sl_st (kM te ho ow hs ra lo n)) (sl_av (kM te ho ow hs ra lo n)) (sl_pt (kM te ho ow hs ra lo n)) (md_tx M) (md_tm M) (md_ta M) (md_td M) (md_wo M) (md_sq M) (md_tk M) (md_bg M) (md_nu M) (md_wr M))) 21 (pM v (md_th M) (nR te (cpN 0 (hsM ho hs so3 n) ho) ow hs ra lo (nI n) st av so (nI r)) (md_pt M) (md_re M) (md_sd M) be1 pb1 (nI (min a 11 + 1)) od ad wy so3 rl io3 (sl_po (kM te ho ow hs ra lo n)) (sl_sp (kM te ho ow hs ra lo n)) (sl_rs (kM te ho ow hs ra lo n)) (sl_st (kM te ho ow hs ra lo n)) (sl_av (kM te ho ow hs ra lo n)) (sl_pt (kM te ho ow hs ra lo n)) (md_tx M) (md_tm M) (md_ta M) (md_td M) (md_wo M) (md_sq M) (md_tk M) (md_bg M) (md_nu M) (md_wr M))) (by simp only [cp_0]; exact (xw_up_same xw_up_s).symm) ?_
    refine l_X8_settle_30 (M := (md_th M, nR te ho ow hs ra lo (nI n) st av so (nI r), md_pt M, md_re M, md_sd M, be1, pb1, nI (min a 11 + 1), od, ad, wy, so3, rl, io3, sl_po (kM te ho ow hs ra lo n), sl_sp (kM te ho ow hs ra lo n), sl_rs (kM te ho ow hs ra lo n), sl_st (kM te ho ow hs ra lo n), sl_av (kM te ho ow hs ra lo n), sl_pt (kM te ho ow hs ra lo n), md_tx M, md_tm M, md_ta M, md_td M, md_wo M, md_sq M, md_tk M, md_bg M, md_nu M, md_wr M)) hk hz (show (xw_up G 21 (pM v (md_th M) (nR te ho ow hs ra lo (nI n) st av so (nI r)) (md_pt M) (md_re M) (md_sd M) be1 pb1 (nI (min a 11 + 1)) od ad wy so3 rl io3 (sl_po (kM te ho ow hs ra lo n)) (sl_sp (kM te ho ow hs ra lo n)) (sl_rs (kM te ho ow hs ra lo n)) (sl_st (kM te ho ow hs ra lo n)) (sl_av (kM te ho ow hs ra lo n)) (sl_pt (kM te ho ow hs ra lo n)) (md_tx M) (md_tm M) (md_ta M) (md_td M) (md_wo M) (md_sq M) (md_tk M) (md_bg M) (md_nu M) (md_wr M))) 21 = pM v (md_th M) (nR te ho ow hs ra lo (nI n) st av so (nI r)) (md_pt M) (md_re M) (md_sd M) be1 pb1 (nI (min a 11 + 1)) od ad wy so3 rl io3 (sl_po (kM te ho ow hs ra lo n)) (sl_sp (kM te ho ow hs ra lo n)) (sl_rs (kM te ho ow hs ra lo n)) (sl_st (kM te ho ow hs ra lo n)) (sl_av (kM te ho ow hs ra lo n)) (sl_pt (kM te ho ow hs ra lo n)) (md_tx M) (md_tm M) (md_ta M) (md_td M) (md_wo M) (md_sq M) (md_tk M) (md_bg M) (md_nu M) (md_wr M) from xw_up_s) hn30 ?_ (8 + 1) 0 (by omega) (by omega)
    refine xj.eqG (G' := xw_up G 21 (pM v (md_th M) (nR te (cpN 8 (hsM ho hs (sl_so (kM te ho ow hs ra lo n)) n) ho) ow hs ra lo (nI n) st av so (nI r)) (md_pt M) (md_re M) (md_sd M) be1 pb1 (nI (min a 11 + 1)) od ad wy so3 rl io3 (sl_po (kM te ho ow hs ra lo n)) (sl_sp (kM te ho ow hs ra lo n)) (sl_rs (kM te ho ow hs ra lo n)) (sl_st (kM te ho ow hs ra lo n)) (sl_av (kM te ho ow hs ra lo n)) (sl_pt (kM te ho ow hs ra lo n)) (md_tx M) (md_tm M) (md_ta M) (md_td M) (md_wo M) (md_sq M) (md_tk M) (md_bg M) (md_nu M) (md_wr M))) (by rw [xw_up_u, ← hsM_ag (ho := ho) (hs := hs) hag]; rfl) ?_
    refine xj_aload_n (i := 0) hk dX8_settle_88 rfl rfl ?_
    refine xj_getfield hk dX8_settle_89 fl_X8_13 (xw_at xw_up_s rfl) rfl ?_
    refine xj_bipush (x := 114) hk dX8_settle_92 (by decide) ?_
    refine xj_iaload (k := 114) hk dX8_settle_94 (xw_at xw_up_s rfl) (xi_d 114 139 (by decide)) ?_
    refine xj.eqi (x' := nI r) rR_ln ?_
    refine xj_bipush (x := 8) hk dX8_settle_95 (by decide) ?_
    refine xj_icmp_ne (tgt := 181) hk dX8_settle_97 (by decide) (fun c97 => ?_) (fun c97 => ?_)
    · have c97 : ¬ r = 8 := fun q => c97 ((nI_eq (a := r) (b := 8) (by omega) (by omega)).mpr q)
      refine xj_aload_n (i := 0) hk dX8_settle_181 rfl rfl ?_
      refine xj_getfield hk dX8_settle_182 fl_X8_13 (xw_at xw_up_s rfl) rfl ?_
      refine xj_bipush (x := 114) hk dX8_settle_185 (by decide) ?_
      refine xj_iaload (k := 114) hk dX8_settle_187 (xw_at xw_up_s rfl) (xi_d 114 139 (by decide)) ?_
      refine xj.eqi (x' := nI r) rR_ln ?_
      refine xj_istore (i := 4) (ls2 := [some (.ref (xw_ad v 21 0)), some (.int (sl_sp (kM te ho ow hs ra lo n) + sl_sr (kM te ho ow hs ra lo n))), some (.long (sml (payF (mB te ho ow hs ra lo n) (kM te ho ow hs ra lo n)) n)), none, some (.int (nI r)), none]) hk dX8_settle_188 (by decide) rfl rfl ?_
      refine xj_aload_n (i := 0) hk dX8_settle_190 rfl rfl ?_
      refine xj_getfield hk dX8_settle_191 fl_X8_13 (xw_at xw_up_s rfl) rfl ?_
      refine xj_bipush (x := 115) hk dX8_settle_194 (by decide) ?_
      refine xj_iconst (x := 3) hk dX8_settle_196 (by decide) ?_
      refine xj_iload hk dX8_settle_197 rfl ?_
      refine xj_imul hk dX8_settle_199 ?_
      refine xj.eqi (x' := nI (3 * r)) (nI_mul 3 r) ?_
      refine xj_iadd hk dX8_settle_200 ?_
      refine xj.eqi (x' := nI (115 + 3 * r)) (nI_add 115 (3 * r)) ?_
      refine xj_aload_n (i := 0) hk dX8_settle_201 rfl rfl ?_
      refine xj_getfield hk dX8_settle_202 fl_X8_153 (xw_at xw_up_s rfl) rfl ?_
      refine xj_iastore (k := 115 + 3 * r) (G2 := xw_up G 21 (pM v (md_th M) (xu (nR te (cpN 8 (hsM ho hs (sl_so (kM te ho ow hs ra lo n)) n) ho) ow hs ra lo (nI n) st av so (nI r)) (115 + 3 * r) (sl_st (kM te ho ow hs ra lo n))) (md_pt M) (md_re M) (md_sd M) be1 pb1 (nI (min a 11 + 1)) od ad wy so3 rl io3 (sl_po (kM te ho ow hs ra lo n)) (sl_sp (kM te ho ow hs ra lo n)) (sl_rs (kM te ho ow hs ra lo n)) (sl_st (kM te ho ow hs ra lo n)) (sl_av (kM te ho ow hs ra lo n)) (sl_pt (kM te ho ow hs ra lo n)) (md_tx M) (md_tm M) (md_ta M) (md_td M) (md_wo M) (md_sq M) (md_tk M) (md_bg M) (md_nu M) (md_wr M))) hk dX8_settle_205 (xw_at xw_up_s rfl) (xi_n (by omega) (by decide)) (xw_wr2 rfl) ?_
      refine xj.eqG (G' := xw_up G 21 (pM v (md_th M) (nR te (cpN 8 (hsM ho hs (sl_so (kM te ho ow hs ra lo n)) n) ho) ow hs ra lo (nI n) (xu st r (sl_st (kM te ho ow hs ra lo n))) av so (nI r)) (md_pt M) (md_re M) (md_sd M) be1 pb1 (nI (min a 11 + 1)) od ad wy so3 rl io3 (sl_po (kM te ho ow hs ra lo n)) (sl_sp (kM te ho ow hs ra lo n)) (sl_rs (kM te ho ow hs ra lo n)) (sl_st (kM te ho ow hs ra lo n)) (sl_av (kM te ho ow hs ra lo n)) (sl_pt (kM te ho ow hs ra lo n)) (md_tx M) (md_tm M) (md_ta M) (md_td M) (md_wo M) (md_sq M) (md_tk M) (md_bg M) (md_nu M) (md_wr M))) (by rw [wR_st (k := r) (by omega)]) ?_
      refine xj_aload_n (i := 0) hk dX8_settle_206 rfl rfl ?_
      refine xj_getfield hk dX8_settle_207 fl_X8_13 (xw_at xw_up_s rfl) rfl ?_
      refine xj_bipush (x := 115) hk dX8_settle_210 (by decide) ?_
      refine xj_iconst (x := 3) hk dX8_settle_212 (by decide) ?_
      refine xj_iload hk dX8_settle_213 rfl ?_
      refine xj_imul hk dX8_settle_215 ?_
      refine xj.eqi (x' := nI (3 * r)) (nI_mul 3 r) ?_
      refine xj_iadd hk dX8_settle_216 ?_
      refine xj.eqi (x' := nI (115 + 3 * r)) (nI_add 115 (3 * r)) ?_
      refine xj_iconst (x := 1) hk dX8_settle_217 (by decide) ?_
      refine xj_iadd hk dX8_settle_218 ?_
      refine xj.eqi (x' := nI (115 + 3 * r + 1)) (nI_add (115 + 3 * r) 1) ?_
      refine xj_aload_n (i := 0) hk dX8_settle_219 rfl rfl ?_
      refine xj_getfield hk dX8_settle_220 fl_X8_163 (xw_at xw_up_s rfl) rfl ?_
      refine xj_iastore (k := 115 + 3 * r + 1) (G2 := xw_up G 21 (pM v (md_th M) (xu (nR te (cpN 8 (hsM ho hs (sl_so (kM te ho ow hs ra lo n)) n) ho) ow hs ra lo (nI n) (xu st r (sl_st (kM te ho ow hs ra lo n))) av so (nI r)) (115 + 3 * r + 1) (sl_av (kM te ho ow hs ra lo n))) (md_pt M) (md_re M) (md_sd M) be1 pb1 (nI (min a 11 + 1)) od ad wy so3 rl io3 (sl_po (kM te ho ow hs ra lo n)) (sl_sp (kM te ho ow hs ra lo n)) (sl_rs (kM te ho ow hs ra lo n)) (sl_st (kM te ho ow hs ra lo n)) (sl_av (kM te ho ow hs ra lo n)) (sl_pt (kM te ho ow hs ra lo n)) (md_tx M) (md_tm M) (md_ta M) (md_td M) (md_wo M) (md_sq M) (md_tk M) (md_bg M) (md_nu M) (md_wr M))) hk dX8_settle_223 (xw_at xw_up_s rfl) (xi_n (by omega) (by decide)) (xw_wr2 rfl) ?_
      refine xj.eqG (G' := xw_up G 21 (pM v (md_th M) (nR te (cpN 8 (hsM ho hs (sl_so (kM te ho ow hs ra lo n)) n) ho) ow hs ra lo (nI n) (xu st r (sl_st (kM te ho ow hs ra lo n))) (xu av r (sl_av (kM te ho ow hs ra lo n))) so (nI r)) (md_pt M) (md_re M) (md_sd M) be1 pb1 (nI (min a 11 + 1)) od ad wy so3 rl io3 (sl_po (kM te ho ow hs ra lo n)) (sl_sp (kM te ho ow hs ra lo n)) (sl_rs (kM te ho ow hs ra lo n)) (sl_st (kM te ho ow hs ra lo n)) (sl_av (kM te ho ow hs ra lo n)) (sl_pt (kM te ho ow hs ra lo n)) (md_tx M) (md_tm M) (md_ta M) (md_td M) (md_wo M) (md_sq M) (md_tk M) (md_bg M) (md_nu M) (md_wr M))) (by rw [wR_av (k := r) (by omega)]) ?_
      refine xj_aload_n (i := 0) hk dX8_settle_224 rfl rfl ?_
      refine xj_getfield hk dX8_settle_225 fl_X8_13 (xw_at xw_up_s rfl) rfl ?_
      refine xj_bipush (x := 115) hk dX8_settle_228 (by decide) ?_
      refine xj_iconst (x := 3) hk dX8_settle_230 (by decide) ?_
      refine xj_iload hk dX8_settle_231 rfl ?_
      refine xj_imul hk dX8_settle_233 ?_
      refine xj.eqi (x' := nI (3 * r)) (nI_mul 3 r) ?_
      refine xj_iadd hk dX8_settle_234 ?_
      refine xj.eqi (x' := nI (115 + 3 * r)) (nI_add 115 (3 * r)) ?_
      refine xj_iconst (x := 2) hk dX8_settle_235 (by decide) ?_
      refine xj_iadd hk dX8_settle_236 ?_
      refine xj.eqi (x' := nI (115 + 3 * r + 2)) (nI_add (115 + 3 * r) 2) ?_
      refine xj_iload_n (i := 1) hk dX8_settle_237 rfl rfl ?_
      refine xj_iastore (k := 115 + 3 * r + 2) (G2 := xw_up G 21 (pM v (md_th M) (xu (nR te (cpN 8 (hsM ho hs (sl_so (kM te ho ow hs ra lo n)) n) ho) ow hs ra lo (nI n) (xu st r (sl_st (kM te ho ow hs ra lo n))) (xu av r (sl_av (kM te ho ow hs ra lo n))) so (nI r)) (115 + 3 * r + 2) (sl_sp (kM te ho ow hs ra lo n) + sl_sr (kM te ho ow hs ra lo n))) (md_pt M) (md_re M) (md_sd M) be1 pb1 (nI (min a 11 + 1)) od ad wy so3 rl io3 (sl_po (kM te ho ow hs ra lo n)) (sl_sp (kM te ho ow hs ra lo n)) (sl_rs (kM te ho ow hs ra lo n)) (sl_st (kM te ho ow hs ra lo n)) (sl_av (kM te ho ow hs ra lo n)) (sl_pt (kM te ho ow hs ra lo n)) (md_tx M) (md_tm M) (md_ta M) (md_td M) (md_wo M) (md_sq M) (md_tk M) (md_bg M) (md_nu M) (md_wr M))) hk dX8_settle_238 (xw_at xw_up_s rfl) (xi_n (by omega) (by decide)) (xw_wr2 rfl) ?_
      refine xj.eqG (G' := xw_up G 21 (pM v (md_th M) (nR te (cpN 8 (hsM ho hs (sl_so (kM te ho ow hs ra lo n)) n) ho) ow hs ra lo (nI n) (xu st r (sl_st (kM te ho ow hs ra lo n))) (xu av r (sl_av (kM te ho ow hs ra lo n))) (xu so r (sl_sp (kM te ho ow hs ra lo n) + sl_sr (kM te ho ow hs ra lo n))) (nI r)) (md_pt M) (md_re M) (md_sd M) be1 pb1 (nI (min a 11 + 1)) od ad wy so3 rl io3 (sl_po (kM te ho ow hs ra lo n)) (sl_sp (kM te ho ow hs ra lo n)) (sl_rs (kM te ho ow hs ra lo n)) (sl_st (kM te ho ow hs ra lo n)) (sl_av (kM te ho ow hs ra lo n)) (sl_pt (kM te ho ow hs ra lo n)) (md_tx M) (md_tm M) (md_ta M) (md_td M) (md_wo M) (md_sq M) (md_tk M) (md_bg M) (md_nu M) (md_wr M))) (by rw [wR_so (k := r) (by omega)]) ?_
      refine xj_aload_n (i := 0) hk dX8_settle_239 rfl rfl ?_
      refine xj_getfield hk dX8_settle_240 fl_X8_17 (xw_at xw_up_s rfl) rfl ?_
      refine xj_iload hk dX8_settle_243 rfl ?_
      refine xj_lload_n (i := 2) hk dX8_settle_245 rfl rfl ?_
      refine xj_lastore (k := r) (G2 := xw_up G 21 (pM v (md_th M) (nR te (cpN 8 (hsM ho hs (sl_so (kM te ho ow hs ra lo n)) n) ho) ow hs ra lo (nI n) (xu st r (sl_st (kM te ho ow hs ra lo n))) (xu av r (sl_av (kM te ho ow hs ra lo n))) (xu so r (sl_sp (kM te ho ow hs ra lo n) + sl_sr (kM te ho ow hs ra lo n))) (nI r)) (xu (md_pt M) r (sml (payF (mB te ho ow hs ra lo n) (kM te ho ow hs ra lo n)) n)) (md_re M) (md_sd M) be1 pb1 (nI (min a 11 + 1)) od ad wy so3 rl io3 (sl_po (kM te ho ow hs ra lo n)) (sl_sp (kM te ho ow hs ra lo n)) (sl_rs (kM te ho ow hs ra lo n)) (sl_st (kM te ho ow hs ra lo n)) (sl_av (kM te ho ow hs ra lo n)) (sl_pt (kM te ho ow hs ra lo n)) (md_tx M) (md_tm M) (md_ta M) (md_td M) (md_wo M) (md_sq M) (md_tk M) (md_bg M) (md_nu M) (md_wr M))) hk dX8_settle_246 (xw_at xw_up_s rfl) (xi_n (by omega) (by decide)) (xw_wr2 rfl) ?_
      refine xj_aload_n (i := 0) hk dX8_settle_247 rfl rfl ?_
      refine xj_getfield hk dX8_settle_248 fl_X8_13 (xw_at xw_up_s rfl) rfl ?_
      refine xj_bipush (x := 114) hk dX8_settle_251 (by decide) ?_
      refine xj_dup2 hk dX8_settle_253 rfl rfl ?_
      refine xj_iaload (k := 114) hk dX8_settle_254 (xw_at xw_up_s rfl) (xi_d 114 139 (by decide)) ?_
      refine xj.eqi (x' := nI r) rR_ln ?_
      refine xj_iconst (x := 1) hk dX8_settle_255 (by decide) ?_
      refine xj_iadd hk dX8_settle_256 ?_
      refine xj.eqi (x' := nI (r + 1)) (nI_add r 1) ?_
      refine xj_iastore (k := 114) (G2 := xw_up G 21 (pM v (md_th M) (xu (nR te (cpN 8 (hsM ho hs (sl_so (kM te ho ow hs ra lo n)) n) ho) ow hs ra lo (nI n) (xu st r (sl_st (kM te ho ow hs ra lo n))) (xu av r (sl_av (kM te ho ow hs ra lo n))) (xu so r (sl_sp (kM te ho ow hs ra lo n) + sl_sr (kM te ho ow hs ra lo n))) (nI r)) 114 (nI (r + 1))) (xu (md_pt M) r (sml (payF (mB te ho ow hs ra lo n) (kM te ho ow hs ra lo n)) n)) (md_re M) (md_sd M) be1 pb1 (nI (min a 11 + 1)) od ad wy so3 rl io3 (sl_po (kM te ho ow hs ra lo n)) (sl_sp (kM te ho ow hs ra lo n)) (sl_rs (kM te ho ow hs ra lo n)) (sl_st (kM te ho ow hs ra lo n)) (sl_av (kM te ho ow hs ra lo n)) (sl_pt (kM te ho ow hs ra lo n)) (md_tx M) (md_tm M) (md_ta M) (md_td M) (md_wo M) (md_sq M) (md_tk M) (md_bg M) (md_nu M) (md_wr M))) hk dX8_settle_257 (xw_at xw_up_s rfl) (xi_d 114 139 (by decide)) (xw_wr2 rfl) ?_
      refine xj.eqG (G' := xw_up G 21 (pM v (md_th M) (nR te (cpN 8 (hsM ho hs (sl_so (kM te ho ow hs ra lo n)) n) ho) ow hs ra lo (nI n) (xu st r (sl_st (kM te ho ow hs ra lo n))) (xu av r (sl_av (kM te ho ow hs ra lo n))) (xu so r (sl_sp (kM te ho ow hs ra lo n) + sl_sr (kM te ho ow hs ra lo n))) (nI (r + 1))) (xu (md_pt M) r (sml (payF (mB te ho ow hs ra lo n) (kM te ho ow hs ra lo n)) n)) (md_re M) (md_sd M) be1 pb1 (nI (min a 11 + 1)) od ad wy so3 rl io3 (sl_po (kM te ho ow hs ra lo n)) (sl_sp (kM te ho ow hs ra lo n)) (sl_rs (kM te ho ow hs ra lo n)) (sl_st (kM te ho ow hs ra lo n)) (sl_av (kM te ho ow hs ra lo n)) (sl_pt (kM te ho ow hs ra lo n)) (md_tx M) (md_tm M) (md_ta M) (md_td M) (md_wo M) (md_sq M) (md_tk M) (md_bg M) (md_nu M) (md_wr M))) (by rw [wR_ln]) ?_
      refine xj_aload_n (i := 0) hk dX8_settle_258 rfl rfl ?_
      refine xj_getfield hk dX8_settle_259 fl_X8_13 (xw_at xw_up_s rfl) rfl ?_
      refine xj_bipush (x := 23) hk dX8_settle_262 (by decide) ?_
      refine xj_iconst (x := 0) hk dX8_settle_264 (by decide) ?_
      refine xj_iastore (k := 23) (G2 := xw_up G 21 (pM v (md_th M) (xu (nR te (cpN 8 (hsM ho hs (sl_so (kM te ho ow hs ra lo n)) n) ho) ow hs ra lo (nI n) (xu st r (sl_st (kM te ho ow hs ra lo n))) (xu av r (sl_av (kM te ho ow hs ra lo n))) (xu so r (sl_sp (kM te ho ow hs ra lo n) + sl_sr (kM te ho ow hs ra lo n))) (nI (r + 1))) 23 0) (xu (md_pt M) r (sml (payF (mB te ho ow hs ra lo n) (kM te ho ow hs ra lo n)) n)) (md_re M) (md_sd M) be1 pb1 (nI (min a 11 + 1)) od ad wy so3 rl io3 (sl_po (kM te ho ow hs ra lo n)) (sl_sp (kM te ho ow hs ra lo n)) (sl_rs (kM te ho ow hs ra lo n)) (sl_st (kM te ho ow hs ra lo n)) (sl_av (kM te ho ow hs ra lo n)) (sl_pt (kM te ho ow hs ra lo n)) (md_tx M) (md_tm M) (md_ta M) (md_td M) (md_wo M) (md_sq M) (md_tk M) (md_bg M) (md_nu M) (md_wr M))) hk dX8_settle_265 (xw_at xw_up_s rfl) (xi_d 23 139 (by decide)) (xw_wr2 rfl) ?_
      refine xj.eqG (G' := xw_up G 21 (pM v (md_th M) (nR te (cpN 8 (hsM ho hs (sl_so (kM te ho ow hs ra lo n)) n) ho) ow hs ra lo 0 (xu st r (sl_st (kM te ho ow hs ra lo n))) (xu av r (sl_av (kM te ho ow hs ra lo n))) (xu so r (sl_sp (kM te ho ow hs ra lo n) + sl_sr (kM te ho ow hs ra lo n))) (nI (r + 1))) (xu (md_pt M) r (sml (payF (mB te ho ow hs ra lo n) (kM te ho ow hs ra lo n)) n)) (md_re M) (md_sd M) be1 pb1 (nI (min a 11 + 1)) od ad wy so3 rl io3 (sl_po (kM te ho ow hs ra lo n)) (sl_sp (kM te ho ow hs ra lo n)) (sl_rs (kM te ho ow hs ra lo n)) (sl_st (kM te ho ow hs ra lo n)) (sl_av (kM te ho ow hs ra lo n)) (sl_pt (kM te ho ow hs ra lo n)) (md_tx M) (md_tm M) (md_ta M) (md_td M) (md_wo M) (md_sq M) (md_tk M) (md_bg M) (md_nu M) (md_wr M))) (by rw [wR_bi]) ?_
      refine xj_iload_n (i := 1) hk dX8_settle_266 rfl rfl ?_
      refine xj_ireturn hk hz dX8_settle_267 ?_
      refine Or.inl ⟨c4, be1, pb1, hKP, rfl, ⟨⟨(md_th M, nR te (cpN 8 (hsM ho hs (sl_so (kM te ho ow hs ra lo n)) n) ho) ow hs ra lo 0 (xu st r (sl_st (kM te ho ow hs ra lo n))) (xu av r (sl_av (kM te ho ow hs ra lo n))) (xu so r (sl_sp (kM te ho ow hs ra lo n) + sl_sr (kM te ho ow hs ra lo n))) (nI (r + 1)), xu (md_pt M) r (sml (payF (mB te ho ow hs ra lo n) (kM te ho ow hs ra lo n)) n), md_re M, md_sd M, be1, pb1, nI (min a 11 + 1), od, ad, wy, so3, rl, io3, sl_po (kM te ho ow hs ra lo n), sl_sp (kM te ho ow hs ra lo n), sl_rs (kM te ho ow hs ra lo n), sl_st (kM te ho ow hs ra lo n), sl_av (kM te ho ow hs ra lo n), sl_pt (kM te ho ow hs ra lo n), md_tx M, md_tm M, md_ta M, md_td M, md_wo M, md_sq M, md_tk M, md_bg M, md_nu M, md_wr M), ?_, ?_, rfl, rfl, rfl, rfl, rfl, rfl⟩, fun g h => xw_up_n h⟩⟩
      · simp only [lnS]; rw [if_neg c97, if_neg c97, if_neg c97, show min r 7 = r by omega]; exact xw_up_s
      · simp only [lnS]; rw [if_neg c97, show min r 7 = r by omega]; rfl
    · have c97 : r = 8 := (nI_eq (a := r) (b := 8) (by omega) (by omega)).mp c97
      refine xj_iconst (x := 3) hk dX8_settle_100 (by decide) ?_
      refine xj_istore (i := 4) (ls2 := [some (.ref (xw_ad v 21 0)), some (.int (sl_sp (kM te ho ow hs ra lo n) + sl_sr (kM te ho ow hs ra lo n))), some (.long (sml (payF (mB te ho ow hs ra lo n) (kM te ho ow hs ra lo n)) n)), none, some (.int 3), none]) hk dX8_settle_101 (by decide) rfl rfl ?_
      refine xj.eqG (G' := xw_up (xw_up G 21 (pM v (md_th M) (nR te (cpN 8 (hsM ho hs (sl_so (kM te ho ow hs ra lo n)) n) ho) ow hs ra lo (nI n) st av so (nI r)) (md_pt M) (md_re M) (md_sd M) be1 pb1 (nI (min a 11 + 1)) od ad wy so3 rl io3 (sl_po (kM te ho ow hs ra lo n)) (sl_sp (kM te ho ow hs ra lo n)) (sl_rs (kM te ho ow hs ra lo n)) (sl_st (kM te ho ow hs ra lo n)) (sl_av (kM te ho ow hs ra lo n)) (sl_pt (kM te ho ow hs ra lo n)) (md_tx M) (md_tm M) (md_ta M) (md_td M) (md_wo M) (md_sq M) (md_tk M) (md_bg M) (md_nu M) (md_wr M))) 21 (pM v (md_th M) (shE 3 (nR te (cpN 8 (hsM ho hs (sl_so (kM te ho ow hs ra lo n)) n) ho) ow hs ra lo (nI n) st av so (nI r))) (md_pt M) (md_re M) (md_sd M) be1 pb1 (nI (min a 11 + 1)) od ad wy so3 rl io3 (sl_po (kM te ho ow hs ra lo n)) (sl_sp (kM te ho ow hs ra lo n)) (sl_rs (kM te ho ow hs ra lo n)) (sl_st (kM te ho ow hs ra lo n)) (sl_av (kM te ho ow hs ra lo n)) (sl_pt (kM te ho ow hs ra lo n)) (md_tx M) (md_tm M) (md_ta M) (md_td M) (md_wo M) (md_sq M) (md_tk M) (md_bg M) (md_nu M) (md_wr M))) (by simp only [shE_0]; exact (xw_up_same xw_up_s).symm) ?_
      refine l_X8_settle_103 (M := (md_th M, nR te (cpN 8 (hsM ho hs (sl_so (kM te ho ow hs ra lo n)) n) ho) ow hs ra lo (nI n) st av so (nI r), md_pt M, md_re M, md_sd M, be1, pb1, nI (min a 11 + 1), od, ad, wy, so3, rl, io3, sl_po (kM te ho ow hs ra lo n), sl_sp (kM te ho ow hs ra lo n), sl_rs (kM te ho ow hs ra lo n), sl_st (kM te ho ow hs ra lo n), sl_av (kM te ho ow hs ra lo n), sl_pt (kM te ho ow hs ra lo n), md_tx M, md_tm M, md_ta M, md_td M, md_wo M, md_sq M, md_tk M, md_bg M, md_nu M, md_wr M)) hk hz (show (xw_up G 21 (pM v (md_th M) (nR te (cpN 8 (hsM ho hs (sl_so (kM te ho ow hs ra lo n)) n) ho) ow hs ra lo (nI n) st av so (nI r)) (md_pt M) (md_re M) (md_sd M) be1 pb1 (nI (min a 11 + 1)) od ad wy so3 rl io3 (sl_po (kM te ho ow hs ra lo n)) (sl_sp (kM te ho ow hs ra lo n)) (sl_rs (kM te ho ow hs ra lo n)) (sl_st (kM te ho ow hs ra lo n)) (sl_av (kM te ho ow hs ra lo n)) (sl_pt (kM te ho ow hs ra lo n)) (md_tx M) (md_tm M) (md_ta M) (md_td M) (md_wo M) (md_sq M) (md_tk M) (md_bg M) (md_nu M) (md_wr M))) 21 = pM v (md_th M) (nR te (cpN 8 (hsM ho hs (sl_so (kM te ho ow hs ra lo n)) n) ho) ow hs ra lo (nI n) st av so (nI r)) (md_pt M) (md_re M) (md_sd M) be1 pb1 (nI (min a 11 + 1)) od ad wy so3 rl io3 (sl_po (kM te ho ow hs ra lo n)) (sl_sp (kM te ho ow hs ra lo n)) (sl_rs (kM te ho ow hs ra lo n)) (sl_st (kM te ho ow hs ra lo n)) (sl_av (kM te ho ow hs ra lo n)) (sl_pt (kM te ho ow hs ra lo n)) (md_tx M) (md_tm M) (md_ta M) (md_td M) (md_wo M) (md_sq M) (md_tk M) (md_bg M) (md_nu M) (md_wr M) from xw_up_s) ?_ (24 + 1) 3 (by omega) (by omega) (by omega)
      refine xj.eqG (G' := xw_up G 21 (pM v (md_th M) (nR te (cpN 8 (hsM ho hs (sl_so (kM te ho ow hs ra lo n)) n) ho) ow hs ra lo (nI n) (shD 0 7 st) (shD 0 7 av) (shD 0 7 so) (nI r)) (md_pt M) (md_re M) (md_sd M) be1 pb1 (nI (min a 11 + 1)) od ad wy so3 rl io3 (sl_po (kM te ho ow hs ra lo n)) (sl_sp (kM te ho ow hs ra lo n)) (sl_rs (kM te ho ow hs ra lo n)) (sl_st (kM te ho ow hs ra lo n)) (sl_av (kM te ho ow hs ra lo n)) (sl_pt (kM te ho ow hs ra lo n)) (md_tx M) (md_tm M) (md_ta M) (md_td M) (md_wo M) (md_sq M) (md_tk M) (md_bg M) (md_nu M) (md_wr M))) (by rw [xw_up_u, ← shE_e]; rfl) ?_
      refine xj_iconst (x := 1) hk dX8_settle_138 (by decide) ?_
      refine xj_istore (i := 4) (ls2 := [some (.ref (xw_ad v 21 0)), some (.int (sl_sp (kM te ho ow hs ra lo n) + sl_sr (kM te ho ow hs ra lo n))), some (.long (sml (payF (mB te ho ow hs ra lo n) (kM te ho ow hs ra lo n)) n)), none, some (.int 1), none]) hk dX8_settle_139 (by decide) rfl rfl ?_
      refine xj.eqG (G' := xw_up (xw_up G 21 (pM v (md_th M) (nR te (cpN 8 (hsM ho hs (sl_so (kM te ho ow hs ra lo n)) n) ho) ow hs ra lo (nI n) (shD 0 7 st) (shD 0 7 av) (shD 0 7 so) (nI r)) (md_pt M) (md_re M) (md_sd M) be1 pb1 (nI (min a 11 + 1)) od ad wy so3 rl io3 (sl_po (kM te ho ow hs ra lo n)) (sl_sp (kM te ho ow hs ra lo n)) (sl_rs (kM te ho ow hs ra lo n)) (sl_st (kM te ho ow hs ra lo n)) (sl_av (kM te ho ow hs ra lo n)) (sl_pt (kM te ho ow hs ra lo n)) (md_tx M) (md_tm M) (md_ta M) (md_td M) (md_wo M) (md_sq M) (md_tk M) (md_bg M) (md_nu M) (md_wr M))) 21 (pM v (md_th M) (nR te (cpN 8 (hsM ho hs (sl_so (kM te ho ow hs ra lo n)) n) ho) ow hs ra lo (nI n) (shD 0 7 st) (shD 0 7 av) (shD 0 7 so) (nI r)) (shB 1 (md_pt M) 1) (md_re M) (md_sd M) be1 pb1 (nI (min a 11 + 1)) od ad wy so3 rl io3 (sl_po (kM te ho ow hs ra lo n)) (sl_sp (kM te ho ow hs ra lo n)) (sl_rs (kM te ho ow hs ra lo n)) (sl_st (kM te ho ow hs ra lo n)) (sl_av (kM te ho ow hs ra lo n)) (sl_pt (kM te ho ow hs ra lo n)) (md_tx M) (md_tm M) (md_ta M) (md_td M) (md_wo M) (md_sq M) (md_tk M) (md_bg M) (md_nu M) (md_wr M))) (by simp only [shB_0]; exact (xw_up_same xw_up_s).symm) ?_
      refine l_X8_settle_141 (M := (md_th M, nR te (cpN 8 (hsM ho hs (sl_so (kM te ho ow hs ra lo n)) n) ho) ow hs ra lo (nI n) (shD 0 7 st) (shD 0 7 av) (shD 0 7 so) (nI r), md_pt M, md_re M, md_sd M, be1, pb1, nI (min a 11 + 1), od, ad, wy, so3, rl, io3, sl_po (kM te ho ow hs ra lo n), sl_sp (kM te ho ow hs ra lo n), sl_rs (kM te ho ow hs ra lo n), sl_st (kM te ho ow hs ra lo n), sl_av (kM te ho ow hs ra lo n), sl_pt (kM te ho ow hs ra lo n), md_tx M, md_tm M, md_ta M, md_td M, md_wo M, md_sq M, md_tk M, md_bg M, md_nu M, md_wr M)) hk hz (show (xw_up G 21 (pM v (md_th M) (nR te (cpN 8 (hsM ho hs (sl_so (kM te ho ow hs ra lo n)) n) ho) ow hs ra lo (nI n) (shD 0 7 st) (shD 0 7 av) (shD 0 7 so) (nI r)) (md_pt M) (md_re M) (md_sd M) be1 pb1 (nI (min a 11 + 1)) od ad wy so3 rl io3 (sl_po (kM te ho ow hs ra lo n)) (sl_sp (kM te ho ow hs ra lo n)) (sl_rs (kM te ho ow hs ra lo n)) (sl_st (kM te ho ow hs ra lo n)) (sl_av (kM te ho ow hs ra lo n)) (sl_pt (kM te ho ow hs ra lo n)) (md_tx M) (md_tm M) (md_ta M) (md_td M) (md_wo M) (md_sq M) (md_tk M) (md_bg M) (md_nu M) (md_wr M))) 21 = pM v (md_th M) (nR te (cpN 8 (hsM ho hs (sl_so (kM te ho ow hs ra lo n)) n) ho) ow hs ra lo (nI n) (shD 0 7 st) (shD 0 7 av) (shD 0 7 so) (nI r)) (md_pt M) (md_re M) (md_sd M) be1 pb1 (nI (min a 11 + 1)) od ad wy so3 rl io3 (sl_po (kM te ho ow hs ra lo n)) (sl_sp (kM te ho ow hs ra lo n)) (sl_rs (kM te ho ow hs ra lo n)) (sl_st (kM te ho ow hs ra lo n)) (sl_av (kM te ho ow hs ra lo n)) (sl_pt (kM te ho ow hs ra lo n)) (md_tx M) (md_tm M) (md_ta M) (md_td M) (md_wo M) (md_sq M) (md_tk M) (md_bg M) (md_nu M) (md_wr M) from xw_up_s) ?_ (8 + 1) 1 (by omega) (by omega) (by omega)
      refine xj.eqG (G' := xw_up G 21 (pM v (md_th M) (nR te (cpN 8 (hsM ho hs (sl_so (kM te ho ow hs ra lo n)) n) ho) ow hs ra lo (nI n) (shD 0 7 st) (shD 0 7 av) (shD 0 7 so) (nI r)) (shD 0 7 (md_pt M)) (md_re M) (md_sd M) be1 pb1 (nI (min a 11 + 1)) od ad wy so3 rl io3 (sl_po (kM te ho ow hs ra lo n)) (sl_sp (kM te ho ow hs ra lo n)) (sl_rs (kM te ho ow hs ra lo n)) (sl_st (kM te ho ow hs ra lo n)) (sl_av (kM te ho ow hs ra lo n)) (sl_pt (kM te ho ow hs ra lo n)) (md_tx M) (md_tm M) (md_ta M) (md_td M) (md_wo M) (md_sq M) (md_tk M) (md_bg M) (md_nu M) (md_wr M))) (by rw [xw_up_u, ← shB_D (f := md_pt M)]; rfl) ?_
      refine xj_aload_n (i := 0) hk dX8_settle_170 rfl rfl ?_
      refine xj_getfield hk dX8_settle_171 fl_X8_13 (xw_at xw_up_s rfl) rfl ?_
      refine xj_bipush (x := 114) hk dX8_settle_174 (by decide) ?_
      refine xj_dup2 hk dX8_settle_176 rfl rfl ?_
      refine xj_iaload (k := 114) hk dX8_settle_177 (xw_at xw_up_s rfl) (xi_d 114 139 (by decide)) ?_
      refine xj.eqi (x' := nI r) rR_ln ?_
      refine xj_iconst (x := 1) hk dX8_settle_178 (by decide) ?_
      refine xj_isub hk dX8_settle_179 ?_
      refine xj.eqi (x' := nI 7) (by rw [c97]; rfl) ?_
      refine xj_iastore (k := 114) (G2 := xw_up G 21 (pM v (md_th M) (xu (nR te (cpN 8 (hsM ho hs (sl_so (kM te ho ow hs ra lo n)) n) ho) ow hs ra lo (nI n) (shD 0 7 st) (shD 0 7 av) (shD 0 7 so) (nI r)) 114 (nI 7)) (shD 0 7 (md_pt M)) (md_re M) (md_sd M) be1 pb1 (nI (min a 11 + 1)) od ad wy so3 rl io3 (sl_po (kM te ho ow hs ra lo n)) (sl_sp (kM te ho ow hs ra lo n)) (sl_rs (kM te ho ow hs ra lo n)) (sl_st (kM te ho ow hs ra lo n)) (sl_av (kM te ho ow hs ra lo n)) (sl_pt (kM te ho ow hs ra lo n)) (md_tx M) (md_tm M) (md_ta M) (md_td M) (md_wo M) (md_sq M) (md_tk M) (md_bg M) (md_nu M) (md_wr M))) hk dX8_settle_180 (xw_at xw_up_s rfl) (xi_d 114 139 (by decide)) (xw_wr2 rfl) ?_
      refine xj.eqG (G' := xw_up G 21 (pM v (md_th M) (nR te (cpN 8 (hsM ho hs (sl_so (kM te ho ow hs ra lo n)) n) ho) ow hs ra lo (nI n) (shD 0 7 st) (shD 0 7 av) (shD 0 7 so) (nI 7)) (shD 0 7 (md_pt M)) (md_re M) (md_sd M) be1 pb1 (nI (min a 11 + 1)) od ad wy so3 rl io3 (sl_po (kM te ho ow hs ra lo n)) (sl_sp (kM te ho ow hs ra lo n)) (sl_rs (kM te ho ow hs ra lo n)) (sl_st (kM te ho ow hs ra lo n)) (sl_av (kM te ho ow hs ra lo n)) (sl_pt (kM te ho ow hs ra lo n)) (md_tx M) (md_tm M) (md_ta M) (md_td M) (md_wo M) (md_sq M) (md_tk M) (md_bg M) (md_nu M) (md_wr M))) (by rw [wR_ln]) ?_
      refine xj_aload_n (i := 0) hk dX8_settle_181 rfl rfl ?_
      refine xj_getfield hk dX8_settle_182 fl_X8_13 (xw_at xw_up_s rfl) rfl ?_
      refine xj_bipush (x := 114) hk dX8_settle_185 (by decide) ?_
      refine xj_iaload (k := 114) hk dX8_settle_187 (xw_at xw_up_s rfl) (xi_d 114 139 (by decide)) ?_
      refine xj.eqi (x' := nI 7) rR_ln ?_
      refine xj_istore (i := 4) (ls2 := [some (.ref (xw_ad v 21 0)), some (.int (sl_sp (kM te ho ow hs ra lo n) + sl_sr (kM te ho ow hs ra lo n))), some (.long (sml (payF (mB te ho ow hs ra lo n) (kM te ho ow hs ra lo n)) n)), none, some (.int (nI 7)), none]) hk dX8_settle_188 (by decide) rfl rfl ?_
      refine xj_aload_n (i := 0) hk dX8_settle_190 rfl rfl ?_
      refine xj_getfield hk dX8_settle_191 fl_X8_13 (xw_at xw_up_s rfl) rfl ?_
      refine xj_bipush (x := 115) hk dX8_settle_194 (by decide) ?_
      refine xj_iconst (x := 3) hk dX8_settle_196 (by decide) ?_
      refine xj_iload hk dX8_settle_197 rfl ?_
      refine xj_imul hk dX8_settle_199 ?_
      refine xj.eqi (x' := nI (3 * 7)) (nI_mul 3 7) ?_
      refine xj_iadd hk dX8_settle_200 ?_
      refine xj.eqi (x' := nI (115 + 3 * 7)) (nI_add 115 (3 * 7)) ?_
      refine xj_aload_n (i := 0) hk dX8_settle_201 rfl rfl ?_
      refine xj_getfield hk dX8_settle_202 fl_X8_153 (xw_at xw_up_s rfl) rfl ?_
      refine xj_iastore (k := 115 + 3 * 7) (G2 := xw_up G 21 (pM v (md_th M) (xu (nR te (cpN 8 (hsM ho hs (sl_so (kM te ho ow hs ra lo n)) n) ho) ow hs ra lo (nI n) (shD 0 7 st) (shD 0 7 av) (shD 0 7 so) (nI 7)) (115 + 3 * 7) (sl_st (kM te ho ow hs ra lo n))) (shD 0 7 (md_pt M)) (md_re M) (md_sd M) be1 pb1 (nI (min a 11 + 1)) od ad wy so3 rl io3 (sl_po (kM te ho ow hs ra lo n)) (sl_sp (kM te ho ow hs ra lo n)) (sl_rs (kM te ho ow hs ra lo n)) (sl_st (kM te ho ow hs ra lo n)) (sl_av (kM te ho ow hs ra lo n)) (sl_pt (kM te ho ow hs ra lo n)) (md_tx M) (md_tm M) (md_ta M) (md_td M) (md_wo M) (md_sq M) (md_tk M) (md_bg M) (md_nu M) (md_wr M))) hk dX8_settle_205 (xw_at xw_up_s rfl) (xi_n (by omega) (by decide)) (xw_wr2 rfl) ?_
      refine xj.eqG (G' := xw_up G 21 (pM v (md_th M) (nR te (cpN 8 (hsM ho hs (sl_so (kM te ho ow hs ra lo n)) n) ho) ow hs ra lo (nI n) (xu (shD 0 7 st) 7 (sl_st (kM te ho ow hs ra lo n))) (shD 0 7 av) (shD 0 7 so) (nI 7)) (shD 0 7 (md_pt M)) (md_re M) (md_sd M) be1 pb1 (nI (min a 11 + 1)) od ad wy so3 rl io3 (sl_po (kM te ho ow hs ra lo n)) (sl_sp (kM te ho ow hs ra lo n)) (sl_rs (kM te ho ow hs ra lo n)) (sl_st (kM te ho ow hs ra lo n)) (sl_av (kM te ho ow hs ra lo n)) (sl_pt (kM te ho ow hs ra lo n)) (md_tx M) (md_tm M) (md_ta M) (md_td M) (md_wo M) (md_sq M) (md_tk M) (md_bg M) (md_nu M) (md_wr M))) (by rw [wR_st (k := 7) (by omega)]) ?_
      refine xj_aload_n (i := 0) hk dX8_settle_206 rfl rfl ?_
      refine xj_getfield hk dX8_settle_207 fl_X8_13 (xw_at xw_up_s rfl) rfl ?_
      refine xj_bipush (x := 115) hk dX8_settle_210 (by decide) ?_
      refine xj_iconst (x := 3) hk dX8_settle_212 (by decide) ?_
      refine xj_iload hk dX8_settle_213 rfl ?_
      refine xj_imul hk dX8_settle_215 ?_
      refine xj.eqi (x' := nI (3 * 7)) (nI_mul 3 7) ?_
      refine xj_iadd hk dX8_settle_216 ?_
      refine xj.eqi (x' := nI (115 + 3 * 7)) (nI_add 115 (3 * 7)) ?_
      refine xj_iconst (x := 1) hk dX8_settle_217 (by decide) ?_
      refine xj_iadd hk dX8_settle_218 ?_
      refine xj.eqi (x' := nI (115 + 3 * 7 + 1)) (nI_add (115 + 3 * 7) 1) ?_
      refine xj_aload_n (i := 0) hk dX8_settle_219 rfl rfl ?_
      refine xj_getfield hk dX8_settle_220 fl_X8_163 (xw_at xw_up_s rfl) rfl ?_
      refine xj_iastore (k := 115 + 3 * 7 + 1) (G2 := xw_up G 21 (pM v (md_th M) (xu (nR te (cpN 8 (hsM ho hs (sl_so (kM te ho ow hs ra lo n)) n) ho) ow hs ra lo (nI n) (xu (shD 0 7 st) 7 (sl_st (kM te ho ow hs ra lo n))) (shD 0 7 av) (shD 0 7 so) (nI 7)) (115 + 3 * 7 + 1) (sl_av (kM te ho ow hs ra lo n))) (shD 0 7 (md_pt M)) (md_re M) (md_sd M) be1 pb1 (nI (min a 11 + 1)) od ad wy so3 rl io3 (sl_po (kM te ho ow hs ra lo n)) (sl_sp (kM te ho ow hs ra lo n)) (sl_rs (kM te ho ow hs ra lo n)) (sl_st (kM te ho ow hs ra lo n)) (sl_av (kM te ho ow hs ra lo n)) (sl_pt (kM te ho ow hs ra lo n)) (md_tx M) (md_tm M) (md_ta M) (md_td M) (md_wo M) (md_sq M) (md_tk M) (md_bg M) (md_nu M) (md_wr M))) hk dX8_settle_223 (xw_at xw_up_s rfl) (xi_n (by omega) (by decide)) (xw_wr2 rfl) ?_
      refine xj.eqG (G' := xw_up G 21 (pM v (md_th M) (nR te (cpN 8 (hsM ho hs (sl_so (kM te ho ow hs ra lo n)) n) ho) ow hs ra lo (nI n) (xu (shD 0 7 st) 7 (sl_st (kM te ho ow hs ra lo n))) (xu (shD 0 7 av) 7 (sl_av (kM te ho ow hs ra lo n))) (shD 0 7 so) (nI 7)) (shD 0 7 (md_pt M)) (md_re M) (md_sd M) be1 pb1 (nI (min a 11 + 1)) od ad wy so3 rl io3 (sl_po (kM te ho ow hs ra lo n)) (sl_sp (kM te ho ow hs ra lo n)) (sl_rs (kM te ho ow hs ra lo n)) (sl_st (kM te ho ow hs ra lo n)) (sl_av (kM te ho ow hs ra lo n)) (sl_pt (kM te ho ow hs ra lo n)) (md_tx M) (md_tm M) (md_ta M) (md_td M) (md_wo M) (md_sq M) (md_tk M) (md_bg M) (md_nu M) (md_wr M))) (by rw [wR_av (k := 7) (by omega)]) ?_
      refine xj_aload_n (i := 0) hk dX8_settle_224 rfl rfl ?_
      refine xj_getfield hk dX8_settle_225 fl_X8_13 (xw_at xw_up_s rfl) rfl ?_
      refine xj_bipush (x := 115) hk dX8_settle_228 (by decide) ?_
      refine xj_iconst (x := 3) hk dX8_settle_230 (by decide) ?_
      refine xj_iload hk dX8_settle_231 rfl ?_
      refine xj_imul hk dX8_settle_233 ?_
      refine xj.eqi (x' := nI (3 * 7)) (nI_mul 3 7) ?_
      refine xj_iadd hk dX8_settle_234 ?_
      refine xj.eqi (x' := nI (115 + 3 * 7)) (nI_add 115 (3 * 7)) ?_
      refine xj_iconst (x := 2) hk dX8_settle_235 (by decide) ?_
      refine xj_iadd hk dX8_settle_236 ?_
      refine xj.eqi (x' := nI (115 + 3 * 7 + 2)) (nI_add (115 + 3 * 7) 2) ?_
      refine xj_iload_n (i := 1) hk dX8_settle_237 rfl rfl ?_
      refine xj_iastore (k := 115 + 3 * 7 + 2) (G2 := xw_up G 21 (pM v (md_th M) (xu (nR te (cpN 8 (hsM ho hs (sl_so (kM te ho ow hs ra lo n)) n) ho) ow hs ra lo (nI n) (xu (shD 0 7 st) 7 (sl_st (kM te ho ow hs ra lo n))) (xu (shD 0 7 av) 7 (sl_av (kM te ho ow hs ra lo n))) (shD 0 7 so) (nI 7)) (115 + 3 * 7 + 2) (sl_sp (kM te ho ow hs ra lo n) + sl_sr (kM te ho ow hs ra lo n))) (shD 0 7 (md_pt M)) (md_re M) (md_sd M) be1 pb1 (nI (min a 11 + 1)) od ad wy so3 rl io3 (sl_po (kM te ho ow hs ra lo n)) (sl_sp (kM te ho ow hs ra lo n)) (sl_rs (kM te ho ow hs ra lo n)) (sl_st (kM te ho ow hs ra lo n)) (sl_av (kM te ho ow hs ra lo n)) (sl_pt (kM te ho ow hs ra lo n)) (md_tx M) (md_tm M) (md_ta M) (md_td M) (md_wo M) (md_sq M) (md_tk M) (md_bg M) (md_nu M) (md_wr M))) hk dX8_settle_238 (xw_at xw_up_s rfl) (xi_n (by omega) (by decide)) (xw_wr2 rfl) ?_
      refine xj.eqG (G' := xw_up G 21 (pM v (md_th M) (nR te (cpN 8 (hsM ho hs (sl_so (kM te ho ow hs ra lo n)) n) ho) ow hs ra lo (nI n) (xu (shD 0 7 st) 7 (sl_st (kM te ho ow hs ra lo n))) (xu (shD 0 7 av) 7 (sl_av (kM te ho ow hs ra lo n))) (xu (shD 0 7 so) 7 (sl_sp (kM te ho ow hs ra lo n) + sl_sr (kM te ho ow hs ra lo n))) (nI 7)) (shD 0 7 (md_pt M)) (md_re M) (md_sd M) be1 pb1 (nI (min a 11 + 1)) od ad wy so3 rl io3 (sl_po (kM te ho ow hs ra lo n)) (sl_sp (kM te ho ow hs ra lo n)) (sl_rs (kM te ho ow hs ra lo n)) (sl_st (kM te ho ow hs ra lo n)) (sl_av (kM te ho ow hs ra lo n)) (sl_pt (kM te ho ow hs ra lo n)) (md_tx M) (md_tm M) (md_ta M) (md_td M) (md_wo M) (md_sq M) (md_tk M) (md_bg M) (md_nu M) (md_wr M))) (by rw [wR_so (k := 7) (by omega)]) ?_
      refine xj_aload_n (i := 0) hk dX8_settle_239 rfl rfl ?_
      refine xj_getfield hk dX8_settle_240 fl_X8_17 (xw_at xw_up_s rfl) rfl ?_
      refine xj_iload hk dX8_settle_243 rfl ?_
      refine xj_lload_n (i := 2) hk dX8_settle_245 rfl rfl ?_
      refine xj_lastore (k := 7) (G2 := xw_up G 21 (pM v (md_th M) (nR te (cpN 8 (hsM ho hs (sl_so (kM te ho ow hs ra lo n)) n) ho) ow hs ra lo (nI n) (xu (shD 0 7 st) 7 (sl_st (kM te ho ow hs ra lo n))) (xu (shD 0 7 av) 7 (sl_av (kM te ho ow hs ra lo n))) (xu (shD 0 7 so) 7 (sl_sp (kM te ho ow hs ra lo n) + sl_sr (kM te ho ow hs ra lo n))) (nI 7)) (xu (shD 0 7 (md_pt M)) 7 (sml (payF (mB te ho ow hs ra lo n) (kM te ho ow hs ra lo n)) n)) (md_re M) (md_sd M) be1 pb1 (nI (min a 11 + 1)) od ad wy so3 rl io3 (sl_po (kM te ho ow hs ra lo n)) (sl_sp (kM te ho ow hs ra lo n)) (sl_rs (kM te ho ow hs ra lo n)) (sl_st (kM te ho ow hs ra lo n)) (sl_av (kM te ho ow hs ra lo n)) (sl_pt (kM te ho ow hs ra lo n)) (md_tx M) (md_tm M) (md_ta M) (md_td M) (md_wo M) (md_sq M) (md_tk M) (md_bg M) (md_nu M) (md_wr M))) hk dX8_settle_246 (xw_at xw_up_s rfl) (xi_n (by omega) (by decide)) (xw_wr2 rfl) ?_
      refine xj_aload_n (i := 0) hk dX8_settle_247 rfl rfl ?_
      refine xj_getfield hk dX8_settle_248 fl_X8_13 (xw_at xw_up_s rfl) rfl ?_
      refine xj_bipush (x := 114) hk dX8_settle_251 (by decide) ?_
      refine xj_dup2 hk dX8_settle_253 rfl rfl ?_
      refine xj_iaload (k := 114) hk dX8_settle_254 (xw_at xw_up_s rfl) (xi_d 114 139 (by decide)) ?_
      refine xj.eqi (x' := nI 7) rR_ln ?_
      refine xj_iconst (x := 1) hk dX8_settle_255 (by decide) ?_
      refine xj_iadd hk dX8_settle_256 ?_
      refine xj.eqi (x' := nI (7 + 1)) (nI_add 7 1) ?_
      refine xj_iastore (k := 114) (G2 := xw_up G 21 (pM v (md_th M) (xu (nR te (cpN 8 (hsM ho hs (sl_so (kM te ho ow hs ra lo n)) n) ho) ow hs ra lo (nI n) (xu (shD 0 7 st) 7 (sl_st (kM te ho ow hs ra lo n))) (xu (shD 0 7 av) 7 (sl_av (kM te ho ow hs ra lo n))) (xu (shD 0 7 so) 7 (sl_sp (kM te ho ow hs ra lo n) + sl_sr (kM te ho ow hs ra lo n))) (nI 7)) 114 (nI (7 + 1))) (xu (shD 0 7 (md_pt M)) 7 (sml (payF (mB te ho ow hs ra lo n) (kM te ho ow hs ra lo n)) n)) (md_re M) (md_sd M) be1 pb1 (nI (min a 11 + 1)) od ad wy so3 rl io3 (sl_po (kM te ho ow hs ra lo n)) (sl_sp (kM te ho ow hs ra lo n)) (sl_rs (kM te ho ow hs ra lo n)) (sl_st (kM te ho ow hs ra lo n)) (sl_av (kM te ho ow hs ra lo n)) (sl_pt (kM te ho ow hs ra lo n)) (md_tx M) (md_tm M) (md_ta M) (md_td M) (md_wo M) (md_sq M) (md_tk M) (md_bg M) (md_nu M) (md_wr M))) hk dX8_settle_257 (xw_at xw_up_s rfl) (xi_d 114 139 (by decide)) (xw_wr2 rfl) ?_
      refine xj.eqG (G' := xw_up G 21 (pM v (md_th M) (nR te (cpN 8 (hsM ho hs (sl_so (kM te ho ow hs ra lo n)) n) ho) ow hs ra lo (nI n) (xu (shD 0 7 st) 7 (sl_st (kM te ho ow hs ra lo n))) (xu (shD 0 7 av) 7 (sl_av (kM te ho ow hs ra lo n))) (xu (shD 0 7 so) 7 (sl_sp (kM te ho ow hs ra lo n) + sl_sr (kM te ho ow hs ra lo n))) (nI (7 + 1))) (xu (shD 0 7 (md_pt M)) 7 (sml (payF (mB te ho ow hs ra lo n) (kM te ho ow hs ra lo n)) n)) (md_re M) (md_sd M) be1 pb1 (nI (min a 11 + 1)) od ad wy so3 rl io3 (sl_po (kM te ho ow hs ra lo n)) (sl_sp (kM te ho ow hs ra lo n)) (sl_rs (kM te ho ow hs ra lo n)) (sl_st (kM te ho ow hs ra lo n)) (sl_av (kM te ho ow hs ra lo n)) (sl_pt (kM te ho ow hs ra lo n)) (md_tx M) (md_tm M) (md_ta M) (md_td M) (md_wo M) (md_sq M) (md_tk M) (md_bg M) (md_nu M) (md_wr M))) (by rw [wR_ln]) ?_
      refine xj_aload_n (i := 0) hk dX8_settle_258 rfl rfl ?_
      refine xj_getfield hk dX8_settle_259 fl_X8_13 (xw_at xw_up_s rfl) rfl ?_
      refine xj_bipush (x := 23) hk dX8_settle_262 (by decide) ?_
      refine xj_iconst (x := 0) hk dX8_settle_264 (by decide) ?_
      refine xj_iastore (k := 23) (G2 := xw_up G 21 (pM v (md_th M) (xu (nR te (cpN 8 (hsM ho hs (sl_so (kM te ho ow hs ra lo n)) n) ho) ow hs ra lo (nI n) (xu (shD 0 7 st) 7 (sl_st (kM te ho ow hs ra lo n))) (xu (shD 0 7 av) 7 (sl_av (kM te ho ow hs ra lo n))) (xu (shD 0 7 so) 7 (sl_sp (kM te ho ow hs ra lo n) + sl_sr (kM te ho ow hs ra lo n))) (nI (7 + 1))) 23 0) (xu (shD 0 7 (md_pt M)) 7 (sml (payF (mB te ho ow hs ra lo n) (kM te ho ow hs ra lo n)) n)) (md_re M) (md_sd M) be1 pb1 (nI (min a 11 + 1)) od ad wy so3 rl io3 (sl_po (kM te ho ow hs ra lo n)) (sl_sp (kM te ho ow hs ra lo n)) (sl_rs (kM te ho ow hs ra lo n)) (sl_st (kM te ho ow hs ra lo n)) (sl_av (kM te ho ow hs ra lo n)) (sl_pt (kM te ho ow hs ra lo n)) (md_tx M) (md_tm M) (md_ta M) (md_td M) (md_wo M) (md_sq M) (md_tk M) (md_bg M) (md_nu M) (md_wr M))) hk dX8_settle_265 (xw_at xw_up_s rfl) (xi_d 23 139 (by decide)) (xw_wr2 rfl) ?_
      refine xj.eqG (G' := xw_up G 21 (pM v (md_th M) (nR te (cpN 8 (hsM ho hs (sl_so (kM te ho ow hs ra lo n)) n) ho) ow hs ra lo 0 (xu (shD 0 7 st) 7 (sl_st (kM te ho ow hs ra lo n))) (xu (shD 0 7 av) 7 (sl_av (kM te ho ow hs ra lo n))) (xu (shD 0 7 so) 7 (sl_sp (kM te ho ow hs ra lo n) + sl_sr (kM te ho ow hs ra lo n))) (nI (7 + 1))) (xu (shD 0 7 (md_pt M)) 7 (sml (payF (mB te ho ow hs ra lo n) (kM te ho ow hs ra lo n)) n)) (md_re M) (md_sd M) be1 pb1 (nI (min a 11 + 1)) od ad wy so3 rl io3 (sl_po (kM te ho ow hs ra lo n)) (sl_sp (kM te ho ow hs ra lo n)) (sl_rs (kM te ho ow hs ra lo n)) (sl_st (kM te ho ow hs ra lo n)) (sl_av (kM te ho ow hs ra lo n)) (sl_pt (kM te ho ow hs ra lo n)) (md_tx M) (md_tm M) (md_ta M) (md_td M) (md_wo M) (md_sq M) (md_tk M) (md_bg M) (md_nu M) (md_wr M))) (by rw [wR_bi]) ?_
      refine xj_iload_n (i := 1) hk dX8_settle_266 rfl rfl ?_
      refine xj_ireturn hk hz dX8_settle_267 ?_
      have e8 : r = 8 := c97
      subst e8
      refine Or.inl ⟨c4, be1, pb1, hKP, rfl, ⟨⟨(md_th M, nR te (cpN 8 (hsM ho hs (sl_so (kM te ho ow hs ra lo n)) n) ho) ow hs ra lo 0 (xu (shD 0 7 st) 7 (sl_st (kM te ho ow hs ra lo n))) (xu (shD 0 7 av) 7 (sl_av (kM te ho ow hs ra lo n))) (xu (shD 0 7 so) 7 (sl_sp (kM te ho ow hs ra lo n) + sl_sr (kM te ho ow hs ra lo n))) (nI (7 + 1)), xu (shD 0 7 (md_pt M)) 7 (sml (payF (mB te ho ow hs ra lo n) (kM te ho ow hs ra lo n)) n), md_re M, md_sd M, be1, pb1, nI (min a 11 + 1), od, ad, wy, so3, rl, io3, sl_po (kM te ho ow hs ra lo n), sl_sp (kM te ho ow hs ra lo n), sl_rs (kM te ho ow hs ra lo n), sl_st (kM te ho ow hs ra lo n), sl_av (kM te ho ow hs ra lo n), sl_pt (kM te ho ow hs ra lo n), md_tx M, md_tm M, md_ta M, md_td M, md_wo M, md_sq M, md_tk M, md_bg M, md_nu M, md_wr M), ?_, ?_, rfl, rfl, rfl, rfl, rfl, rfl⟩, fun g h => xw_up_n h⟩⟩
      · exact xw_up_s
      · rfl
  · have c4 : n = 0 := (nI_eq (a := n) (b := 0) (by omega) (by omega)).mp c4
    refine xj_iconst (x := (-1)) hk dX8_settle_7 (by decide) ?_
    refine xj_ireturn hk hz dX8_settle_8 ?_
    exact Or.inr ⟨c4, rfl, ⟨⟨M, hM, rfl, rfl, rfl, rfl, rfl, rfl, rfl⟩, fun _ _ => rfl⟩⟩


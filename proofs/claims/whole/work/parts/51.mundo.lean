set_option maxHeartbeats 1000000 in
set_option maxRecDepth 10000 in
theorem l_X8_undo_21 {v : xw_V} {κ : xk_K} {post : Option Value → xw_G → Prop} {z : Nat × Nat × Nat} {G : xw_G} {M : md_T} {a : Nat} (hk : xk_Ok v κ yX8_undo cX8_undo 2 (some .int) 0 0) (hz : xk_zf κ = z) (hM0 : G 21 = pc_M v M) (hac : md_ac M = nI a) (ha : a < 12) (kx : xj v κ post z (xw_up G 21 (pM v (md_th M) (cpN 139 (fun i => md_be M (139 * a + i)) (md_no M)) (md_pt M) (md_re M) (md_sd M) (md_be M) (md_pb M) (md_ac M) (md_od M) (md_ad M) (md_wy M) (md_so M) (md_rl M) (md_io M) (md_po M) (md_sp M) (md_rs M) (md_st M) (md_av M) (md_ip M) (md_tx M) (md_tm M) (md_ta M) (md_td M) (md_wo M) (md_sq M) (md_tk M) (md_bg M) (md_nu M) (md_wr M))) 55 [some (.ref (xw_ad v 21 0)), some (.int (nI 139))] []) : ∀ (m : Nat) (k : Nat), 139 - k < m → k ≤ 139 → xj v κ post z (xw_up G 21 (pM v (md_th M) (cpN k (fun i => md_be M (139 * a + i)) (md_no M)) (md_pt M) (md_re M) (md_sd M) (md_be M) (md_pb M) (md_ac M) (md_od M) (md_ad M) (md_wy M) (md_so M) (md_rl M) (md_io M) (md_po M) (md_sp M) (md_rs M) (md_st M) (md_av M) (md_ip M) (md_tx M) (md_tm M) (md_ta M) (md_td M) (md_wo M) (md_sq M) (md_tk M) (md_bg M) (md_nu M) (md_wr M))) 21 [some (.ref (xw_ad v 21 0)), some (.int (nI k))] [] := by
  intro m
  induction m with
  | zero => intro k h; exact absurd h (Nat.not_lt_zero _)
  | succ m ih =>
    intro k hm hi
    refine xj_iload_n (i := 1) hk dX8_undo_21 rfl rfl ?_
    refine xj_sipush (x := 139) hk dX8_undo_22 (by decide) ?_
    refine xj_icmp_ge (tgt := 55) hk dX8_undo_25 (by decide) (fun c25 => ?_) (fun c25 => ?_)
    · have c25 : 139 ≤ k := (nI_leI (a := 139) (b := k) (by omega) (by omega)).mp c25
      have e9 : k = 139 := by omega
      subst e9
      exact kx
    · have c25 : ¬ 139 ≤ k := fun q => c25 ((nI_leI (a := 139) (b := k) (by omega) (by omega)).mpr q)
      refine xj_aload_n (i := 0) hk dX8_undo_28 rfl rfl ?_
      refine xj_getfield hk dX8_undo_29 fl_X8_13 (xw_at xw_up_s rfl) rfl ?_
      refine xj_iload_n (i := 1) hk dX8_undo_32 rfl rfl ?_
      refine xj_aload_n (i := 0) hk dX8_undo_33 rfl rfl ?_
      refine xj_getfield hk dX8_undo_34 fl_X8_27 (xw_at xw_up_s rfl) rfl ?_
      refine xj_sipush (x := 139) hk dX8_undo_37 (by decide) ?_
      refine xj_aload_n (i := 0) hk dX8_undo_40 rfl rfl ?_
      refine xj_getfield hk dX8_undo_41 fl_X8_66 (xw_at xw_up_s rfl) rfl ?_
      refine xj.eqi (x' := nI a) hac ?_
      refine xj_imul hk dX8_undo_44 ?_
      refine xj.eqi (x' := nI (139 * a)) (nI_mul 139 a) ?_
      refine xj_iload_n (i := 1) hk dX8_undo_45 rfl rfl ?_
      refine xj_iadd hk dX8_undo_46 ?_
      refine xj.eqi (x' := nI (139 * a + k)) (nI_add (139 * a) k) ?_
      refine xj_iaload (k := 139 * a + k) hk dX8_undo_47 (xw_at xw_up_s rfl) (xi_n (by omega) (by decide)) ?_
      refine xj_iastore (k := k) (G2 := xw_up G 21 (pM v (md_th M) (xu (cpN k (fun i => md_be M (139 * a + i)) (md_no M)) k (md_be M (139 * a + k))) (md_pt M) (md_re M) (md_sd M) (md_be M) (md_pb M) (md_ac M) (md_od M) (md_ad M) (md_wy M) (md_so M) (md_rl M) (md_io M) (md_po M) (md_sp M) (md_rs M) (md_st M) (md_av M) (md_ip M) (md_tx M) (md_tm M) (md_ta M) (md_td M) (md_wo M) (md_sq M) (md_tk M) (md_bg M) (md_nu M) (md_wr M))) hk dX8_undo_48 (xw_at xw_up_s rfl) (xi_n (by omega) (by decide)) (xw_wr2 rfl) ?_
      refine xj_iinc (i := 1) (x2 := nI (k + 1)) (ls2 := [some (.ref (xw_ad v 21 0)), some (.int (nI (k + 1)))]) hk dX8_undo_49 rfl (nI_1 k) (by decide) rfl rfl ?_
      refine xj_goto (tgt := 21) hk dX8_undo_52 (by decide) ?_
      refine xj.eqG (G' := xw_up G 21 (pM v (md_th M) (cpN ((k + 1)) (fun i => md_be M (139 * a + i)) (md_no M)) (md_pt M) (md_re M) (md_sd M) (md_be M) (md_pb M) (md_ac M) (md_od M) (md_ad M) (md_wy M) (md_so M) (md_rl M) (md_io M) (md_po M) (md_sp M) (md_rs M) (md_st M) (md_av M) (md_ip M) (md_tx M) (md_tm M) (md_ta M) (md_td M) (md_wo M) (md_sq M) (md_tk M) (md_bg M) (md_nu M) (md_wr M))) (by rw [cp_e (f' := fun i => md_be M (139 * a + i)) rfl]) (ih (k + 1) (by omega) (by omega))

set_option maxHeartbeats 1000000 in
set_option maxRecDepth 10000 in
theorem l_X8_undo_57 {v : xw_V} {κ : xk_K} {post : Option Value → xw_G → Prop} {z : Nat × Nat × Nat} {G : xw_G} {M : md_T} {a : Nat} (hk : xk_Ok v κ yX8_undo cX8_undo 2 (some .int) 0 0) (hz : xk_zf κ = z) (hM0 : G 21 = pc_M v M) (hac : md_ac M = nI a) (ha : a < 12) (kx : xj v κ post z (xw_up G 21 (pM v (md_th M) (md_no M) (cpN 8 (fun i => md_pb M (8 * a + i)) (md_pt M)) (md_re M) (md_sd M) (md_be M) (md_pb M) (md_ac M) (md_od M) (md_ad M) (md_wy M) (md_so M) (md_rl M) (md_io M) (md_po M) (md_sp M) (md_rs M) (md_st M) (md_av M) (md_ip M) (md_tx M) (md_tm M) (md_ta M) (md_td M) (md_wo M) (md_sq M) (md_tk M) (md_bg M) (md_nu M) (md_wr M))) 89 [some (.ref (xw_ad v 21 0)), some (.int (nI 8))] []) : ∀ (m : Nat) (k : Nat), 8 - k < m → k ≤ 8 → xj v κ post z (xw_up G 21 (pM v (md_th M) (md_no M) (cpN k (fun i => md_pb M (8 * a + i)) (md_pt M)) (md_re M) (md_sd M) (md_be M) (md_pb M) (md_ac M) (md_od M) (md_ad M) (md_wy M) (md_so M) (md_rl M) (md_io M) (md_po M) (md_sp M) (md_rs M) (md_st M) (md_av M) (md_ip M) (md_tx M) (md_tm M) (md_ta M) (md_td M) (md_wo M) (md_sq M) (md_tk M) (md_bg M) (md_nu M) (md_wr M))) 57 [some (.ref (xw_ad v 21 0)), some (.int (nI k))] [] := by
  intro m
  induction m with
  | zero => intro k h; exact absurd h (Nat.not_lt_zero _)
  | succ m ih =>
    intro k hm hi
    refine xj_iload_n (i := 1) hk dX8_undo_57 rfl rfl ?_
    refine xj_bipush (x := 8) hk dX8_undo_58 (by decide) ?_
    refine xj_icmp_ge (tgt := 89) hk dX8_undo_60 (by decide) (fun c60 => ?_) (fun c60 => ?_)
    · have c60 : 8 ≤ k := (nI_leI (a := 8) (b := k) (by omega) (by omega)).mp c60
      have e9 : k = 8 := by omega
      subst e9
      exact kx
    · have c60 : ¬ 8 ≤ k := fun q => c60 ((nI_leI (a := 8) (b := k) (by omega) (by omega)).mpr q)
      refine xj_aload_n (i := 0) hk dX8_undo_63 rfl rfl ?_
      refine xj_getfield hk dX8_undo_64 fl_X8_17 (xw_at xw_up_s rfl) rfl ?_
      refine xj_iload_n (i := 1) hk dX8_undo_67 rfl rfl ?_
      refine xj_aload_n (i := 0) hk dX8_undo_68 rfl rfl ?_
      refine xj_getfield hk dX8_undo_69 fl_X8_30 (xw_at xw_up_s rfl) rfl ?_
      refine xj_bipush (x := 8) hk dX8_undo_72 (by decide) ?_
      refine xj_aload_n (i := 0) hk dX8_undo_74 rfl rfl ?_
      refine xj_getfield hk dX8_undo_75 fl_X8_66 (xw_at xw_up_s rfl) rfl ?_
      refine xj.eqi (x' := nI a) hac ?_
      refine xj_imul hk dX8_undo_78 ?_
      refine xj.eqi (x' := nI (8 * a)) (nI_mul 8 a) ?_
      refine xj_iload_n (i := 1) hk dX8_undo_79 rfl rfl ?_
      refine xj_iadd hk dX8_undo_80 ?_
      refine xj.eqi (x' := nI (8 * a + k)) (nI_add (8 * a) k) ?_
      refine xj_laload (k := 8 * a + k) hk dX8_undo_81 (xw_at xw_up_s rfl) (xi_n (by omega) (by decide)) ?_
      refine xj_lastore (k := k) (G2 := xw_up G 21 (pM v (md_th M) (md_no M) (xu (cpN k (fun i => md_pb M (8 * a + i)) (md_pt M)) k (md_pb M (8 * a + k))) (md_re M) (md_sd M) (md_be M) (md_pb M) (md_ac M) (md_od M) (md_ad M) (md_wy M) (md_so M) (md_rl M) (md_io M) (md_po M) (md_sp M) (md_rs M) (md_st M) (md_av M) (md_ip M) (md_tx M) (md_tm M) (md_ta M) (md_td M) (md_wo M) (md_sq M) (md_tk M) (md_bg M) (md_nu M) (md_wr M))) hk dX8_undo_82 (xw_at xw_up_s rfl) (xi_n (by omega) (by decide)) (xw_wr2 rfl) ?_
      refine xj_iinc (i := 1) (x2 := nI (k + 1)) (ls2 := [some (.ref (xw_ad v 21 0)), some (.int (nI (k + 1)))]) hk dX8_undo_83 rfl (nI_1 k) (by decide) rfl rfl ?_
      refine xj_goto (tgt := 57) hk dX8_undo_86 (by decide) ?_
      refine xj.eqG (G' := xw_up G 21 (pM v (md_th M) (md_no M) (cpN ((k + 1)) (fun i => md_pb M (8 * a + i)) (md_pt M)) (md_re M) (md_sd M) (md_be M) (md_pb M) (md_ac M) (md_od M) (md_ad M) (md_wy M) (md_so M) (md_rl M) (md_io M) (md_po M) (md_sp M) (md_rs M) (md_st M) (md_av M) (md_ip M) (md_tx M) (md_tm M) (md_ta M) (md_td M) (md_wo M) (md_sq M) (md_tk M) (md_bg M) (md_nu M) (md_wr M))) (by rw [cp_e (f' := fun i => md_pb M (8 * a + i)) rfl]) (ih (k + 1) (by omega) (by omega))

set_option maxHeartbeats 1000000 in
set_option maxRecDepth 10000 in
theorem c_X8_undo {v : xw_V} {G : xw_G} {M : md_T} {a : Nat} (hM0 : G 21 = pc_M v M) (hac : md_ac M = nI a) (ha12 : a ≤ 12) : xk_Con v yX8_undo cX8_undo 2 (some .int) 0 0 [.ref (xw_ad v 21 0)] G (fun r9 G' => (1 ≤ a ∧ r9 = some (.int (nI (a - 1))) ∧ G' = xw_up G 21 (pM v (md_th M) (cpN 139 (fun i => (md_be M) (139 * (a - 1) + i)) (md_no M)) (cpN 8 (fun i => (md_pb M) (8 * (a - 1) + i)) (md_pt M)) (md_re M) (md_sd M) (md_be M) (md_pb M) (nI (a - 1)) (md_od M) (md_ad M) (md_wy M) (md_so M) (md_rl M) (md_io M) (md_po M) (md_sp M) (md_rs M) (md_st M) (md_av M) (md_ip M) (md_tx M) (md_tm M) (md_ta M) (md_td M) (md_wo M) (md_sq M) (md_tk M) (md_bg M) (md_nu M) (md_wr M))) ∨ (a = 0 ∧ r9 = some (.int (-1)) ∧ G' = G)) := by
  refine xk_of (ls0 := [some (.ref (xw_ad v 21 0)), none]) (by decide) rfl (Nat.le_of_ble_eq_true rfl) ?_
  intro κ z hk hz
  refine xj_aload_n (i := 0) hk dX8_undo_0 rfl rfl ?_
  refine xj_getfield hk dX8_undo_1 fl_X8_66 (xw_at hM0 rfl) rfl ?_
  refine xj.eqi (x' := nI a) hac ?_
  refine xj_if_ne (tgt := 9) hk dX8_undo_4 (by decide) (fun c4 => ?_) (fun c4 => ?_)
  · have c4 : ¬ a = 0 := fun q => c4 ((nI_eq (a := a) (b := 0) (by omega) (by omega)).mpr q)
    refine xj_aload_n (i := 0) hk dX8_undo_9 rfl rfl ?_
    refine xj_dup hk dX8_undo_10 rfl ?_
    refine xj_getfield hk dX8_undo_11 fl_X8_66 (xw_at hM0 rfl) rfl ?_
    refine xj.eqi (x' := nI a) hac ?_
    refine xj_iconst (x := 1) hk dX8_undo_14 (by decide) ?_
    refine xj_isub hk dX8_undo_15 ?_
    refine xj.eqi (x' := nI (a - 1)) (nI_sub1 (by omega)) ?_
    refine xj_putfield (G2 := xw_up G 21 (pM v (md_th M) (md_no M) (md_pt M) (md_re M) (md_sd M) (md_be M) (md_pb M) (nI (a - 1)) (md_od M) (md_ad M) (md_wy M) (md_so M) (md_rl M) (md_io M) (md_po M) (md_sp M) (md_rs M) (md_st M) (md_av M) (md_ip M) (md_tx M) (md_tm M) (md_ta M) (md_td M) (md_wo M) (md_sq M) (md_tk M) (md_bg M) (md_nu M) (md_wr M))) hk dX8_undo_16 fl_X8_66 rfl rfl (xw_at hM0 rfl) (Nat.le_of_ble_eq_true rfl) (xw_wr hM0 rfl) ?_
    refine xj_iconst (x := 0) hk dX8_undo_19 (by decide) ?_
    refine xj_istore_n (i := 1) (ls2 := [some (.ref (xw_ad v 21 0)), some (.int 0)]) hk dX8_undo_20 rfl (by decide) rfl rfl ?_
    refine xj.eqG (G' := xw_up (xw_up G 21 (pM v (md_th M) (md_no M) (md_pt M) (md_re M) (md_sd M) (md_be M) (md_pb M) (nI (a - 1)) (md_od M) (md_ad M) (md_wy M) (md_so M) (md_rl M) (md_io M) (md_po M) (md_sp M) (md_rs M) (md_st M) (md_av M) (md_ip M) (md_tx M) (md_tm M) (md_ta M) (md_td M) (md_wo M) (md_sq M) (md_tk M) (md_bg M) (md_nu M) (md_wr M))) 21 (pM v (md_th M) (cpN 0 (fun i => (md_be M) (139 * (a - 1) + i)) (md_no M)) (md_pt M) (md_re M) (md_sd M) (md_be M) (md_pb M) (nI (a - 1)) (md_od M) (md_ad M) (md_wy M) (md_so M) (md_rl M) (md_io M) (md_po M) (md_sp M) (md_rs M) (md_st M) (md_av M) (md_ip M) (md_tx M) (md_tm M) (md_ta M) (md_td M) (md_wo M) (md_sq M) (md_tk M) (md_bg M) (md_nu M) (md_wr M))) (by simp only [cp_0]; exact (xw_up_same xw_up_s).symm) ?_
    refine l_X8_undo_21 (M := (md_th M, md_no M, md_pt M, md_re M, md_sd M, md_be M, md_pb M, nI (a - 1), md_od M, md_ad M, md_wy M, md_so M, md_rl M, md_io M, md_po M, md_sp M, md_rs M, md_st M, md_av M, md_ip M, md_tx M, md_tm M, md_ta M, md_td M, md_wo M, md_sq M, md_tk M, md_bg M, md_nu M, md_wr M)) hk hz (show (xw_up G 21 (pM v (md_th M) (md_no M) (md_pt M) (md_re M) (md_sd M) (md_be M) (md_pb M) (nI (a - 1)) (md_od M) (md_ad M) (md_wy M) (md_so M) (md_rl M) (md_io M) (md_po M) (md_sp M) (md_rs M) (md_st M) (md_av M) (md_ip M) (md_tx M) (md_tm M) (md_ta M) (md_td M) (md_wo M) (md_sq M) (md_tk M) (md_bg M) (md_nu M) (md_wr M))) 21 = pM v (md_th M) (md_no M) (md_pt M) (md_re M) (md_sd M) (md_be M) (md_pb M) (nI (a - 1)) (md_od M) (md_ad M) (md_wy M) (md_so M) (md_rl M) (md_io M) (md_po M) (md_sp M) (md_rs M) (md_st M) (md_av M) (md_ip M) (md_tx M) (md_tm M) (md_ta M) (md_td M) (md_wo M) (md_sq M) (md_tk M) (md_bg M) (md_nu M) (md_wr M) from xw_up_s) (show nI (a - 1) = nI (a - 1) from rfl) (by omega) ?_ (139 + 1) 0 (by omega) (by omega)
    refine xj.eqG (G' := xw_up G 21 (pM v (md_th M) (cpN 139 (fun i => (md_be M) (139 * (a - 1) + i)) (md_no M)) (md_pt M) (md_re M) (md_sd M) (md_be M) (md_pb M) (nI (a - 1)) (md_od M) (md_ad M) (md_wy M) (md_so M) (md_rl M) (md_io M) (md_po M) (md_sp M) (md_rs M) (md_st M) (md_av M) (md_ip M) (md_tx M) (md_tm M) (md_ta M) (md_td M) (md_wo M) (md_sq M) (md_tk M) (md_bg M) (md_nu M) (md_wr M))) (by first | rfl | (rw [xw_up_u]; rfl)) ?_
    refine xj_iconst (x := 0) hk dX8_undo_55 (by decide) ?_
    refine xj_istore_n (i := 1) (ls2 := [some (.ref (xw_ad v 21 0)), some (.int 0)]) hk dX8_undo_56 rfl (by decide) rfl rfl ?_
    refine xj.eqG (G' := xw_up (xw_up G 21 (pM v (md_th M) (cpN 139 (fun i => (md_be M) (139 * (a - 1) + i)) (md_no M)) (md_pt M) (md_re M) (md_sd M) (md_be M) (md_pb M) (nI (a - 1)) (md_od M) (md_ad M) (md_wy M) (md_so M) (md_rl M) (md_io M) (md_po M) (md_sp M) (md_rs M) (md_st M) (md_av M) (md_ip M) (md_tx M) (md_tm M) (md_ta M) (md_td M) (md_wo M) (md_sq M) (md_tk M) (md_bg M) (md_nu M) (md_wr M))) 21 (pM v (md_th M) (cpN 139 (fun i => (md_be M) (139 * (a - 1) + i)) (md_no M)) (cpN 0 (fun i => (md_pb M) (8 * (a - 1) + i)) (md_pt M)) (md_re M) (md_sd M) (md_be M) (md_pb M) (nI (a - 1)) (md_od M) (md_ad M) (md_wy M) (md_so M) (md_rl M) (md_io M) (md_po M) (md_sp M) (md_rs M) (md_st M) (md_av M) (md_ip M) (md_tx M) (md_tm M) (md_ta M) (md_td M) (md_wo M) (md_sq M) (md_tk M) (md_bg M) (md_nu M) (md_wr M))) (by simp only [cp_0]; exact (xw_up_same xw_up_s).symm) ?_
    refine l_X8_undo_57 (M := (md_th M, cpN 139 (fun i => (md_be M) (139 * (a - 1) + i)) (md_no M), md_pt M, md_re M, md_sd M, md_be M, md_pb M, nI (a - 1), md_od M, md_ad M, md_wy M, md_so M, md_rl M, md_io M, md_po M, md_sp M, md_rs M, md_st M, md_av M, md_ip M, md_tx M, md_tm M, md_ta M, md_td M, md_wo M, md_sq M, md_tk M, md_bg M, md_nu M, md_wr M)) hk hz (show (xw_up G 21 (pM v (md_th M) (cpN 139 (fun i => (md_be M) (139 * (a - 1) + i)) (md_no M)) (md_pt M) (md_re M) (md_sd M) (md_be M) (md_pb M) (nI (a - 1)) (md_od M) (md_ad M) (md_wy M) (md_so M) (md_rl M) (md_io M) (md_po M) (md_sp M) (md_rs M) (md_st M) (md_av M) (md_ip M) (md_tx M) (md_tm M) (md_ta M) (md_td M) (md_wo M) (md_sq M) (md_tk M) (md_bg M) (md_nu M) (md_wr M))) 21 = pM v (md_th M) (cpN 139 (fun i => (md_be M) (139 * (a - 1) + i)) (md_no M)) (md_pt M) (md_re M) (md_sd M) (md_be M) (md_pb M) (nI (a - 1)) (md_od M) (md_ad M) (md_wy M) (md_so M) (md_rl M) (md_io M) (md_po M) (md_sp M) (md_rs M) (md_st M) (md_av M) (md_ip M) (md_tx M) (md_tm M) (md_ta M) (md_td M) (md_wo M) (md_sq M) (md_tk M) (md_bg M) (md_nu M) (md_wr M) from xw_up_s) (show nI (a - 1) = nI (a - 1) from rfl) (by omega) ?_ (8 + 1) 0 (by omega) (by omega)
    refine xj.eqG (G' := xw_up G 21 (pM v (md_th M) (cpN 139 (fun i => (md_be M) (139 * (a - 1) + i)) (md_no M)) (cpN 8 (fun i => (md_pb M) (8 * (a - 1) + i)) (md_pt M)) (md_re M) (md_sd M) (md_be M) (md_pb M) (nI (a - 1)) (md_od M) (md_ad M) (md_wy M) (md_so M) (md_rl M) (md_io M) (md_po M) (md_sp M) (md_rs M) (md_st M) (md_av M) (md_ip M) (md_tx M) (md_tm M) (md_ta M) (md_td M) (md_wo M) (md_sq M) (md_tk M) (md_bg M) (md_nu M) (md_wr M))) (by first | rfl | (rw [xw_up_u]; rfl)) ?_
    refine xj_aload_n (i := 0) hk dX8_undo_89 rfl rfl ?_
    refine xj_getfield hk dX8_undo_90 fl_X8_66 (xw_at xw_up_s rfl) rfl ?_
    refine xj_ireturn hk hz dX8_undo_93 ?_
    exact Or.inl ⟨by omega, rfl, rfl⟩
  · have c4 : a = 0 := (nI_eq (a := a) (b := 0) (by omega) (by omega)).mp c4
    refine xj_iconst (x := (-1)) hk dX8_undo_7 (by decide) ?_
    refine xj_ireturn hk hz dX8_undo_8 ?_
    exact Or.inr ⟨c4, rfl, rfl⟩

set_option maxHeartbeats 1000000 in
set_option maxRecDepth 10000 in
theorem c_X8_back {v : xw_V} {G : xw_G} {M : md_T} {l : Nat} (hM0 : G 21 = pc_M v M) (htd : md_td M = nI l) (hl : l ≤ 700) (x : Int32) : xk_Con v yX8_back cX8_back 2 (some .int) 1 22 [.ref (xw_ad v 21 0), .int x] G (fun r9 G' => (mIn x 0 (nI l) = true ∧ r9 = some (.int (nI (l - xn x))) ∧ G' = xw_up G 21 (pM v (md_th M) (md_no M) (md_pt M) (md_re M) (md_sd M) (md_be M) (md_pb M) (md_ac M) (md_od M) (md_ad M) (md_wy M) (md_so M) (md_rl M) (md_io M) (md_po M) (md_sp M) (md_rs M) (md_st M) (md_av M) (md_ip M) (md_tx M) (md_tm M) (md_ta M) (nI (l - xn x)) (md_wo M) (md_sq M) (md_tk M) (md_bg M) (md_nu M) (md_wr M))) ∨ (mIn x 0 (nI l) = false ∧ r9 = some (.int (-1)) ∧ G' = G)) := by
  refine xk_of (ls0 := [some (.ref (xw_ad v 21 0)), some (.int x)]) (by decide) rfl (Nat.le_of_ble_eq_true rfl) ?_
  intro κ z hk hz
  refine xj_iload_n (i := 1) hk dX8_back_0 rfl rfl ?_
  refine xj_iconst (x := 0) hk dX8_back_1 (by decide) ?_
  refine xj_aload_n (i := 0) hk dX8_back_2 rfl rfl ?_
  refine xj_getfield hk dX8_back_3 fl_X8_250 (xw_at hM0 rfl) rfl ?_
  refine xj.eqi (x' := nI l) htd ?_
  refine xj_callS hk hz (fr1 := 0) (lo1 := 0) (r1 := some (.int (xb (mIn x 0 (nI l))))) (As := [.int x, .int 0, .int (nI l)]) (st := []) (st2 := [.int (xb (mIn x 0 (nI l)))]) (G1 := G) ml_X8_69 (c_X8_in x 0 (nI l)) dX8_back_6 ⟨Nat.le_of_ble_eq_true rfl, Nat.le_of_ble_eq_true rfl⟩ rfl (Nat.le_of_ble_eq_true rfl) rfl rfl ?_
  refine xj_ifb_ne (tgt := 14) hk dX8_back_9 (by decide) (fun c9 => ?_) (fun c9 => ?_)
  · obtain ⟨j, hj, rfl⟩ := mIn_of (m := l) (by omega) c9
    refine xj_aload_n (i := 0) hk dX8_back_14 rfl rfl ?_
    refine xj_dup hk dX8_back_15 rfl ?_
    refine xj_getfield hk dX8_back_16 fl_X8_250 (xw_at hM0 rfl) rfl ?_
    refine xj.eqi (x' := nI l) htd ?_
    refine xj_iload_n (i := 1) hk dX8_back_19 rfl rfl ?_
    refine xj_isub hk dX8_back_20 ?_
    refine xj.eqi (x' := nI (l - j)) (nI_sub hj) ?_
    refine xj_putfield (G2 := xw_up G 21 (pM v (md_th M) (md_no M) (md_pt M) (md_re M) (md_sd M) (md_be M) (md_pb M) (md_ac M) (md_od M) (md_ad M) (md_wy M) (md_so M) (md_rl M) (md_io M) (md_po M) (md_sp M) (md_rs M) (md_st M) (md_av M) (md_ip M) (md_tx M) (md_tm M) (md_ta M) (nI (l - j)) (md_wo M) (md_sq M) (md_tk M) (md_bg M) (md_nu M) (md_wr M))) hk dX8_back_21 fl_X8_250 rfl rfl (xw_at hM0 rfl) (Nat.le_of_ble_eq_true rfl) (xw_wr hM0 rfl) ?_
    refine xj_aload_n (i := 0) hk dX8_back_24 rfl rfl ?_
    refine xj_getfield hk dX8_back_25 fl_X8_250 (xw_at xw_up_s rfl) rfl ?_
    refine xj_ireturn hk hz dX8_back_28 ?_
    exact Or.inl ⟨c9, by rw [xn_nI (by omega)], by rw [xn_nI (by omega)]⟩
  · refine xj_iconst (x := (-1)) hk dX8_back_12 (by decide) ?_
    refine xj_ireturn hk hz dX8_back_13 ?_
    exact Or.inr ⟨c9, rfl, rfl⟩


theorem nR_z {x : Nat} : nR (fun _ => 0) (fun _ => 0) (fun _ => 0) (fun _ => 0) (fun _ => 0) (fun _ => 0) 0 (fun _ => 0) (fun _ => 0) (fun _ => 0) 0 x = 0 := by
  simp only [nR, ite_self]
theorem nQ_z {g : Nat → Int32} : cpN 139 (fun _ => 0) g = nQ (fun _ => 0) (fun _ => 0) (fun _ => 0) (fun _ => 0) (fun _ => 0) (fun _ => 0) 0 g := by
  funext x
  simp only [nQ, cpN, nR_z]
theorem cpz_s {g : Nat → Int32} {k : Nat} : xu (cpN k (fun _ => 0) g) k 0 = cpN (k + 1) (fun _ => 0) g := cp_s k (fun _ => 0) g
def TE0 : Nat → Int32 := xu (xu (xu (xu (xu (fun _ => 0) 0 100) 1 35) 2 20) 4 999) 5 90
set_option maxHeartbeats 1000000 in
set_option maxRecDepth 10000 in
theorem l_begins_2re {v : xw_V} {κ : xk_K} {post : Option Value → xw_G → Prop} {z : Nat × Nat × Nat} {G : xw_G} {M : md_T} (hk : xk_Ok v κ yX8_begins cX8_begins 2 none 0 0) (hz : xk_zf κ = z) (hM0 : G 21 = pc_M v M) (kx : xj v κ post z (xw_up G 21 (pM v (md_th M) (md_no M) (md_pt M) (cpN 139 (fun _ => 0) (md_re M)) (md_sd M) (md_be M) (md_pb M) (md_ac M) (md_od M) (md_ad M) (md_wy M) (md_so M) (md_rl M) (md_io M) (md_po M) (md_sp M) (md_rs M) (md_st M) (md_av M) (md_ip M) (md_tx M) (md_tm M) (md_ta M) (md_td M) (md_wo M) (md_sq M) (md_tk M) (md_bg M) (md_nu M) (md_wr M))) 19 [some (.ref (xw_ad v 21 3)), some (.int (nI 139))] []) : ∀ (m : Nat) (k : Nat), 139 - k < m → k ≤ 139 → xj v κ post z (xw_up G 21 (pM v (md_th M) (md_no M) (md_pt M) (cpN k (fun _ => 0) (md_re M)) (md_sd M) (md_be M) (md_pb M) (md_ac M) (md_od M) (md_ad M) (md_wy M) (md_so M) (md_rl M) (md_io M) (md_po M) (md_sp M) (md_rs M) (md_st M) (md_av M) (md_ip M) (md_tx M) (md_tm M) (md_ta M) (md_td M) (md_wo M) (md_sq M) (md_tk M) (md_bg M) (md_nu M) (md_wr M))) 2 [some (.ref (xw_ad v 21 3)), some (.int (nI k))] [] := by
  intro m
  induction m with
  | zero => intro k h; exact absurd h (Nat.not_lt_zero _)
  | succ m ih =>
    intro k hm hi
    refine xj_iload_n (i := 1) hk dX8_begins_2 rfl rfl ?_
    refine xj_sipush (x := 139) hk dX8_begins_3 (by decide) ?_
    refine xj_icmp_ge (tgt := 19) hk dX8_begins_6 (by decide) (fun c6 => ?_) (fun c6 => ?_)
    · have c6 : 139 ≤ k := (nI_leI (a := 139) (b := k) (by omega) (by omega)).mp c6
      have e9 : k = 139 := by omega
      subst e9
      exact kx
    · have c6 : ¬ 139 ≤ k := fun q => c6 ((nI_leI (a := 139) (b := k) (by omega) (by omega)).mpr q)
      refine xj_aload_n (i := 0) hk dX8_begins_9 rfl rfl ?_
      refine xj_iload_n (i := 1) hk dX8_begins_10 rfl rfl ?_
      refine xj_iconst (x := 0) hk dX8_begins_11 (by decide) ?_
      refine xj_iastore (k := k) (G2 := xw_up G 21 (pM v (md_th M) (md_no M) (md_pt M) (xu (cpN k (fun _ => 0) (md_re M)) k 0) (md_sd M) (md_be M) (md_pb M) (md_ac M) (md_od M) (md_ad M) (md_wy M) (md_so M) (md_rl M) (md_io M) (md_po M) (md_sp M) (md_rs M) (md_st M) (md_av M) (md_ip M) (md_tx M) (md_tm M) (md_ta M) (md_td M) (md_wo M) (md_sq M) (md_tk M) (md_bg M) (md_nu M) (md_wr M))) hk dX8_begins_12 (xw_at xw_up_s rfl) (xi_n (by omega) (by decide)) (xw_wr2 rfl) ?_
      refine xj_iinc (i := 1) (x2 := nI (k + 1)) (ls2 := [some (.ref (xw_ad v 21 3)), some (.int (nI (k + 1)))]) hk dX8_begins_13 rfl (nI_1 k) (by decide) rfl rfl ?_
      refine xj_goto (tgt := 2) hk dX8_begins_16 (by decide) ?_
      refine xj.eqG (G' := xw_up G 21 (pM v (md_th M) (md_no M) (md_pt M) (cpN ((k + 1)) (fun _ => 0) (md_re M)) (md_sd M) (md_be M) (md_pb M) (md_ac M) (md_od M) (md_ad M) (md_wy M) (md_so M) (md_rl M) (md_io M) (md_po M) (md_sp M) (md_rs M) (md_st M) (md_av M) (md_ip M) (md_tx M) (md_tm M) (md_ta M) (md_td M) (md_wo M) (md_sq M) (md_tk M) (md_bg M) (md_nu M) (md_wr M))) (by rw [cpz_s]) (ih (k + 1) (by omega) (by omega))

set_option maxHeartbeats 1000000 in
set_option maxRecDepth 10000 in
theorem l_begins_47re {v : xw_V} {κ : xk_K} {post : Option Value → xw_G → Prop} {z : Nat × Nat × Nat} {G : xw_G} {M : md_T} (hk : xk_Ok v κ yX8_begins cX8_begins 2 none 0 0) (hz : xk_zf κ = z) (hM0 : G 21 = pc_M v M) (kx : xj v κ post z (xw_up G 21 (pM v (md_th M) (md_no M) (md_pt M) (nQ TE0 (fun _ => 0) (cpN 8 nI (fun _ => 0)) (fun _ => 0) (fun _ => 0) (fun _ => 0) 0 (md_re M)) (md_sd M) (md_be M) (md_pb M) (md_ac M) (md_od M) (md_ad M) (md_wy M) (md_so M) (md_rl M) (md_io M) (md_po M) (md_sp M) (md_rs M) (md_st M) (md_av M) (md_ip M) (md_tx M) (md_tm M) (md_ta M) (md_td M) (md_wo M) (md_sq M) (md_tk M) (md_bg M) (md_nu M) (md_wr M))) 66 [some (.ref (xw_ad v 21 3)), some (.int (nI 8))] []) : ∀ (m : Nat) (k : Nat), 8 - k < m → k ≤ 8 → xj v κ post z (xw_up G 21 (pM v (md_th M) (md_no M) (md_pt M) (nQ TE0 (fun _ => 0) (cpN k nI (fun _ => 0)) (fun _ => 0) (fun _ => 0) (fun _ => 0) 0 (md_re M)) (md_sd M) (md_be M) (md_pb M) (md_ac M) (md_od M) (md_ad M) (md_wy M) (md_so M) (md_rl M) (md_io M) (md_po M) (md_sp M) (md_rs M) (md_st M) (md_av M) (md_ip M) (md_tx M) (md_tm M) (md_ta M) (md_td M) (md_wo M) (md_sq M) (md_tk M) (md_bg M) (md_nu M) (md_wr M))) 47 [some (.ref (xw_ad v 21 3)), some (.int (nI k))] [] := by
  intro m
  induction m with
  | zero => intro k h; exact absurd h (Nat.not_lt_zero _)
  | succ m ih =>
    intro k hm hi
    refine xj_iload_n (i := 1) hk dX8_begins_47 rfl rfl ?_
    refine xj_bipush (x := 8) hk dX8_begins_48 (by decide) ?_
    refine xj_icmp_ge (tgt := 66) hk dX8_begins_50 (by decide) (fun c50 => ?_) (fun c50 => ?_)
    · have c50 : 8 ≤ k := (nI_leI (a := 8) (b := k) (by omega) (by omega)).mp c50
      have e9 : k = 8 := by omega
      subst e9
      exact kx
    · have c50 : ¬ 8 ≤ k := fun q => c50 ((nI_leI (a := 8) (b := k) (by omega) (by omega)).mpr q)
      refine xj_aload_n (i := 0) hk dX8_begins_53 rfl rfl ?_
      refine xj_bipush (x := 15) hk dX8_begins_54 (by decide) ?_
      refine xj_iload_n (i := 1) hk dX8_begins_56 rfl rfl ?_
      refine xj_iadd hk dX8_begins_57 ?_
      refine xj.eqi (x' := nI (15 + k)) (nI_add 15 k) ?_
      refine xj_iload_n (i := 1) hk dX8_begins_58 rfl rfl ?_
      refine xj_iastore (k := 15 + k) (G2 := xw_up G 21 (pM v (md_th M) (md_no M) (md_pt M) (xu (nQ TE0 (fun _ => 0) (cpN k nI (fun _ => 0)) (fun _ => 0) (fun _ => 0) (fun _ => 0) 0 (md_re M)) (15 + k) (nI k)) (md_sd M) (md_be M) (md_pb M) (md_ac M) (md_od M) (md_ad M) (md_wy M) (md_so M) (md_rl M) (md_io M) (md_po M) (md_sp M) (md_rs M) (md_st M) (md_av M) (md_ip M) (md_tx M) (md_tm M) (md_ta M) (md_td M) (md_wo M) (md_sq M) (md_tk M) (md_bg M) (md_nu M) (md_wr M))) hk dX8_begins_59 (xw_at xw_up_s rfl) (xi_n (by omega) (by decide)) (xw_wr2 rfl) ?_
      refine xj.eqG (G' := xw_up G 21 (pM v (md_th M) (md_no M) (md_pt M) (nQ TE0 (fun _ => 0) (xu (cpN k nI (fun _ => 0)) k (nI k)) (fun _ => 0) (fun _ => 0) (fun _ => 0) 0 (md_re M)) (md_sd M) (md_be M) (md_pb M) (md_ac M) (md_od M) (md_ad M) (md_wy M) (md_so M) (md_rl M) (md_io M) (md_po M) (md_sp M) (md_rs M) (md_st M) (md_av M) (md_ip M) (md_tx M) (md_tm M) (md_ta M) (md_td M) (md_wo M) (md_sq M) (md_tk M) (md_bg M) (md_nu M) (md_wr M))) (by rw [wQ_ow (k := k) (by omega)]) ?_
      refine xj_iinc (i := 1) (x2 := nI (k + 1)) (ls2 := [some (.ref (xw_ad v 21 3)), some (.int (nI (k + 1)))]) hk dX8_begins_60 rfl (nI_1 k) (by decide) rfl rfl ?_
      refine xj_goto (tgt := 47) hk dX8_begins_63 (by decide) ?_
      refine xj.eqG (G' := xw_up G 21 (pM v (md_th M) (md_no M) (md_pt M) (nQ TE0 (fun _ => 0) (cpN ((k + 1)) nI (fun _ => 0)) (fun _ => 0) (fun _ => 0) (fun _ => 0) 0 (md_re M)) (md_sd M) (md_be M) (md_pb M) (md_ac M) (md_od M) (md_ad M) (md_wy M) (md_so M) (md_rl M) (md_io M) (md_po M) (md_sp M) (md_rs M) (md_st M) (md_av M) (md_ip M) (md_tx M) (md_tm M) (md_ta M) (md_td M) (md_wo M) (md_sq M) (md_tk M) (md_bg M) (md_nu M) (md_wr M))) (by simp only [cp_s]) (ih (k + 1) (by omega) (by omega))

set_option maxHeartbeats 1000000 in
set_option maxRecDepth 10000 in
theorem c_begins_re {v : xw_V} {G : xw_G} {M : md_T} (hM0 : G 21 = pc_M v M) : xk_Con v yX8_begins cX8_begins 2 none 0 0 [.ref (xw_ad v 21 3)] G (xk_ret none (xw_up G 21 (pM v (md_th M) (md_no M) (md_pt M) (nQ TE0 (fun _ => 0) (cpN 8 nI (fun _ => 0)) (fun _ => 0) (fun _ => 0) (fun _ => 0) 0 (md_re M)) (md_sd M) (md_be M) (md_pb M) (md_ac M) (md_od M) (md_ad M) (md_wy M) (md_so M) (md_rl M) (md_io M) (md_po M) (md_sp M) (md_rs M) (md_st M) (md_av M) (md_ip M) (md_tx M) (md_tm M) (md_ta M) (md_td M) (md_wo M) (md_sq M) (md_tk M) (md_bg M) (md_nu M) (md_wr M)))) := by
  refine xk_of (ls0 := [some (.ref (xw_ad v 21 3)), none]) (by decide) rfl (Nat.le_of_ble_eq_true rfl) ?_
  intro κ z hk hz
  refine xj_iconst (x := 0) hk dX8_begins_0 (by decide) ?_
  refine xj_istore_n (i := 1) (ls2 := [some (.ref (xw_ad v 21 3)), some (.int 0)]) hk dX8_begins_1 rfl (by decide) rfl rfl ?_
  refine xj.eqG (G' := xw_up G 21 (pM v (md_th M) (md_no M) (md_pt M) (cpN 0 (fun _ => 0) (md_re M)) (md_sd M) (md_be M) (md_pb M) (md_ac M) (md_od M) (md_ad M) (md_wy M) (md_so M) (md_rl M) (md_io M) (md_po M) (md_sp M) (md_rs M) (md_st M) (md_av M) (md_ip M) (md_tx M) (md_tm M) (md_ta M) (md_td M) (md_wo M) (md_sq M) (md_tk M) (md_bg M) (md_nu M) (md_wr M))) (by rw [cp_0]; exact (xw_up_same hM0).symm) ?_
  refine l_begins_2re hk hz hM0 ?_ (139 + 1) 0 (by omega) (by omega)
  refine xj.eqG (G' := xw_up G 21 (pM v (md_th M) (md_no M) (md_pt M) (nQ (fun _ => 0) (fun _ => 0) (fun _ => 0) (fun _ => 0) (fun _ => 0) (fun _ => 0) 0 (md_re M)) (md_sd M) (md_be M) (md_pb M) (md_ac M) (md_od M) (md_ad M) (md_wy M) (md_so M) (md_rl M) (md_io M) (md_po M) (md_sp M) (md_rs M) (md_st M) (md_av M) (md_ip M) (md_tx M) (md_tm M) (md_ta M) (md_td M) (md_wo M) (md_sq M) (md_tk M) (md_bg M) (md_nu M) (md_wr M))) (by rw [nQ_z]) ?_
  refine xj_aload_n (i := 0) hk dX8_begins_19 rfl rfl ?_
  refine xj_iconst (x := 0) hk dX8_begins_20 (by decide) ?_
  refine xj_bipush (x := 100) hk dX8_begins_21 (by decide) ?_
  refine xj_iastore (k := 0) (G2 := xw_up G 21 (pM v (md_th M) (md_no M) (md_pt M) (xu (nQ (fun _ => 0) (fun _ => 0) (fun _ => 0) (fun _ => 0) (fun _ => 0) (fun _ => 0) 0 (md_re M)) 0 100) (md_sd M) (md_be M) (md_pb M) (md_ac M) (md_od M) (md_ad M) (md_wy M) (md_so M) (md_rl M) (md_io M) (md_po M) (md_sp M) (md_rs M) (md_st M) (md_av M) (md_ip M) (md_tx M) (md_tm M) (md_ta M) (md_td M) (md_wo M) (md_sq M) (md_tk M) (md_bg M) (md_nu M) (md_wr M))) hk dX8_begins_23 (xw_at xw_up_s rfl) (xi_d 0 139 (by decide)) (xw_wr2 rfl) ?_
  refine xj.eqG (G' := xw_up G 21 (pM v (md_th M) (md_no M) (md_pt M) (nQ (xu (fun _ => 0) 0 100) (fun _ => 0) (fun _ => 0) (fun _ => 0) (fun _ => 0) (fun _ => 0) 0 (md_re M)) (md_sd M) (md_be M) (md_pb M) (md_ac M) (md_od M) (md_ad M) (md_wy M) (md_so M) (md_rl M) (md_io M) (md_po M) (md_sp M) (md_rs M) (md_st M) (md_av M) (md_ip M) (md_tx M) (md_tm M) (md_ta M) (md_td M) (md_wo M) (md_sq M) (md_tk M) (md_bg M) (md_nu M) (md_wr M))) (by rw [wQ_te (k := 0) (by omega)]) ?_
  refine xj_aload_n (i := 0) hk dX8_begins_24 rfl rfl ?_
  refine xj_iconst (x := 1) hk dX8_begins_25 (by decide) ?_
  refine xj_bipush (x := 35) hk dX8_begins_26 (by decide) ?_
  refine xj_iastore (k := 1) (G2 := xw_up G 21 (pM v (md_th M) (md_no M) (md_pt M) (xu (nQ (xu (fun _ => 0) 0 100) (fun _ => 0) (fun _ => 0) (fun _ => 0) (fun _ => 0) (fun _ => 0) 0 (md_re M)) 1 35) (md_sd M) (md_be M) (md_pb M) (md_ac M) (md_od M) (md_ad M) (md_wy M) (md_so M) (md_rl M) (md_io M) (md_po M) (md_sp M) (md_rs M) (md_st M) (md_av M) (md_ip M) (md_tx M) (md_tm M) (md_ta M) (md_td M) (md_wo M) (md_sq M) (md_tk M) (md_bg M) (md_nu M) (md_wr M))) hk dX8_begins_28 (xw_at xw_up_s rfl) (xi_d 1 139 (by decide)) (xw_wr2 rfl) ?_
  refine xj.eqG (G' := xw_up G 21 (pM v (md_th M) (md_no M) (md_pt M) (nQ (xu (xu (fun _ => 0) 0 100) 1 35) (fun _ => 0) (fun _ => 0) (fun _ => 0) (fun _ => 0) (fun _ => 0) 0 (md_re M)) (md_sd M) (md_be M) (md_pb M) (md_ac M) (md_od M) (md_ad M) (md_wy M) (md_so M) (md_rl M) (md_io M) (md_po M) (md_sp M) (md_rs M) (md_st M) (md_av M) (md_ip M) (md_tx M) (md_tm M) (md_ta M) (md_td M) (md_wo M) (md_sq M) (md_tk M) (md_bg M) (md_nu M) (md_wr M))) (by rw [wQ_te (k := 1) (by omega)]) ?_
  refine xj_aload_n (i := 0) hk dX8_begins_29 rfl rfl ?_
  refine xj_iconst (x := 2) hk dX8_begins_30 (by decide) ?_
  refine xj_bipush (x := 20) hk dX8_begins_31 (by decide) ?_
  refine xj_iastore (k := 2) (G2 := xw_up G 21 (pM v (md_th M) (md_no M) (md_pt M) (xu (nQ (xu (xu (fun _ => 0) 0 100) 1 35) (fun _ => 0) (fun _ => 0) (fun _ => 0) (fun _ => 0) (fun _ => 0) 0 (md_re M)) 2 20) (md_sd M) (md_be M) (md_pb M) (md_ac M) (md_od M) (md_ad M) (md_wy M) (md_so M) (md_rl M) (md_io M) (md_po M) (md_sp M) (md_rs M) (md_st M) (md_av M) (md_ip M) (md_tx M) (md_tm M) (md_ta M) (md_td M) (md_wo M) (md_sq M) (md_tk M) (md_bg M) (md_nu M) (md_wr M))) hk dX8_begins_33 (xw_at xw_up_s rfl) (xi_d 2 139 (by decide)) (xw_wr2 rfl) ?_
  refine xj.eqG (G' := xw_up G 21 (pM v (md_th M) (md_no M) (md_pt M) (nQ (xu (xu (xu (fun _ => 0) 0 100) 1 35) 2 20) (fun _ => 0) (fun _ => 0) (fun _ => 0) (fun _ => 0) (fun _ => 0) 0 (md_re M)) (md_sd M) (md_be M) (md_pb M) (md_ac M) (md_od M) (md_ad M) (md_wy M) (md_so M) (md_rl M) (md_io M) (md_po M) (md_sp M) (md_rs M) (md_st M) (md_av M) (md_ip M) (md_tx M) (md_tm M) (md_ta M) (md_td M) (md_wo M) (md_sq M) (md_tk M) (md_bg M) (md_nu M) (md_wr M))) (by rw [wQ_te (k := 2) (by omega)]) ?_
  refine xj_aload_n (i := 0) hk dX8_begins_34 rfl rfl ?_
  refine xj_iconst (x := 4) hk dX8_begins_35 (by decide) ?_
  refine xj_sipush (x := 999) hk dX8_begins_36 (by decide) ?_
  refine xj_iastore (k := 4) (G2 := xw_up G 21 (pM v (md_th M) (md_no M) (md_pt M) (xu (nQ (xu (xu (xu (fun _ => 0) 0 100) 1 35) 2 20) (fun _ => 0) (fun _ => 0) (fun _ => 0) (fun _ => 0) (fun _ => 0) 0 (md_re M)) 4 999) (md_sd M) (md_be M) (md_pb M) (md_ac M) (md_od M) (md_ad M) (md_wy M) (md_so M) (md_rl M) (md_io M) (md_po M) (md_sp M) (md_rs M) (md_st M) (md_av M) (md_ip M) (md_tx M) (md_tm M) (md_ta M) (md_td M) (md_wo M) (md_sq M) (md_tk M) (md_bg M) (md_nu M) (md_wr M))) hk dX8_begins_39 (xw_at xw_up_s rfl) (xi_d 4 139 (by decide)) (xw_wr2 rfl) ?_
  refine xj.eqG (G' := xw_up G 21 (pM v (md_th M) (md_no M) (md_pt M) (nQ (xu (xu (xu (xu (fun _ => 0) 0 100) 1 35) 2 20) 4 999) (fun _ => 0) (fun _ => 0) (fun _ => 0) (fun _ => 0) (fun _ => 0) 0 (md_re M)) (md_sd M) (md_be M) (md_pb M) (md_ac M) (md_od M) (md_ad M) (md_wy M) (md_so M) (md_rl M) (md_io M) (md_po M) (md_sp M) (md_rs M) (md_st M) (md_av M) (md_ip M) (md_tx M) (md_tm M) (md_ta M) (md_td M) (md_wo M) (md_sq M) (md_tk M) (md_bg M) (md_nu M) (md_wr M))) (by rw [wQ_te (k := 4) (by omega)]) ?_
  refine xj_aload_n (i := 0) hk dX8_begins_40 rfl rfl ?_
  refine xj_iconst (x := 5) hk dX8_begins_41 (by decide) ?_
  refine xj_bipush (x := 90) hk dX8_begins_42 (by decide) ?_
  refine xj_iastore (k := 5) (G2 := xw_up G 21 (pM v (md_th M) (md_no M) (md_pt M) (xu (nQ (xu (xu (xu (xu (fun _ => 0) 0 100) 1 35) 2 20) 4 999) (fun _ => 0) (fun _ => 0) (fun _ => 0) (fun _ => 0) (fun _ => 0) 0 (md_re M)) 5 90) (md_sd M) (md_be M) (md_pb M) (md_ac M) (md_od M) (md_ad M) (md_wy M) (md_so M) (md_rl M) (md_io M) (md_po M) (md_sp M) (md_rs M) (md_st M) (md_av M) (md_ip M) (md_tx M) (md_tm M) (md_ta M) (md_td M) (md_wo M) (md_sq M) (md_tk M) (md_bg M) (md_nu M) (md_wr M))) hk dX8_begins_44 (xw_at xw_up_s rfl) (xi_d 5 139 (by decide)) (xw_wr2 rfl) ?_
  refine xj.eqG (G' := xw_up G 21 (pM v (md_th M) (md_no M) (md_pt M) (nQ (xu (xu (xu (xu (xu (fun _ => 0) 0 100) 1 35) 2 20) 4 999) 5 90) (fun _ => 0) (fun _ => 0) (fun _ => 0) (fun _ => 0) (fun _ => 0) 0 (md_re M)) (md_sd M) (md_be M) (md_pb M) (md_ac M) (md_od M) (md_ad M) (md_wy M) (md_so M) (md_rl M) (md_io M) (md_po M) (md_sp M) (md_rs M) (md_st M) (md_av M) (md_ip M) (md_tx M) (md_tm M) (md_ta M) (md_td M) (md_wo M) (md_sq M) (md_tk M) (md_bg M) (md_nu M) (md_wr M))) (by rw [wQ_te (k := 5) (by omega)]) ?_
  refine xj_iconst (x := 0) hk dX8_begins_45 (by decide) ?_
  refine xj_istore_n (i := 1) (ls2 := [some (.ref (xw_ad v 21 3)), some (.int 0)]) hk dX8_begins_46 rfl (by decide) rfl rfl ?_
  refine xj.eqG (G' := xw_up G 21 (pM v (md_th M) (md_no M) (md_pt M) (nQ TE0 (fun _ => 0) (cpN 0 nI (fun _ => 0)) (fun _ => 0) (fun _ => 0) (fun _ => 0) 0 (md_re M)) (md_sd M) (md_be M) (md_pb M) (md_ac M) (md_od M) (md_ad M) (md_wy M) (md_so M) (md_rl M) (md_io M) (md_po M) (md_sp M) (md_rs M) (md_st M) (md_av M) (md_ip M) (md_tx M) (md_tm M) (md_ta M) (md_td M) (md_wo M) (md_sq M) (md_tk M) (md_bg M) (md_nu M) (md_wr M))) (by rw [cp_0]; rfl) ?_
  refine l_begins_47re hk hz hM0 ?_ (8 + 1) 0 (by omega) (by omega)
  refine xj_return hk hz dX8_begins_66 ?_
  exact ⟨rfl, rfl⟩

set_option maxHeartbeats 1000000 in
set_option maxRecDepth 10000 in
theorem l_begins_2no {v : xw_V} {κ : xk_K} {post : Option Value → xw_G → Prop} {z : Nat × Nat × Nat} {G : xw_G} {M : md_T} (hk : xk_Ok v κ yX8_begins cX8_begins 2 none 0 0) (hz : xk_zf κ = z) (hM0 : G 21 = pc_M v M) (kx : xj v κ post z (xw_up G 21 (pM v (md_th M) (cpN 139 (fun _ => 0) (md_no M)) (md_pt M) (md_re M) (md_sd M) (md_be M) (md_pb M) (md_ac M) (md_od M) (md_ad M) (md_wy M) (md_so M) (md_rl M) (md_io M) (md_po M) (md_sp M) (md_rs M) (md_st M) (md_av M) (md_ip M) (md_tx M) (md_tm M) (md_ta M) (md_td M) (md_wo M) (md_sq M) (md_tk M) (md_bg M) (md_nu M) (md_wr M))) 19 [some (.ref (xw_ad v 21 1)), some (.int (nI 139))] []) : ∀ (m : Nat) (k : Nat), 139 - k < m → k ≤ 139 → xj v κ post z (xw_up G 21 (pM v (md_th M) (cpN k (fun _ => 0) (md_no M)) (md_pt M) (md_re M) (md_sd M) (md_be M) (md_pb M) (md_ac M) (md_od M) (md_ad M) (md_wy M) (md_so M) (md_rl M) (md_io M) (md_po M) (md_sp M) (md_rs M) (md_st M) (md_av M) (md_ip M) (md_tx M) (md_tm M) (md_ta M) (md_td M) (md_wo M) (md_sq M) (md_tk M) (md_bg M) (md_nu M) (md_wr M))) 2 [some (.ref (xw_ad v 21 1)), some (.int (nI k))] [] := by
  intro m
  induction m with
  | zero => intro k h; exact absurd h (Nat.not_lt_zero _)
  | succ m ih =>
    intro k hm hi
    refine xj_iload_n (i := 1) hk dX8_begins_2 rfl rfl ?_
    refine xj_sipush (x := 139) hk dX8_begins_3 (by decide) ?_
    refine xj_icmp_ge (tgt := 19) hk dX8_begins_6 (by decide) (fun c6 => ?_) (fun c6 => ?_)
    · have c6 : 139 ≤ k := (nI_leI (a := 139) (b := k) (by omega) (by omega)).mp c6
      have e9 : k = 139 := by omega
      subst e9
      exact kx
    · have c6 : ¬ 139 ≤ k := fun q => c6 ((nI_leI (a := 139) (b := k) (by omega) (by omega)).mpr q)
      refine xj_aload_n (i := 0) hk dX8_begins_9 rfl rfl ?_
      refine xj_iload_n (i := 1) hk dX8_begins_10 rfl rfl ?_
      refine xj_iconst (x := 0) hk dX8_begins_11 (by decide) ?_
      refine xj_iastore (k := k) (G2 := xw_up G 21 (pM v (md_th M) (xu (cpN k (fun _ => 0) (md_no M)) k 0) (md_pt M) (md_re M) (md_sd M) (md_be M) (md_pb M) (md_ac M) (md_od M) (md_ad M) (md_wy M) (md_so M) (md_rl M) (md_io M) (md_po M) (md_sp M) (md_rs M) (md_st M) (md_av M) (md_ip M) (md_tx M) (md_tm M) (md_ta M) (md_td M) (md_wo M) (md_sq M) (md_tk M) (md_bg M) (md_nu M) (md_wr M))) hk dX8_begins_12 (xw_at xw_up_s rfl) (xi_n (by omega) (by decide)) (xw_wr2 rfl) ?_
      refine xj_iinc (i := 1) (x2 := nI (k + 1)) (ls2 := [some (.ref (xw_ad v 21 1)), some (.int (nI (k + 1)))]) hk dX8_begins_13 rfl (nI_1 k) (by decide) rfl rfl ?_
      refine xj_goto (tgt := 2) hk dX8_begins_16 (by decide) ?_
      refine xj.eqG (G' := xw_up G 21 (pM v (md_th M) (cpN ((k + 1)) (fun _ => 0) (md_no M)) (md_pt M) (md_re M) (md_sd M) (md_be M) (md_pb M) (md_ac M) (md_od M) (md_ad M) (md_wy M) (md_so M) (md_rl M) (md_io M) (md_po M) (md_sp M) (md_rs M) (md_st M) (md_av M) (md_ip M) (md_tx M) (md_tm M) (md_ta M) (md_td M) (md_wo M) (md_sq M) (md_tk M) (md_bg M) (md_nu M) (md_wr M))) (by rw [cpz_s]) (ih (k + 1) (by omega) (by omega))

set_option maxHeartbeats 1000000 in
set_option maxRecDepth 10000 in
theorem l_begins_47no {v : xw_V} {κ : xk_K} {post : Option Value → xw_G → Prop} {z : Nat × Nat × Nat} {G : xw_G} {M : md_T} (hk : xk_Ok v κ yX8_begins cX8_begins 2 none 0 0) (hz : xk_zf κ = z) (hM0 : G 21 = pc_M v M) (kx : xj v κ post z (xw_up G 21 (pM v (md_th M) (nQ TE0 (fun _ => 0) (cpN 8 nI (fun _ => 0)) (fun _ => 0) (fun _ => 0) (fun _ => 0) 0 (md_no M)) (md_pt M) (md_re M) (md_sd M) (md_be M) (md_pb M) (md_ac M) (md_od M) (md_ad M) (md_wy M) (md_so M) (md_rl M) (md_io M) (md_po M) (md_sp M) (md_rs M) (md_st M) (md_av M) (md_ip M) (md_tx M) (md_tm M) (md_ta M) (md_td M) (md_wo M) (md_sq M) (md_tk M) (md_bg M) (md_nu M) (md_wr M))) 66 [some (.ref (xw_ad v 21 1)), some (.int (nI 8))] []) : ∀ (m : Nat) (k : Nat), 8 - k < m → k ≤ 8 → xj v κ post z (xw_up G 21 (pM v (md_th M) (nQ TE0 (fun _ => 0) (cpN k nI (fun _ => 0)) (fun _ => 0) (fun _ => 0) (fun _ => 0) 0 (md_no M)) (md_pt M) (md_re M) (md_sd M) (md_be M) (md_pb M) (md_ac M) (md_od M) (md_ad M) (md_wy M) (md_so M) (md_rl M) (md_io M) (md_po M) (md_sp M) (md_rs M) (md_st M) (md_av M) (md_ip M) (md_tx M) (md_tm M) (md_ta M) (md_td M) (md_wo M) (md_sq M) (md_tk M) (md_bg M) (md_nu M) (md_wr M))) 47 [some (.ref (xw_ad v 21 1)), some (.int (nI k))] [] := by
  intro m
  induction m with
  | zero => intro k h; exact absurd h (Nat.not_lt_zero _)
  | succ m ih =>
    intro k hm hi
    refine xj_iload_n (i := 1) hk dX8_begins_47 rfl rfl ?_
    refine xj_bipush (x := 8) hk dX8_begins_48 (by decide) ?_
    refine xj_icmp_ge (tgt := 66) hk dX8_begins_50 (by decide) (fun c50 => ?_) (fun c50 => ?_)
    · have c50 : 8 ≤ k := (nI_leI (a := 8) (b := k) (by omega) (by omega)).mp c50
      have e9 : k = 8 := by omega
      subst e9
      exact kx
    · have c50 : ¬ 8 ≤ k := fun q => c50 ((nI_leI (a := 8) (b := k) (by omega) (by omega)).mpr q)
      refine xj_aload_n (i := 0) hk dX8_begins_53 rfl rfl ?_
      refine xj_bipush (x := 15) hk dX8_begins_54 (by decide) ?_
      refine xj_iload_n (i := 1) hk dX8_begins_56 rfl rfl ?_
      refine xj_iadd hk dX8_begins_57 ?_
      refine xj.eqi (x' := nI (15 + k)) (nI_add 15 k) ?_
      refine xj_iload_n (i := 1) hk dX8_begins_58 rfl rfl ?_
      refine xj_iastore (k := 15 + k) (G2 := xw_up G 21 (pM v (md_th M) (xu (nQ TE0 (fun _ => 0) (cpN k nI (fun _ => 0)) (fun _ => 0) (fun _ => 0) (fun _ => 0) 0 (md_no M)) (15 + k) (nI k)) (md_pt M) (md_re M) (md_sd M) (md_be M) (md_pb M) (md_ac M) (md_od M) (md_ad M) (md_wy M) (md_so M) (md_rl M) (md_io M) (md_po M) (md_sp M) (md_rs M) (md_st M) (md_av M) (md_ip M) (md_tx M) (md_tm M) (md_ta M) (md_td M) (md_wo M) (md_sq M) (md_tk M) (md_bg M) (md_nu M) (md_wr M))) hk dX8_begins_59 (xw_at xw_up_s rfl) (xi_n (by omega) (by decide)) (xw_wr2 rfl) ?_
      refine xj.eqG (G' := xw_up G 21 (pM v (md_th M) (nQ TE0 (fun _ => 0) (xu (cpN k nI (fun _ => 0)) k (nI k)) (fun _ => 0) (fun _ => 0) (fun _ => 0) 0 (md_no M)) (md_pt M) (md_re M) (md_sd M) (md_be M) (md_pb M) (md_ac M) (md_od M) (md_ad M) (md_wy M) (md_so M) (md_rl M) (md_io M) (md_po M) (md_sp M) (md_rs M) (md_st M) (md_av M) (md_ip M) (md_tx M) (md_tm M) (md_ta M) (md_td M) (md_wo M) (md_sq M) (md_tk M) (md_bg M) (md_nu M) (md_wr M))) (by rw [wQ_ow (k := k) (by omega)]) ?_
      refine xj_iinc (i := 1) (x2 := nI (k + 1)) (ls2 := [some (.ref (xw_ad v 21 1)), some (.int (nI (k + 1)))]) hk dX8_begins_60 rfl (nI_1 k) (by decide) rfl rfl ?_
      refine xj_goto (tgt := 47) hk dX8_begins_63 (by decide) ?_
      refine xj.eqG (G' := xw_up G 21 (pM v (md_th M) (nQ TE0 (fun _ => 0) (cpN ((k + 1)) nI (fun _ => 0)) (fun _ => 0) (fun _ => 0) (fun _ => 0) 0 (md_no M)) (md_pt M) (md_re M) (md_sd M) (md_be M) (md_pb M) (md_ac M) (md_od M) (md_ad M) (md_wy M) (md_so M) (md_rl M) (md_io M) (md_po M) (md_sp M) (md_rs M) (md_st M) (md_av M) (md_ip M) (md_tx M) (md_tm M) (md_ta M) (md_td M) (md_wo M) (md_sq M) (md_tk M) (md_bg M) (md_nu M) (md_wr M))) (by simp only [cp_s]) (ih (k + 1) (by omega) (by omega))

set_option maxHeartbeats 1000000 in
set_option maxRecDepth 10000 in
theorem c_begins_no {v : xw_V} {G : xw_G} {M : md_T} (hM0 : G 21 = pc_M v M) : xk_Con v yX8_begins cX8_begins 2 none 0 0 [.ref (xw_ad v 21 1)] G (xk_ret none (xw_up G 21 (pM v (md_th M) (nQ TE0 (fun _ => 0) (cpN 8 nI (fun _ => 0)) (fun _ => 0) (fun _ => 0) (fun _ => 0) 0 (md_no M)) (md_pt M) (md_re M) (md_sd M) (md_be M) (md_pb M) (md_ac M) (md_od M) (md_ad M) (md_wy M) (md_so M) (md_rl M) (md_io M) (md_po M) (md_sp M) (md_rs M) (md_st M) (md_av M) (md_ip M) (md_tx M) (md_tm M) (md_ta M) (md_td M) (md_wo M) (md_sq M) (md_tk M) (md_bg M) (md_nu M) (md_wr M)))) := by
  refine xk_of (ls0 := [some (.ref (xw_ad v 21 1)), none]) (by decide) rfl (Nat.le_of_ble_eq_true rfl) ?_
  intro κ z hk hz
  refine xj_iconst (x := 0) hk dX8_begins_0 (by decide) ?_
  refine xj_istore_n (i := 1) (ls2 := [some (.ref (xw_ad v 21 1)), some (.int 0)]) hk dX8_begins_1 rfl (by decide) rfl rfl ?_
  refine xj.eqG (G' := xw_up G 21 (pM v (md_th M) (cpN 0 (fun _ => 0) (md_no M)) (md_pt M) (md_re M) (md_sd M) (md_be M) (md_pb M) (md_ac M) (md_od M) (md_ad M) (md_wy M) (md_so M) (md_rl M) (md_io M) (md_po M) (md_sp M) (md_rs M) (md_st M) (md_av M) (md_ip M) (md_tx M) (md_tm M) (md_ta M) (md_td M) (md_wo M) (md_sq M) (md_tk M) (md_bg M) (md_nu M) (md_wr M))) (by rw [cp_0]; exact (xw_up_same hM0).symm) ?_
  refine l_begins_2no hk hz hM0 ?_ (139 + 1) 0 (by omega) (by omega)
  refine xj.eqG (G' := xw_up G 21 (pM v (md_th M) (nQ (fun _ => 0) (fun _ => 0) (fun _ => 0) (fun _ => 0) (fun _ => 0) (fun _ => 0) 0 (md_no M)) (md_pt M) (md_re M) (md_sd M) (md_be M) (md_pb M) (md_ac M) (md_od M) (md_ad M) (md_wy M) (md_so M) (md_rl M) (md_io M) (md_po M) (md_sp M) (md_rs M) (md_st M) (md_av M) (md_ip M) (md_tx M) (md_tm M) (md_ta M) (md_td M) (md_wo M) (md_sq M) (md_tk M) (md_bg M) (md_nu M) (md_wr M))) (by rw [nQ_z]) ?_
  refine xj_aload_n (i := 0) hk dX8_begins_19 rfl rfl ?_
  refine xj_iconst (x := 0) hk dX8_begins_20 (by decide) ?_
  refine xj_bipush (x := 100) hk dX8_begins_21 (by decide) ?_
  refine xj_iastore (k := 0) (G2 := xw_up G 21 (pM v (md_th M) (xu (nQ (fun _ => 0) (fun _ => 0) (fun _ => 0) (fun _ => 0) (fun _ => 0) (fun _ => 0) 0 (md_no M)) 0 100) (md_pt M) (md_re M) (md_sd M) (md_be M) (md_pb M) (md_ac M) (md_od M) (md_ad M) (md_wy M) (md_so M) (md_rl M) (md_io M) (md_po M) (md_sp M) (md_rs M) (md_st M) (md_av M) (md_ip M) (md_tx M) (md_tm M) (md_ta M) (md_td M) (md_wo M) (md_sq M) (md_tk M) (md_bg M) (md_nu M) (md_wr M))) hk dX8_begins_23 (xw_at xw_up_s rfl) (xi_d 0 139 (by decide)) (xw_wr2 rfl) ?_
  refine xj.eqG (G' := xw_up G 21 (pM v (md_th M) (nQ (xu (fun _ => 0) 0 100) (fun _ => 0) (fun _ => 0) (fun _ => 0) (fun _ => 0) (fun _ => 0) 0 (md_no M)) (md_pt M) (md_re M) (md_sd M) (md_be M) (md_pb M) (md_ac M) (md_od M) (md_ad M) (md_wy M) (md_so M) (md_rl M) (md_io M) (md_po M) (md_sp M) (md_rs M) (md_st M) (md_av M) (md_ip M) (md_tx M) (md_tm M) (md_ta M) (md_td M) (md_wo M) (md_sq M) (md_tk M) (md_bg M) (md_nu M) (md_wr M))) (by rw [wQ_te (k := 0) (by omega)]) ?_
  refine xj_aload_n (i := 0) hk dX8_begins_24 rfl rfl ?_
  refine xj_iconst (x := 1) hk dX8_begins_25 (by decide) ?_
  refine xj_bipush (x := 35) hk dX8_begins_26 (by decide) ?_
  refine xj_iastore (k := 1) (G2 := xw_up G 21 (pM v (md_th M) (xu (nQ (xu (fun _ => 0) 0 100) (fun _ => 0) (fun _ => 0) (fun _ => 0) (fun _ => 0) (fun _ => 0) 0 (md_no M)) 1 35) (md_pt M) (md_re M) (md_sd M) (md_be M) (md_pb M) (md_ac M) (md_od M) (md_ad M) (md_wy M) (md_so M) (md_rl M) (md_io M) (md_po M) (md_sp M) (md_rs M) (md_st M) (md_av M) (md_ip M) (md_tx M) (md_tm M) (md_ta M) (md_td M) (md_wo M) (md_sq M) (md_tk M) (md_bg M) (md_nu M) (md_wr M))) hk dX8_begins_28 (xw_at xw_up_s rfl) (xi_d 1 139 (by decide)) (xw_wr2 rfl) ?_
  refine xj.eqG (G' := xw_up G 21 (pM v (md_th M) (nQ (xu (xu (fun _ => 0) 0 100) 1 35) (fun _ => 0) (fun _ => 0) (fun _ => 0) (fun _ => 0) (fun _ => 0) 0 (md_no M)) (md_pt M) (md_re M) (md_sd M) (md_be M) (md_pb M) (md_ac M) (md_od M) (md_ad M) (md_wy M) (md_so M) (md_rl M) (md_io M) (md_po M) (md_sp M) (md_rs M) (md_st M) (md_av M) (md_ip M) (md_tx M) (md_tm M) (md_ta M) (md_td M) (md_wo M) (md_sq M) (md_tk M) (md_bg M) (md_nu M) (md_wr M))) (by rw [wQ_te (k := 1) (by omega)]) ?_
  refine xj_aload_n (i := 0) hk dX8_begins_29 rfl rfl ?_
  refine xj_iconst (x := 2) hk dX8_begins_30 (by decide) ?_
  refine xj_bipush (x := 20) hk dX8_begins_31 (by decide) ?_
  refine xj_iastore (k := 2) (G2 := xw_up G 21 (pM v (md_th M) (xu (nQ (xu (xu (fun _ => 0) 0 100) 1 35) (fun _ => 0) (fun _ => 0) (fun _ => 0) (fun _ => 0) (fun _ => 0) 0 (md_no M)) 2 20) (md_pt M) (md_re M) (md_sd M) (md_be M) (md_pb M) (md_ac M) (md_od M) (md_ad M) (md_wy M) (md_so M) (md_rl M) (md_io M) (md_po M) (md_sp M) (md_rs M) (md_st M) (md_av M) (md_ip M) (md_tx M) (md_tm M) (md_ta M) (md_td M) (md_wo M) (md_sq M) (md_tk M) (md_bg M) (md_nu M) (md_wr M))) hk dX8_begins_33 (xw_at xw_up_s rfl) (xi_d 2 139 (by decide)) (xw_wr2 rfl) ?_
  refine xj.eqG (G' := xw_up G 21 (pM v (md_th M) (nQ (xu (xu (xu (fun _ => 0) 0 100) 1 35) 2 20) (fun _ => 0) (fun _ => 0) (fun _ => 0) (fun _ => 0) (fun _ => 0) 0 (md_no M)) (md_pt M) (md_re M) (md_sd M) (md_be M) (md_pb M) (md_ac M) (md_od M) (md_ad M) (md_wy M) (md_so M) (md_rl M) (md_io M) (md_po M) (md_sp M) (md_rs M) (md_st M) (md_av M) (md_ip M) (md_tx M) (md_tm M) (md_ta M) (md_td M) (md_wo M) (md_sq M) (md_tk M) (md_bg M) (md_nu M) (md_wr M))) (by rw [wQ_te (k := 2) (by omega)]) ?_
  refine xj_aload_n (i := 0) hk dX8_begins_34 rfl rfl ?_
  refine xj_iconst (x := 4) hk dX8_begins_35 (by decide) ?_
  refine xj_sipush (x := 999) hk dX8_begins_36 (by decide) ?_
  refine xj_iastore (k := 4) (G2 := xw_up G 21 (pM v (md_th M) (xu (nQ (xu (xu (xu (fun _ => 0) 0 100) 1 35) 2 20) (fun _ => 0) (fun _ => 0) (fun _ => 0) (fun _ => 0) (fun _ => 0) 0 (md_no M)) 4 999) (md_pt M) (md_re M) (md_sd M) (md_be M) (md_pb M) (md_ac M) (md_od M) (md_ad M) (md_wy M) (md_so M) (md_rl M) (md_io M) (md_po M) (md_sp M) (md_rs M) (md_st M) (md_av M) (md_ip M) (md_tx M) (md_tm M) (md_ta M) (md_td M) (md_wo M) (md_sq M) (md_tk M) (md_bg M) (md_nu M) (md_wr M))) hk dX8_begins_39 (xw_at xw_up_s rfl) (xi_d 4 139 (by decide)) (xw_wr2 rfl) ?_
  refine xj.eqG (G' := xw_up G 21 (pM v (md_th M) (nQ (xu (xu (xu (xu (fun _ => 0) 0 100) 1 35) 2 20) 4 999) (fun _ => 0) (fun _ => 0) (fun _ => 0) (fun _ => 0) (fun _ => 0) 0 (md_no M)) (md_pt M) (md_re M) (md_sd M) (md_be M) (md_pb M) (md_ac M) (md_od M) (md_ad M) (md_wy M) (md_so M) (md_rl M) (md_io M) (md_po M) (md_sp M) (md_rs M) (md_st M) (md_av M) (md_ip M) (md_tx M) (md_tm M) (md_ta M) (md_td M) (md_wo M) (md_sq M) (md_tk M) (md_bg M) (md_nu M) (md_wr M))) (by rw [wQ_te (k := 4) (by omega)]) ?_
  refine xj_aload_n (i := 0) hk dX8_begins_40 rfl rfl ?_
  refine xj_iconst (x := 5) hk dX8_begins_41 (by decide) ?_
  refine xj_bipush (x := 90) hk dX8_begins_42 (by decide) ?_
  refine xj_iastore (k := 5) (G2 := xw_up G 21 (pM v (md_th M) (xu (nQ (xu (xu (xu (xu (fun _ => 0) 0 100) 1 35) 2 20) 4 999) (fun _ => 0) (fun _ => 0) (fun _ => 0) (fun _ => 0) (fun _ => 0) 0 (md_no M)) 5 90) (md_pt M) (md_re M) (md_sd M) (md_be M) (md_pb M) (md_ac M) (md_od M) (md_ad M) (md_wy M) (md_so M) (md_rl M) (md_io M) (md_po M) (md_sp M) (md_rs M) (md_st M) (md_av M) (md_ip M) (md_tx M) (md_tm M) (md_ta M) (md_td M) (md_wo M) (md_sq M) (md_tk M) (md_bg M) (md_nu M) (md_wr M))) hk dX8_begins_44 (xw_at xw_up_s rfl) (xi_d 5 139 (by decide)) (xw_wr2 rfl) ?_
  refine xj.eqG (G' := xw_up G 21 (pM v (md_th M) (nQ (xu (xu (xu (xu (xu (fun _ => 0) 0 100) 1 35) 2 20) 4 999) 5 90) (fun _ => 0) (fun _ => 0) (fun _ => 0) (fun _ => 0) (fun _ => 0) 0 (md_no M)) (md_pt M) (md_re M) (md_sd M) (md_be M) (md_pb M) (md_ac M) (md_od M) (md_ad M) (md_wy M) (md_so M) (md_rl M) (md_io M) (md_po M) (md_sp M) (md_rs M) (md_st M) (md_av M) (md_ip M) (md_tx M) (md_tm M) (md_ta M) (md_td M) (md_wo M) (md_sq M) (md_tk M) (md_bg M) (md_nu M) (md_wr M))) (by rw [wQ_te (k := 5) (by omega)]) ?_
  refine xj_iconst (x := 0) hk dX8_begins_45 (by decide) ?_
  refine xj_istore_n (i := 1) (ls2 := [some (.ref (xw_ad v 21 1)), some (.int 0)]) hk dX8_begins_46 rfl (by decide) rfl rfl ?_
  refine xj.eqG (G' := xw_up G 21 (pM v (md_th M) (nQ TE0 (fun _ => 0) (cpN 0 nI (fun _ => 0)) (fun _ => 0) (fun _ => 0) (fun _ => 0) 0 (md_no M)) (md_pt M) (md_re M) (md_sd M) (md_be M) (md_pb M) (md_ac M) (md_od M) (md_ad M) (md_wy M) (md_so M) (md_rl M) (md_io M) (md_po M) (md_sp M) (md_rs M) (md_st M) (md_av M) (md_ip M) (md_tx M) (md_tm M) (md_ta M) (md_td M) (md_wo M) (md_sq M) (md_tk M) (md_bg M) (md_nu M) (md_wr M))) (by rw [cp_0]; rfl) ?_
  refine l_begins_47no hk hz hM0 ?_ (8 + 1) 0 (by omega) (by omega)
  refine xj_return hk hz dX8_begins_66 ?_
  exact ⟨rfl, rfl⟩

theorem run_i {f : Nat → Int32} {l p : Nat} {g : Int32 → Bool} : run f l g (run f l g p) = run f l g p := by
  refine run_0 (fun q => ?_)
  have hlt : fnd (fun i => !(g (f (p + i)))) (l - p) < l - p := by have := q.1; simp only [run] at this; omega
  have h := fnd_spec (p := fun i => !(g (f (p + i)))) (n := l - p) hlt
  have q2 : g (f (p + fnd (fun i => !(g (f (p + i)))) (l - p))) = true := q.2
  simp only [q2] at h
  exact absurd h (by decide)
theorem sbk_i {f : Nat → Int32} {l p : Nat} : sbk f l (sbk f l p) = sbk f l p := run_i
theorem LXs_sbk {f : Nat → Int32} {l p : Nat} {fa sq tk bg nu wr : Int32} (h : LXs f l p fa sq tk bg nu wr) : LXs f l (sbk f l p) fa sq tk bg nu wr := by
  simp only [LXs, sbk_i] at h ⊢
  exact h
theorem tk_0 {f : Nat → Int32} {l b : Nat} : tkN f l b = 0 ↔ ¬ b < l := by
  simp only [tkN]
  by_cases c : b < l
  · rw [if_pos c]
    refine ⟨fun h => ?_, fun h => absurd c h⟩
    exfalso
    revert h
    repeat' split
    all_goals decide
  · rw [if_neg c]; exact ⟨fun _ => c, fun _ => rfl⟩
def isM (s : Nat × Int32 × Nat × bk_T) : Prop := ∃ te' ho' ow' hs' ra' lo' : Nat → Int32, s.2.2.2 = mB te' ho' ow' hs' ra' lo' s.2.2.1
theorem RS_M {f : Nat → Int32} {l p n : Nat} {fa : Int32} {te ho ow hs ra lo : Nat → Int32} : isM (RS f l p fa n (mB te ho ow hs ra lo n)) := by
  simp only [RS]
  generalize sbk f l p = b
  generalize wdE f l p = e
  simp only [RS0]
  by_cases c0 : wIs f b e S0.2.2.2.2 = true
  · rw [if_pos c0]; exact ⟨_, _, _, _, _, _, rfl⟩
  rw [if_neg c0]
  by_cases c1 : wIs f b e S1.2.2.2.2 = true
  · rw [if_pos c1]; exact ⟨_, _, _, _, _, _, rfl⟩
  rw [if_neg c1]
  by_cases c2 : wIs f b e S2.2.2.2.2 = true
  · rw [if_pos c2]; exact ⟨_, _, _, _, _, _, rfl⟩
  rw [if_neg c2]
  by_cases c3 : wIs f b e S3.2.2.2.2 = true
  · rw [if_pos c3]; exact ⟨_, _, _, _, _, _, rfl⟩
  rw [if_neg c3]
  by_cases c5 : wIs f b e S5.2.2.2.2 = true
  · rw [if_pos c5]; exact ⟨_, _, _, _, _, _, rfl⟩
  rw [if_neg c5]
  simp only [RS1]
  by_cases c6 : wIs f b e S6.2.2.2.2 = true
  · rw [if_pos c6]; exact ⟨_, _, _, _, _, _, rfl⟩
  rw [if_neg c6]
  by_cases c7 : wIs f b e S7.2.2.2.2 = true
  · rw [if_pos c7]; exact ⟨_, _, _, _, _, _, rfl⟩
  rw [if_neg c7]
  by_cases c8 : wIs f b e S8.2.2.2.2 = true
  · rw [if_pos c8]; exact ⟨_, _, _, _, _, _, rfl⟩
  rw [if_neg c8]
  by_cases c9 : wIs f b e S9.2.2.2.2 = true
  · rw [if_pos c9]; exact ⟨_, _, _, _, _, _, rfl⟩
  rw [if_neg c9]
  simp only [RS2]
  by_cases c10 : wIs f b e S10.2.2.2.2 = true ∧ n < 30
  · rw [if_pos c10]; exact ⟨_, _, _, _, _, _, rfl⟩
  rw [if_neg c10]
  by_cases c12 : wIs f b e S12.2.2.2.2 = true ∧ n < 30
  · rw [if_pos c12]; exact ⟨_, _, _, _, _, _, rfl⟩
  rw [if_neg c12]
  exact ⟨_, _, _, _, _, _, rfl⟩
def geP (p : Nat) (s : Nat × Int32 × Nat × bk_T) : Prop := p ≤ s.1
theorem RS_ge {f : Nat → Int32} {l p n : Nat} {fa : Int32} {A : bk_T} (hp : p ≤ l) : geP p (RS f l p fa n A) := by
  have hw := wd_l (f := f) hp
  simp only [RS]
  generalize sbk f l p = b at *
  generalize wdE f l p = e at *
  have y := yE_le (f := f) (l := l) (p := e) hw.2
  have q1 := nu_l (f := f) (l := l) (p := e) hw.2
  have q2 := nu_l (f := f) (l := l) (p := nuE f l e) q1.2
  have q3 := nu_l (f := f) (l := l) (p := yE2 f l e) y.2.2.2
  have q4 := b_le (f := f) (l := l) (p := e) true hw.2
  have q5 := b_le (f := f) (l := l) (p := e) false hw.2
  simp only [RS0]
  by_cases c0 : wIs f b e S0.2.2.2.2 = true
  · rw [if_pos c0]; simp only [geP, rsT, rsB]; omega
  rw [if_neg c0]
  by_cases c1 : wIs f b e S1.2.2.2.2 = true
  · rw [if_pos c1]; simp only [geP, rsT, rsB]; omega
  rw [if_neg c1]
  by_cases c2 : wIs f b e S2.2.2.2.2 = true
  · rw [if_pos c2]; simp only [geP, rsT, rsB]; omega
  rw [if_neg c2]
  by_cases c3 : wIs f b e S3.2.2.2.2 = true
  · rw [if_pos c3]; simp only [geP, rsT, rsB]; omega
  rw [if_neg c3]
  by_cases c5 : wIs f b e S5.2.2.2.2 = true
  · rw [if_pos c5]; simp only [geP, rsT, rsB]; omega
  rw [if_neg c5]
  simp only [RS1]
  by_cases c6 : wIs f b e S6.2.2.2.2 = true
  · rw [if_pos c6]; simp only [geP, rsT, rsB]; omega
  rw [if_neg c6]
  by_cases c7 : wIs f b e S7.2.2.2.2 = true
  · rw [if_pos c7]; simp only [geP, rsT, rsB]; omega
  rw [if_neg c7]
  by_cases c8 : wIs f b e S8.2.2.2.2 = true
  · rw [if_pos c8]; simp only [geP, rsT, rsB]; omega
  rw [if_neg c8]
  by_cases c9 : wIs f b e S9.2.2.2.2 = true
  · rw [if_pos c9]; simp only [geP, rsT, rsB]; omega
  rw [if_neg c9]
  simp only [RS2]
  by_cases c10 : wIs f b e S10.2.2.2.2 = true ∧ n < 30
  · rw [if_pos c10]; simp only [geP, rsT, rsB]; omega
  rw [if_neg c10]
  by_cases c12 : wIs f b e S12.2.2.2.2 = true ∧ n < 30
  · rw [if_pos c12]; simp only [geP, rsT, rsB]; omega
  rw [if_neg c12]
  simp only [geP, rsT, rsB]; omega
theorem smF_p {f : Nat → Int32} {l p : Nat} {fa : Int32} (hp : p ≤ l) (hl : l ≤ 700) (h : smF f l p fa = -1) : p < sbk f l (smP f l p) := by
  have a := sbk_le (f := f) hp
  have b := smP_le (f := f) hp hl
  have c := sbk_le (f := f) b
  by_cases d : tAt f l (nI (sbk f l p)) = 59
  · have e : smP f l p = sbk f l p + 1 := by simp only [smP]; rw [if_pos d]
    omega
  · exfalso
    simp only [smF, ffa] at h
    rw [if_neg d] at h
    by_cases e : fa = -1
    · rw [if_pos e] at h; exact nI_n1 (by omega) h
    · rw [if_neg e] at h; exact e h
theorem LPs_end {f : Nat → Int32} {l : Nat} {s : Nat × Int32 × Nat × bk_T} (h : ¬ (s.1 < l ∧ s.2.1 = -1)) : ∀ k, LPs f l k s = s
  | 0 => rfl
  | k + 1 => by simp only [LPs]; rw [if_neg h]
def LPM (f : Nat → Int32) (l : Nat) : Nat × Int32 × Nat × bk_T := LPs f l 700 (sbk f l 0, -1, 0, mB TE0 (fun _ => 0) (cpN 8 nI (fun _ => 0)) (fun _ => 0) (fun _ => 0) (fun _ => 0) 0)
theorem mB0_ok : okA (mB TE0 (fun _ => 0) (cpN 8 nI (fun _ => 0)) (fun _ => 0) (fun _ => 0) (fun _ => 0) 0) 0 := by
  refine ⟨rfl, by omega, fun h hh => ?_, fun b hb => by omega, ?_, fun b hb => by omega, fun h hh => ?_, rfl⟩
  · show xi (cpN 8 nI (fun _ => 0) h) (xn (cpN 8 nI (fun _ => 0) h)) 8
    simp only [cpN, if_pos hh]
    exact xi_8 hh
  · show vT TE0
    simp only [vT]; decide
  · show (0 : Int32) ≤ 0 ∧ (0 : Int32) ≤ 9999
    decide
set_option maxHeartbeats 1000000 in
set_option maxRecDepth 10000 in
theorem l_X8_text {v : xw_V} {κ : xk_K} {post : Option Value → xw_G → Prop} {z : Nat × Nat × Nat} {G : xw_G} {M : md_T} {te ho ow hs ra lo st av so : Nat → Int32} {ln : Int32} {n l : Nat} {S9 : Nat × Int32 × Nat × bk_T} (hk : xk_Ok v κ yX8_text cX8_text 2 (some .int) 6 135) (hz : xk_zf κ = z) (hM : G 21 = pM v (md_th M) (nR te ho ow hs ra lo (nI n) st av so ln) (md_pt M) (md_re M) (md_sd M) (md_be M) (md_pb M) (md_ac M) (md_od M) (md_ad M) (md_wy M) (md_so M) (md_rl M) (md_io M) (md_po M) (md_sp M) (md_rs M) (md_st M) (md_av M) (md_ip M) (md_tx M) (md_tm M) (md_ta M) (md_td M) (md_wo M) (md_sq M) (md_tk M) (md_bg M) (md_nu M) (md_wr M)) (htd : md_td M = nI l) (hl7 : l ≤ 700) (hwo : okW (md_wo M)) (hby : okBy (md_ta M) l) (kx : ∀ (p : Nat) (fa : Int32) (n1 : Nat) (te1 ho1 ow1 hs1 ra1 lo1 : Nat → Int32) (sq tk bg nu wr : Int32) (RE : Nat → Int32), (p, fa, n1, (mB te1 ho1 ow1 hs1 ra1 lo1 n1)) = S9 → LXs (md_ta M) l p fa sq tk bg nu wr → (fa = -1 → RE = nQ te1 ho1 ow1 hs1 ra1 lo1 (nI n1) (md_re M)) → xj v κ post z (xw_up G 21 (pM v (md_th M) (nR te ho ow hs ra lo (nI n) st av so ln) (md_pt M) RE (md_sd M) (md_be M) (md_pb M) (md_ac M) (md_od M) (md_ad M) (md_wy M) (md_so M) (md_rl M) (md_io M) (md_po M) (md_sp M) (md_rs M) (md_st M) (md_av M) (md_ip M) (md_tx M) (md_tm M) (md_ta M) (md_td M) (md_wo M) sq tk bg nu wr)) 47 [some (.ref (xw_ad v 21 0)), none] []) : ∀ (m : Nat) (q : Nat) (p : Nat) (fa : Int32) (n1 : Nat) (te1 : Nat → Int32) (ho1 : Nat → Int32) (ow1 : Nat → Int32) (hs1 : Nat → Int32) (ra1 : Nat → Int32) (lo1 : Nat → Int32) (sq : Int32) (tk : Int32) (bg : Int32) (nu : Int32) (wr : Int32) (RE : Nat → Int32), q < m → LPs (md_ta M) l q (p, fa, n1, (mB te1 ho1 ow1 hs1 ra1 lo1 n1)) = S9 → okR l (p, fa, n1, (mB te1 ho1 ow1 hs1 ra1 lo1 n1)) → LXs (md_ta M) l p fa sq tk bg nu wr → (fa = -1 → RE = nQ te1 ho1 ow1 hs1 ra1 lo1 (nI n1) (md_re M)) → (fa = -1 → l - p ≤ q) → sbk (md_ta M) l p = p → xj v κ post z (xw_up G 21 (pM v (md_th M) (nR te ho ow hs ra lo (nI n) st av so ln) (md_pt M) RE (md_sd M) (md_be M) (md_pb M) (md_ac M) (md_od M) (md_ad M) (md_wy M) (md_so M) (md_rl M) (md_io M) (md_po M) (md_sp M) (md_rs M) (md_st M) (md_av M) (md_ip M) (md_tx M) (md_tm M) (md_ta M) (md_td M) (md_wo M) sq tk bg nu wr)) 26 [some (.ref (xw_ad v 21 0)), none] [] := by
  intro m
  induction m with
  | zero => intro q p fa n1 te1 ho1 ow1 hs1 ra1 lo1 sq tk bg nu wr RE h; exact absurd h (Nat.not_lt_zero _)
  | succ m ih =>
    intro q p fa n1 te1 ho1 ow1 hs1 ra1 lo1 sq tk bg nu wr RE hm hs9 hok hL hRE hq hsb
    refine xj_aload_n (i := 0) hk dX8_text_26 rfl rfl ?_
    refine xj_getfield hk dX8_text_27 fl_X8_271 (xw_at xw_up_s rfl) rfl ?_
    refine xj_if_ne (tgt := 47) hk dX8_text_30 (by decide) (fun c30 => ?_) (fun c30 => ?_)
    · have hno : ¬ ((p, fa, n1, (mB te1 ho1 ow1 hs1 ra1 lo1 n1)).1 < l ∧ (p, fa, n1, (mB te1 ho1 ow1 hs1 ra1 lo1 n1)).2.1 = -1) := fun q9 => c30 (hL.1 q9.2).2.2.2.1
      rw [LPs_end hno q] at hs9
      exact kx p fa n1 te1 ho1 ow1 hs1 ra1 lo1 sq tk bg nu wr RE hs9 hL hRE
    · refine xj_aload_n (i := 0) hk dX8_text_33 rfl rfl ?_
      refine xj_getfield hk dX8_text_34 fl_X8_259 (xw_at xw_up_s rfl) rfl ?_
      refine xj_if_eq (tgt := 47) hk dX8_text_37 (by decide) (fun c37 => ?_) (fun c37 => ?_)
      · have hno : ¬ ((p, fa, n1, (mB te1 ho1 ow1 hs1 ra1 lo1 n1)).1 < l ∧ (p, fa, n1, (mB te1 ho1 ow1 hs1 ra1 lo1 n1)).2.1 = -1) := fun q9 => absurd q9.1 (by
          have hfa : fa = -1 := by
            rcases Classical.em (fa = -1) with q8 | q8
            · exact q8
            · exact absurd ((hL.2 q8).1.symm.trans c30) (by decide)
          have h8 := (hL.1 hfa).2.1
          rw [c37, hsb] at h8
          exact tk_0.mp h8.symm)
        rw [LPs_end hno q] at hs9
        exact kx p fa n1 te1 ho1 ow1 hs1 ra1 lo1 sq tk bg nu wr RE hs9 hL hRE
      · have hfa : fa = -1 := by
          rcases Classical.em (fa = -1) with q9 | q9
          · exact q9
          · exact absurd ((hL.2 q9).1.symm.trans c30) (by decide)
        have hRE9 := hRE hfa
        subst hRE9
        subst hfa
        have hlt : p < l := by
          rcases Nat.lt_or_ge p l with q9 | q9
          · exact q9
          · exact absurd ((hL.1 rfl).2.1.trans (by rw [hsb]; exact tk_0.mpr (by omega))) c37
        have hq9 := hq rfl
        obtain ⟨q1, rfl⟩ : ∃ q1, q = q1 + 1 := ⟨q - 1, by omega⟩
        refine xj_aload_n (i := 0) hk dX8_text_40 rfl rfl ?_
        refine xj_callVE hk hz (fr1 := 5) (lo1 := 113) (As := []) (st := []) ml_X8_293 (c_X8_readsOne (M := (md_th M, nR te ho ow hs ra lo (nI n) st av so ln, md_pt M, nQ te1 ho1 ow1 hs1 ra1 lo1 (nI n1) (md_re M), md_sd M, md_be M, md_pb M, md_ac M, md_od M, md_ad M, md_wy M, md_so M, md_rl M, md_io M, md_po M, md_sp M, md_rs M, md_st M, md_av M, md_ip M, md_tx M, md_tm M, md_ta M, md_td M, md_wo M, sq, tk, bg, nu, wr)) (p := p) (n := n1) (g := md_re M) (show (xw_up G 21 (pM v (md_th M) (nR te ho ow hs ra lo (nI n) st av so ln) (md_pt M) (nQ te1 ho1 ow1 hs1 ra1 lo1 (nI n1) (md_re M)) (md_sd M) (md_be M) (md_pb M) (md_ac M) (md_od M) (md_ad M) (md_wy M) (md_so M) (md_rl M) (md_io M) (md_po M) (md_sp M) (md_rs M) (md_st M) (md_av M) (md_ip M) (md_tx M) (md_tm M) (md_ta M) (md_td M) (md_wo M) sq tk bg nu wr)) 21 = pM v (md_th M) (nR te ho ow hs ra lo (nI n) st av so ln) (md_pt M) (nQ te1 ho1 ow1 hs1 ra1 lo1 (nI n1) (md_re M)) (md_sd M) (md_be M) (md_pb M) (md_ac M) (md_od M) (md_ad M) (md_wy M) (md_so M) (md_rl M) (md_io M) (md_po M) (md_sp M) (md_rs M) (md_st M) (md_av M) (md_ip M) (md_tx M) (md_tm M) (md_ta M) (md_td M) (md_wo M) sq tk bg nu wr from xw_up_s) htd hl7 hwo hL hok.1 hby hok.2.2.1 hok.2) (xw_at xw_up_s rfl) rfl dX8_text_41 ⟨Nat.le_of_ble_eq_true rfl, Nat.le_of_ble_eq_true rfl⟩ rfl (Nat.le_of_ble_eq_true rfl) rfl ?_
        rintro _ _ ⟨rfl, sq2, tk2, bg2, nu2, wr2, RE2, hL2, hRE2, rfl⟩
        simp only [xw_up_u]
        have hL2 : LXs (md_ta M) l (smP (md_ta M) l (RS (md_ta M) l p (-1) n1 (mB te1 ho1 ow1 hs1 ra1 lo1 n1)).1) (smF (md_ta M) l (RS (md_ta M) l p (-1) n1 (mB te1 ho1 ow1 hs1 ra1 lo1 n1)).1 (RS (md_ta M) l p (-1) n1 (mB te1 ho1 ow1 hs1 ra1 lo1 n1)).2.1) sq2 tk2 bg2 nu2 wr2 := hL2
        have hRE2 : smF (md_ta M) l (RS (md_ta M) l p (-1) n1 (mB te1 ho1 ow1 hs1 ra1 lo1 n1)).1 (RS (md_ta M) l p (-1) n1 (mB te1 ho1 ow1 hs1 ra1 lo1 n1)).2.1 = -1 → RE2 = rowOf (RS (md_ta M) l p (-1) n1 (mB te1 ho1 ow1 hs1 ra1 lo1 n1)) (md_re M) := hRE2
        show xj v κ _ z (xw_up G 21 (pM v (md_th M) (nR te ho ow hs ra lo (nI n) st av so ln) (md_pt M) RE2 (md_sd M) (md_be M) (md_pb M) (md_ac M) (md_od M) (md_ad M) (md_wy M) (md_so M) (md_rl M) (md_io M) (md_po M) (md_sp M) (md_rs M) (md_st M) (md_av M) (md_ip M) (md_tx M) (md_tm M) (md_ta M) (md_td M) (md_wo M) sq2 tk2 bg2 nu2 wr2)) 44 _ []
        refine xj_goto (tgt := 26) hk dX8_text_44 (by decide) ?_
        obtain ⟨te2, ho2, ow2, hs2, ra2, lo2, e2⟩ := RS_M (f := md_ta M) (l := l) (p := p) (n := n1) (fa := -1) (te := te1) (ho := ho1) (ow := ow1) (hs := hs1) (ra := ra1) (lo := lo1)
        have hge := RS_ge (f := md_ta M) (n := n1) (fa := -1) (A := (mB te1 ho1 ow1 hs1 ra1 lo1 n1)) hok.1
        have hst : stp (md_ta M) l (p, -1, n1, (mB te1 ho1 ow1 hs1 ra1 lo1 n1)) = (sbk (md_ta M) l (smP (md_ta M) l (RS (md_ta M) l p (-1) n1 (mB te1 ho1 ow1 hs1 ra1 lo1 n1)).1), smF (md_ta M) l (RS (md_ta M) l p (-1) n1 (mB te1 ho1 ow1 hs1 ra1 lo1 n1)).1 (RS (md_ta M) l p (-1) n1 (mB te1 ho1 ow1 hs1 ra1 lo1 n1)).2.1, (RS (md_ta M) l p (-1) n1 (mB te1 ho1 ow1 hs1 ra1 lo1 n1)).2.2.1, (RS (md_ta M) l p (-1) n1 (mB te1 ho1 ow1 hs1 ra1 lo1 n1)).2.2.2) := rfl
        have hok2 := stp_ok (f := md_ta M) hl7 hok
        have hRl : (RS (md_ta M) l p (-1) n1 (mB te1 ho1 ow1 hs1 ra1 lo1 n1)).1 ≤ l := (RS_ok (f := md_ta M) (fa := -1) hok.1 hok.2).1
        rw [show LPs (md_ta M) l (q1 + 1) (p, -1, n1, (mB te1 ho1 ow1 hs1 ra1 lo1 n1)) = LPs (md_ta M) l q1 (stp (md_ta M) l (p, -1, n1, (mB te1 ho1 ow1 hs1 ra1 lo1 n1))) from if_pos ⟨hlt, rfl⟩, hst] at hs9
        rw [hst] at hok2
        have hRE3 : smF (md_ta M) l (RS (md_ta M) l p (-1) n1 (mB te1 ho1 ow1 hs1 ra1 lo1 n1)).1 (RS (md_ta M) l p (-1) n1 (mB te1 ho1 ow1 hs1 ra1 lo1 n1)).2.1 = -1 → RE2 = nQ te2 ho2 ow2 hs2 ra2 lo2 (nI (RS (md_ta M) l p (-1) n1 (mB te1 ho1 ow1 hs1 ra1 lo1 n1)).2.2.1) (md_re M) := fun h => by
          rw [hRE2 h]
          simp only [rowOf]
          rw [e2]
          rfl
        have hmo : smF (md_ta M) l (RS (md_ta M) l p (-1) n1 (mB te1 ho1 ow1 hs1 ra1 lo1 n1)).1 (RS (md_ta M) l p (-1) n1 (mB te1 ho1 ow1 hs1 ra1 lo1 n1)).2.1 = -1 → l - sbk (md_ta M) l (smP (md_ta M) l (RS (md_ta M) l p (-1) n1 (mB te1 ho1 ow1 hs1 ra1 lo1 n1)).1) ≤ q1 := fun h => by
          have := smF_p (f := md_ta M) hRl hl7 h
          have h8 : p ≤ (RS (md_ta M) l p (-1) n1 (mB te1 ho1 ow1 hs1 ra1 lo1 n1)).1 := hge
          omega
        rw [e2] at hs9 hok2
        exact ih q1 _ _ _ te2 ho2 ow2 hs2 ra2 lo2 sq2 tk2 bg2 nu2 wr2 RE2 (by omega) hs9 hok2 (LXs_sbk hL2) hRE3 hmo sbk_i

set_option maxHeartbeats 1000000 in
set_option maxRecDepth 10000 in
theorem l_X8_text_69 {v : xw_V} {κ : xk_K} {post : Option Value → xw_G → Prop} {z : Nat × Nat × Nat} {G : xw_G} {M : md_T} (hk : xk_Ok v κ yX8_text cX8_text 2 (some .int) 6 135) (hz : xk_zf κ = z) (hM0 : G 21 = pc_M v M) (kx : xj v κ post z (xw_up G 21 (pM v (md_th M) (cpN 139 (md_re M) (md_no M)) (md_pt M) (md_re M) (md_sd M) (md_be M) (md_pb M) (md_ac M) (md_od M) (md_ad M) (md_wy M) (md_so M) (md_rl M) (md_io M) (md_po M) (md_sp M) (md_rs M) (md_st M) (md_av M) (md_ip M) (md_tx M) (md_tm M) (md_ta M) (md_td M) (md_wo M) (md_sq M) (md_tk M) (md_bg M) (md_nu M) (md_wr M))) 94 [some (.ref (xw_ad v 21 0)), some (.int (nI 139))] []) : ∀ (m : Nat) (k : Nat), 139 - k < m → k ≤ 139 → xj v κ post z (xw_up G 21 (pM v (md_th M) (cpN k (md_re M) (md_no M)) (md_pt M) (md_re M) (md_sd M) (md_be M) (md_pb M) (md_ac M) (md_od M) (md_ad M) (md_wy M) (md_so M) (md_rl M) (md_io M) (md_po M) (md_sp M) (md_rs M) (md_st M) (md_av M) (md_ip M) (md_tx M) (md_tm M) (md_ta M) (md_td M) (md_wo M) (md_sq M) (md_tk M) (md_bg M) (md_nu M) (md_wr M))) 69 [some (.ref (xw_ad v 21 0)), some (.int (nI k))] [] := by
  intro m
  induction m with
  | zero => intro k h; exact absurd h (Nat.not_lt_zero _)
  | succ m ih =>
    intro k hm hi
    refine xj_iload_n (i := 1) hk dX8_text_69 rfl rfl ?_
    refine xj_sipush (x := 139) hk dX8_text_70 (by decide) ?_
    refine xj_icmp_ge (tgt := 94) hk dX8_text_73 (by decide) (fun c73 => ?_) (fun c73 => ?_)
    · have c73 : 139 ≤ k := (nI_leI (a := 139) (b := k) (by omega) (by omega)).mp c73
      have e9 : k = 139 := by omega
      subst e9
      exact kx
    · have c73 : ¬ 139 ≤ k := fun q => c73 ((nI_leI (a := 139) (b := k) (by omega) (by omega)).mpr q)
      refine xj_aload_n (i := 0) hk dX8_text_76 rfl rfl ?_
      refine xj_getfield hk dX8_text_77 fl_X8_13 (xw_at xw_up_s rfl) rfl ?_
      refine xj_iload_n (i := 1) hk dX8_text_80 rfl rfl ?_
      refine xj_aload_n (i := 0) hk dX8_text_81 rfl rfl ?_
      refine xj_getfield hk dX8_text_82 fl_X8_21 (xw_at xw_up_s rfl) rfl ?_
      refine xj_iload_n (i := 1) hk dX8_text_85 rfl rfl ?_
      refine xj_iaload (k := k) hk dX8_text_86 (xw_at xw_up_s rfl) (xi_n (by omega) (by decide)) ?_
      refine xj_iastore (k := k) (G2 := xw_up G 21 (pM v (md_th M) (xu (cpN k (md_re M) (md_no M)) k (md_re M k)) (md_pt M) (md_re M) (md_sd M) (md_be M) (md_pb M) (md_ac M) (md_od M) (md_ad M) (md_wy M) (md_so M) (md_rl M) (md_io M) (md_po M) (md_sp M) (md_rs M) (md_st M) (md_av M) (md_ip M) (md_tx M) (md_tm M) (md_ta M) (md_td M) (md_wo M) (md_sq M) (md_tk M) (md_bg M) (md_nu M) (md_wr M))) hk dX8_text_87 (xw_at xw_up_s rfl) (xi_n (by omega) (by decide)) (xw_wr2 rfl) ?_
      refine xj_iinc (i := 1) (x2 := nI (k + 1)) (ls2 := [some (.ref (xw_ad v 21 0)), some (.int (nI (k + 1)))]) hk dX8_text_88 rfl (nI_1 k) (by decide) rfl rfl ?_
      refine xj_goto (tgt := 69) hk dX8_text_91 (by decide) ?_
      refine xj.eqG (G' := xw_up G 21 (pM v (md_th M) (cpN ((k + 1)) (md_re M) (md_no M)) (md_pt M) (md_re M) (md_sd M) (md_be M) (md_pb M) (md_ac M) (md_od M) (md_ad M) (md_wy M) (md_so M) (md_rl M) (md_io M) (md_po M) (md_sp M) (md_rs M) (md_st M) (md_av M) (md_ip M) (md_tx M) (md_tm M) (md_ta M) (md_td M) (md_wo M) (md_sq M) (md_tk M) (md_bg M) (md_nu M) (md_wr M))) (by simp only [cp_s]) (ih (k + 1) (by omega) (by omega))

set_option maxHeartbeats 1000000 in
set_option maxRecDepth 10000 in
theorem c_X8_text {v : xw_V} {G : xw_G} {M : md_T} {te ho ow hs ra lo st av so : Nat → Int32} {ln : Int32} {n l : Nat} (hM : G 21 = pM v (md_th M) (nR te ho ow hs ra lo (nI n) st av so ln) (md_pt M) (md_re M) (md_sd M) (md_be M) (md_pb M) (md_ac M) (md_od M) (md_ad M) (md_wy M) (md_so M) (md_rl M) (md_io M) (md_po M) (md_sp M) (md_rs M) (md_st M) (md_av M) (md_ip M) (md_tx M) (md_tm M) (md_ta M) (md_td M) (md_wo M) (md_sq M) (md_tk M) (md_bg M) (md_nu M) (md_wr M)) (htd : md_td M = nI l) (hl7 : l ≤ 700) (hwo : okW (md_wo M)) (hby : okBy (md_ta M) l) : xk_Con v yX8_text cX8_text 2 (some .int) 6 135 [.ref (xw_ad v 21 0)] G (fun r9 G' => ((LPM (md_ta M) l).2.1 = -1 ∧ r9 = some (.int (nI (LPM (md_ta M) l).2.2.1)) ∧ mAc v G G' (nR (bk_te (LPM (md_ta M) l).2.2.2) (bk_ho (LPM (md_ta M) l).2.2.2) (bk_ow (LPM (md_ta M) l).2.2.2) (bk_hs (LPM (md_ta M) l).2.2.2) (bk_ra (LPM (md_ta M) l).2.2.2) (bk_lo (LPM (md_ta M) l).2.2.2) (nI (LPM (md_ta M) l).2.2.1) (fun _ => 0) (fun _ => 0) (fun _ => 0) 0) (md_pt M) (md_be M) (md_pb M) 0 (md_ta M) 0 (md_wo M)) ∨ (¬ (LPM (md_ta M) l).2.1 = -1 ∧ r9 = some (.int (-4 - (LPM (md_ta M) l).2.1)) ∧ mAc v G G' (nR te ho ow hs ra lo (nI n) st av so ln) (md_pt M) (md_be M) (md_pb M) (md_ac M) (md_ta M) 0 (md_wo M))) := by
  refine xk_of (ls0 := [some (.ref (xw_ad v 21 0)), none]) (by decide) rfl (Nat.le_of_ble_eq_true rfl) ?_
  intro κ z hk hz
  refine xj_aload_n (i := 0) hk dX8_text_0 rfl rfl ?_
  refine xj_getfield hk dX8_text_1 fl_X8_21 (xw_at hM rfl) rfl ?_
  refine xj_callS hk hz (fr1 := 0) (lo1 := 0) (r1 := none) (As := [.ref (xw_ad v 21 3)]) (st := []) (st2 := []) (G1 := xw_up G 21 (pM v (md_th M) (nR te ho ow hs ra lo (nI n) st av so ln) (md_pt M) (nQ TE0 (fun _ => 0) (cpN 8 nI (fun _ => 0)) (fun _ => 0) (fun _ => 0) (fun _ => 0) 0 (md_re M)) (md_sd M) (md_be M) (md_pb M) (md_ac M) (md_od M) (md_ad M) (md_wy M) (md_so M) (md_rl M) (md_io M) (md_po M) (md_sp M) (md_rs M) (md_st M) (md_av M) (md_ip M) (md_tx M) (md_tm M) (md_ta M) (md_td M) (md_wo M) (md_sq M) (md_tk M) (md_bg M) (md_nu M) (md_wr M))) ml_X8_62 (c_begins_re (M := (md_th M, nR te ho ow hs ra lo (nI n) st av so ln, md_pt M, md_re M, md_sd M, md_be M, md_pb M, md_ac M, md_od M, md_ad M, md_wy M, md_so M, md_rl M, md_io M, md_po M, md_sp M, md_rs M, md_st M, md_av M, md_ip M, md_tx M, md_tm M, md_ta M, md_td M, md_wo M, md_sq M, md_tk M, md_bg M, md_nu M, md_wr M)) (show G 21 = pM v (md_th M) (nR te ho ow hs ra lo (nI n) st av so ln) (md_pt M) (md_re M) (md_sd M) (md_be M) (md_pb M) (md_ac M) (md_od M) (md_ad M) (md_wy M) (md_so M) (md_rl M) (md_io M) (md_po M) (md_sp M) (md_rs M) (md_st M) (md_av M) (md_ip M) (md_tx M) (md_tm M) (md_ta M) (md_td M) (md_wo M) (md_sq M) (md_tk M) (md_bg M) (md_nu M) (md_wr M) from hM)) dX8_text_4 ⟨Nat.le_of_ble_eq_true rfl, Nat.le_of_ble_eq_true rfl⟩ rfl (Nat.le_of_ble_eq_true rfl) rfl rfl ?_
  refine xj_aload_n (i := 0) hk dX8_text_7 rfl rfl ?_
  refine xj_iconst (x := 0) hk dX8_text_8 (by decide) ?_
  refine xj_putfield (G2 := xw_up G 21 (pM v (md_th M) (nR te ho ow hs ra lo (nI n) st av so ln) (md_pt M) (nQ TE0 (fun _ => 0) (cpN 8 nI (fun _ => 0)) (fun _ => 0) (fun _ => 0) (fun _ => 0) 0 (md_re M)) (md_sd M) (md_be M) (md_pb M) (md_ac M) (md_od M) (md_ad M) (md_wy M) (md_so M) (md_rl M) (md_io M) (md_po M) (md_sp M) (md_rs M) (md_st M) (md_av M) (md_ip M) (md_tx M) (md_tm M) (md_ta M) (md_td M) (md_wo M) 0 (md_tk M) (md_bg M) (md_nu M) (md_wr M))) hk dX8_text_9 fl_X8_256 rfl rfl (xw_at xw_up_s rfl) (Nat.le_of_ble_eq_true rfl) (xw_wr2 rfl) ?_
  refine xj_aload_n (i := 0) hk dX8_text_12 rfl rfl ?_
  refine xj_iconst (x := 3) hk dX8_text_13 (by decide) ?_
  refine xj_putfield (G2 := xw_up G 21 (pM v (md_th M) (nR te ho ow hs ra lo (nI n) st av so ln) (md_pt M) (nQ TE0 (fun _ => 0) (cpN 8 nI (fun _ => 0)) (fun _ => 0) (fun _ => 0) (fun _ => 0) 0 (md_re M)) (md_sd M) (md_be M) (md_pb M) (md_ac M) (md_od M) (md_ad M) (md_wy M) (md_so M) (md_rl M) (md_io M) (md_po M) (md_sp M) (md_rs M) (md_st M) (md_av M) (md_ip M) (md_tx M) (md_tm M) (md_ta M) (md_td M) (md_wo M) 0 3 (md_bg M) (md_nu M) (md_wr M))) hk dX8_text_14 fl_X8_259 rfl rfl (xw_at xw_up_s rfl) (Nat.le_of_ble_eq_true rfl) (xw_wr2 rfl) ?_
  refine xj_aload_n (i := 0) hk dX8_text_17 rfl rfl ?_
  refine xj_iconst (x := 0) hk dX8_text_18 (by decide) ?_
  refine xj_putfield (G2 := xw_up G 21 (pM v (md_th M) (nR te ho ow hs ra lo (nI n) st av so ln) (md_pt M) (nQ TE0 (fun _ => 0) (cpN 8 nI (fun _ => 0)) (fun _ => 0) (fun _ => 0) (fun _ => 0) 0 (md_re M)) (md_sd M) (md_be M) (md_pb M) (md_ac M) (md_od M) (md_ad M) (md_wy M) (md_so M) (md_rl M) (md_io M) (md_po M) (md_sp M) (md_rs M) (md_st M) (md_av M) (md_ip M) (md_tx M) (md_tm M) (md_ta M) (md_td M) (md_wo M) 0 3 (md_bg M) (md_nu M) 0)) hk dX8_text_19 fl_X8_271 (by decide) (by decide) (xw_at xw_up_s rfl) (Nat.le_of_ble_eq_true rfl) (xw_wr2 rfl) ?_
  refine xj_aload_n (i := 0) hk dX8_text_22 rfl rfl ?_
  refine xj_callV hk hz (fr1 := 1) (lo1 := 22) (r1 := none) (As := []) (st := []) (st2 := []) (G1 := xw_up G 21 (pM v (md_th M) (nR te ho ow hs ra lo (nI n) st av so ln) (md_pt M) (nQ TE0 (fun _ => 0) (cpN 8 nI (fun _ => 0)) (fun _ => 0) (fun _ => 0) (fun _ => 0) 0 (md_re M)) (md_sd M) (md_be M) (md_pb M) (md_ac M) (md_od M) (md_ad M) (md_wy M) (md_so M) (md_rl M) (md_io M) (md_po M) (md_sp M) (md_rs M) (md_st M) (md_av M) (md_ip M) (md_tx M) (md_tm M) (md_ta M) (md_td M) (md_wo M) (nI (sqN (md_ta M) l (sbk (md_ta M) l 0))) (tkN (md_ta M) l (sbk (md_ta M) l 0)) (nI (sbk (md_ta M) l 0)) (nuN (md_ta M) l (sbk (md_ta M) l 0) (md_nu M)) 0)) ml_X8_274 (xk_cg (by rw [xw_up_u] <;> rfl) (c_X8_goesOn (M := (md_th M, nR te ho ow hs ra lo (nI n) st av so ln, md_pt M, nQ TE0 (fun _ => 0) (cpN 8 nI (fun _ => 0)) (fun _ => 0) (fun _ => 0) (fun _ => 0) 0 (md_re M), md_sd M, md_be M, md_pb M, md_ac M, md_od M, md_ad M, md_wy M, md_so M, md_rl M, md_io M, md_po M, md_sp M, md_rs M, md_st M, md_av M, md_ip M, md_tx M, md_tm M, md_ta M, md_td M, md_wo M, 0, 3, md_bg M, md_nu M, 0)) (p := 0) (tk := 3) (bg := md_bg M) (nu := md_nu M) (wr := 0) (show (xw_up G 21 (pM v (md_th M) (nR te ho ow hs ra lo (nI n) st av so ln) (md_pt M) (nQ TE0 (fun _ => 0) (cpN 8 nI (fun _ => 0)) (fun _ => 0) (fun _ => 0) (fun _ => 0) 0 (md_re M)) (md_sd M) (md_be M) (md_pb M) (md_ac M) (md_od M) (md_ad M) (md_wy M) (md_so M) (md_rl M) (md_io M) (md_po M) (md_sp M) (md_rs M) (md_st M) (md_av M) (md_ip M) (md_tx M) (md_tm M) (md_ta M) (md_td M) (md_wo M) 0 3 (md_bg M) (md_nu M) 0)) 21 = pM v (md_th M) (nR te ho ow hs ra lo (nI n) st av so ln) (md_pt M) (nQ TE0 (fun _ => 0) (cpN 8 nI (fun _ => 0)) (fun _ => 0) (fun _ => 0) (fun _ => 0) 0 (md_re M)) (md_sd M) (md_be M) (md_pb M) (md_ac M) (md_od M) (md_ad M) (md_wy M) (md_so M) (md_rl M) (md_io M) (md_po M) (md_sp M) (md_rs M) (md_st M) (md_av M) (md_ip M) (md_tx M) (md_tm M) (md_ta M) (md_td M) (md_wo M) 0 3 (md_bg M) (md_nu M) 0 from xw_up_s) htd hl7 (Nat.zero_le l) hby rfl)) (xw_at xw_up_s rfl) rfl dX8_text_23 ⟨Nat.le_of_ble_eq_true rfl, Nat.le_of_ble_eq_true rfl⟩ rfl (Nat.le_of_ble_eq_true rfl) rfl rfl ?_
  refine l_X8_text (M := M) (S9 := (LPM (md_ta M) l)) hk hz hM htd hl7 hwo hby (fun p fa n1 te1 ho1 ow1 hs1 ra1 lo1 sq tk bg nu wr RE hS9 hL hRE => ?_) (700 + 1) 700 (sbk (md_ta M) l 0) (-1) 0 TE0 (fun _ => 0) (cpN 8 nI (fun _ => 0)) (fun _ => 0) (fun _ => 0) (fun _ => 0) _ _ _ _ _ _ (by omega) rfl ⟨(sbk_le (Nat.zero_le l)).2, mB0_ok⟩ (LXs_sbk LXs_go) (fun _ => rfl) (fun _ => by omega) sbk_i
  refine xj_aload_n (i := 0) hk dX8_text_47 rfl rfl ?_
  refine xj_iconst (x := 0) hk dX8_text_48 (by decide) ?_
  refine xj_putfield (G2 := xw_up G 21 (pM v (md_th M) (nR te ho ow hs ra lo (nI n) st av so ln) (md_pt M) RE (md_sd M) (md_be M) (md_pb M) (md_ac M) (md_od M) (md_ad M) (md_wy M) (md_so M) (md_rl M) (md_io M) (md_po M) (md_sp M) (md_rs M) (md_st M) (md_av M) (md_ip M) (md_tx M) (md_tm M) (md_ta M) 0 (md_wo M) sq tk bg nu wr)) hk dX8_text_49 fl_X8_250 rfl rfl (xw_at xw_up_s rfl) (Nat.le_of_ble_eq_true rfl) (xw_wr2 rfl) ?_
  refine xj_aload_n (i := 0) hk dX8_text_52 rfl rfl ?_
  refine xj_getfield hk dX8_text_53 fl_X8_271 (xw_at xw_up_s rfl) rfl ?_
  refine xj_if_eq (tgt := 67) hk dX8_text_56 (by decide) (fun c56 => ?_) (fun c56 => ?_)
  · have hfa : fa = -1 := by
      rcases Classical.em (fa = -1) with q9 | q9
      · exact q9
      · exact absurd ((hL.2 q9).1.symm.trans c56) (by decide)
    have hRE9 := hRE hfa
    subst hRE9
    subst hfa
    refine xj_iconst (x := 0) hk dX8_text_67 (by decide) ?_
    refine xj_istore_n (i := 1) (ls2 := [some (.ref (xw_ad v 21 0)), some (.int 0)]) hk dX8_text_68 rfl (by decide) rfl rfl ?_
    refine xj.eqG (G' := xw_up (xw_up G 21 (pM v (md_th M) (nR te ho ow hs ra lo (nI n) st av so ln) (md_pt M) (nQ te1 ho1 ow1 hs1 ra1 lo1 (nI n1) (md_re M)) (md_sd M) (md_be M) (md_pb M) (md_ac M) (md_od M) (md_ad M) (md_wy M) (md_so M) (md_rl M) (md_io M) (md_po M) (md_sp M) (md_rs M) (md_st M) (md_av M) (md_ip M) (md_tx M) (md_tm M) (md_ta M) 0 (md_wo M) sq tk bg nu wr)) 21 (pM v (md_th M) (cpN 0 (nQ te1 ho1 ow1 hs1 ra1 lo1 (nI n1) (md_re M)) (nR te ho ow hs ra lo (nI n) st av so ln)) (md_pt M) (nQ te1 ho1 ow1 hs1 ra1 lo1 (nI n1) (md_re M)) (md_sd M) (md_be M) (md_pb M) (md_ac M) (md_od M) (md_ad M) (md_wy M) (md_so M) (md_rl M) (md_io M) (md_po M) (md_sp M) (md_rs M) (md_st M) (md_av M) (md_ip M) (md_tx M) (md_tm M) (md_ta M) 0 (md_wo M) sq tk bg nu wr)) (by simp only [cp_0]; exact (xw_up_same xw_up_s).symm) ?_
    refine l_X8_text_69 (M := (md_th M, nR te ho ow hs ra lo (nI n) st av so ln, md_pt M, nQ te1 ho1 ow1 hs1 ra1 lo1 (nI n1) (md_re M), md_sd M, md_be M, md_pb M, md_ac M, md_od M, md_ad M, md_wy M, md_so M, md_rl M, md_io M, md_po M, md_sp M, md_rs M, md_st M, md_av M, md_ip M, md_tx M, md_tm M, md_ta M, 0, md_wo M, sq, tk, bg, nu, wr)) hk hz (show (xw_up G 21 (pM v (md_th M) (nR te ho ow hs ra lo (nI n) st av so ln) (md_pt M) (nQ te1 ho1 ow1 hs1 ra1 lo1 (nI n1) (md_re M)) (md_sd M) (md_be M) (md_pb M) (md_ac M) (md_od M) (md_ad M) (md_wy M) (md_so M) (md_rl M) (md_io M) (md_po M) (md_sp M) (md_rs M) (md_st M) (md_av M) (md_ip M) (md_tx M) (md_tm M) (md_ta M) 0 (md_wo M) sq tk bg nu wr)) 21 = pM v (md_th M) (nR te ho ow hs ra lo (nI n) st av so ln) (md_pt M) (nQ te1 ho1 ow1 hs1 ra1 lo1 (nI n1) (md_re M)) (md_sd M) (md_be M) (md_pb M) (md_ac M) (md_od M) (md_ad M) (md_wy M) (md_so M) (md_rl M) (md_io M) (md_po M) (md_sp M) (md_rs M) (md_st M) (md_av M) (md_ip M) (md_tx M) (md_tm M) (md_ta M) 0 (md_wo M) sq tk bg nu wr from xw_up_s)  ?_ (139 + 1) 0 (by omega) (by omega)
    refine xj.eqG (G' := xw_up G 21 (pM v (md_th M) (cpN 139 (nQ te1 ho1 ow1 hs1 ra1 lo1 (nI n1) (md_re M)) (nR te ho ow hs ra lo (nI n) st av so ln)) (md_pt M) (nQ te1 ho1 ow1 hs1 ra1 lo1 (nI n1) (md_re M)) (md_sd M) (md_be M) (md_pb M) (md_ac M) (md_od M) (md_ad M) (md_wy M) (md_so M) (md_rl M) (md_io M) (md_po M) (md_sp M) (md_rs M) (md_st M) (md_av M) (md_ip M) (md_tx M) (md_tm M) (md_ta M) 0 (md_wo M) sq tk bg nu wr)) (by first | rfl | (rw [xw_up_u]; rfl)) ?_
    refine xj.eqG (G' := xw_up G 21 (pM v (md_th M) (nR te1 ho1 ow1 hs1 ra1 lo1 (nI n1) (fun _ => 0) (fun _ => 0) (fun _ => 0) 0) (md_pt M) (nQ te1 ho1 ow1 hs1 ra1 lo1 (nI n1) (md_re M)) (md_sd M) (md_be M) (md_pb M) (md_ac M) (md_od M) (md_ad M) (md_wy M) (md_so M) (md_rl M) (md_io M) (md_po M) (md_sp M) (md_rs M) (md_st M) (md_av M) (md_ip M) (md_tx M) (md_tm M) (md_ta M) 0 (md_wo M) sq tk bg nu wr)) (by rw [show cpN 139 (nQ te1 ho1 ow1 hs1 ra1 lo1 (nI n1) (md_re M)) (nR te ho ow hs ra lo (nI n) st av so ln) = nR te1 ho1 ow1 hs1 ra1 lo1 (nI n1) (fun _ => 0) (fun _ => 0) (fun _ => 0) 0 from cp139]) ?_
    refine xj_aload_n (i := 0) hk dX8_text_94 rfl rfl ?_
    refine xj_iconst (x := 0) hk dX8_text_95 (by decide) ?_
    refine xj_putfield (G2 := xw_up G 21 (pM v (md_th M) (nR te1 ho1 ow1 hs1 ra1 lo1 (nI n1) (fun _ => 0) (fun _ => 0) (fun _ => 0) 0) (md_pt M) (nQ te1 ho1 ow1 hs1 ra1 lo1 (nI n1) (md_re M)) (md_sd M) (md_be M) (md_pb M) 0 (md_od M) (md_ad M) (md_wy M) (md_so M) (md_rl M) (md_io M) (md_po M) (md_sp M) (md_rs M) (md_st M) (md_av M) (md_ip M) (md_tx M) (md_tm M) (md_ta M) 0 (md_wo M) sq tk bg nu wr)) hk dX8_text_96 fl_X8_66 rfl rfl (xw_at xw_up_s rfl) (Nat.le_of_ble_eq_true rfl) (xw_wr2 rfl) ?_
    refine xj_aload_n (i := 0) hk dX8_text_99 rfl rfl ?_
    refine xj_callV hk hz (fr1 := 0) (lo1 := 0) (r1 := some (.int (nI n1))) (As := []) (st := []) (st2 := [.int (nI n1)]) (G1 := xw_up G 21 (pM v (md_th M) (nR te1 ho1 ow1 hs1 ra1 lo1 (nI n1) (fun _ => 0) (fun _ => 0) (fun _ => 0) 0) (md_pt M) (nQ te1 ho1 ow1 hs1 ra1 lo1 (nI n1) (md_re M)) (md_sd M) (md_be M) (md_pb M) 0 (md_od M) (md_ad M) (md_wy M) (md_so M) (md_rl M) (md_io M) (md_po M) (md_sp M) (md_rs M) (md_st M) (md_av M) (md_ip M) (md_tx M) (md_tm M) (md_ta M) 0 (md_wo M) sq tk bg nu wr)) ml_X8_73 (c_X8_many (M := (md_th M, nR te1 ho1 ow1 hs1 ra1 lo1 (nI n1) (fun _ => 0) (fun _ => 0) (fun _ => 0) 0, md_pt M, nQ te1 ho1 ow1 hs1 ra1 lo1 (nI n1) (md_re M), md_sd M, md_be M, md_pb M, 0, md_od M, md_ad M, md_wy M, md_so M, md_rl M, md_io M, md_po M, md_sp M, md_rs M, md_st M, md_av M, md_ip M, md_tx M, md_tm M, md_ta M, 0, md_wo M, sq, tk, bg, nu, wr)) (show (xw_up G 21 (pM v (md_th M) (nR te1 ho1 ow1 hs1 ra1 lo1 (nI n1) (fun _ => 0) (fun _ => 0) (fun _ => 0) 0) (md_pt M) (nQ te1 ho1 ow1 hs1 ra1 lo1 (nI n1) (md_re M)) (md_sd M) (md_be M) (md_pb M) 0 (md_od M) (md_ad M) (md_wy M) (md_so M) (md_rl M) (md_io M) (md_po M) (md_sp M) (md_rs M) (md_st M) (md_av M) (md_ip M) (md_tx M) (md_tm M) (md_ta M) 0 (md_wo M) sq tk bg nu wr)) 21 = pM v (md_th M) (nR te1 ho1 ow1 hs1 ra1 lo1 (nI n1) (fun _ => 0) (fun _ => 0) (fun _ => 0) 0) (md_pt M) (nQ te1 ho1 ow1 hs1 ra1 lo1 (nI n1) (md_re M)) (md_sd M) (md_be M) (md_pb M) 0 (md_od M) (md_ad M) (md_wy M) (md_so M) (md_rl M) (md_io M) (md_po M) (md_sp M) (md_rs M) (md_st M) (md_av M) (md_ip M) (md_tx M) (md_tm M) (md_ta M) 0 (md_wo M) sq tk bg nu wr from xw_up_s)) (xw_at xw_up_s rfl) rfl dX8_text_100 ⟨Nat.le_of_ble_eq_true rfl, Nat.le_of_ble_eq_true rfl⟩ rfl (Nat.le_of_ble_eq_true rfl) rfl rfl ?_
    refine xj_ireturn hk hz dX8_text_103 ?_
    refine Or.inl ⟨?_, ?_, ?_⟩
    · rw [← hS9]
    · rw [← hS9]
    · rw [← hS9]
      exact ⟨⟨(md_th M, nR te1 ho1 ow1 hs1 ra1 lo1 (nI n1) (fun _ => 0) (fun _ => 0) (fun _ => 0) 0, md_pt M, nQ te1 ho1 ow1 hs1 ra1 lo1 (nI n1) (md_re M), md_sd M, md_be M, md_pb M, 0, md_od M, md_ad M, md_wy M, md_so M, md_rl M, md_io M, md_po M, md_sp M, md_rs M, md_st M, md_av M, md_ip M, md_tx M, md_tm M, md_ta M, 0, md_wo M, sq, tk, bg, nu, wr), xw_up_s, rfl, rfl, rfl, rfl, rfl, rfl, rfl⟩, fun g h => xw_up_n h⟩
  · have hfa : ¬ fa = -1 := fun q9 => c56 (hL.1 q9).2.2.2.1
    have hbg := (hL.2 hfa).2
    refine xj_bipush (x := (-4)) hk dX8_text_59 (by decide) ?_
    refine xj_aload_n (i := 0) hk dX8_text_61 rfl rfl ?_
    refine xj_getfield hk dX8_text_62 fl_X8_265 (xw_at xw_up_s rfl) rfl ?_
    refine xj_isub hk dX8_text_65 ?_
    refine xj_ireturn hk hz dX8_text_66 ?_
    refine Or.inr ⟨?_, ?_, ⟨⟨(md_th M, nR te ho ow hs ra lo (nI n) st av so ln, md_pt M, RE, md_sd M, md_be M, md_pb M, md_ac M, md_od M, md_ad M, md_wy M, md_so M, md_rl M, md_io M, md_po M, md_sp M, md_rs M, md_st M, md_av M, md_ip M, md_tx M, md_tm M, md_ta M, 0, md_wo M, sq, tk, bg, nu, wr), xw_up_s, rfl, rfl, rfl, rfl, rfl, rfl, rfl⟩, fun g h => xw_up_n h⟩⟩
    · rw [← hS9]; exact hfa
    · rw [← hS9, hbg]


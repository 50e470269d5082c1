def shB {α : Type} (d : Nat) (f : Nat → α) (k : Nat) : Nat → α := fun x => if x + d < k then f (x + d) else f x
theorem shB_0 {α : Type} (d : Nat) (f : Nat → α) : shB d f d = f := by funext x; simp only [shB]; rw [if_neg (by omega)]
theorem shB_s {α : Type} {d k : Nat} (f : Nat → α) (h : d ≤ k) (h0 : 0 < d) : xu (shB d f k) (k - d) (shB d f k k) = shB d f (k + 1) := by
  funext x
  simp only [xu, shB]
  rw [if_neg (show ¬ k + d < k by omega)]
  by_cases q : x = k - d
  · subst q; rw [if_pos rfl, if_pos (by omega), show k - d + d = k by omega]
  · rw [if_neg q]
    by_cases c : x + d < k
    · rw [if_pos c, if_pos (by omega)]
    · rw [if_neg c, if_neg (by omega)]
def wrB {α : Type} (c k : Nat) (g f : Nat → α) : Nat → α := fun x => if c ≤ x ∧ x < c + k then g (x - c) else f x
theorem wrB_0 {α : Type} (c : Nat) (g f : Nat → α) : wrB c 0 g f = f := by funext x; simp only [wrB]; rw [if_neg (by omega)]
theorem wrB_s {α : Type} {c k : Nat} (g f : Nat → α) : xu (wrB c k g f) (c + k) (g k) = wrB c (k + 1) g f := by
  funext x
  simp only [xu, wrB]
  by_cases q : x = c + k
  · subst q; rw [if_pos rfl, if_pos (by omega), show c + k - c = k by omega]
  · rw [if_neg q]
    by_cases d : c ≤ x ∧ x < c + k
    · rw [if_pos d, if_pos (by omega)]
    · rw [if_neg d, if_neg (by omega)]
theorem nR_hi {te ho ow hs ra lo st av so : Nat → Int32} {bi ln : Int32} {x : Nat} (h : 139 ≤ x) : nR te ho ow hs ra lo bi st av so ln x = 0 := by
  simp only [nR]
  repeat' split
  all_goals first | (exfalso; omega) | rfl
theorem cp139 {te ho ow hs ra lo st av so : Nat → Int32} {bi ln : Int32} {f : Nat → Int32} {te' ho' ow' hs' ra' lo' st' av' so' : Nat → Int32} {bi' ln' : Int32} : cpN 139 (cpN 139 (nR te ho ow hs ra lo bi st av so ln) f) (nR te' ho' ow' hs' ra' lo' bi' st' av' so' ln') = nR te ho ow hs ra lo bi st av so ln := by
  funext x
  by_cases q : x < 139
  · simp only [cpN, if_pos q]
  · simp only [cpN, if_neg q]; rw [nR_hi (by omega), nR_hi (by omega)]
set_option maxHeartbeats 1000000 in
set_option maxRecDepth 10000 in
theorem l_X8_putsAside_2 {v : xw_V} {κ : xk_K} {post : Option Value → xw_G → Prop} {z : Nat × Nat × Nat} {G : xw_G} {M : md_T} {te ho ow hs ra lo st av so : Nat → Int32} {bi ln : Int32} (hk : xk_Ok v κ yX8_putsAside cX8_putsAside 2 none 0 0) (hz : xk_zf κ = z) (hM : G 21 = pM v (md_th M) (nR te ho ow hs ra lo bi st av so ln) (md_pt M) (md_re M) (md_sd M) (md_be M) (md_pb M) (md_ac M) (md_od M) (md_ad M) (md_wy M) (md_so M) (md_rl M) (md_io M) (md_po M) (md_sp M) (md_rs M) (md_st M) (md_av M) (md_ip M) (md_tx M) (md_tm M) (md_ta M) (md_td M) (md_wo M) (md_sq M) (md_tk M) (md_bg M) (md_nu M) (md_wr M)) (kx : xj v κ post z (xw_up G 21 (pM v (md_th M) (nR te ho ow hs ra lo bi st av so ln) (md_pt M) (md_re M) (cpN 139 (nR te ho ow hs ra lo bi st av so ln) (md_sd M)) (md_be M) (md_pb M) (md_ac M) (md_od M) (md_ad M) (md_wy M) (md_so M) (md_rl M) (md_io M) (md_po M) (md_sp M) (md_rs M) (md_st M) (md_av M) (md_ip M) (md_tx M) (md_tm M) (md_ta M) (md_td M) (md_wo M) (md_sq M) (md_tk M) (md_bg M) (md_nu M) (md_wr M))) 27 [some (.ref (xw_ad v 21 0)), some (.int (nI 139))] []) : ∀ (m : Nat) (k : Nat), 139 - k < m → k ≤ 139 → xj v κ post z (xw_up G 21 (pM v (md_th M) (nR te ho ow hs ra lo bi st av so ln) (md_pt M) (md_re M) (cpN k (nR te ho ow hs ra lo bi st av so ln) (md_sd M)) (md_be M) (md_pb M) (md_ac M) (md_od M) (md_ad M) (md_wy M) (md_so M) (md_rl M) (md_io M) (md_po M) (md_sp M) (md_rs M) (md_st M) (md_av M) (md_ip M) (md_tx M) (md_tm M) (md_ta M) (md_td M) (md_wo M) (md_sq M) (md_tk M) (md_bg M) (md_nu M) (md_wr M))) 2 [some (.ref (xw_ad v 21 0)), some (.int (nI k))] [] := by
  intro m
  induction m with
  | zero => intro k h; exact absurd h (Nat.not_lt_zero _)
  | succ m ih =>
    intro k hm hi
    refine xj_iload_n (i := 1) hk dX8_putsAside_2 rfl rfl ?_
    refine xj_sipush (x := 139) hk dX8_putsAside_3 (by decide) ?_
    refine xj_icmp_ge (tgt := 27) hk dX8_putsAside_6 (by decide) (fun c6 => ?_) (fun c6 => ?_)
    · have c6 : 139 ≤ k := (nI_leI (a := 139) (b := k) (by omega) (by omega)).mp c6
      have e9 : k = 139 := by omega
      subst e9
      exact kx
    · have c6 : ¬ 139 ≤ k := fun q => c6 ((nI_leI (a := 139) (b := k) (by omega) (by omega)).mpr q)
      refine xj_aload_n (i := 0) hk dX8_putsAside_9 rfl rfl ?_
      refine xj_getfield hk dX8_putsAside_10 fl_X8_24 (xw_at xw_up_s rfl) rfl ?_
      refine xj_iload_n (i := 1) hk dX8_putsAside_13 rfl rfl ?_
      refine xj_aload_n (i := 0) hk dX8_putsAside_14 rfl rfl ?_
      refine xj_getfield hk dX8_putsAside_15 fl_X8_13 (xw_at xw_up_s rfl) rfl ?_
      refine xj_iload_n (i := 1) hk dX8_putsAside_18 rfl rfl ?_
      refine xj_iaload (k := k) hk dX8_putsAside_19 (xw_at xw_up_s rfl) (xi_n (by omega) (by decide)) ?_
      refine xj_iastore (k := k) (G2 := xw_up G 21 (pM v (md_th M) (nR te ho ow hs ra lo bi st av so ln) (md_pt M) (md_re M) (xu (cpN k (nR te ho ow hs ra lo bi st av so ln) (md_sd M)) k ((nR te ho ow hs ra lo bi st av so ln) k)) (md_be M) (md_pb M) (md_ac M) (md_od M) (md_ad M) (md_wy M) (md_so M) (md_rl M) (md_io M) (md_po M) (md_sp M) (md_rs M) (md_st M) (md_av M) (md_ip M) (md_tx M) (md_tm M) (md_ta M) (md_td M) (md_wo M) (md_sq M) (md_tk M) (md_bg M) (md_nu M) (md_wr M))) hk dX8_putsAside_20 (xw_at xw_up_s rfl) (xi_n (by omega) (by decide)) (xw_wr2 rfl) ?_
      refine xj_iinc (i := 1) (x2 := nI (k + 1)) (ls2 := [some (.ref (xw_ad v 21 0)), some (.int (nI (k + 1)))]) hk dX8_putsAside_21 rfl (nI_1 k) (by decide) rfl rfl ?_
      refine xj_goto (tgt := 2) hk dX8_putsAside_24 (by decide) ?_
      refine xj.eqG (G' := xw_up G 21 (pM v (md_th M) (nR te ho ow hs ra lo bi st av so ln) (md_pt M) (md_re M) (cpN ((k + 1)) (nR te ho ow hs ra lo bi st av so ln) (md_sd M)) (md_be M) (md_pb M) (md_ac M) (md_od M) (md_ad M) (md_wy M) (md_so M) (md_rl M) (md_io M) (md_po M) (md_sp M) (md_rs M) (md_st M) (md_av M) (md_ip M) (md_tx M) (md_tm M) (md_ta M) (md_td M) (md_wo M) (md_sq M) (md_tk M) (md_bg M) (md_nu M) (md_wr M))) (by simp only [cp_s]) (ih (k + 1) (by omega) (by omega))

set_option maxHeartbeats 1000000 in
set_option maxRecDepth 10000 in
theorem c_X8_putsAside {v : xw_V} {G : xw_G} {M : md_T} {te ho ow hs ra lo st av so : Nat → Int32} {bi ln : Int32} (hM : G 21 = pM v (md_th M) (nR te ho ow hs ra lo bi st av so ln) (md_pt M) (md_re M) (md_sd M) (md_be M) (md_pb M) (md_ac M) (md_od M) (md_ad M) (md_wy M) (md_so M) (md_rl M) (md_io M) (md_po M) (md_sp M) (md_rs M) (md_st M) (md_av M) (md_ip M) (md_tx M) (md_tm M) (md_ta M) (md_td M) (md_wo M) (md_sq M) (md_tk M) (md_bg M) (md_nu M) (md_wr M)) : xk_Con v yX8_putsAside cX8_putsAside 2 none 0 0 [.ref (xw_ad v 21 0)] G (xk_ret none (xw_up G 21 (pM v (md_th M) (nR te ho ow hs ra lo bi st av so ln) (md_pt M) (md_re M) (cpN 139 (nR te ho ow hs ra lo bi st av so ln) (md_sd M)) (md_be M) (md_pb M) (md_ac M) (md_od M) (md_ad M) (md_wy M) (md_so M) (md_rl M) (md_io M) (md_po M) (md_sp M) (md_rs M) (md_st M) (md_av M) (md_ip M) (md_tx M) (md_tm M) (md_ta M) (md_td M) (md_wo M) (md_sq M) (md_tk M) (md_bg M) (md_nu M) (md_wr M)))) := by
  refine xk_of (ls0 := [some (.ref (xw_ad v 21 0)), none]) (by decide) rfl (Nat.le_of_ble_eq_true rfl) ?_
  intro κ z hk hz
  refine xj_iconst (x := 0) hk dX8_putsAside_0 (by decide) ?_
  refine xj_istore_n (i := 1) (ls2 := [some (.ref (xw_ad v 21 0)), some (.int 0)]) hk dX8_putsAside_1 rfl (by decide) rfl rfl ?_
  refine xj.eqG (G' := xw_up G 21 (pM v (md_th M) (nR te ho ow hs ra lo bi st av so ln) (md_pt M) (md_re M) (cpN 0 (nR te ho ow hs ra lo bi st av so ln) (md_sd M)) (md_be M) (md_pb M) (md_ac M) (md_od M) (md_ad M) (md_wy M) (md_so M) (md_rl M) (md_io M) (md_po M) (md_sp M) (md_rs M) (md_st M) (md_av M) (md_ip M) (md_tx M) (md_tm M) (md_ta M) (md_td M) (md_wo M) (md_sq M) (md_tk M) (md_bg M) (md_nu M) (md_wr M))) (by simp only [cp_0]; exact (xw_up_same hM).symm) ?_
  refine l_X8_putsAside_2 hk hz hM ?_ (139 + 1) 0 (by omega) (by omega)
  refine xj_return hk hz dX8_putsAside_27 ?_
  exact ⟨rfl, rfl⟩

set_option maxHeartbeats 1000000 in
set_option maxRecDepth 10000 in
theorem l_X8_takesBack_2 {v : xw_V} {κ : xk_K} {post : Option Value → xw_G → Prop} {z : Nat × Nat × Nat} {G : xw_G} {M : md_T} (hk : xk_Ok v κ yX8_takesBack cX8_takesBack 2 none 0 0) (hz : xk_zf κ = z) (hM0 : G 21 = pc_M v M) (kx : xj v κ post z (xw_up G 21 (pM v (md_th M) (cpN 139 (md_sd M) (md_no M)) (md_pt M) (md_re M) (md_sd M) (md_be M) (md_pb M) (md_ac M) (md_od M) (md_ad M) (md_wy M) (md_so M) (md_rl M) (md_io M) (md_po M) (md_sp M) (md_rs M) (md_st M) (md_av M) (md_ip M) (md_tx M) (md_tm M) (md_ta M) (md_td M) (md_wo M) (md_sq M) (md_tk M) (md_bg M) (md_nu M) (md_wr M))) 27 [some (.ref (xw_ad v 21 0)), some (.int (nI 139))] []) : ∀ (m : Nat) (k : Nat), 139 - k < m → k ≤ 139 → xj v κ post z (xw_up G 21 (pM v (md_th M) (cpN k (md_sd M) (md_no M)) (md_pt M) (md_re M) (md_sd M) (md_be M) (md_pb M) (md_ac M) (md_od M) (md_ad M) (md_wy M) (md_so M) (md_rl M) (md_io M) (md_po M) (md_sp M) (md_rs M) (md_st M) (md_av M) (md_ip M) (md_tx M) (md_tm M) (md_ta M) (md_td M) (md_wo M) (md_sq M) (md_tk M) (md_bg M) (md_nu M) (md_wr M))) 2 [some (.ref (xw_ad v 21 0)), some (.int (nI k))] [] := by
  intro m
  induction m with
  | zero => intro k h; exact absurd h (Nat.not_lt_zero _)
  | succ m ih =>
    intro k hm hi
    refine xj_iload_n (i := 1) hk dX8_takesBack_2 rfl rfl ?_
    refine xj_sipush (x := 139) hk dX8_takesBack_3 (by decide) ?_
    refine xj_icmp_ge (tgt := 27) hk dX8_takesBack_6 (by decide) (fun c6 => ?_) (fun c6 => ?_)
    · have c6 : 139 ≤ k := (nI_leI (a := 139) (b := k) (by omega) (by omega)).mp c6
      have e9 : k = 139 := by omega
      subst e9
      exact kx
    · have c6 : ¬ 139 ≤ k := fun q => c6 ((nI_leI (a := 139) (b := k) (by omega) (by omega)).mpr q)
      refine xj_aload_n (i := 0) hk dX8_takesBack_9 rfl rfl ?_
      refine xj_getfield hk dX8_takesBack_10 fl_X8_13 (xw_at xw_up_s rfl) rfl ?_
      refine xj_iload_n (i := 1) hk dX8_takesBack_13 rfl rfl ?_
      refine xj_aload_n (i := 0) hk dX8_takesBack_14 rfl rfl ?_
      refine xj_getfield hk dX8_takesBack_15 fl_X8_24 (xw_at xw_up_s rfl) rfl ?_
      refine xj_iload_n (i := 1) hk dX8_takesBack_18 rfl rfl ?_
      refine xj_iaload (k := k) hk dX8_takesBack_19 (xw_at xw_up_s rfl) (xi_n (by omega) (by decide)) ?_
      refine xj_iastore (k := k) (G2 := xw_up G 21 (pM v (md_th M) (xu (cpN k (md_sd M) (md_no M)) k (md_sd M k)) (md_pt M) (md_re M) (md_sd M) (md_be M) (md_pb M) (md_ac M) (md_od M) (md_ad M) (md_wy M) (md_so M) (md_rl M) (md_io M) (md_po M) (md_sp M) (md_rs M) (md_st M) (md_av M) (md_ip M) (md_tx M) (md_tm M) (md_ta M) (md_td M) (md_wo M) (md_sq M) (md_tk M) (md_bg M) (md_nu M) (md_wr M))) hk dX8_takesBack_20 (xw_at xw_up_s rfl) (xi_n (by omega) (by decide)) (xw_wr2 rfl) ?_
      refine xj_iinc (i := 1) (x2 := nI (k + 1)) (ls2 := [some (.ref (xw_ad v 21 0)), some (.int (nI (k + 1)))]) hk dX8_takesBack_21 rfl (nI_1 k) (by decide) rfl rfl ?_
      refine xj_goto (tgt := 2) hk dX8_takesBack_24 (by decide) ?_
      refine xj.eqG (G' := xw_up G 21 (pM v (md_th M) (cpN ((k + 1)) (md_sd M) (md_no M)) (md_pt M) (md_re M) (md_sd M) (md_be M) (md_pb M) (md_ac M) (md_od M) (md_ad M) (md_wy M) (md_so M) (md_rl M) (md_io M) (md_po M) (md_sp M) (md_rs M) (md_st M) (md_av M) (md_ip M) (md_tx M) (md_tm M) (md_ta M) (md_td M) (md_wo M) (md_sq M) (md_tk M) (md_bg M) (md_nu M) (md_wr M))) (by simp only [cp_s]) (ih (k + 1) (by omega) (by omega))

set_option maxHeartbeats 1000000 in
set_option maxRecDepth 10000 in
theorem c_X8_takesBack {v : xw_V} {G : xw_G} {M : md_T} (hM0 : G 21 = pc_M v M) : xk_Con v yX8_takesBack cX8_takesBack 2 none 0 0 [.ref (xw_ad v 21 0)] G (xk_ret none (xw_up G 21 (pM v (md_th M) (cpN 139 (md_sd M) (md_no M)) (md_pt M) (md_re M) (md_sd M) (md_be M) (md_pb M) (md_ac M) (md_od M) (md_ad M) (md_wy M) (md_so M) (md_rl M) (md_io M) (md_po M) (md_sp M) (md_rs M) (md_st M) (md_av M) (md_ip M) (md_tx M) (md_tm M) (md_ta M) (md_td M) (md_wo M) (md_sq M) (md_tk M) (md_bg M) (md_nu M) (md_wr M)))) := by
  refine xk_of (ls0 := [some (.ref (xw_ad v 21 0)), none]) (by decide) rfl (Nat.le_of_ble_eq_true rfl) ?_
  intro κ z hk hz
  refine xj_iconst (x := 0) hk dX8_takesBack_0 (by decide) ?_
  refine xj_istore_n (i := 1) (ls2 := [some (.ref (xw_ad v 21 0)), some (.int 0)]) hk dX8_takesBack_1 rfl (by decide) rfl rfl ?_
  refine xj.eqG (G' := xw_up G 21 (pM v (md_th M) (cpN 0 (md_sd M) (md_no M)) (md_pt M) (md_re M) (md_sd M) (md_be M) (md_pb M) (md_ac M) (md_od M) (md_ad M) (md_wy M) (md_so M) (md_rl M) (md_io M) (md_po M) (md_sp M) (md_rs M) (md_st M) (md_av M) (md_ip M) (md_tx M) (md_tm M) (md_ta M) (md_td M) (md_wo M) (md_sq M) (md_tk M) (md_bg M) (md_nu M) (md_wr M))) (by simp only [cp_0]; exact (xw_up_same hM0).symm) ?_
  refine l_X8_takesBack_2 hk hz hM0 ?_ (139 + 1) 0 (by omega) (by omega)
  refine xj_return hk hz dX8_takesBack_27 ?_
  exact ⟨rfl, rfl⟩

set_option maxHeartbeats 1000000 in
set_option maxRecDepth 10000 in
theorem l_X8_keeps_13 {v : xw_V} {κ : xk_K} {post : Option Value → xw_G → Prop} {z : Nat × Nat × Nat} {G : xw_G} {M : md_T} (hk : xk_Ok v κ yX8_keeps cX8_keeps 2 none 0 0) (hz : xk_zf κ = z) (hM0 : G 21 = pc_M v M) (kx : xj v κ post z (xw_up G 21 (pM v (md_th M) (md_no M) (md_pt M) (md_re M) (md_sd M) (shB 139 (md_be M) 1668) (md_pb M) (md_ac M) (md_od M) (md_ad M) (md_wy M) (md_so M) (md_rl M) (md_io M) (md_po M) (md_sp M) (md_rs M) (md_st M) (md_av M) (md_ip M) (md_tx M) (md_tm M) (md_ta M) (md_td M) (md_wo M) (md_sq M) (md_tk M) (md_bg M) (md_nu M) (md_wr M))) 42 [some (.ref (xw_ad v 21 0)), some (.int (nI 1668))] []) : ∀ (m : Nat) (k : Nat), 1668 - k < m → k ≤ 1668 → 139 ≤ k → xj v κ post z (xw_up G 21 (pM v (md_th M) (md_no M) (md_pt M) (md_re M) (md_sd M) (shB 139 (md_be M) k) (md_pb M) (md_ac M) (md_od M) (md_ad M) (md_wy M) (md_so M) (md_rl M) (md_io M) (md_po M) (md_sp M) (md_rs M) (md_st M) (md_av M) (md_ip M) (md_tx M) (md_tm M) (md_ta M) (md_td M) (md_wo M) (md_sq M) (md_tk M) (md_bg M) (md_nu M) (md_wr M))) 13 [some (.ref (xw_ad v 21 0)), some (.int (nI k))] [] := by
  intro m
  induction m with
  | zero => intro k h; exact absurd h (Nat.not_lt_zero _)
  | succ m ih =>
    intro k hm hi hj
    refine xj_iload_n (i := 1) hk dX8_keeps_13 rfl rfl ?_
    refine xj_sipush (x := 1668) hk dX8_keeps_14 (by decide) ?_
    refine xj_icmp_ge (tgt := 42) hk dX8_keeps_17 (by decide) (fun c17 => ?_) (fun c17 => ?_)
    · have c17 : 1668 ≤ k := (nI_leI (a := 1668) (b := k) (by omega) (by omega)).mp c17
      have e9 : k = 1668 := by omega
      subst e9
      exact kx
    · have c17 : ¬ 1668 ≤ k := fun q => c17 ((nI_leI (a := 1668) (b := k) (by omega) (by omega)).mpr q)
      refine xj_aload_n (i := 0) hk dX8_keeps_20 rfl rfl ?_
      refine xj_getfield hk dX8_keeps_21 fl_X8_27 (xw_at xw_up_s rfl) rfl ?_
      refine xj_iload_n (i := 1) hk dX8_keeps_24 rfl rfl ?_
      refine xj_sipush (x := 139) hk dX8_keeps_25 (by decide) ?_
      refine xj_isub hk dX8_keeps_28 ?_
      refine xj.eqi (x' := nI (k - 139)) (nI_sub (a := k) (b := 139) (by omega)) ?_
      refine xj_aload_n (i := 0) hk dX8_keeps_29 rfl rfl ?_
      refine xj_getfield hk dX8_keeps_30 fl_X8_27 (xw_at xw_up_s rfl) rfl ?_
      refine xj_iload_n (i := 1) hk dX8_keeps_33 rfl rfl ?_
      refine xj_iaload (k := k) hk dX8_keeps_34 (xw_at xw_up_s rfl) (xi_n (by omega) (by decide)) ?_
      refine xj_iastore (k := k - 139) (G2 := xw_up G 21 (pM v (md_th M) (md_no M) (md_pt M) (md_re M) (md_sd M) (xu (shB 139 (md_be M) k) (k - 139) ((shB 139 (md_be M) k) k)) (md_pb M) (md_ac M) (md_od M) (md_ad M) (md_wy M) (md_so M) (md_rl M) (md_io M) (md_po M) (md_sp M) (md_rs M) (md_st M) (md_av M) (md_ip M) (md_tx M) (md_tm M) (md_ta M) (md_td M) (md_wo M) (md_sq M) (md_tk M) (md_bg M) (md_nu M) (md_wr M))) hk dX8_keeps_35 (xw_at xw_up_s rfl) (xi_n (by omega) (by decide)) (xw_wr2 rfl) ?_
      refine xj_iinc (i := 1) (x2 := nI (k + 1)) (ls2 := [some (.ref (xw_ad v 21 0)), some (.int (nI (k + 1)))]) hk dX8_keeps_36 rfl (nI_1 k) (by decide) rfl rfl ?_
      refine xj_goto (tgt := 13) hk dX8_keeps_39 (by decide) ?_
      refine xj.eqG (G' := xw_up G 21 (pM v (md_th M) (md_no M) (md_pt M) (md_re M) (md_sd M) (shB 139 (md_be M) ((k + 1))) (md_pb M) (md_ac M) (md_od M) (md_ad M) (md_wy M) (md_so M) (md_rl M) (md_io M) (md_po M) (md_sp M) (md_rs M) (md_st M) (md_av M) (md_ip M) (md_tx M) (md_tm M) (md_ta M) (md_td M) (md_wo M) (md_sq M) (md_tk M) (md_bg M) (md_nu M) (md_wr M))) (by rw [shB_s (md_be M) (by omega) (by decide)]) (ih (k + 1) (by omega) (by omega) (by omega))

set_option maxHeartbeats 1000000 in
set_option maxRecDepth 10000 in
theorem l_X8_keeps_45 {v : xw_V} {κ : xk_K} {post : Option Value → xw_G → Prop} {z : Nat × Nat × Nat} {G : xw_G} {M : md_T} (hk : xk_Ok v κ yX8_keeps cX8_keeps 2 none 0 0) (hz : xk_zf κ = z) (hM0 : G 21 = pc_M v M) (kx : xj v κ post z (xw_up G 21 (pM v (md_th M) (md_no M) (md_pt M) (md_re M) (md_sd M) (md_be M) (shB 8 (md_pb M) 96) (md_ac M) (md_od M) (md_ad M) (md_wy M) (md_so M) (md_rl M) (md_io M) (md_po M) (md_sp M) (md_rs M) (md_st M) (md_av M) (md_ip M) (md_tx M) (md_tm M) (md_ta M) (md_td M) (md_wo M) (md_sq M) (md_tk M) (md_bg M) (md_nu M) (md_wr M))) 72 [some (.ref (xw_ad v 21 0)), some (.int (nI 96))] []) : ∀ (m : Nat) (k : Nat), 96 - k < m → k ≤ 96 → 8 ≤ k → xj v κ post z (xw_up G 21 (pM v (md_th M) (md_no M) (md_pt M) (md_re M) (md_sd M) (md_be M) (shB 8 (md_pb M) k) (md_ac M) (md_od M) (md_ad M) (md_wy M) (md_so M) (md_rl M) (md_io M) (md_po M) (md_sp M) (md_rs M) (md_st M) (md_av M) (md_ip M) (md_tx M) (md_tm M) (md_ta M) (md_td M) (md_wo M) (md_sq M) (md_tk M) (md_bg M) (md_nu M) (md_wr M))) 45 [some (.ref (xw_ad v 21 0)), some (.int (nI k))] [] := by
  intro m
  induction m with
  | zero => intro k h; exact absurd h (Nat.not_lt_zero _)
  | succ m ih =>
    intro k hm hi hj
    refine xj_iload_n (i := 1) hk dX8_keeps_45 rfl rfl ?_
    refine xj_bipush (x := 96) hk dX8_keeps_46 (by decide) ?_
    refine xj_icmp_ge (tgt := 72) hk dX8_keeps_48 (by decide) (fun c48 => ?_) (fun c48 => ?_)
    · have c48 : 96 ≤ k := (nI_leI (a := 96) (b := k) (by omega) (by omega)).mp c48
      have e9 : k = 96 := by omega
      subst e9
      exact kx
    · have c48 : ¬ 96 ≤ k := fun q => c48 ((nI_leI (a := 96) (b := k) (by omega) (by omega)).mpr q)
      refine xj_aload_n (i := 0) hk dX8_keeps_51 rfl rfl ?_
      refine xj_getfield hk dX8_keeps_52 fl_X8_30 (xw_at xw_up_s rfl) rfl ?_
      refine xj_iload_n (i := 1) hk dX8_keeps_55 rfl rfl ?_
      refine xj_bipush (x := 8) hk dX8_keeps_56 (by decide) ?_
      refine xj_isub hk dX8_keeps_58 ?_
      refine xj.eqi (x' := nI (k - 8)) (nI_sub (a := k) (b := 8) (by omega)) ?_
      refine xj_aload_n (i := 0) hk dX8_keeps_59 rfl rfl ?_
      refine xj_getfield hk dX8_keeps_60 fl_X8_30 (xw_at xw_up_s rfl) rfl ?_
      refine xj_iload_n (i := 1) hk dX8_keeps_63 rfl rfl ?_
      refine xj_laload (k := k) hk dX8_keeps_64 (xw_at xw_up_s rfl) (xi_n (by omega) (by decide)) ?_
      refine xj_lastore (k := k - 8) (G2 := xw_up G 21 (pM v (md_th M) (md_no M) (md_pt M) (md_re M) (md_sd M) (md_be M) (xu (shB 8 (md_pb M) k) (k - 8) ((shB 8 (md_pb M) k) k)) (md_ac M) (md_od M) (md_ad M) (md_wy M) (md_so M) (md_rl M) (md_io M) (md_po M) (md_sp M) (md_rs M) (md_st M) (md_av M) (md_ip M) (md_tx M) (md_tm M) (md_ta M) (md_td M) (md_wo M) (md_sq M) (md_tk M) (md_bg M) (md_nu M) (md_wr M))) hk dX8_keeps_65 (xw_at xw_up_s rfl) (xi_n (by omega) (by decide)) (xw_wr2 rfl) ?_
      refine xj_iinc (i := 1) (x2 := nI (k + 1)) (ls2 := [some (.ref (xw_ad v 21 0)), some (.int (nI (k + 1)))]) hk dX8_keeps_66 rfl (nI_1 k) (by decide) rfl rfl ?_
      refine xj_goto (tgt := 45) hk dX8_keeps_69 (by decide) ?_
      refine xj.eqG (G' := xw_up G 21 (pM v (md_th M) (md_no M) (md_pt M) (md_re M) (md_sd M) (md_be M) (shB 8 (md_pb M) ((k + 1))) (md_ac M) (md_od M) (md_ad M) (md_wy M) (md_so M) (md_rl M) (md_io M) (md_po M) (md_sp M) (md_rs M) (md_st M) (md_av M) (md_ip M) (md_tx M) (md_tm M) (md_ta M) (md_td M) (md_wo M) (md_sq M) (md_tk M) (md_bg M) (md_nu M) (md_wr M))) (by rw [shB_s (md_pb M) (by omega) (by decide)]) (ih (k + 1) (by omega) (by omega) (by omega))

set_option maxHeartbeats 1000000 in
set_option maxRecDepth 10000 in
theorem l_X8_keeps_84 {v : xw_V} {κ : xk_K} {post : Option Value → xw_G → Prop} {z : Nat × Nat × Nat} {G : xw_G} {M : md_T} {a : Nat} (hk : xk_Ok v κ yX8_keeps cX8_keeps 2 none 0 0) (hz : xk_zf κ = z) (hM0 : G 21 = pc_M v M) (hac : md_ac M = nI a) (ha : a < 12) (kx : xj v κ post z (xw_up G 21 (pM v (md_th M) (md_no M) (md_pt M) (md_re M) (md_sd M) (wrB (139 * a) 139 (md_no M) (md_be M)) (md_pb M) (md_ac M) (md_od M) (md_ad M) (md_wy M) (md_so M) (md_rl M) (md_io M) (md_po M) (md_sp M) (md_rs M) (md_st M) (md_av M) (md_ip M) (md_tx M) (md_tm M) (md_ta M) (md_td M) (md_wo M) (md_sq M) (md_tk M) (md_bg M) (md_nu M) (md_wr M))) 118 [some (.ref (xw_ad v 21 0)), some (.int (nI 139))] []) : ∀ (m : Nat) (k : Nat), 139 - k < m → k ≤ 139 → xj v κ post z (xw_up G 21 (pM v (md_th M) (md_no M) (md_pt M) (md_re M) (md_sd M) (wrB (139 * a) k (md_no M) (md_be M)) (md_pb M) (md_ac M) (md_od M) (md_ad M) (md_wy M) (md_so M) (md_rl M) (md_io M) (md_po M) (md_sp M) (md_rs M) (md_st M) (md_av M) (md_ip M) (md_tx M) (md_tm M) (md_ta M) (md_td M) (md_wo M) (md_sq M) (md_tk M) (md_bg M) (md_nu M) (md_wr M))) 84 [some (.ref (xw_ad v 21 0)), some (.int (nI k))] [] := by
  intro m
  induction m with
  | zero => intro k h; exact absurd h (Nat.not_lt_zero _)
  | succ m ih =>
    intro k hm hi
    refine xj_iload_n (i := 1) hk dX8_keeps_84 rfl rfl ?_
    refine xj_sipush (x := 139) hk dX8_keeps_85 (by decide) ?_
    refine xj_icmp_ge (tgt := 118) hk dX8_keeps_88 (by decide) (fun c88 => ?_) (fun c88 => ?_)
    · have c88 : 139 ≤ k := (nI_leI (a := 139) (b := k) (by omega) (by omega)).mp c88
      have e9 : k = 139 := by omega
      subst e9
      exact kx
    · have c88 : ¬ 139 ≤ k := fun q => c88 ((nI_leI (a := 139) (b := k) (by omega) (by omega)).mpr q)
      refine xj_aload_n (i := 0) hk dX8_keeps_91 rfl rfl ?_
      refine xj_getfield hk dX8_keeps_92 fl_X8_27 (xw_at xw_up_s rfl) rfl ?_
      refine xj_sipush (x := 139) hk dX8_keeps_95 (by decide) ?_
      refine xj_aload_n (i := 0) hk dX8_keeps_98 rfl rfl ?_
      refine xj_getfield hk dX8_keeps_99 fl_X8_66 (xw_at xw_up_s rfl) rfl ?_
      refine xj.eqi (x' := nI a) hac ?_
      refine xj_imul hk dX8_keeps_102 ?_
      refine xj.eqi (x' := nI (139 * a)) (nI_mul 139 a) ?_
      refine xj_iload_n (i := 1) hk dX8_keeps_103 rfl rfl ?_
      refine xj_iadd hk dX8_keeps_104 ?_
      refine xj.eqi (x' := nI (139 * a + k)) (nI_add (139 * a) k) ?_
      refine xj_aload_n (i := 0) hk dX8_keeps_105 rfl rfl ?_
      refine xj_getfield hk dX8_keeps_106 fl_X8_13 (xw_at xw_up_s rfl) rfl ?_
      refine xj_iload_n (i := 1) hk dX8_keeps_109 rfl rfl ?_
      refine xj_iaload (k := k) hk dX8_keeps_110 (xw_at xw_up_s rfl) (xi_n (by omega) (by decide)) ?_
      refine xj_iastore (k := 139 * a + k) (G2 := xw_up G 21 (pM v (md_th M) (md_no M) (md_pt M) (md_re M) (md_sd M) (xu (wrB (139 * a) k (md_no M) (md_be M)) (139 * a + k) (md_no M k)) (md_pb M) (md_ac M) (md_od M) (md_ad M) (md_wy M) (md_so M) (md_rl M) (md_io M) (md_po M) (md_sp M) (md_rs M) (md_st M) (md_av M) (md_ip M) (md_tx M) (md_tm M) (md_ta M) (md_td M) (md_wo M) (md_sq M) (md_tk M) (md_bg M) (md_nu M) (md_wr M))) hk dX8_keeps_111 (xw_at xw_up_s rfl) (xi_n (by omega) (by decide)) (xw_wr2 rfl) ?_
      refine xj_iinc (i := 1) (x2 := nI (k + 1)) (ls2 := [some (.ref (xw_ad v 21 0)), some (.int (nI (k + 1)))]) hk dX8_keeps_112 rfl (nI_1 k) (by decide) rfl rfl ?_
      refine xj_goto (tgt := 84) hk dX8_keeps_115 (by decide) ?_
      refine xj.eqG (G' := xw_up G 21 (pM v (md_th M) (md_no M) (md_pt M) (md_re M) (md_sd M) (wrB (139 * a) ((k + 1)) (md_no M) (md_be M)) (md_pb M) (md_ac M) (md_od M) (md_ad M) (md_wy M) (md_so M) (md_rl M) (md_io M) (md_po M) (md_sp M) (md_rs M) (md_st M) (md_av M) (md_ip M) (md_tx M) (md_tm M) (md_ta M) (md_td M) (md_wo M) (md_sq M) (md_tk M) (md_bg M) (md_nu M) (md_wr M))) (by rw [wrB_s]) (ih (k + 1) (by omega) (by omega))

set_option maxHeartbeats 1000000 in
set_option maxRecDepth 10000 in
theorem l_X8_keeps_120 {v : xw_V} {κ : xk_K} {post : Option Value → xw_G → Prop} {z : Nat × Nat × Nat} {G : xw_G} {M : md_T} {a : Nat} (hk : xk_Ok v κ yX8_keeps cX8_keeps 2 none 0 0) (hz : xk_zf κ = z) (hM0 : G 21 = pc_M v M) (hac : md_ac M = nI a) (ha : a < 12) (kx : xj v κ post z (xw_up G 21 (pM v (md_th M) (md_no M) (md_pt M) (md_re M) (md_sd M) (md_be M) (wrB (8 * a) 8 (md_pt M) (md_pb M)) (md_ac M) (md_od M) (md_ad M) (md_wy M) (md_so M) (md_rl M) (md_io M) (md_po M) (md_sp M) (md_rs M) (md_st M) (md_av M) (md_ip M) (md_tx M) (md_tm M) (md_ta M) (md_td M) (md_wo M) (md_sq M) (md_tk M) (md_bg M) (md_nu M) (md_wr M))) 152 [some (.ref (xw_ad v 21 0)), some (.int (nI 8))] []) : ∀ (m : Nat) (k : Nat), 8 - k < m → k ≤ 8 → xj v κ post z (xw_up G 21 (pM v (md_th M) (md_no M) (md_pt M) (md_re M) (md_sd M) (md_be M) (wrB (8 * a) k (md_pt M) (md_pb M)) (md_ac M) (md_od M) (md_ad M) (md_wy M) (md_so M) (md_rl M) (md_io M) (md_po M) (md_sp M) (md_rs M) (md_st M) (md_av M) (md_ip M) (md_tx M) (md_tm M) (md_ta M) (md_td M) (md_wo M) (md_sq M) (md_tk M) (md_bg M) (md_nu M) (md_wr M))) 120 [some (.ref (xw_ad v 21 0)), some (.int (nI k))] [] := by
  intro m
  induction m with
  | zero => intro k h; exact absurd h (Nat.not_lt_zero _)
  | succ m ih =>
    intro k hm hi
    refine xj_iload_n (i := 1) hk dX8_keeps_120 rfl rfl ?_
    refine xj_bipush (x := 8) hk dX8_keeps_121 (by decide) ?_
    refine xj_icmp_ge (tgt := 152) hk dX8_keeps_123 (by decide) (fun c123 => ?_) (fun c123 => ?_)
    · have c123 : 8 ≤ k := (nI_leI (a := 8) (b := k) (by omega) (by omega)).mp c123
      have e9 : k = 8 := by omega
      subst e9
      exact kx
    · have c123 : ¬ 8 ≤ k := fun q => c123 ((nI_leI (a := 8) (b := k) (by omega) (by omega)).mpr q)
      refine xj_aload_n (i := 0) hk dX8_keeps_126 rfl rfl ?_
      refine xj_getfield hk dX8_keeps_127 fl_X8_30 (xw_at xw_up_s rfl) rfl ?_
      refine xj_bipush (x := 8) hk dX8_keeps_130 (by decide) ?_
      refine xj_aload_n (i := 0) hk dX8_keeps_132 rfl rfl ?_
      refine xj_getfield hk dX8_keeps_133 fl_X8_66 (xw_at xw_up_s rfl) rfl ?_
      refine xj.eqi (x' := nI a) hac ?_
      refine xj_imul hk dX8_keeps_136 ?_
      refine xj.eqi (x' := nI (8 * a)) (nI_mul 8 a) ?_
      refine xj_iload_n (i := 1) hk dX8_keeps_137 rfl rfl ?_
      refine xj_iadd hk dX8_keeps_138 ?_
      refine xj.eqi (x' := nI (8 * a + k)) (nI_add (8 * a) k) ?_
      refine xj_aload_n (i := 0) hk dX8_keeps_139 rfl rfl ?_
      refine xj_getfield hk dX8_keeps_140 fl_X8_17 (xw_at xw_up_s rfl) rfl ?_
      refine xj_iload_n (i := 1) hk dX8_keeps_143 rfl rfl ?_
      refine xj_laload (k := k) hk dX8_keeps_144 (xw_at xw_up_s rfl) (xi_n (by omega) (by decide)) ?_
      refine xj_lastore (k := 8 * a + k) (G2 := xw_up G 21 (pM v (md_th M) (md_no M) (md_pt M) (md_re M) (md_sd M) (md_be M) (xu (wrB (8 * a) k (md_pt M) (md_pb M)) (8 * a + k) (md_pt M k)) (md_ac M) (md_od M) (md_ad M) (md_wy M) (md_so M) (md_rl M) (md_io M) (md_po M) (md_sp M) (md_rs M) (md_st M) (md_av M) (md_ip M) (md_tx M) (md_tm M) (md_ta M) (md_td M) (md_wo M) (md_sq M) (md_tk M) (md_bg M) (md_nu M) (md_wr M))) hk dX8_keeps_145 (xw_at xw_up_s rfl) (xi_n (by omega) (by decide)) (xw_wr2 rfl) ?_
      refine xj_iinc (i := 1) (x2 := nI (k + 1)) (ls2 := [some (.ref (xw_ad v 21 0)), some (.int (nI (k + 1)))]) hk dX8_keeps_146 rfl (nI_1 k) (by decide) rfl rfl ?_
      refine xj_goto (tgt := 120) hk dX8_keeps_149 (by decide) ?_
      refine xj.eqG (G' := xw_up G 21 (pM v (md_th M) (md_no M) (md_pt M) (md_re M) (md_sd M) (md_be M) (wrB (8 * a) ((k + 1)) (md_pt M) (md_pb M)) (md_ac M) (md_od M) (md_ad M) (md_wy M) (md_so M) (md_rl M) (md_io M) (md_po M) (md_sp M) (md_rs M) (md_st M) (md_av M) (md_ip M) (md_tx M) (md_tm M) (md_ta M) (md_td M) (md_wo M) (md_sq M) (md_tk M) (md_bg M) (md_nu M) (md_wr M))) (by rw [wrB_s]) (ih (k + 1) (by omega) (by omega))

def KP (a : Nat) (no be : Nat → Int32) (pt pb : Nat → Int64) (be1 : Nat → Int32) (pb1 : Nat → Int64) : Prop := (a = 12 → be1 = wrB (139 * 11) 139 no (shB 139 be 1668) ∧ pb1 = wrB (8 * 11) 8 pt (shB 8 pb 96)) ∧ (a < 12 → be1 = wrB (139 * a) 139 no be ∧ pb1 = wrB (8 * a) 8 pt pb)
set_option maxHeartbeats 1000000 in
set_option maxRecDepth 10000 in
theorem c_X8_keeps {v : xw_V} {G : xw_G} {M : md_T} {a : Nat} (hM0 : G 21 = pc_M v M) (hac : md_ac M = nI a) (ha12 : a ≤ 12) : xk_Con v yX8_keeps cX8_keeps 2 none 0 0 [.ref (xw_ad v 21 0)] G (fun r G' => r = none ∧ ∃ (be1 : Nat → Int32) (pb1 : Nat → Int64), KP a (md_no M) (md_be M) (md_pt M) (md_pb M) be1 pb1 ∧ G' = xw_up G 21 (pM v (md_th M) (md_no M) (md_pt M) (md_re M) (md_sd M) be1 pb1 (nI (min a 11 + 1)) (md_od M) (md_ad M) (md_wy M) (md_so M) (md_rl M) (md_io M) (md_po M) (md_sp M) (md_rs M) (md_st M) (md_av M) (md_ip M) (md_tx M) (md_tm M) (md_ta M) (md_td M) (md_wo M) (md_sq M) (md_tk M) (md_bg M) (md_nu M) (md_wr M))) := by
  refine xk_of (ls0 := [some (.ref (xw_ad v 21 0)), none]) (by decide) rfl (Nat.le_of_ble_eq_true rfl) ?_
  intro κ z hk hz
  refine xj_aload_n (i := 0) hk dX8_keeps_0 rfl rfl ?_
  refine xj_getfield hk dX8_keeps_1 fl_X8_66 (xw_at hM0 rfl) rfl ?_
  refine xj.eqi (x' := nI a) hac ?_
  refine xj_bipush (x := 12) hk dX8_keeps_4 (by decide) ?_
  refine xj_icmp_ne (tgt := 82) hk dX8_keeps_6 (by decide) (fun c6 => ?_) (fun c6 => ?_)
  · have c6 : ¬ a = 12 := fun q => c6 ((nI_eq (a := a) (b := 12) (by omega) (by omega)).mpr q)
    refine xj_iconst (x := 0) hk dX8_keeps_82 (by decide) ?_
    refine xj_istore_n (i := 1) (ls2 := [some (.ref (xw_ad v 21 0)), some (.int 0)]) hk dX8_keeps_83 rfl (by decide) rfl rfl ?_
    refine xj.eqG (G' := xw_up G 21 (pM v (md_th M) (md_no M) (md_pt M) (md_re M) (md_sd M) (wrB (139 * a) 0 (md_no M) (md_be M)) (md_pb M) (md_ac M) (md_od M) (md_ad M) (md_wy M) (md_so M) (md_rl M) (md_io M) (md_po M) (md_sp M) (md_rs M) (md_st M) (md_av M) (md_ip M) (md_tx M) (md_tm M) (md_ta M) (md_td M) (md_wo M) (md_sq M) (md_tk M) (md_bg M) (md_nu M) (md_wr M))) (by simp only [wrB_0]; exact (xw_up_same hM0).symm) ?_
    refine l_X8_keeps_84 (M := M) hk hz (show G 21 = pc_M v M from hM0) hac (by omega) ?_ (139 + 1) 0 (by omega) (by omega)
    refine xj.eqG (G' := xw_up G 21 (pM v (md_th M) (md_no M) (md_pt M) (md_re M) (md_sd M) (wrB (139 * a) 139 (md_no M) (md_be M)) (md_pb M) (md_ac M) (md_od M) (md_ad M) (md_wy M) (md_so M) (md_rl M) (md_io M) (md_po M) (md_sp M) (md_rs M) (md_st M) (md_av M) (md_ip M) (md_tx M) (md_tm M) (md_ta M) (md_td M) (md_wo M) (md_sq M) (md_tk M) (md_bg M) (md_nu M) (md_wr M))) (by first | rfl | (rw [xw_up_u]; rfl)) ?_
    refine xj_iconst (x := 0) hk dX8_keeps_118 (by decide) ?_
    refine xj_istore_n (i := 1) (ls2 := [some (.ref (xw_ad v 21 0)), some (.int 0)]) hk dX8_keeps_119 rfl (by decide) rfl rfl ?_
    refine xj.eqG (G' := xw_up (xw_up G 21 (pM v (md_th M) (md_no M) (md_pt M) (md_re M) (md_sd M) (wrB (139 * a) 139 (md_no M) (md_be M)) (md_pb M) (md_ac M) (md_od M) (md_ad M) (md_wy M) (md_so M) (md_rl M) (md_io M) (md_po M) (md_sp M) (md_rs M) (md_st M) (md_av M) (md_ip M) (md_tx M) (md_tm M) (md_ta M) (md_td M) (md_wo M) (md_sq M) (md_tk M) (md_bg M) (md_nu M) (md_wr M))) 21 (pM v (md_th M) (md_no M) (md_pt M) (md_re M) (md_sd M) (wrB (139 * a) 139 (md_no M) (md_be M)) (wrB (8 * a) 0 (md_pt M) (md_pb M)) (md_ac M) (md_od M) (md_ad M) (md_wy M) (md_so M) (md_rl M) (md_io M) (md_po M) (md_sp M) (md_rs M) (md_st M) (md_av M) (md_ip M) (md_tx M) (md_tm M) (md_ta M) (md_td M) (md_wo M) (md_sq M) (md_tk M) (md_bg M) (md_nu M) (md_wr M))) (by simp only [wrB_0]; exact (xw_up_same xw_up_s).symm) ?_
    refine l_X8_keeps_120 (M := (md_th M, md_no M, md_pt M, md_re M, md_sd M, wrB (139 * a) 139 (md_no M) (md_be M), md_pb M, md_ac M, md_od M, md_ad M, md_wy M, md_so M, md_rl M, md_io M, md_po M, md_sp M, md_rs M, md_st M, md_av M, md_ip M, md_tx M, md_tm M, md_ta M, md_td M, md_wo M, md_sq M, md_tk M, md_bg M, md_nu M, md_wr M)) hk hz (show (xw_up G 21 (pM v (md_th M) (md_no M) (md_pt M) (md_re M) (md_sd M) (wrB (139 * a) 139 (md_no M) (md_be M)) (md_pb M) (md_ac M) (md_od M) (md_ad M) (md_wy M) (md_so M) (md_rl M) (md_io M) (md_po M) (md_sp M) (md_rs M) (md_st M) (md_av M) (md_ip M) (md_tx M) (md_tm M) (md_ta M) (md_td M) (md_wo M) (md_sq M) (md_tk M) (md_bg M) (md_nu M) (md_wr M))) 21 = pM v (md_th M) (md_no M) (md_pt M) (md_re M) (md_sd M) (wrB (139 * a) 139 (md_no M) (md_be M)) (md_pb M) (md_ac M) (md_od M) (md_ad M) (md_wy M) (md_so M) (md_rl M) (md_io M) (md_po M) (md_sp M) (md_rs M) (md_st M) (md_av M) (md_ip M) (md_tx M) (md_tm M) (md_ta M) (md_td M) (md_wo M) (md_sq M) (md_tk M) (md_bg M) (md_nu M) (md_wr M) from xw_up_s) hac (by omega) ?_ (8 + 1) 0 (by omega) (by omega)
    refine xj.eqG (G' := xw_up G 21 (pM v (md_th M) (md_no M) (md_pt M) (md_re M) (md_sd M) (wrB (139 * a) 139 (md_no M) (md_be M)) (wrB (8 * a) 8 (md_pt M) (md_pb M)) (md_ac M) (md_od M) (md_ad M) (md_wy M) (md_so M) (md_rl M) (md_io M) (md_po M) (md_sp M) (md_rs M) (md_st M) (md_av M) (md_ip M) (md_tx M) (md_tm M) (md_ta M) (md_td M) (md_wo M) (md_sq M) (md_tk M) (md_bg M) (md_nu M) (md_wr M))) (by first | rfl | (rw [xw_up_u]; rfl)) ?_
    refine xj_aload_n (i := 0) hk dX8_keeps_152 rfl rfl ?_
    refine xj_dup hk dX8_keeps_153 rfl ?_
    refine xj_getfield hk dX8_keeps_154 fl_X8_66 (xw_at xw_up_s rfl) rfl ?_
    refine xj.eqi (x' := nI a) hac ?_
    refine xj_iconst (x := 1) hk dX8_keeps_157 (by decide) ?_
    refine xj_iadd hk dX8_keeps_158 ?_
    refine xj.eqi (x' := nI (a + 1)) (nI_add a 1) ?_
    refine xj_putfield (G2 := xw_up G 21 (pM v (md_th M) (md_no M) (md_pt M) (md_re M) (md_sd M) (wrB (139 * a) 139 (md_no M) (md_be M)) (wrB (8 * a) 8 (md_pt M) (md_pb M)) (nI (a + 1)) (md_od M) (md_ad M) (md_wy M) (md_so M) (md_rl M) (md_io M) (md_po M) (md_sp M) (md_rs M) (md_st M) (md_av M) (md_ip M) (md_tx M) (md_tm M) (md_ta M) (md_td M) (md_wo M) (md_sq M) (md_tk M) (md_bg M) (md_nu M) (md_wr M))) hk dX8_keeps_159 fl_X8_66 rfl rfl (xw_at xw_up_s rfl) (Nat.le_of_ble_eq_true rfl) (xw_wr2 rfl) ?_
    refine xj_return hk hz dX8_keeps_162 ?_
    exact ⟨rfl, _, _, ⟨fun q => absurd q (by omega), fun _ => ⟨rfl, rfl⟩⟩, by rw [show min a 11 + 1 = a + 1 by omega]⟩
  · have c6 : a = 12 := (nI_eq (a := a) (b := 12) (by omega) (by omega)).mp c6
    refine xj_sipush (x := 139) hk dX8_keeps_9 (by decide) ?_
    refine xj_istore_n (i := 1) (ls2 := [some (.ref (xw_ad v 21 0)), some (.int 139)]) hk dX8_keeps_12 rfl (by decide) rfl rfl ?_
    refine xj.eqG (G' := xw_up G 21 (pM v (md_th M) (md_no M) (md_pt M) (md_re M) (md_sd M) (shB 139 (md_be M) 139) (md_pb M) (md_ac M) (md_od M) (md_ad M) (md_wy M) (md_so M) (md_rl M) (md_io M) (md_po M) (md_sp M) (md_rs M) (md_st M) (md_av M) (md_ip M) (md_tx M) (md_tm M) (md_ta M) (md_td M) (md_wo M) (md_sq M) (md_tk M) (md_bg M) (md_nu M) (md_wr M))) (by simp only [shB_0]; exact (xw_up_same hM0).symm) ?_
    refine l_X8_keeps_13 (M := M) hk hz (show G 21 = pc_M v M from hM0)  ?_ (1668 + 1) 139 (by omega) (by omega) (by omega)
    refine xj.eqG (G' := xw_up G 21 (pM v (md_th M) (md_no M) (md_pt M) (md_re M) (md_sd M) (shB 139 (md_be M) 1668) (md_pb M) (md_ac M) (md_od M) (md_ad M) (md_wy M) (md_so M) (md_rl M) (md_io M) (md_po M) (md_sp M) (md_rs M) (md_st M) (md_av M) (md_ip M) (md_tx M) (md_tm M) (md_ta M) (md_td M) (md_wo M) (md_sq M) (md_tk M) (md_bg M) (md_nu M) (md_wr M))) (by first | rfl | (rw [xw_up_u]; rfl)) ?_
    refine xj_bipush (x := 8) hk dX8_keeps_42 (by decide) ?_
    refine xj_istore_n (i := 1) (ls2 := [some (.ref (xw_ad v 21 0)), some (.int 8)]) hk dX8_keeps_44 rfl (by decide) rfl rfl ?_
    refine xj.eqG (G' := xw_up (xw_up G 21 (pM v (md_th M) (md_no M) (md_pt M) (md_re M) (md_sd M) (shB 139 (md_be M) 1668) (md_pb M) (md_ac M) (md_od M) (md_ad M) (md_wy M) (md_so M) (md_rl M) (md_io M) (md_po M) (md_sp M) (md_rs M) (md_st M) (md_av M) (md_ip M) (md_tx M) (md_tm M) (md_ta M) (md_td M) (md_wo M) (md_sq M) (md_tk M) (md_bg M) (md_nu M) (md_wr M))) 21 (pM v (md_th M) (md_no M) (md_pt M) (md_re M) (md_sd M) (shB 139 (md_be M) 1668) (shB 8 (md_pb M) 8) (md_ac M) (md_od M) (md_ad M) (md_wy M) (md_so M) (md_rl M) (md_io M) (md_po M) (md_sp M) (md_rs M) (md_st M) (md_av M) (md_ip M) (md_tx M) (md_tm M) (md_ta M) (md_td M) (md_wo M) (md_sq M) (md_tk M) (md_bg M) (md_nu M) (md_wr M))) (by simp only [shB_0]; exact (xw_up_same xw_up_s).symm) ?_
    refine l_X8_keeps_45 (M := (md_th M, md_no M, md_pt M, md_re M, md_sd M, shB 139 (md_be M) 1668, md_pb M, md_ac M, md_od M, md_ad M, md_wy M, md_so M, md_rl M, md_io M, md_po M, md_sp M, md_rs M, md_st M, md_av M, md_ip M, md_tx M, md_tm M, md_ta M, md_td M, md_wo M, md_sq M, md_tk M, md_bg M, md_nu M, md_wr M)) hk hz (show (xw_up G 21 (pM v (md_th M) (md_no M) (md_pt M) (md_re M) (md_sd M) (shB 139 (md_be M) 1668) (md_pb M) (md_ac M) (md_od M) (md_ad M) (md_wy M) (md_so M) (md_rl M) (md_io M) (md_po M) (md_sp M) (md_rs M) (md_st M) (md_av M) (md_ip M) (md_tx M) (md_tm M) (md_ta M) (md_td M) (md_wo M) (md_sq M) (md_tk M) (md_bg M) (md_nu M) (md_wr M))) 21 = pM v (md_th M) (md_no M) (md_pt M) (md_re M) (md_sd M) (shB 139 (md_be M) 1668) (md_pb M) (md_ac M) (md_od M) (md_ad M) (md_wy M) (md_so M) (md_rl M) (md_io M) (md_po M) (md_sp M) (md_rs M) (md_st M) (md_av M) (md_ip M) (md_tx M) (md_tm M) (md_ta M) (md_td M) (md_wo M) (md_sq M) (md_tk M) (md_bg M) (md_nu M) (md_wr M) from xw_up_s)  ?_ (96 + 1) 8 (by omega) (by omega) (by omega)
    refine xj.eqG (G' := xw_up G 21 (pM v (md_th M) (md_no M) (md_pt M) (md_re M) (md_sd M) (shB 139 (md_be M) 1668) (shB 8 (md_pb M) 96) (md_ac M) (md_od M) (md_ad M) (md_wy M) (md_so M) (md_rl M) (md_io M) (md_po M) (md_sp M) (md_rs M) (md_st M) (md_av M) (md_ip M) (md_tx M) (md_tm M) (md_ta M) (md_td M) (md_wo M) (md_sq M) (md_tk M) (md_bg M) (md_nu M) (md_wr M))) (by first | rfl | (rw [xw_up_u]; rfl)) ?_
    refine xj_aload_n (i := 0) hk dX8_keeps_72 rfl rfl ?_
    refine xj_dup hk dX8_keeps_73 rfl ?_
    refine xj_getfield hk dX8_keeps_74 fl_X8_66 (xw_at xw_up_s rfl) rfl ?_
    refine xj.eqi (x' := nI a) hac ?_
    refine xj_iconst (x := 1) hk dX8_keeps_77 (by decide) ?_
    refine xj_isub hk dX8_keeps_78 ?_
    refine xj.eqi (x' := nI 11) (by rw [c6]; rfl) ?_
    refine xj_putfield (G2 := xw_up G 21 (pM v (md_th M) (md_no M) (md_pt M) (md_re M) (md_sd M) (shB 139 (md_be M) 1668) (shB 8 (md_pb M) 96) (nI 11) (md_od M) (md_ad M) (md_wy M) (md_so M) (md_rl M) (md_io M) (md_po M) (md_sp M) (md_rs M) (md_st M) (md_av M) (md_ip M) (md_tx M) (md_tm M) (md_ta M) (md_td M) (md_wo M) (md_sq M) (md_tk M) (md_bg M) (md_nu M) (md_wr M))) hk dX8_keeps_79 fl_X8_66 rfl rfl (xw_at xw_up_s rfl) (Nat.le_of_ble_eq_true rfl) (xw_wr2 rfl) ?_
    refine xj_iconst (x := 0) hk dX8_keeps_82 (by decide) ?_
    refine xj_istore_n (i := 1) (ls2 := [some (.ref (xw_ad v 21 0)), some (.int 0)]) hk dX8_keeps_83 rfl (by decide) rfl rfl ?_
    refine xj.eqG (G' := xw_up (xw_up G 21 (pM v (md_th M) (md_no M) (md_pt M) (md_re M) (md_sd M) (shB 139 (md_be M) 1668) (shB 8 (md_pb M) 96) (nI 11) (md_od M) (md_ad M) (md_wy M) (md_so M) (md_rl M) (md_io M) (md_po M) (md_sp M) (md_rs M) (md_st M) (md_av M) (md_ip M) (md_tx M) (md_tm M) (md_ta M) (md_td M) (md_wo M) (md_sq M) (md_tk M) (md_bg M) (md_nu M) (md_wr M))) 21 (pM v (md_th M) (md_no M) (md_pt M) (md_re M) (md_sd M) (wrB (139 * 11) 0 (md_no M) (shB 139 (md_be M) 1668)) (shB 8 (md_pb M) 96) (nI 11) (md_od M) (md_ad M) (md_wy M) (md_so M) (md_rl M) (md_io M) (md_po M) (md_sp M) (md_rs M) (md_st M) (md_av M) (md_ip M) (md_tx M) (md_tm M) (md_ta M) (md_td M) (md_wo M) (md_sq M) (md_tk M) (md_bg M) (md_nu M) (md_wr M))) (by simp only [wrB_0]; exact (xw_up_same xw_up_s).symm) ?_
    refine l_X8_keeps_84 (M := (md_th M, md_no M, md_pt M, md_re M, md_sd M, shB 139 (md_be M) 1668, shB 8 (md_pb M) 96, nI 11, md_od M, md_ad M, md_wy M, md_so M, md_rl M, md_io M, md_po M, md_sp M, md_rs M, md_st M, md_av M, md_ip M, md_tx M, md_tm M, md_ta M, md_td M, md_wo M, md_sq M, md_tk M, md_bg M, md_nu M, md_wr M)) hk hz (show (xw_up G 21 (pM v (md_th M) (md_no M) (md_pt M) (md_re M) (md_sd M) (shB 139 (md_be M) 1668) (shB 8 (md_pb M) 96) (nI 11) (md_od M) (md_ad M) (md_wy M) (md_so M) (md_rl M) (md_io M) (md_po M) (md_sp M) (md_rs M) (md_st M) (md_av M) (md_ip M) (md_tx M) (md_tm M) (md_ta M) (md_td M) (md_wo M) (md_sq M) (md_tk M) (md_bg M) (md_nu M) (md_wr M))) 21 = pM v (md_th M) (md_no M) (md_pt M) (md_re M) (md_sd M) (shB 139 (md_be M) 1668) (shB 8 (md_pb M) 96) (nI 11) (md_od M) (md_ad M) (md_wy M) (md_so M) (md_rl M) (md_io M) (md_po M) (md_sp M) (md_rs M) (md_st M) (md_av M) (md_ip M) (md_tx M) (md_tm M) (md_ta M) (md_td M) (md_wo M) (md_sq M) (md_tk M) (md_bg M) (md_nu M) (md_wr M) from xw_up_s) (show nI 11 = nI 11 from rfl) (by decide) ?_ (139 + 1) 0 (by omega) (by omega)
    refine xj.eqG (G' := xw_up G 21 (pM v (md_th M) (md_no M) (md_pt M) (md_re M) (md_sd M) (wrB (139 * 11) 139 (md_no M) (shB 139 (md_be M) 1668)) (shB 8 (md_pb M) 96) (nI 11) (md_od M) (md_ad M) (md_wy M) (md_so M) (md_rl M) (md_io M) (md_po M) (md_sp M) (md_rs M) (md_st M) (md_av M) (md_ip M) (md_tx M) (md_tm M) (md_ta M) (md_td M) (md_wo M) (md_sq M) (md_tk M) (md_bg M) (md_nu M) (md_wr M))) (by first | rfl | (rw [xw_up_u]; rfl)) ?_
    refine xj_iconst (x := 0) hk dX8_keeps_118 (by decide) ?_
    refine xj_istore_n (i := 1) (ls2 := [some (.ref (xw_ad v 21 0)), some (.int 0)]) hk dX8_keeps_119 rfl (by decide) rfl rfl ?_
    refine xj.eqG (G' := xw_up (xw_up G 21 (pM v (md_th M) (md_no M) (md_pt M) (md_re M) (md_sd M) (wrB (139 * 11) 139 (md_no M) (shB 139 (md_be M) 1668)) (shB 8 (md_pb M) 96) (nI 11) (md_od M) (md_ad M) (md_wy M) (md_so M) (md_rl M) (md_io M) (md_po M) (md_sp M) (md_rs M) (md_st M) (md_av M) (md_ip M) (md_tx M) (md_tm M) (md_ta M) (md_td M) (md_wo M) (md_sq M) (md_tk M) (md_bg M) (md_nu M) (md_wr M))) 21 (pM v (md_th M) (md_no M) (md_pt M) (md_re M) (md_sd M) (wrB (139 * 11) 139 (md_no M) (shB 139 (md_be M) 1668)) (wrB (8 * 11) 0 (md_pt M) (shB 8 (md_pb M) 96)) (nI 11) (md_od M) (md_ad M) (md_wy M) (md_so M) (md_rl M) (md_io M) (md_po M) (md_sp M) (md_rs M) (md_st M) (md_av M) (md_ip M) (md_tx M) (md_tm M) (md_ta M) (md_td M) (md_wo M) (md_sq M) (md_tk M) (md_bg M) (md_nu M) (md_wr M))) (by simp only [wrB_0]; exact (xw_up_same xw_up_s).symm) ?_
    refine l_X8_keeps_120 (M := (md_th M, md_no M, md_pt M, md_re M, md_sd M, wrB (139 * 11) 139 (md_no M) (shB 139 (md_be M) 1668), shB 8 (md_pb M) 96, nI 11, md_od M, md_ad M, md_wy M, md_so M, md_rl M, md_io M, md_po M, md_sp M, md_rs M, md_st M, md_av M, md_ip M, md_tx M, md_tm M, md_ta M, md_td M, md_wo M, md_sq M, md_tk M, md_bg M, md_nu M, md_wr M)) hk hz (show (xw_up G 21 (pM v (md_th M) (md_no M) (md_pt M) (md_re M) (md_sd M) (wrB (139 * 11) 139 (md_no M) (shB 139 (md_be M) 1668)) (shB 8 (md_pb M) 96) (nI 11) (md_od M) (md_ad M) (md_wy M) (md_so M) (md_rl M) (md_io M) (md_po M) (md_sp M) (md_rs M) (md_st M) (md_av M) (md_ip M) (md_tx M) (md_tm M) (md_ta M) (md_td M) (md_wo M) (md_sq M) (md_tk M) (md_bg M) (md_nu M) (md_wr M))) 21 = pM v (md_th M) (md_no M) (md_pt M) (md_re M) (md_sd M) (wrB (139 * 11) 139 (md_no M) (shB 139 (md_be M) 1668)) (shB 8 (md_pb M) 96) (nI 11) (md_od M) (md_ad M) (md_wy M) (md_so M) (md_rl M) (md_io M) (md_po M) (md_sp M) (md_rs M) (md_st M) (md_av M) (md_ip M) (md_tx M) (md_tm M) (md_ta M) (md_td M) (md_wo M) (md_sq M) (md_tk M) (md_bg M) (md_nu M) (md_wr M) from xw_up_s) (show nI 11 = nI 11 from rfl) (by decide) ?_ (8 + 1) 0 (by omega) (by omega)
    refine xj.eqG (G' := xw_up G 21 (pM v (md_th M) (md_no M) (md_pt M) (md_re M) (md_sd M) (wrB (139 * 11) 139 (md_no M) (shB 139 (md_be M) 1668)) (wrB (8 * 11) 8 (md_pt M) (shB 8 (md_pb M) 96)) (nI 11) (md_od M) (md_ad M) (md_wy M) (md_so M) (md_rl M) (md_io M) (md_po M) (md_sp M) (md_rs M) (md_st M) (md_av M) (md_ip M) (md_tx M) (md_tm M) (md_ta M) (md_td M) (md_wo M) (md_sq M) (md_tk M) (md_bg M) (md_nu M) (md_wr M))) (by first | rfl | (rw [xw_up_u]; rfl)) ?_
    refine xj_aload_n (i := 0) hk dX8_keeps_152 rfl rfl ?_
    refine xj_dup hk dX8_keeps_153 rfl ?_
    refine xj_getfield hk dX8_keeps_154 fl_X8_66 (xw_at xw_up_s rfl) rfl ?_
    refine xj_iconst (x := 1) hk dX8_keeps_157 (by decide) ?_
    refine xj_iadd hk dX8_keeps_158 ?_
    refine xj.eqi (x' := nI (11 + 1)) (nI_add 11 1) ?_
    refine xj_putfield (G2 := xw_up G 21 (pM v (md_th M) (md_no M) (md_pt M) (md_re M) (md_sd M) (wrB (139 * 11) 139 (md_no M) (shB 139 (md_be M) 1668)) (wrB (8 * 11) 8 (md_pt M) (shB 8 (md_pb M) 96)) (nI (11 + 1)) (md_od M) (md_ad M) (md_wy M) (md_so M) (md_rl M) (md_io M) (md_po M) (md_sp M) (md_rs M) (md_st M) (md_av M) (md_ip M) (md_tx M) (md_tm M) (md_ta M) (md_td M) (md_wo M) (md_sq M) (md_tk M) (md_bg M) (md_nu M) (md_wr M))) hk dX8_keeps_159 fl_X8_66 rfl rfl (xw_at xw_up_s rfl) (Nat.le_of_ble_eq_true rfl) (xw_wr2 rfl) ?_
    refine xj_return hk hz dX8_keeps_162 ?_
    exact ⟨rfl, _, _, ⟨fun _ => ⟨rfl, rfl⟩, fun q => absurd q (by omega)⟩, by rw [show min a 11 + 1 = 12 by omega]⟩


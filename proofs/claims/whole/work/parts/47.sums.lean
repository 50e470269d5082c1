set_option maxHeartbeats 1000000 in
set_option maxRecDepth 10000 in
theorem l_X8_soldAll_4 {v : xw_V} {κ : xk_K} {post : Option Value → xw_G → Prop} {z : Nat × Nat × Nat} {G : xw_G} {M : md_T} {te ho ow hs ra lo st av so : Nat → Int32} {ln : Int32} {n : Nat} (hk : xk_Ok v κ yX8_soldAll cX8_soldAll 3 (some .int) 1 20) (hz : xk_zf κ = z) (hM : G 21 = pM v (md_th M) (nR te ho ow hs ra lo (nI n) st av so ln) (md_pt M) (md_re M) (md_sd M) (md_be M) (md_pb M) (md_ac M) (md_od M) (md_ad M) (md_wy M) (md_so M) (md_rl M) (md_io M) (md_po M) (md_sp M) (md_rs M) (md_st M) (md_av M) (md_ip M) (md_tx M) (md_tm M) (md_ta M) (md_td M) (md_wo M) (md_sq M) (md_tk M) (md_bg M) (md_nu M) (md_wr M)) (hn30 : n ≤ 30) (kx : xj v κ post z G 27 [some (.ref (xw_ad v 21 0)), some (.int (sm (md_so M) n)), some (.int (nI n))] []) : ∀ (m : Nat) (k : Nat), n - k < m → k ≤ n → xj v κ post z G 4 [some (.ref (xw_ad v 21 0)), some (.int (sm (md_so M) k)), some (.int (nI k))] [] := by
  intro m
  induction m with
  | zero => intro k h; exact absurd h (Nat.not_lt_zero _)
  | succ m ih =>
    intro k hm hi
    refine xj_iload_n (i := 2) hk dX8_soldAll_4 rfl rfl ?_
    refine xj_aload_n (i := 0) hk dX8_soldAll_5 rfl rfl ?_
    refine xj_callV hk hz (fr1 := 0) (lo1 := 0) (r1 := some (.int (nI n))) (As := []) (st := [.int (nI k)]) (st2 := [.int (nI n), .int (nI k)]) (G1 := G) ml_X8_73 (c_X8_many (M := M) (show G 21 = pM v (md_th M) (nR te ho ow hs ra lo (nI n) st av so ln) (md_pt M) (md_re M) (md_sd M) (md_be M) (md_pb M) (md_ac M) (md_od M) (md_ad M) (md_wy M) (md_so M) (md_rl M) (md_io M) (md_po M) (md_sp M) (md_rs M) (md_st M) (md_av M) (md_ip M) (md_tx M) (md_tm M) (md_ta M) (md_td M) (md_wo M) (md_sq M) (md_tk M) (md_bg M) (md_nu M) (md_wr M) from hM)) (xw_at hM rfl) rfl dX8_soldAll_6 ⟨Nat.le_of_ble_eq_true rfl, Nat.le_of_ble_eq_true rfl⟩ rfl (Nat.le_of_ble_eq_true rfl) rfl rfl ?_
    refine xj_icmp_ge (tgt := 27) hk dX8_soldAll_9 (by decide) (fun c9 => ?_) (fun c9 => ?_)
    · have c9 : n ≤ k := (nI_leI (a := n) (b := k) (by omega) (by omega)).mp c9
      have e9 : k = n := by omega
      subst e9
      exact kx
    · have c9 : ¬ n ≤ k := fun q => c9 ((nI_leI (a := n) (b := k) (by omega) (by omega)).mpr q)
      refine xj_iload_n (i := 1) hk dX8_soldAll_12 rfl rfl ?_
      refine xj_aload_n (i := 0) hk dX8_soldAll_13 rfl rfl ?_
      refine xj_getfield hk dX8_soldAll_14 fl_X8_42 (xw_at hM rfl) rfl ?_
      refine xj_iload_n (i := 2) hk dX8_soldAll_17 rfl rfl ?_
      refine xj_iaload (k := k) hk dX8_soldAll_18 (xw_at hM rfl) (xi_n (by omega) (by decide)) ?_
      refine xj_iadd hk dX8_soldAll_19 ?_
      refine xj_istore_n (i := 1) (ls2 := [some (.ref (xw_ad v 21 0)), some (.int ((sm (md_so M) k) + (md_so M k))), some (.int (nI k))]) hk dX8_soldAll_20 rfl (by decide) rfl rfl ?_
      refine xj_iinc (i := 2) (x2 := nI (k + 1)) (ls2 := [some (.ref (xw_ad v 21 0)), some (.int ((sm (md_so M) k) + (md_so M k))), some (.int (nI (k + 1)))]) hk dX8_soldAll_21 rfl (nI_1 k) (by decide) rfl rfl ?_
      refine xj_goto (tgt := 4) hk dX8_soldAll_24 (by decide) ?_
      refine xj.to (ls' := [some (.ref (xw_ad v 21 0)), some (.int (sm (md_so M) ((k + 1)))), some (.int (nI ((k + 1))))]) (by simp [sm]) (ih (k + 1) (by omega) (by omega))

set_option maxHeartbeats 1000000 in
set_option maxRecDepth 10000 in
theorem c_X8_soldAll {v : xw_V} {G : xw_G} {M : md_T} {te ho ow hs ra lo st av so : Nat → Int32} {ln : Int32} {n : Nat} (hM : G 21 = pM v (md_th M) (nR te ho ow hs ra lo (nI n) st av so ln) (md_pt M) (md_re M) (md_sd M) (md_be M) (md_pb M) (md_ac M) (md_od M) (md_ad M) (md_wy M) (md_so M) (md_rl M) (md_io M) (md_po M) (md_sp M) (md_rs M) (md_st M) (md_av M) (md_ip M) (md_tx M) (md_tm M) (md_ta M) (md_td M) (md_wo M) (md_sq M) (md_tk M) (md_bg M) (md_nu M) (md_wr M)) (hn30 : n ≤ 30) : xk_Con v yX8_soldAll cX8_soldAll 3 (some .int) 1 20 [.ref (xw_ad v 21 0)] G (xk_ret (some (.int (sm (md_so M) n))) G) := by
  refine xk_of (ls0 := [some (.ref (xw_ad v 21 0)), none, none]) (by decide) rfl (Nat.le_of_ble_eq_true rfl) ?_
  intro κ z hk hz
  refine xj_iconst (x := 0) hk dX8_soldAll_0 (by decide) ?_
  refine xj_istore_n (i := 1) (ls2 := [some (.ref (xw_ad v 21 0)), some (.int 0), none]) hk dX8_soldAll_1 rfl (by decide) rfl rfl ?_
  refine xj_iconst (x := 0) hk dX8_soldAll_2 (by decide) ?_
  refine xj_istore_n (i := 2) (ls2 := [some (.ref (xw_ad v 21 0)), some (.int 0), some (.int 0)]) hk dX8_soldAll_3 rfl (by decide) rfl rfl ?_
  refine l_X8_soldAll_4 hk hz hM hn30 ?_ (n + 1) 0 (by omega) (by omega)
  refine xj_iload_n (i := 1) hk dX8_soldAll_27 rfl rfl ?_
  refine xj_ireturn hk hz dX8_soldAll_28 ?_
  exact ⟨rfl, rfl⟩

set_option maxHeartbeats 1000000 in
set_option maxRecDepth 10000 in
theorem l_X8_admittedAll_4 {v : xw_V} {κ : xk_K} {post : Option Value → xw_G → Prop} {z : Nat × Nat × Nat} {G : xw_G} {M : md_T} {te ho ow hs ra lo st av so : Nat → Int32} {ln : Int32} {n : Nat} (hk : xk_Ok v κ yX8_admittedAll cX8_admittedAll 3 (some .int) 1 20) (hz : xk_zf κ = z) (hM : G 21 = pM v (md_th M) (nR te ho ow hs ra lo (nI n) st av so ln) (md_pt M) (md_re M) (md_sd M) (md_be M) (md_pb M) (md_ac M) (md_od M) (md_ad M) (md_wy M) (md_so M) (md_rl M) (md_io M) (md_po M) (md_sp M) (md_rs M) (md_st M) (md_av M) (md_ip M) (md_tx M) (md_tm M) (md_ta M) (md_td M) (md_wo M) (md_sq M) (md_tk M) (md_bg M) (md_nu M) (md_wr M)) (hn30 : n ≤ 30) (kx : xj v κ post z G 27 [some (.ref (xw_ad v 21 0)), some (.int (sm (md_ad M) n)), some (.int (nI n))] []) : ∀ (m : Nat) (k : Nat), n - k < m → k ≤ n → xj v κ post z G 4 [some (.ref (xw_ad v 21 0)), some (.int (sm (md_ad M) k)), some (.int (nI k))] [] := by
  intro m
  induction m with
  | zero => intro k h; exact absurd h (Nat.not_lt_zero _)
  | succ m ih =>
    intro k hm hi
    refine xj_iload_n (i := 2) hk dX8_admittedAll_4 rfl rfl ?_
    refine xj_aload_n (i := 0) hk dX8_admittedAll_5 rfl rfl ?_
    refine xj_callV hk hz (fr1 := 0) (lo1 := 0) (r1 := some (.int (nI n))) (As := []) (st := [.int (nI k)]) (st2 := [.int (nI n), .int (nI k)]) (G1 := G) ml_X8_73 (c_X8_many (M := M) (show G 21 = pM v (md_th M) (nR te ho ow hs ra lo (nI n) st av so ln) (md_pt M) (md_re M) (md_sd M) (md_be M) (md_pb M) (md_ac M) (md_od M) (md_ad M) (md_wy M) (md_so M) (md_rl M) (md_io M) (md_po M) (md_sp M) (md_rs M) (md_st M) (md_av M) (md_ip M) (md_tx M) (md_tm M) (md_ta M) (md_td M) (md_wo M) (md_sq M) (md_tk M) (md_bg M) (md_nu M) (md_wr M) from hM)) (xw_at hM rfl) rfl dX8_admittedAll_6 ⟨Nat.le_of_ble_eq_true rfl, Nat.le_of_ble_eq_true rfl⟩ rfl (Nat.le_of_ble_eq_true rfl) rfl rfl ?_
    refine xj_icmp_ge (tgt := 27) hk dX8_admittedAll_9 (by decide) (fun c9 => ?_) (fun c9 => ?_)
    · have c9 : n ≤ k := (nI_leI (a := n) (b := k) (by omega) (by omega)).mp c9
      have e9 : k = n := by omega
      subst e9
      exact kx
    · have c9 : ¬ n ≤ k := fun q => c9 ((nI_leI (a := n) (b := k) (by omega) (by omega)).mpr q)
      refine xj_iload_n (i := 1) hk dX8_admittedAll_12 rfl rfl ?_
      refine xj_aload_n (i := 0) hk dX8_admittedAll_13 rfl rfl ?_
      refine xj_getfield hk dX8_admittedAll_14 fl_X8_36 (xw_at hM rfl) rfl ?_
      refine xj_iload_n (i := 2) hk dX8_admittedAll_17 rfl rfl ?_
      refine xj_iaload (k := k) hk dX8_admittedAll_18 (xw_at hM rfl) (xi_n (by omega) (by decide)) ?_
      refine xj_iadd hk dX8_admittedAll_19 ?_
      refine xj_istore_n (i := 1) (ls2 := [some (.ref (xw_ad v 21 0)), some (.int ((sm (md_ad M) k) + (md_ad M k))), some (.int (nI k))]) hk dX8_admittedAll_20 rfl (by decide) rfl rfl ?_
      refine xj_iinc (i := 2) (x2 := nI (k + 1)) (ls2 := [some (.ref (xw_ad v 21 0)), some (.int ((sm (md_ad M) k) + (md_ad M k))), some (.int (nI (k + 1)))]) hk dX8_admittedAll_21 rfl (nI_1 k) (by decide) rfl rfl ?_
      refine xj_goto (tgt := 4) hk dX8_admittedAll_24 (by decide) ?_
      refine xj.to (ls' := [some (.ref (xw_ad v 21 0)), some (.int (sm (md_ad M) ((k + 1)))), some (.int (nI ((k + 1))))]) (by simp [sm]) (ih (k + 1) (by omega) (by omega))

set_option maxHeartbeats 1000000 in
set_option maxRecDepth 10000 in
theorem c_X8_admittedAll {v : xw_V} {G : xw_G} {M : md_T} {te ho ow hs ra lo st av so : Nat → Int32} {ln : Int32} {n : Nat} (hM : G 21 = pM v (md_th M) (nR te ho ow hs ra lo (nI n) st av so ln) (md_pt M) (md_re M) (md_sd M) (md_be M) (md_pb M) (md_ac M) (md_od M) (md_ad M) (md_wy M) (md_so M) (md_rl M) (md_io M) (md_po M) (md_sp M) (md_rs M) (md_st M) (md_av M) (md_ip M) (md_tx M) (md_tm M) (md_ta M) (md_td M) (md_wo M) (md_sq M) (md_tk M) (md_bg M) (md_nu M) (md_wr M)) (hn30 : n ≤ 30) : xk_Con v yX8_admittedAll cX8_admittedAll 3 (some .int) 1 20 [.ref (xw_ad v 21 0)] G (xk_ret (some (.int (sm (md_ad M) n))) G) := by
  refine xk_of (ls0 := [some (.ref (xw_ad v 21 0)), none, none]) (by decide) rfl (Nat.le_of_ble_eq_true rfl) ?_
  intro κ z hk hz
  refine xj_iconst (x := 0) hk dX8_admittedAll_0 (by decide) ?_
  refine xj_istore_n (i := 1) (ls2 := [some (.ref (xw_ad v 21 0)), some (.int 0), none]) hk dX8_admittedAll_1 rfl (by decide) rfl rfl ?_
  refine xj_iconst (x := 0) hk dX8_admittedAll_2 (by decide) ?_
  refine xj_istore_n (i := 2) (ls2 := [some (.ref (xw_ad v 21 0)), some (.int 0), some (.int 0)]) hk dX8_admittedAll_3 rfl (by decide) rfl rfl ?_
  refine l_X8_admittedAll_4 hk hz hM hn30 ?_ (n + 1) 0 (by omega) (by omega)
  refine xj_iload_n (i := 1) hk dX8_admittedAll_27 rfl rfl ?_
  refine xj_ireturn hk hz dX8_admittedAll_28 ?_
  exact ⟨rfl, rfl⟩

set_option maxHeartbeats 1000000 in
set_option maxRecDepth 10000 in
theorem l_X8_soldOf_4 {v : xw_V} {κ : xk_K} {post : Option Value → xw_G → Prop} {z : Nat × Nat × Nat} {G : xw_G} {M : md_T} {te ho ow hs ra lo st av so : Nat → Int32} {ln : Int32} {n : Nat} (hk : xk_Ok v κ yX8_soldOf cX8_soldOf 4 (some .int) 1 21) (hz : xk_zf κ = z) (hM : G 21 = pM v (md_th M) (nR te ho ow hs ra lo (nI n) st av so ln) (md_pt M) (md_re M) (md_sd M) (md_be M) (md_pb M) (md_ac M) (md_od M) (md_ad M) (md_wy M) (md_so M) (md_rl M) (md_io M) (md_po M) (md_sp M) (md_rs M) (md_st M) (md_av M) (md_ip M) (md_tx M) (md_tm M) (md_ta M) (md_td M) (md_wo M) (md_sq M) (md_tk M) (md_bg M) (md_nu M) (md_wr M)) (hn30 : n ≤ 30) (x : Int32) (kx : xj v κ post z G 36 [some (.ref (xw_ad v 21 0)), some (.int x), some (.int (sm (sel hs x (md_so M)) n)), some (.int (nI n))] []) : ∀ (m : Nat) (k : Nat), n - k < m → k ≤ n → xj v κ post z G 4 [some (.ref (xw_ad v 21 0)), some (.int x), some (.int (sm (sel hs x (md_so M)) k)), some (.int (nI k))] [] := by
  intro m
  induction m with
  | zero => intro k h; exact absurd h (Nat.not_lt_zero _)
  | succ m ih =>
    intro k hm hi
    refine xj_iload_n (i := 3) hk dX8_soldOf_4 rfl rfl ?_
    refine xj_aload_n (i := 0) hk dX8_soldOf_5 rfl rfl ?_
    refine xj_callV hk hz (fr1 := 0) (lo1 := 0) (r1 := some (.int (nI n))) (As := []) (st := [.int (nI k)]) (st2 := [.int (nI n), .int (nI k)]) (G1 := G) ml_X8_73 (c_X8_many (M := M) (show G 21 = pM v (md_th M) (nR te ho ow hs ra lo (nI n) st av so ln) (md_pt M) (md_re M) (md_sd M) (md_be M) (md_pb M) (md_ac M) (md_od M) (md_ad M) (md_wy M) (md_so M) (md_rl M) (md_io M) (md_po M) (md_sp M) (md_rs M) (md_st M) (md_av M) (md_ip M) (md_tx M) (md_tm M) (md_ta M) (md_td M) (md_wo M) (md_sq M) (md_tk M) (md_bg M) (md_nu M) (md_wr M) from hM)) (xw_at hM rfl) rfl dX8_soldOf_6 ⟨Nat.le_of_ble_eq_true rfl, Nat.le_of_ble_eq_true rfl⟩ rfl (Nat.le_of_ble_eq_true rfl) rfl rfl ?_
    refine xj_icmp_ge (tgt := 36) hk dX8_soldOf_9 (by decide) (fun c9 => ?_) (fun c9 => ?_)
    · have c9 : n ≤ k := (nI_leI (a := n) (b := k) (by omega) (by omega)).mp c9
      have e9 : k = n := by omega
      subst e9
      exact kx
    · have c9 : ¬ n ≤ k := fun q => c9 ((nI_leI (a := n) (b := k) (by omega) (by omega)).mpr q)
      refine xj_aload_n (i := 0) hk dX8_soldOf_12 rfl rfl ?_
      refine xj_iload_n (i := 3) hk dX8_soldOf_13 rfl rfl ?_
      refine xj_callV hk hz (fr1 := 0) (lo1 := 0) (r1 := some (.int (hs k))) (As := [.int (nI k)]) (st := []) (st2 := [.int (hs k)]) (G1 := G) ml_X8_81 (c_X8_houseOf (b := k) (M := M) (show G 21 = pM v (md_th M) (nR te ho ow hs ra lo (nI n) st av so ln) (md_pt M) (md_re M) (md_sd M) (md_be M) (md_pb M) (md_ac M) (md_od M) (md_ad M) (md_wy M) (md_so M) (md_rl M) (md_io M) (md_po M) (md_sp M) (md_rs M) (md_st M) (md_av M) (md_ip M) (md_tx M) (md_tm M) (md_ta M) (md_td M) (md_wo M) (md_sq M) (md_tk M) (md_bg M) (md_nu M) (md_wr M) from hM) (by omega)) (xw_at hM rfl) rfl dX8_soldOf_14 ⟨Nat.le_of_ble_eq_true rfl, Nat.le_of_ble_eq_true rfl⟩ rfl (Nat.le_of_ble_eq_true rfl) rfl rfl ?_
      refine xj_iload_n (i := 1) hk dX8_soldOf_17 rfl rfl ?_
      refine xj_icmp_ne (tgt := 30) hk dX8_soldOf_18 (by decide) (fun c18 => ?_) (fun c18 => ?_)
      · refine xj_iinc (i := 3) (x2 := nI (k + 1)) (ls2 := [some (.ref (xw_ad v 21 0)), some (.int x), some (.int (sm (sel hs x (md_so M)) k)), some (.int (nI (k + 1)))]) hk dX8_soldOf_30 rfl (nI_1 k) (by decide) rfl rfl ?_
        refine xj_goto (tgt := 4) hk dX8_soldOf_33 (by decide) ?_
        refine xj.to (ls' := [some (.ref (xw_ad v 21 0)), some (.int x), some (.int (sm (sel hs x (md_so M)) ((k + 1)))), some (.int (nI ((k + 1))))]) (by simp [sm, sel, *]) (ih (k + 1) (by omega) (by omega))
      · refine xj_iload_n (i := 2) hk dX8_soldOf_21 rfl rfl ?_
        refine xj_aload_n (i := 0) hk dX8_soldOf_22 rfl rfl ?_
        refine xj_getfield hk dX8_soldOf_23 fl_X8_42 (xw_at hM rfl) rfl ?_
        refine xj_iload_n (i := 3) hk dX8_soldOf_26 rfl rfl ?_
        refine xj_iaload (k := k) hk dX8_soldOf_27 (xw_at hM rfl) (xi_n (by omega) (by decide)) ?_
        refine xj_iadd hk dX8_soldOf_28 ?_
        refine xj_istore_n (i := 2) (ls2 := [some (.ref (xw_ad v 21 0)), some (.int x), some (.int ((sm (sel hs x (md_so M)) k) + (md_so M k))), some (.int (nI k))]) hk dX8_soldOf_29 rfl (by decide) rfl rfl ?_
        refine xj_iinc (i := 3) (x2 := nI (k + 1)) (ls2 := [some (.ref (xw_ad v 21 0)), some (.int x), some (.int ((sm (sel hs x (md_so M)) k) + (md_so M k))), some (.int (nI (k + 1)))]) hk dX8_soldOf_30 rfl (nI_1 k) (by decide) rfl rfl ?_
        refine xj_goto (tgt := 4) hk dX8_soldOf_33 (by decide) ?_
        refine xj.to (ls' := [some (.ref (xw_ad v 21 0)), some (.int x), some (.int (sm (sel hs x (md_so M)) ((k + 1)))), some (.int (nI ((k + 1))))]) (by simp [sm, sel, *]) (ih (k + 1) (by omega) (by omega))

set_option maxHeartbeats 1000000 in
set_option maxRecDepth 10000 in
theorem c_X8_soldOf {v : xw_V} {G : xw_G} {M : md_T} {te ho ow hs ra lo st av so : Nat → Int32} {ln : Int32} {n : Nat} (hM : G 21 = pM v (md_th M) (nR te ho ow hs ra lo (nI n) st av so ln) (md_pt M) (md_re M) (md_sd M) (md_be M) (md_pb M) (md_ac M) (md_od M) (md_ad M) (md_wy M) (md_so M) (md_rl M) (md_io M) (md_po M) (md_sp M) (md_rs M) (md_st M) (md_av M) (md_ip M) (md_tx M) (md_tm M) (md_ta M) (md_td M) (md_wo M) (md_sq M) (md_tk M) (md_bg M) (md_nu M) (md_wr M)) (hn30 : n ≤ 30) (x : Int32) : xk_Con v yX8_soldOf cX8_soldOf 4 (some .int) 1 21 [.ref (xw_ad v 21 0), .int x] G (xk_ret (some (.int (sm (sel hs x (md_so M)) n))) G) := by
  refine xk_of (ls0 := [some (.ref (xw_ad v 21 0)), some (.int x), none, none]) (by decide) rfl (Nat.le_of_ble_eq_true rfl) ?_
  intro κ z hk hz
  refine xj_iconst (x := 0) hk dX8_soldOf_0 (by decide) ?_
  refine xj_istore_n (i := 2) (ls2 := [some (.ref (xw_ad v 21 0)), some (.int x), some (.int 0), none]) hk dX8_soldOf_1 rfl (by decide) rfl rfl ?_
  refine xj_iconst (x := 0) hk dX8_soldOf_2 (by decide) ?_
  refine xj_istore_n (i := 3) (ls2 := [some (.ref (xw_ad v 21 0)), some (.int x), some (.int 0), some (.int 0)]) hk dX8_soldOf_3 rfl (by decide) rfl rfl ?_
  refine l_X8_soldOf_4 hk hz hM hn30 x ?_ (n + 1) 0 (by omega) (by omega)
  refine xj_iload_n (i := 2) hk dX8_soldOf_36 rfl rfl ?_
  refine xj_ireturn hk hz dX8_soldOf_37 ?_
  exact ⟨rfl, rfl⟩

set_option maxHeartbeats 1000000 in
set_option maxRecDepth 10000 in
theorem c_X8_priceOf {v : xw_V} {G : xw_G} {M : md_T} {te ho ow hs ra lo st av so : Nat → Int32} {bi ln : Int32} (hM : G 21 = pM v (md_th M) (nR te ho ow hs ra lo bi st av so ln) (md_pt M) (md_re M) (md_sd M) (md_be M) (md_pb M) (md_ac M) (md_od M) (md_ad M) (md_wy M) (md_so M) (md_rl M) (md_io M) (md_po M) (md_sp M) (md_rs M) (md_st M) (md_av M) (md_ip M) (md_tx M) (md_tm M) (md_ta M) (md_td M) (md_wo M) (md_sq M) (md_tk M) (md_bg M) (md_nu M) (md_wr M)) (x : Int32) : xk_Con v yX8_priceOf cX8_priceOf 2 (some .int) 0 0 [.ref (xw_ad v 21 0), .int x] G (xk_ret (some (.int (pric te x))) G) := by
  refine xk_of (ls0 := [some (.ref (xw_ad v 21 0)), some (.int x)]) (by decide) rfl (Nat.le_of_ble_eq_true rfl) ?_
  intro κ z hk hz
  refine xj_ldc (x := 1000000) hk dX8_priceOf_0 kl_X8_166 ?_
  refine xj_iload_n (i := 1) hk dX8_priceOf_2 rfl rfl ?_
  refine xj_aload_n (i := 0) hk dX8_priceOf_3 rfl rfl ?_
  refine xj_getfield hk dX8_priceOf_4 fl_X8_13 (xw_at hM rfl) rfl ?_
  refine xj_iconst (x := 5) hk dX8_priceOf_7 (by decide) ?_
  refine xj_iaload (k := 5) hk dX8_priceOf_8 (xw_at hM rfl) (xi_d 5 139 (by decide)) ?_
  refine xj.eqi (x' := te 5) (rR_te (k := 5) (by omega)) ?_
  refine xj_imul hk dX8_priceOf_9 ?_
  refine xj_bipush (x := 100) hk dX8_priceOf_10 (by decide) ?_
  refine xj_imul hk dX8_priceOf_12 ?_
  refine xj_sipush (x := 360) hk dX8_priceOf_13 (by decide) ?_
  refine xj_idiv hk dX8_priceOf_16 (by decide) ?_
  refine xj_isub hk dX8_priceOf_17 ?_
  refine xj_ireturn hk hz dX8_priceOf_18 ?_
  exact ⟨rfl, rfl⟩

def rtM (te ra : Nat → Int32) (st av : Int32) (j : Nat) : Int32 := if te 6 = 0 then (if st = -2 then te 3 else st) else (if ra j = -1 then av else ra j)
def payM (te ra so : Nat → Int32) (st av : Int32) (j : Nat) : Int64 := (so j).toInt64 * (pric te (rtM te ra st av j)).toInt64
set_option maxHeartbeats 1000000 in
set_option maxRecDepth 10000 in
theorem c_X8_paysOf {v : xw_V} {G : xw_G} {M : md_T} {te ho ow hs ra lo st av so : Nat → Int32} {bi ln : Int32} {b : Nat} (hM : G 21 = pM v (md_th M) (nR te ho ow hs ra lo bi st av so ln) (md_pt M) (md_re M) (md_sd M) (md_be M) (md_pb M) (md_ac M) (md_od M) (md_ad M) (md_wy M) (md_so M) (md_rl M) (md_io M) (md_po M) (md_sp M) (md_rs M) (md_st M) (md_av M) (md_ip M) (md_tx M) (md_tm M) (md_ta M) (md_td M) (md_wo M) (md_sq M) (md_tk M) (md_bg M) (md_nu M) (md_wr M)) (hb : b < 30) : xk_Con v yX8_paysOf cX8_paysOf 3 (some .long) 2 42 [.ref (xw_ad v 21 0), .int (nI b)] G (xk_ret (some (.long (payM te ra (md_so M) (md_st M) (md_av M) b))) G) := by
  refine xk_of (ls0 := [some (.ref (xw_ad v 21 0)), some (.int (nI b)), none]) (by decide) rfl (Nat.le_of_ble_eq_true rfl) ?_
  intro κ z hk hz
  refine xj_aload_n (i := 0) hk dX8_paysOf_0 rfl rfl ?_
  refine xj_getfield hk dX8_paysOf_1 fl_X8_13 (xw_at hM rfl) rfl ?_
  refine xj_bipush (x := 6) hk dX8_paysOf_4 (by decide) ?_
  refine xj_iaload (k := 6) hk dX8_paysOf_6 (xw_at hM rfl) (xi_d 6 139 (by decide)) ?_
  refine xj.eqi (x' := te 6) (rR_te (k := 6) (by omega)) ?_
  refine xj_if_ne (tgt := 35) hk dX8_paysOf_7 (by decide) (fun c7 => ?_) (fun c7 => ?_)
  · refine xj_aload_n (i := 0) hk dX8_paysOf_35 rfl rfl ?_
    refine xj_iload_n (i := 1) hk dX8_paysOf_36 rfl rfl ?_
    refine xj_callV hk hz (fr1 := 1) (lo1 := 21) (r1 := some (.int (xb (decide (ra b = -1))))) (As := [.int (nI b)]) (st := []) (st2 := [.int (xb (decide (ra b = -1)))]) (G1 := G) ml_X8_115 (c_X8_isPlain (b := b) (M := M) (show G 21 = pM v (md_th M) (nR te ho ow hs ra lo bi st av so ln) (md_pt M) (md_re M) (md_sd M) (md_be M) (md_pb M) (md_ac M) (md_od M) (md_ad M) (md_wy M) (md_so M) (md_rl M) (md_io M) (md_po M) (md_sp M) (md_rs M) (md_st M) (md_av M) (md_ip M) (md_tx M) (md_tm M) (md_ta M) (md_td M) (md_wo M) (md_sq M) (md_tk M) (md_bg M) (md_nu M) (md_wr M) from hM) (by omega)) (xw_at hM rfl) rfl dX8_paysOf_37 ⟨Nat.le_of_ble_eq_true rfl, Nat.le_of_ble_eq_true rfl⟩ rfl (Nat.le_of_ble_eq_true rfl) rfl rfl ?_
    refine xj_ifb_eq (tgt := 50) hk dX8_paysOf_40 (by decide) (fun c40 => ?_) (fun c40 => ?_)
    · refine xj_aload_n (i := 0) hk dX8_paysOf_50 rfl rfl ?_
      refine xj_iload_n (i := 1) hk dX8_paysOf_51 rfl rfl ?_
      refine xj_callV hk hz (fr1 := 0) (lo1 := 0) (r1 := some (.int (ra b))) (As := [.int (nI b)]) (st := []) (st2 := [.int (ra b)]) (G1 := G) ml_X8_77 (c_X8_rateOf (b := b) (M := M) (show G 21 = pM v (md_th M) (nR te ho ow hs ra lo bi st av so ln) (md_pt M) (md_re M) (md_sd M) (md_be M) (md_pb M) (md_ac M) (md_od M) (md_ad M) (md_wy M) (md_so M) (md_rl M) (md_io M) (md_po M) (md_sp M) (md_rs M) (md_st M) (md_av M) (md_ip M) (md_tx M) (md_tm M) (md_ta M) (md_td M) (md_wo M) (md_sq M) (md_tk M) (md_bg M) (md_nu M) (md_wr M) from hM) (by omega)) (xw_at hM rfl) rfl dX8_paysOf_52 ⟨Nat.le_of_ble_eq_true rfl, Nat.le_of_ble_eq_true rfl⟩ rfl (Nat.le_of_ble_eq_true rfl) rfl rfl ?_
      refine xj.eqi (x' := rtM te ra (md_st M) (md_av M) b) (by simp only [rtM]; rw [if_neg c7, if_neg (by simpa using c40)]) ?_
      refine xj_istore_n (i := 2) (ls2 := [some (.ref (xw_ad v 21 0)), some (.int (nI b)), some (.int (rtM te ra (md_st M) (md_av M) b))]) hk dX8_paysOf_55 rfl (by decide) rfl rfl ?_
      refine xj_aload_n (i := 0) hk dX8_paysOf_56 rfl rfl ?_
      refine xj_getfield hk dX8_paysOf_57 fl_X8_42 (xw_at hM rfl) rfl ?_
      refine xj_iload_n (i := 1) hk dX8_paysOf_60 rfl rfl ?_
      refine xj_iaload (k := b) hk dX8_paysOf_61 (xw_at hM rfl) (xi_n (by omega) (by decide)) ?_
      refine xj_i2l hk dX8_paysOf_62 ?_
      refine xj_aload_n (i := 0) hk dX8_paysOf_63 rfl rfl ?_
      refine xj_iload_n (i := 2) hk dX8_paysOf_64 rfl rfl ?_
      refine xj_callV hk hz (fr1 := 0) (lo1 := 0) (r1 := some (.int (pric te (rtM te ra (md_st M) (md_av M) b)))) (As := [.int (rtM te ra (md_st M) (md_av M) b)]) (st := [.long ((md_so M b).toInt64)]) (st2 := [.int (pric te (rtM te ra (md_st M) (md_av M) b)), .long ((md_so M b).toInt64)]) (G1 := G) ml_X8_167 (c_X8_priceOf (M := M) (show G 21 = pM v (md_th M) (nR te ho ow hs ra lo bi st av so ln) (md_pt M) (md_re M) (md_sd M) (md_be M) (md_pb M) (md_ac M) (md_od M) (md_ad M) (md_wy M) (md_so M) (md_rl M) (md_io M) (md_po M) (md_sp M) (md_rs M) (md_st M) (md_av M) (md_ip M) (md_tx M) (md_tm M) (md_ta M) (md_td M) (md_wo M) (md_sq M) (md_tk M) (md_bg M) (md_nu M) (md_wr M) from hM) (rtM te ra (md_st M) (md_av M) b)) (xw_at hM rfl) rfl dX8_paysOf_65 ⟨Nat.le_of_ble_eq_true rfl, Nat.le_of_ble_eq_true rfl⟩ rfl (Nat.le_of_ble_eq_true rfl) rfl rfl ?_
      refine xj_i2l hk dX8_paysOf_68 ?_
      refine xj_lmul hk dX8_paysOf_69 ?_
      refine xj_lreturn hk hz dX8_paysOf_70 ?_
      exact ⟨rfl, rfl⟩
    · refine xj_aload_n (i := 0) hk dX8_paysOf_43 rfl rfl ?_
      refine xj_getfield hk dX8_paysOf_44 fl_X8_163 (xw_at hM rfl) rfl ?_
      refine xj_goto (tgt := 55) hk dX8_paysOf_47 (by decide) ?_
      refine xj.eqi (x' := rtM te ra (md_st M) (md_av M) b) (by simp only [rtM]; rw [if_neg c7, if_pos (by simpa using c40)]) ?_
      refine xj_istore_n (i := 2) (ls2 := [some (.ref (xw_ad v 21 0)), some (.int (nI b)), some (.int (rtM te ra (md_st M) (md_av M) b))]) hk dX8_paysOf_55 rfl (by decide) rfl rfl ?_
      refine xj_aload_n (i := 0) hk dX8_paysOf_56 rfl rfl ?_
      refine xj_getfield hk dX8_paysOf_57 fl_X8_42 (xw_at hM rfl) rfl ?_
      refine xj_iload_n (i := 1) hk dX8_paysOf_60 rfl rfl ?_
      refine xj_iaload (k := b) hk dX8_paysOf_61 (xw_at hM rfl) (xi_n (by omega) (by decide)) ?_
      refine xj_i2l hk dX8_paysOf_62 ?_
      refine xj_aload_n (i := 0) hk dX8_paysOf_63 rfl rfl ?_
      refine xj_iload_n (i := 2) hk dX8_paysOf_64 rfl rfl ?_
      refine xj_callV hk hz (fr1 := 0) (lo1 := 0) (r1 := some (.int (pric te (rtM te ra (md_st M) (md_av M) b)))) (As := [.int (rtM te ra (md_st M) (md_av M) b)]) (st := [.long ((md_so M b).toInt64)]) (st2 := [.int (pric te (rtM te ra (md_st M) (md_av M) b)), .long ((md_so M b).toInt64)]) (G1 := G) ml_X8_167 (c_X8_priceOf (M := M) (show G 21 = pM v (md_th M) (nR te ho ow hs ra lo bi st av so ln) (md_pt M) (md_re M) (md_sd M) (md_be M) (md_pb M) (md_ac M) (md_od M) (md_ad M) (md_wy M) (md_so M) (md_rl M) (md_io M) (md_po M) (md_sp M) (md_rs M) (md_st M) (md_av M) (md_ip M) (md_tx M) (md_tm M) (md_ta M) (md_td M) (md_wo M) (md_sq M) (md_tk M) (md_bg M) (md_nu M) (md_wr M) from hM) (rtM te ra (md_st M) (md_av M) b)) (xw_at hM rfl) rfl dX8_paysOf_65 ⟨Nat.le_of_ble_eq_true rfl, Nat.le_of_ble_eq_true rfl⟩ rfl (Nat.le_of_ble_eq_true rfl) rfl rfl ?_
      refine xj_i2l hk dX8_paysOf_68 ?_
      refine xj_lmul hk dX8_paysOf_69 ?_
      refine xj_lreturn hk hz dX8_paysOf_70 ?_
      exact ⟨rfl, rfl⟩
  · refine xj_aload_n (i := 0) hk dX8_paysOf_10 rfl rfl ?_
    refine xj_getfield hk dX8_paysOf_11 fl_X8_153 (xw_at hM rfl) rfl ?_
    refine xj_bipush (x := (-2)) hk dX8_paysOf_14 (by decide) ?_
    refine xj_icmp_ne (tgt := 28) hk dX8_paysOf_16 (by decide) (fun c16 => ?_) (fun c16 => ?_)
    · refine xj_aload_n (i := 0) hk dX8_paysOf_28 rfl rfl ?_
      refine xj_getfield hk dX8_paysOf_29 fl_X8_153 (xw_at hM rfl) rfl ?_
      refine xj_goto (tgt := 55) hk dX8_paysOf_32 (by decide) ?_
      refine xj.eqi (x' := rtM te ra (md_st M) (md_av M) b) (by simp only [rtM]; rw [if_pos c7, if_neg c16]) ?_
      refine xj_istore_n (i := 2) (ls2 := [some (.ref (xw_ad v 21 0)), some (.int (nI b)), some (.int (rtM te ra (md_st M) (md_av M) b))]) hk dX8_paysOf_55 rfl (by decide) rfl rfl ?_
      refine xj_aload_n (i := 0) hk dX8_paysOf_56 rfl rfl ?_
      refine xj_getfield hk dX8_paysOf_57 fl_X8_42 (xw_at hM rfl) rfl ?_
      refine xj_iload_n (i := 1) hk dX8_paysOf_60 rfl rfl ?_
      refine xj_iaload (k := b) hk dX8_paysOf_61 (xw_at hM rfl) (xi_n (by omega) (by decide)) ?_
      refine xj_i2l hk dX8_paysOf_62 ?_
      refine xj_aload_n (i := 0) hk dX8_paysOf_63 rfl rfl ?_
      refine xj_iload_n (i := 2) hk dX8_paysOf_64 rfl rfl ?_
      refine xj_callV hk hz (fr1 := 0) (lo1 := 0) (r1 := some (.int (pric te (rtM te ra (md_st M) (md_av M) b)))) (As := [.int (rtM te ra (md_st M) (md_av M) b)]) (st := [.long ((md_so M b).toInt64)]) (st2 := [.int (pric te (rtM te ra (md_st M) (md_av M) b)), .long ((md_so M b).toInt64)]) (G1 := G) ml_X8_167 (c_X8_priceOf (M := M) (show G 21 = pM v (md_th M) (nR te ho ow hs ra lo bi st av so ln) (md_pt M) (md_re M) (md_sd M) (md_be M) (md_pb M) (md_ac M) (md_od M) (md_ad M) (md_wy M) (md_so M) (md_rl M) (md_io M) (md_po M) (md_sp M) (md_rs M) (md_st M) (md_av M) (md_ip M) (md_tx M) (md_tm M) (md_ta M) (md_td M) (md_wo M) (md_sq M) (md_tk M) (md_bg M) (md_nu M) (md_wr M) from hM) (rtM te ra (md_st M) (md_av M) b)) (xw_at hM rfl) rfl dX8_paysOf_65 ⟨Nat.le_of_ble_eq_true rfl, Nat.le_of_ble_eq_true rfl⟩ rfl (Nat.le_of_ble_eq_true rfl) rfl rfl ?_
      refine xj_i2l hk dX8_paysOf_68 ?_
      refine xj_lmul hk dX8_paysOf_69 ?_
      refine xj_lreturn hk hz dX8_paysOf_70 ?_
      exact ⟨rfl, rfl⟩
    · refine xj_aload_n (i := 0) hk dX8_paysOf_19 rfl rfl ?_
      refine xj_getfield hk dX8_paysOf_20 fl_X8_13 (xw_at hM rfl) rfl ?_
      refine xj_iconst (x := 3) hk dX8_paysOf_23 (by decide) ?_
      refine xj_iaload (k := 3) hk dX8_paysOf_24 (xw_at hM rfl) (xi_d 3 139 (by decide)) ?_
      refine xj.eqi (x' := te 3) (rR_te (k := 3) (by omega)) ?_
      refine xj_goto (tgt := 55) hk dX8_paysOf_25 (by decide) ?_
      refine xj.eqi (x' := rtM te ra (md_st M) (md_av M) b) (by simp only [rtM]; rw [if_pos c7, if_pos c16]) ?_
      refine xj_istore_n (i := 2) (ls2 := [some (.ref (xw_ad v 21 0)), some (.int (nI b)), some (.int (rtM te ra (md_st M) (md_av M) b))]) hk dX8_paysOf_55 rfl (by decide) rfl rfl ?_
      refine xj_aload_n (i := 0) hk dX8_paysOf_56 rfl rfl ?_
      refine xj_getfield hk dX8_paysOf_57 fl_X8_42 (xw_at hM rfl) rfl ?_
      refine xj_iload_n (i := 1) hk dX8_paysOf_60 rfl rfl ?_
      refine xj_iaload (k := b) hk dX8_paysOf_61 (xw_at hM rfl) (xi_n (by omega) (by decide)) ?_
      refine xj_i2l hk dX8_paysOf_62 ?_
      refine xj_aload_n (i := 0) hk dX8_paysOf_63 rfl rfl ?_
      refine xj_iload_n (i := 2) hk dX8_paysOf_64 rfl rfl ?_
      refine xj_callV hk hz (fr1 := 0) (lo1 := 0) (r1 := some (.int (pric te (rtM te ra (md_st M) (md_av M) b)))) (As := [.int (rtM te ra (md_st M) (md_av M) b)]) (st := [.long ((md_so M b).toInt64)]) (st2 := [.int (pric te (rtM te ra (md_st M) (md_av M) b)), .long ((md_so M b).toInt64)]) (G1 := G) ml_X8_167 (c_X8_priceOf (M := M) (show G 21 = pM v (md_th M) (nR te ho ow hs ra lo bi st av so ln) (md_pt M) (md_re M) (md_sd M) (md_be M) (md_pb M) (md_ac M) (md_od M) (md_ad M) (md_wy M) (md_so M) (md_rl M) (md_io M) (md_po M) (md_sp M) (md_rs M) (md_st M) (md_av M) (md_ip M) (md_tx M) (md_tm M) (md_ta M) (md_td M) (md_wo M) (md_sq M) (md_tk M) (md_bg M) (md_nu M) (md_wr M) from hM) (rtM te ra (md_st M) (md_av M) b)) (xw_at hM rfl) rfl dX8_paysOf_65 ⟨Nat.le_of_ble_eq_true rfl, Nat.le_of_ble_eq_true rfl⟩ rfl (Nat.le_of_ble_eq_true rfl) rfl rfl ?_
      refine xj_i2l hk dX8_paysOf_68 ?_
      refine xj_lmul hk dX8_paysOf_69 ?_
      refine xj_lreturn hk hz dX8_paysOf_70 ?_
      exact ⟨rfl, rfl⟩

set_option maxHeartbeats 1000000 in
set_option maxRecDepth 10000 in
theorem l_X8_paidAll_4 {v : xw_V} {κ : xk_K} {post : Option Value → xw_G → Prop} {z : Nat × Nat × Nat} {G : xw_G} {M : md_T} {te ho ow hs ra lo st av so : Nat → Int32} {ln : Int32} {n : Nat} (hk : xk_Ok v κ yX8_paidAll cX8_paidAll 4 (some .long) 3 64) (hz : xk_zf κ = z) (hM : G 21 = pM v (md_th M) (nR te ho ow hs ra lo (nI n) st av so ln) (md_pt M) (md_re M) (md_sd M) (md_be M) (md_pb M) (md_ac M) (md_od M) (md_ad M) (md_wy M) (md_so M) (md_rl M) (md_io M) (md_po M) (md_sp M) (md_rs M) (md_st M) (md_av M) (md_ip M) (md_tx M) (md_tm M) (md_ta M) (md_td M) (md_wo M) (md_sq M) (md_tk M) (md_bg M) (md_nu M) (md_wr M)) (hn30 : n ≤ 30) (kx : xj v κ post z G 26 [some (.ref (xw_ad v 21 0)), some (.long (sml (payM te ra (md_so M) (md_st M) (md_av M)) n)), none, some (.int (nI n))] []) : ∀ (m : Nat) (k : Nat), n - k < m → k ≤ n → xj v κ post z G 4 [some (.ref (xw_ad v 21 0)), some (.long (sml (payM te ra (md_so M) (md_st M) (md_av M)) k)), none, some (.int (nI k))] [] := by
  intro m
  induction m with
  | zero => intro k h; exact absurd h (Nat.not_lt_zero _)
  | succ m ih =>
    intro k hm hi
    refine xj_iload_n (i := 3) hk dX8_paidAll_4 rfl rfl ?_
    refine xj_aload_n (i := 0) hk dX8_paidAll_5 rfl rfl ?_
    refine xj_callV hk hz (fr1 := 0) (lo1 := 0) (r1 := some (.int (nI n))) (As := []) (st := [.int (nI k)]) (st2 := [.int (nI n), .int (nI k)]) (G1 := G) ml_X8_73 (c_X8_many (M := M) (show G 21 = pM v (md_th M) (nR te ho ow hs ra lo (nI n) st av so ln) (md_pt M) (md_re M) (md_sd M) (md_be M) (md_pb M) (md_ac M) (md_od M) (md_ad M) (md_wy M) (md_so M) (md_rl M) (md_io M) (md_po M) (md_sp M) (md_rs M) (md_st M) (md_av M) (md_ip M) (md_tx M) (md_tm M) (md_ta M) (md_td M) (md_wo M) (md_sq M) (md_tk M) (md_bg M) (md_nu M) (md_wr M) from hM)) (xw_at hM rfl) rfl dX8_paidAll_6 ⟨Nat.le_of_ble_eq_true rfl, Nat.le_of_ble_eq_true rfl⟩ rfl (Nat.le_of_ble_eq_true rfl) rfl rfl ?_
    refine xj_icmp_ge (tgt := 26) hk dX8_paidAll_9 (by decide) (fun c9 => ?_) (fun c9 => ?_)
    · have c9 : n ≤ k := (nI_leI (a := n) (b := k) (by omega) (by omega)).mp c9
      have e9 : k = n := by omega
      subst e9
      exact kx
    · have c9 : ¬ n ≤ k := fun q => c9 ((nI_leI (a := n) (b := k) (by omega) (by omega)).mpr q)
      refine xj_lload_n (i := 1) hk dX8_paidAll_12 rfl rfl ?_
      refine xj_aload_n (i := 0) hk dX8_paidAll_13 rfl rfl ?_
      refine xj_iload_n (i := 3) hk dX8_paidAll_14 rfl rfl ?_
      refine xj_callV hk hz (fr1 := 2) (lo1 := 42) (r1 := some (.long (payM te ra (md_so M) (md_st M) (md_av M) k))) (As := [.int (nI k)]) (st := [.long (sml (payM te ra (md_so M) (md_st M) (md_av M)) k)]) (st2 := [.long (payM te ra (md_so M) (md_st M) (md_av M) k), .long (sml (payM te ra (md_so M) (md_st M) (md_av M)) k)]) (G1 := G) ml_X8_170 (c_X8_paysOf (b := k) (M := M) (show G 21 = pM v (md_th M) (nR te ho ow hs ra lo (nI n) st av so ln) (md_pt M) (md_re M) (md_sd M) (md_be M) (md_pb M) (md_ac M) (md_od M) (md_ad M) (md_wy M) (md_so M) (md_rl M) (md_io M) (md_po M) (md_sp M) (md_rs M) (md_st M) (md_av M) (md_ip M) (md_tx M) (md_tm M) (md_ta M) (md_td M) (md_wo M) (md_sq M) (md_tk M) (md_bg M) (md_nu M) (md_wr M) from hM) (by omega)) (xw_at hM rfl) rfl dX8_paidAll_15 ⟨Nat.le_of_ble_eq_true rfl, Nat.le_of_ble_eq_true rfl⟩ rfl (Nat.le_of_ble_eq_true rfl) rfl rfl ?_
      refine xj_ladd hk dX8_paidAll_18 ?_
      refine xj_lstore_n (i := 1) (ls2 := [some (.ref (xw_ad v 21 0)), some (.long ((sml (payM te ra (md_so M) (md_st M) (md_av M)) k) + (payM te ra (md_so M) (md_st M) (md_av M) k))), none, some (.int (nI k))]) hk dX8_paidAll_19 rfl (by decide) rfl rfl ?_
      refine xj_iinc (i := 3) (x2 := nI (k + 1)) (ls2 := [some (.ref (xw_ad v 21 0)), some (.long ((sml (payM te ra (md_so M) (md_st M) (md_av M)) k) + (payM te ra (md_so M) (md_st M) (md_av M) k))), none, some (.int (nI (k + 1)))]) hk dX8_paidAll_20 rfl (nI_1 k) (by decide) rfl rfl ?_
      refine xj_goto (tgt := 4) hk dX8_paidAll_23 (by decide) ?_
      refine xj.to (ls' := [some (.ref (xw_ad v 21 0)), some (.long (sml (payM te ra (md_so M) (md_st M) (md_av M)) ((k + 1)))), none, some (.int (nI ((k + 1))))]) (by simp [sml]) (ih (k + 1) (by omega) (by omega))

set_option maxHeartbeats 1000000 in
set_option maxRecDepth 10000 in
theorem c_X8_paidAll {v : xw_V} {G : xw_G} {M : md_T} {te ho ow hs ra lo st av so : Nat → Int32} {ln : Int32} {n : Nat} (hM : G 21 = pM v (md_th M) (nR te ho ow hs ra lo (nI n) st av so ln) (md_pt M) (md_re M) (md_sd M) (md_be M) (md_pb M) (md_ac M) (md_od M) (md_ad M) (md_wy M) (md_so M) (md_rl M) (md_io M) (md_po M) (md_sp M) (md_rs M) (md_st M) (md_av M) (md_ip M) (md_tx M) (md_tm M) (md_ta M) (md_td M) (md_wo M) (md_sq M) (md_tk M) (md_bg M) (md_nu M) (md_wr M)) (hn30 : n ≤ 30) : xk_Con v yX8_paidAll cX8_paidAll 4 (some .long) 3 64 [.ref (xw_ad v 21 0)] G (xk_ret (some (.long (sml (payM te ra (md_so M) (md_st M) (md_av M)) n))) G) := by
  refine xk_of (ls0 := [some (.ref (xw_ad v 21 0)), none, none, none]) (by decide) rfl (Nat.le_of_ble_eq_true rfl) ?_
  intro κ z hk hz
  refine xj_lconst (x := 0) hk dX8_paidAll_0 (by decide) ?_
  refine xj_lstore_n (i := 1) (ls2 := [some (.ref (xw_ad v 21 0)), some (.long (0)), none, none]) hk dX8_paidAll_1 rfl (by decide) rfl rfl ?_
  refine xj_iconst (x := 0) hk dX8_paidAll_2 (by decide) ?_
  refine xj_istore_n (i := 3) (ls2 := [some (.ref (xw_ad v 21 0)), some (.long (0)), none, some (.int 0)]) hk dX8_paidAll_3 rfl (by decide) rfl rfl ?_
  refine l_X8_paidAll_4 hk hz hM hn30 ?_ (n + 1) 0 (by omega) (by omega)
  refine xj_lload_n (i := 1) hk dX8_paidAll_26 rfl rfl ?_
  refine xj_lreturn hk hz dX8_paidAll_27 ?_
  exact ⟨rfl, rfl⟩

set_option maxHeartbeats 1000000 in
set_option maxRecDepth 10000 in
theorem l_X8_paidBySold_5 {v : xw_V} {κ : xk_K} {post : Option Value → xw_G → Prop} {z : Nat × Nat × Nat} {G : xw_G} {M : md_T} {te ho ow hs ra lo st av so : Nat → Int32} {ln : Int32} {n : Nat} (hk : xk_Ok v κ yX8_paidBySold cX8_paidBySold 5 (some .long) 3 64) (hz : xk_zf κ = z) (hM : G 21 = pM v (md_th M) (nR te ho ow hs ra lo (nI n) st av so ln) (md_pt M) (md_re M) (md_sd M) (md_be M) (md_pb M) (md_ac M) (md_od M) (md_ad M) (md_wy M) (md_so M) (md_rl M) (md_io M) (md_po M) (md_sp M) (md_rs M) (md_st M) (md_av M) (md_ip M) (md_tx M) (md_tm M) (md_ta M) (md_td M) (md_wo M) (md_sq M) (md_tk M) (md_bg M) (md_nu M) (md_wr M)) (hn30 : n ≤ 30) (x : Int32) (kx : xj v κ post z G 39 [some (.ref (xw_ad v 21 0)), some (.int x), some (.long (sml (fun j => if hs j = x then payM te ra (md_so M) (md_st M) (md_av M) j else 0) n)), none, some (.int (nI n))] []) : ∀ (m : Nat) (k : Nat), n - k < m → k ≤ n → xj v κ post z G 5 [some (.ref (xw_ad v 21 0)), some (.int x), some (.long (sml (fun j => if hs j = x then payM te ra (md_so M) (md_st M) (md_av M) j else 0) k)), none, some (.int (nI k))] [] := by
  intro m
  induction m with
  | zero => intro k h; exact absurd h (Nat.not_lt_zero _)
  | succ m ih =>
    intro k hm hi
    refine xj_iload hk dX8_paidBySold_5 rfl ?_
    refine xj_aload_n (i := 0) hk dX8_paidBySold_7 rfl rfl ?_
    refine xj_callV hk hz (fr1 := 0) (lo1 := 0) (r1 := some (.int (nI n))) (As := []) (st := [.int (nI k)]) (st2 := [.int (nI n), .int (nI k)]) (G1 := G) ml_X8_73 (c_X8_many (M := M) (show G 21 = pM v (md_th M) (nR te ho ow hs ra lo (nI n) st av so ln) (md_pt M) (md_re M) (md_sd M) (md_be M) (md_pb M) (md_ac M) (md_od M) (md_ad M) (md_wy M) (md_so M) (md_rl M) (md_io M) (md_po M) (md_sp M) (md_rs M) (md_st M) (md_av M) (md_ip M) (md_tx M) (md_tm M) (md_ta M) (md_td M) (md_wo M) (md_sq M) (md_tk M) (md_bg M) (md_nu M) (md_wr M) from hM)) (xw_at hM rfl) rfl dX8_paidBySold_8 ⟨Nat.le_of_ble_eq_true rfl, Nat.le_of_ble_eq_true rfl⟩ rfl (Nat.le_of_ble_eq_true rfl) rfl rfl ?_
    refine xj_icmp_ge (tgt := 39) hk dX8_paidBySold_11 (by decide) (fun c11 => ?_) (fun c11 => ?_)
    · have c11 : n ≤ k := (nI_leI (a := n) (b := k) (by omega) (by omega)).mp c11
      have e9 : k = n := by omega
      subst e9
      exact kx
    · have c11 : ¬ n ≤ k := fun q => c11 ((nI_leI (a := n) (b := k) (by omega) (by omega)).mpr q)
      refine xj_aload_n (i := 0) hk dX8_paidBySold_14 rfl rfl ?_
      refine xj_iload hk dX8_paidBySold_15 rfl ?_
      refine xj_callV hk hz (fr1 := 0) (lo1 := 0) (r1 := some (.int (hs k))) (As := [.int (nI k)]) (st := []) (st2 := [.int (hs k)]) (G1 := G) ml_X8_81 (c_X8_houseOf (b := k) (M := M) (show G 21 = pM v (md_th M) (nR te ho ow hs ra lo (nI n) st av so ln) (md_pt M) (md_re M) (md_sd M) (md_be M) (md_pb M) (md_ac M) (md_od M) (md_ad M) (md_wy M) (md_so M) (md_rl M) (md_io M) (md_po M) (md_sp M) (md_rs M) (md_st M) (md_av M) (md_ip M) (md_tx M) (md_tm M) (md_ta M) (md_td M) (md_wo M) (md_sq M) (md_tk M) (md_bg M) (md_nu M) (md_wr M) from hM) (by omega)) (xw_at hM rfl) rfl dX8_paidBySold_17 ⟨Nat.le_of_ble_eq_true rfl, Nat.le_of_ble_eq_true rfl⟩ rfl (Nat.le_of_ble_eq_true rfl) rfl rfl ?_
      refine xj_iload_n (i := 1) hk dX8_paidBySold_20 rfl rfl ?_
      refine xj_icmp_ne (tgt := 33) hk dX8_paidBySold_21 (by decide) (fun c21 => ?_) (fun c21 => ?_)
      · refine xj_iinc (i := 4) (x2 := nI (k + 1)) (ls2 := [some (.ref (xw_ad v 21 0)), some (.int x), some (.long (sml (fun j => if hs j = x then payM te ra (md_so M) (md_st M) (md_av M) j else 0) k)), none, some (.int (nI (k + 1)))]) hk dX8_paidBySold_33 rfl (nI_1 k) (by decide) rfl rfl ?_
        refine xj_goto (tgt := 5) hk dX8_paidBySold_36 (by decide) ?_
        refine xj.to (ls' := [some (.ref (xw_ad v 21 0)), some (.int x), some (.long (sml (fun j => if hs j = x then payM te ra (md_so M) (md_st M) (md_av M) j else 0) ((k + 1)))), none, some (.int (nI ((k + 1))))]) (by simp [sml, *]) (ih (k + 1) (by omega) (by omega))
      · refine xj_lload_n (i := 2) hk dX8_paidBySold_24 rfl rfl ?_
        refine xj_aload_n (i := 0) hk dX8_paidBySold_25 rfl rfl ?_
        refine xj_iload hk dX8_paidBySold_26 rfl ?_
        refine xj_callV hk hz (fr1 := 2) (lo1 := 42) (r1 := some (.long (payM te ra (md_so M) (md_st M) (md_av M) k))) (As := [.int (nI k)]) (st := [.long (sml (fun j => if hs j = x then payM te ra (md_so M) (md_st M) (md_av M) j else 0) k)]) (st2 := [.long (payM te ra (md_so M) (md_st M) (md_av M) k), .long (sml (fun j => if hs j = x then payM te ra (md_so M) (md_st M) (md_av M) j else 0) k)]) (G1 := G) ml_X8_170 (c_X8_paysOf (b := k) (M := M) (show G 21 = pM v (md_th M) (nR te ho ow hs ra lo (nI n) st av so ln) (md_pt M) (md_re M) (md_sd M) (md_be M) (md_pb M) (md_ac M) (md_od M) (md_ad M) (md_wy M) (md_so M) (md_rl M) (md_io M) (md_po M) (md_sp M) (md_rs M) (md_st M) (md_av M) (md_ip M) (md_tx M) (md_tm M) (md_ta M) (md_td M) (md_wo M) (md_sq M) (md_tk M) (md_bg M) (md_nu M) (md_wr M) from hM) (by omega)) (xw_at hM rfl) rfl dX8_paidBySold_28 ⟨Nat.le_of_ble_eq_true rfl, Nat.le_of_ble_eq_true rfl⟩ rfl (Nat.le_of_ble_eq_true rfl) rfl rfl ?_
        refine xj_ladd hk dX8_paidBySold_31 ?_
        refine xj_lstore_n (i := 2) (ls2 := [some (.ref (xw_ad v 21 0)), some (.int x), some (.long ((sml (fun j => if hs j = x then payM te ra (md_so M) (md_st M) (md_av M) j else 0) k) + (payM te ra (md_so M) (md_st M) (md_av M) k))), none, some (.int (nI k))]) hk dX8_paidBySold_32 rfl (by decide) rfl rfl ?_
        refine xj_iinc (i := 4) (x2 := nI (k + 1)) (ls2 := [some (.ref (xw_ad v 21 0)), some (.int x), some (.long ((sml (fun j => if hs j = x then payM te ra (md_so M) (md_st M) (md_av M) j else 0) k) + (payM te ra (md_so M) (md_st M) (md_av M) k))), none, some (.int (nI (k + 1)))]) hk dX8_paidBySold_33 rfl (nI_1 k) (by decide) rfl rfl ?_
        refine xj_goto (tgt := 5) hk dX8_paidBySold_36 (by decide) ?_
        refine xj.to (ls' := [some (.ref (xw_ad v 21 0)), some (.int x), some (.long (sml (fun j => if hs j = x then payM te ra (md_so M) (md_st M) (md_av M) j else 0) ((k + 1)))), none, some (.int (nI ((k + 1))))]) (by simp [sml, *]) (ih (k + 1) (by omega) (by omega))

set_option maxHeartbeats 1000000 in
set_option maxRecDepth 10000 in
theorem c_X8_paidBySold {v : xw_V} {G : xw_G} {M : md_T} {te ho ow hs ra lo st av so : Nat → Int32} {ln : Int32} {n : Nat} (hM : G 21 = pM v (md_th M) (nR te ho ow hs ra lo (nI n) st av so ln) (md_pt M) (md_re M) (md_sd M) (md_be M) (md_pb M) (md_ac M) (md_od M) (md_ad M) (md_wy M) (md_so M) (md_rl M) (md_io M) (md_po M) (md_sp M) (md_rs M) (md_st M) (md_av M) (md_ip M) (md_tx M) (md_tm M) (md_ta M) (md_td M) (md_wo M) (md_sq M) (md_tk M) (md_bg M) (md_nu M) (md_wr M)) (hn30 : n ≤ 30) (x : Int32) : xk_Con v yX8_paidBySold cX8_paidBySold 5 (some .long) 3 64 [.ref (xw_ad v 21 0), .int x] G (xk_ret (some (.long (sml (fun j => if hs j = x then payM te ra (md_so M) (md_st M) (md_av M) j else 0) n))) G) := by
  refine xk_of (ls0 := [some (.ref (xw_ad v 21 0)), some (.int x), none, none, none]) (by decide) rfl (Nat.le_of_ble_eq_true rfl) ?_
  intro κ z hk hz
  refine xj_lconst (x := 0) hk dX8_paidBySold_0 (by decide) ?_
  refine xj_lstore_n (i := 2) (ls2 := [some (.ref (xw_ad v 21 0)), some (.int x), some (.long (0)), none, none]) hk dX8_paidBySold_1 rfl (by decide) rfl rfl ?_
  refine xj_iconst (x := 0) hk dX8_paidBySold_2 (by decide) ?_
  refine xj_istore (i := 4) (ls2 := [some (.ref (xw_ad v 21 0)), some (.int x), some (.long (0)), none, some (.int 0)]) hk dX8_paidBySold_3 (by decide) rfl rfl ?_
  refine l_X8_paidBySold_5 hk hz hM hn30 x ?_ (n + 1) 0 (by omega) (by omega)
  refine xj_lload_n (i := 2) hk dX8_paidBySold_39 rfl rfl ?_
  refine xj_lreturn hk hz dX8_paidBySold_40 ?_
  exact ⟨rfl, rfl⟩


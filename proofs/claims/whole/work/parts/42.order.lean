theorem mx0_ge {x : Int32} (h : 0 ≤ x) : mx0 x = x := by
  simp only [mx0]
  split
  · rfl
  · rename_i q; exact Int32.le_antisymm h (Int32.not_lt.mp q)
theorem mx0_lt {x : Int32} (h : ¬ 0 ≤ x) : mx0 x = 0 := by
  simp only [mx0]
  rw [if_neg (fun q => h (Int32.le_of_lt q))]
theorem inj_x {k : Nat} {p : Nat → Nat} (h : inj k p) : inj (k + 1) (xu p k k) := by
  refine ⟨fun j hj => ?_, fun i j hij hj => ?_⟩
  · by_cases q : j = k
    · subst q; rw [xu_s]; omega
    · rw [xu_n q]; have := h.1 j (by omega); omega
  · rw [xu_n (show i ≠ k by omega)]
    by_cases q : j = k
    · subst q; rw [xu_s]; have := h.1 i hij; omega
    · rw [xu_n q]; exact h.2 i j hij (by omega)
theorem pls_ins2 {k a : Nat} {od : Nat → Int32} {p : Nat → Nat} (h : pls k od p) (ha : a ≤ k) : pls (k + 1) (xu (shU a k od) a (nI k)) (ins1 a k (xu p k k)) := by
  intro j hj
  rw [ins1_at _ ha]
  by_cases q : j = a
  · subst q; rw [xu_s, if_neg (by omega), if_pos rfl, xu_s]
  · rw [xu_n q]
    simp only [shU]
    by_cases q1 : j < a
    · rw [if_neg (by omega), if_pos q1, xu_n (by omega)]; exact h j (by omega)
    · rw [if_pos ⟨by omega, by omega⟩, if_neg q1, if_neg q, if_pos (by omega), xu_n (by omega)]; exact h (j - 1) (by omega)
theorem srt_ins2 {ra : Nat → Int32} {k a : Nat} {p : Nat → Nat} (hi : inj k p) (hs : srt ra k p) (ha : a ≤ k) (hb : ∀ j, a ≤ j → j < k → ra k < ra (p j)) (h0 : a = 0 ∨ ra (p (a - 1)) ≤ ra k) : srt ra (k + 1) (ins1 a k (xu p k k)) := by
  refine ins1_srt ha (Nat.lt_succ_self k) (inj_x hi) (fun i j hij hj => ?_) (fun j h1 h2 => ?_) ?_
  · rw [xu_n (show i ≠ k by omega), xu_n (show j ≠ k by omega)]; exact hs i j hij hj
  · rw [xu_s, xu_n (show j ≠ k by omega)]; simp [ahd, hb j h1 h2]
  · rcases h0 with h0 | h0
    · exact Or.inl h0
    · by_cases z : a = 0
      · exact Or.inl z
      · right
        rw [xu_s, xu_n (show a - 1 ≠ k by omega)]
        have hp := hi.1 (a - 1) (by omega)
        have q1 : ¬ ra k < ra (p (a - 1)) := Int32.not_lt.mpr h0
        simp only [ahd, decide_eq_false q1, Bool.false_or, decide_eq_false (show ¬ k < p (a - 1) by omega), Bool.and_false]
set_option maxHeartbeats 1000000 in
set_option maxRecDepth 10000 in
theorem l_X8_roomOf_19 {v : xw_V} {κ : xk_K} {post : Option Value → xw_G → Prop} {z : Nat × Nat × Nat} {G : xw_G} {M : md_T} {te ho ow hs ra lo st av so : Nat → Int32} {bi ln : Int32} {o : Nat} (hk : xk_Ok v κ yX8_roomOf cX8_roomOf 4 (some .int) 0 0) (hz : xk_zf κ = z) (hM : G 21 = pM v (md_th M) (nR te ho ow hs ra lo bi st av so ln) (md_pt M) (md_re M) (md_sd M) (md_be M) (md_pb M) (md_ac M) (md_od M) (md_ad M) (md_wy M) (md_so M) (md_rl M) (md_io M) (md_po M) (md_sp M) (md_rs M) (md_st M) (md_av M) (md_ip M) (md_tx M) (md_tm M) (md_ta M) (md_td M) (md_wo M) (md_sq M) (md_tk M) (md_bg M) (md_nu M) (md_wr M)) (how : okOw ow) (ho8 : o < 8) (kx : xj v κ post z G 56 [some (.ref (xw_ad v 21 0)), some (.int (nI o)), some (.int (rmR te ho ow o 8)), some (.int (nI 8))] []) : ∀ (m : Nat) (k : Nat), 8 - k < m → k ≤ 8 → xj v κ post z G 19 [some (.ref (xw_ad v 21 0)), some (.int (nI o)), some (.int (rmR te ho ow o k)), some (.int (nI k))] [] := by
  intro m
  induction m with
  | zero => intro k h; exact absurd h (Nat.not_lt_zero _)
  | succ m ih =>
    intro k hm hi
    refine xj_iload_n (i := 3) hk dX8_roomOf_19 rfl rfl ?_
    refine xj_bipush (x := 8) hk dX8_roomOf_20 (by decide) ?_
    refine xj_icmp_ge (tgt := 56) hk dX8_roomOf_22 (by decide) (fun c22 => ?_) (fun c22 => ?_)
    · have c22 : 8 ≤ k := (nI_leI (a := 8) (b := k) (by omega) (by omega)).mp c22
      have e9 : k = 8 := by omega
      subst e9
      exact kx
    · have c22 : ¬ 8 ≤ k := fun q => c22 ((nI_leI (a := 8) (b := k) (by omega) (by omega)).mpr q)
      refine xj_aload_n (i := 0) hk dX8_roomOf_25 rfl rfl ?_
      refine xj_getfield hk dX8_roomOf_26 fl_X8_13 (xw_at hM rfl) rfl ?_
      refine xj_bipush (x := 15) hk dX8_roomOf_29 (by decide) ?_
      refine xj_iload_n (i := 3) hk dX8_roomOf_31 rfl rfl ?_
      refine xj_iadd hk dX8_roomOf_32 ?_
      refine xj.eqi (x' := nI (15 + k)) (nI_add 15 k) ?_
      refine xj_iaload (k := 15 + k) hk dX8_roomOf_33 (xw_at hM rfl) (xi_n (by omega) (by decide)) ?_
      refine xj.eqi (x' := ow k) (rR_ow (k := k) (by omega)) ?_
      refine xj_iload_n (i := 1) hk dX8_roomOf_34 rfl rfl ?_
      refine xj_icmp_ne (tgt := 50) hk dX8_roomOf_35 (by decide) (fun c35 => ?_) (fun c35 => ?_)
      · have c35 : ¬ xn (ow k) = o := fun q => c35 (by rw [← q]; exact xi_of (how k (by omega)))
        refine xj_iinc (i := 3) (x2 := nI (k + 1)) (ls2 := [some (.ref (xw_ad v 21 0)), some (.int (nI o)), some (.int (rmR te ho ow o k)), some (.int (nI (k + 1)))]) hk dX8_roomOf_50 rfl (nI_1 k) (by decide) rfl rfl ?_
        refine xj_goto (tgt := 19) hk dX8_roomOf_53 (by decide) ?_
        refine xj.to (ls' := [some (.ref (xw_ad v 21 0)), some (.int (nI o)), some (.int (rmR te ho ow o ((k + 1)))), some (.int (nI ((k + 1))))]) (by simp only [rmR]; first | rw [if_pos c35] | rw [if_neg c35]) (ih (k + 1) (by omega) (by omega))
      · have c35 : xn (ow k) = o := by rw [c35]; exact xn_nI (by omega)
        refine xj_iload_n (i := 2) hk dX8_roomOf_38 rfl rfl ?_
        refine xj_aload_n (i := 0) hk dX8_roomOf_39 rfl rfl ?_
        refine xj_getfield hk dX8_roomOf_40 fl_X8_13 (xw_at hM rfl) rfl ?_
        refine xj_bipush (x := 7) hk dX8_roomOf_43 (by decide) ?_
        refine xj_iload_n (i := 3) hk dX8_roomOf_45 rfl rfl ?_
        refine xj_iadd hk dX8_roomOf_46 ?_
        refine xj.eqi (x' := nI (7 + k)) (nI_add 7 k) ?_
        refine xj_iaload (k := 7 + k) hk dX8_roomOf_47 (xw_at hM rfl) (xi_n (by omega) (by decide)) ?_
        refine xj.eqi (x' := ho k) (rR_ho (k := k) (by omega)) ?_
        refine xj_isub hk dX8_roomOf_48 ?_
        refine xj_istore_n (i := 2) (ls2 := [some (.ref (xw_ad v 21 0)), some (.int (nI o)), some (.int ((rmR te ho ow o k) - (ho k))), some (.int (nI k))]) hk dX8_roomOf_49 rfl (by decide) rfl rfl ?_
        refine xj_iinc (i := 3) (x2 := nI (k + 1)) (ls2 := [some (.ref (xw_ad v 21 0)), some (.int (nI o)), some (.int ((rmR te ho ow o k) - (ho k))), some (.int (nI (k + 1)))]) hk dX8_roomOf_50 rfl (nI_1 k) (by decide) rfl rfl ?_
        refine xj_goto (tgt := 19) hk dX8_roomOf_53 (by decide) ?_
        refine xj.to (ls' := [some (.ref (xw_ad v 21 0)), some (.int (nI o)), some (.int (rmR te ho ow o ((k + 1)))), some (.int (nI ((k + 1))))]) (by simp only [rmR]; first | rw [if_pos c35] | rw [if_neg c35]) (ih (k + 1) (by omega) (by omega))

set_option maxHeartbeats 1000000 in
set_option maxRecDepth 10000 in
theorem c_X8_roomOf {v : xw_V} {G : xw_G} {M : md_T} {te ho ow hs ra lo st av so : Nat → Int32} {bi ln : Int32} {o : Nat} (hM : G 21 = pM v (md_th M) (nR te ho ow hs ra lo bi st av so ln) (md_pt M) (md_re M) (md_sd M) (md_be M) (md_pb M) (md_ac M) (md_od M) (md_ad M) (md_wy M) (md_so M) (md_rl M) (md_io M) (md_po M) (md_sp M) (md_rs M) (md_st M) (md_av M) (md_ip M) (md_tx M) (md_tm M) (md_ta M) (md_td M) (md_wo M) (md_sq M) (md_tk M) (md_bg M) (md_nu M) (md_wr M)) (how : okOw ow) (ho8 : o < 8) : xk_Con v yX8_roomOf cX8_roomOf 4 (some .int) 0 0 [.ref (xw_ad v 21 0), .int (nI o)] G (xk_ret (some (.int (rm8 te ho ow o))) G) := by
  refine xk_of (ls0 := [some (.ref (xw_ad v 21 0)), some (.int (nI o)), none, none]) (by decide) rfl (Nat.le_of_ble_eq_true rfl) ?_
  intro κ z hk hz
  refine xj_aload_n (i := 0) hk dX8_roomOf_0 rfl rfl ?_
  refine xj_getfield hk dX8_roomOf_1 fl_X8_13 (xw_at hM rfl) rfl ?_
  refine xj_iconst (x := 1) hk dX8_roomOf_4 (by decide) ?_
  refine xj_iaload (k := 1) hk dX8_roomOf_5 (xw_at hM rfl) (xi_d 1 139 (by decide)) ?_
  refine xj.eqi (x' := te 1) (rR_te (k := 1) (by omega)) ?_
  refine xj_aload_n (i := 0) hk dX8_roomOf_6 rfl rfl ?_
  refine xj_getfield hk dX8_roomOf_7 fl_X8_13 (xw_at hM rfl) rfl ?_
  refine xj_iconst (x := 0) hk dX8_roomOf_10 (by decide) ?_
  refine xj_iaload (k := 0) hk dX8_roomOf_11 (xw_at hM rfl) (xi_d 0 139 (by decide)) ?_
  refine xj.eqi (x' := te 0) (rR_te (k := 0) (by omega)) ?_
  refine xj_imul hk dX8_roomOf_12 ?_
  refine xj_bipush (x := 100) hk dX8_roomOf_13 (by decide) ?_
  refine xj_idiv hk dX8_roomOf_15 (by decide) ?_
  refine xj_istore_n (i := 2) (ls2 := [some (.ref (xw_ad v 21 0)), some (.int (nI o)), some (.int (((te 1) * (te 0)) / 100)), none]) hk dX8_roomOf_16 rfl (by decide) rfl rfl ?_
  refine xj_iconst (x := 0) hk dX8_roomOf_17 (by decide) ?_
  refine xj_istore_n (i := 3) (ls2 := [some (.ref (xw_ad v 21 0)), some (.int (nI o)), some (.int (((te 1) * (te 0)) / 100)), some (.int 0)]) hk dX8_roomOf_18 rfl (by decide) rfl rfl ?_
  refine l_X8_roomOf_19 hk hz hM how ho8 ?_ (8 + 1) 0 (by omega) (by omega)
  refine xj_iload_n (i := 2) hk dX8_roomOf_56 rfl rfl ?_
  refine xj_if_ge (tgt := 64) hk dX8_roomOf_57 (by decide) (fun c57 => ?_) (fun c57 => ?_)
  · refine xj_iload_n (i := 2) hk dX8_roomOf_64 rfl rfl ?_
    refine xj_ireturn hk hz dX8_roomOf_65 ?_
    exact ⟨by rw [rm8, mx0_ge c57], rfl⟩
  · refine xj_iconst (x := 0) hk dX8_roomOf_60 (by decide) ?_
    refine xj_goto (tgt := 65) hk dX8_roomOf_61 (by decide) ?_
    refine xj_ireturn hk hz dX8_roomOf_65 ?_
    exact ⟨by rw [rm8, mx0_lt c57], rfl⟩

set_option maxHeartbeats 1000000 in
set_option maxRecDepth 10000 in
theorem l_X8_laysOrder_12 {v : xw_V} {κ : xk_K} {post : Option Value → xw_G → Prop} {z : Nat × Nat × Nat} {G : xw_G} {M : md_T} {te ho ow hs ra lo st av so : Nat → Int32} {ln : Int32} {n k : Nat} {od : Nat → Int32} {p : Nat → Nat} (hk : xk_Ok v κ yX8_laysOrder cX8_laysOrder 3 none 1 21) (hz : xk_zf κ = z) (hM : G 21 = pM v (md_th M) (nR te ho ow hs ra lo (nI n) st av so ln) (md_pt M) (md_re M) (md_sd M) (md_be M) (md_pb M) (md_ac M) (md_od M) (md_ad M) (md_wy M) (md_so M) (md_rl M) (md_io M) (md_po M) (md_sp M) (md_rs M) (md_st M) (md_av M) (md_ip M) (md_tx M) (md_tm M) (md_ta M) (md_td M) (md_wo M) (md_sq M) (md_tk M) (md_bg M) (md_nu M) (md_wr M)) (hn30 : n ≤ 30) (hkn : k < n) (hod : pls k od p) (hi : inj k p) (kx : ∀ a, a ≤ k → (∀ j, a ≤ j → j < k → ra k < ra (p j)) → (a = 0 ∨ ra (p (a - 1)) ≤ ra k) → xj v κ post z (xw_up G 21 (pM v (md_th M) (nR te ho ow hs ra lo (nI n) st av so ln) (md_pt M) (md_re M) (md_sd M) (md_be M) (md_pb M) (md_ac M) (shU a k od) (md_ad M) (md_wy M) (md_so M) (md_rl M) (md_io M) (md_po M) (md_sp M) (md_rs M) (md_st M) (md_av M) (md_ip M) (md_tx M) (md_tm M) (md_ta M) (md_td M) (md_wo M) (md_sq M) (md_tk M) (md_bg M) (md_nu M) (md_wr M))) 56 [some (.ref (xw_ad v 21 0)), some (.int (nI k)), some (.int (nI a))] []) : ∀ (m : Nat) (a : Nat), a < m → a ≤ k → (∀ j, a ≤ j → j < k → ra k < ra (p j)) → xj v κ post z (xw_up G 21 (pM v (md_th M) (nR te ho ow hs ra lo (nI n) st av so ln) (md_pt M) (md_re M) (md_sd M) (md_be M) (md_pb M) (md_ac M) (shU a k od) (md_ad M) (md_wy M) (md_so M) (md_rl M) (md_io M) (md_po M) (md_sp M) (md_rs M) (md_st M) (md_av M) (md_ip M) (md_tx M) (md_tm M) (md_ta M) (md_td M) (md_wo M) (md_sq M) (md_tk M) (md_bg M) (md_nu M) (md_wr M))) 12 [some (.ref (xw_ad v 21 0)), some (.int (nI k)), some (.int (nI a))] [] := by
  intro m
  induction m with
  | zero => intro a h; exact absurd h (Nat.not_lt_zero _)
  | succ m ih =>
    intro a hm ha hb
    refine xj_iload_n (i := 2) hk dX8_laysOrder_12 rfl rfl ?_
    refine xj_if_le (tgt := 56) hk dX8_laysOrder_13 (by decide) (fun c13 => ?_) (fun c13 => ?_)
    · have c13 : a ≤ 0 := (nI_leI (a := a) (b := 0) (by omega) (by omega)).mp c13
      exact kx a ha hb (Or.inl (by omega))
    · have c13 : ¬ a ≤ 0 := fun q => c13 ((nI_leI (a := a) (b := 0) (by omega) (by omega)).mpr q)
      have hp1 := hi.1 (a - 1) (by omega)
      refine xj_aload_n (i := 0) hk dX8_laysOrder_16 rfl rfl ?_
      refine xj_aload_n (i := 0) hk dX8_laysOrder_17 rfl rfl ?_
      refine xj_getfield hk dX8_laysOrder_18 fl_X8_33 (xw_at xw_up_s rfl) rfl ?_
      refine xj_iload_n (i := 2) hk dX8_laysOrder_21 rfl rfl ?_
      refine xj_iconst (x := 1) hk dX8_laysOrder_22 (by decide) ?_
      refine xj_isub hk dX8_laysOrder_23 ?_
      refine xj.eqi (x' := nI (a - 1)) (nI_sub1 (by omega)) ?_
      refine xj_iaload (k := a - 1) hk dX8_laysOrder_24 (xw_at xw_up_s rfl) (xi_n (by omega) (by decide)) ?_
      refine xj.eqi (x' := nI (p (a - 1))) (by simp only [shU]; rw [if_neg (by omega)]; exact hod (a - 1) (by omega)) ?_
      refine xj_callV hk hz (fr1 := 0) (lo1 := 0) (r1 := some (.int (ra (p (a - 1))))) (As := [.int (nI (p (a - 1)))]) (st := []) (st2 := [.int (ra (p (a - 1)))]) (G1 := xw_up G 21 (pM v (md_th M) (nR te ho ow hs ra lo (nI n) st av so ln) (md_pt M) (md_re M) (md_sd M) (md_be M) (md_pb M) (md_ac M) (shU a k od) (md_ad M) (md_wy M) (md_so M) (md_rl M) (md_io M) (md_po M) (md_sp M) (md_rs M) (md_st M) (md_av M) (md_ip M) (md_tx M) (md_tm M) (md_ta M) (md_td M) (md_wo M) (md_sq M) (md_tk M) (md_bg M) (md_nu M) (md_wr M))) ml_X8_77 (c_X8_rateOf (b := p (a - 1)) (M := (md_th M, nR te ho ow hs ra lo (nI n) st av so ln, md_pt M, md_re M, md_sd M, md_be M, md_pb M, md_ac M, shU a k od, md_ad M, md_wy M, md_so M, md_rl M, md_io M, md_po M, md_sp M, md_rs M, md_st M, md_av M, md_ip M, md_tx M, md_tm M, md_ta M, md_td M, md_wo M, md_sq M, md_tk M, md_bg M, md_nu M, md_wr M)) (show (xw_up G 21 (pM v (md_th M) (nR te ho ow hs ra lo (nI n) st av so ln) (md_pt M) (md_re M) (md_sd M) (md_be M) (md_pb M) (md_ac M) (shU a k od) (md_ad M) (md_wy M) (md_so M) (md_rl M) (md_io M) (md_po M) (md_sp M) (md_rs M) (md_st M) (md_av M) (md_ip M) (md_tx M) (md_tm M) (md_ta M) (md_td M) (md_wo M) (md_sq M) (md_tk M) (md_bg M) (md_nu M) (md_wr M))) 21 = pM v (md_th M) (nR te ho ow hs ra lo (nI n) st av so ln) (md_pt M) (md_re M) (md_sd M) (md_be M) (md_pb M) (md_ac M) (shU a k od) (md_ad M) (md_wy M) (md_so M) (md_rl M) (md_io M) (md_po M) (md_sp M) (md_rs M) (md_st M) (md_av M) (md_ip M) (md_tx M) (md_tm M) (md_ta M) (md_td M) (md_wo M) (md_sq M) (md_tk M) (md_bg M) (md_nu M) (md_wr M) from xw_up_s) (by omega)) (xw_at xw_up_s rfl) rfl dX8_laysOrder_25 ⟨Nat.le_of_ble_eq_true rfl, Nat.le_of_ble_eq_true rfl⟩ rfl (Nat.le_of_ble_eq_true rfl) rfl rfl ?_
      refine xj_aload_n (i := 0) hk dX8_laysOrder_28 rfl rfl ?_
      refine xj_iload_n (i := 1) hk dX8_laysOrder_29 rfl rfl ?_
      refine xj_callV hk hz (fr1 := 0) (lo1 := 0) (r1 := some (.int (ra k))) (As := [.int (nI k)]) (st := [.int (ra (p (a - 1)))]) (st2 := [.int (ra k), .int (ra (p (a - 1)))]) (G1 := xw_up G 21 (pM v (md_th M) (nR te ho ow hs ra lo (nI n) st av so ln) (md_pt M) (md_re M) (md_sd M) (md_be M) (md_pb M) (md_ac M) (shU a k od) (md_ad M) (md_wy M) (md_so M) (md_rl M) (md_io M) (md_po M) (md_sp M) (md_rs M) (md_st M) (md_av M) (md_ip M) (md_tx M) (md_tm M) (md_ta M) (md_td M) (md_wo M) (md_sq M) (md_tk M) (md_bg M) (md_nu M) (md_wr M))) ml_X8_77 (c_X8_rateOf (b := k) (M := (md_th M, nR te ho ow hs ra lo (nI n) st av so ln, md_pt M, md_re M, md_sd M, md_be M, md_pb M, md_ac M, shU a k od, md_ad M, md_wy M, md_so M, md_rl M, md_io M, md_po M, md_sp M, md_rs M, md_st M, md_av M, md_ip M, md_tx M, md_tm M, md_ta M, md_td M, md_wo M, md_sq M, md_tk M, md_bg M, md_nu M, md_wr M)) (show (xw_up G 21 (pM v (md_th M) (nR te ho ow hs ra lo (nI n) st av so ln) (md_pt M) (md_re M) (md_sd M) (md_be M) (md_pb M) (md_ac M) (shU a k od) (md_ad M) (md_wy M) (md_so M) (md_rl M) (md_io M) (md_po M) (md_sp M) (md_rs M) (md_st M) (md_av M) (md_ip M) (md_tx M) (md_tm M) (md_ta M) (md_td M) (md_wo M) (md_sq M) (md_tk M) (md_bg M) (md_nu M) (md_wr M))) 21 = pM v (md_th M) (nR te ho ow hs ra lo (nI n) st av so ln) (md_pt M) (md_re M) (md_sd M) (md_be M) (md_pb M) (md_ac M) (shU a k od) (md_ad M) (md_wy M) (md_so M) (md_rl M) (md_io M) (md_po M) (md_sp M) (md_rs M) (md_st M) (md_av M) (md_ip M) (md_tx M) (md_tm M) (md_ta M) (md_td M) (md_wo M) (md_sq M) (md_tk M) (md_bg M) (md_nu M) (md_wr M) from xw_up_s) (by omega)) (xw_at xw_up_s rfl) rfl dX8_laysOrder_30 ⟨Nat.le_of_ble_eq_true rfl, Nat.le_of_ble_eq_true rfl⟩ rfl (Nat.le_of_ble_eq_true rfl) rfl rfl ?_
      refine xj_icmp_le (tgt := 56) hk dX8_laysOrder_33 (by decide) (fun c33 => ?_) (fun c33 => ?_)
      · exact kx a ha hb (Or.inr c33)
      · refine xj_aload_n (i := 0) hk dX8_laysOrder_36 rfl rfl ?_
        refine xj_getfield hk dX8_laysOrder_37 fl_X8_33 (xw_at xw_up_s rfl) rfl ?_
        refine xj_iload_n (i := 2) hk dX8_laysOrder_40 rfl rfl ?_
        refine xj_aload_n (i := 0) hk dX8_laysOrder_41 rfl rfl ?_
        refine xj_getfield hk dX8_laysOrder_42 fl_X8_33 (xw_at xw_up_s rfl) rfl ?_
        refine xj_iload_n (i := 2) hk dX8_laysOrder_45 rfl rfl ?_
        refine xj_iconst (x := 1) hk dX8_laysOrder_46 (by decide) ?_
        refine xj_isub hk dX8_laysOrder_47 ?_
        refine xj.eqi (x' := nI (a - 1)) (nI_sub1 (by omega)) ?_
        refine xj_iaload (k := a - 1) hk dX8_laysOrder_48 (xw_at xw_up_s rfl) (xi_n (by omega) (by decide)) ?_
        refine xj_iastore (k := a) (G2 := xw_up G 21 (pM v (md_th M) (nR te ho ow hs ra lo (nI n) st av so ln) (md_pt M) (md_re M) (md_sd M) (md_be M) (md_pb M) (md_ac M) (xu (shU a k od) a ((shU a k od) (a - 1))) (md_ad M) (md_wy M) (md_so M) (md_rl M) (md_io M) (md_po M) (md_sp M) (md_rs M) (md_st M) (md_av M) (md_ip M) (md_tx M) (md_tm M) (md_ta M) (md_td M) (md_wo M) (md_sq M) (md_tk M) (md_bg M) (md_nu M) (md_wr M))) hk dX8_laysOrder_49 (xw_at xw_up_s rfl) (xi_n (by omega) (by decide)) (xw_wr2 rfl) ?_
        refine xj_iinc (i := 2) (x2 := nI (a - 1)) (ls2 := [some (.ref (xw_ad v 21 0)), some (.int (nI k)), some (.int (nI (a - 1)))]) hk dX8_laysOrder_50 rfl (nI_dec (by omega)) (by decide) rfl rfl ?_
        refine xj_goto (tgt := 12) hk dX8_laysOrder_53 (by decide) ?_
        refine xj.eqG (G' := xw_up G 21 (pM v (md_th M) (nR te ho ow hs ra lo (nI n) st av so ln) (md_pt M) (md_re M) (md_sd M) (md_be M) (md_pb M) (md_ac M) (shU (a - 1) k od) (md_ad M) (md_wy M) (md_so M) (md_rl M) (md_io M) (md_po M) (md_sp M) (md_rs M) (md_st M) (md_av M) (md_ip M) (md_tx M) (md_tm M) (md_ta M) (md_td M) (md_wo M) (md_sq M) (md_tk M) (md_bg M) (md_nu M) (md_wr M))) (by simp only [shU_s _ (show 0 < a by omega) ha]) (ih (a - 1) (by omega) (by omega) (fun j h1 h2 => ?_))
        by_cases e9 : j = a - 1
        · subst e9; exact Int32.not_le.mp c33
        · exact hb j (by omega) h2

set_option maxHeartbeats 1000000 in
set_option maxRecDepth 10000 in
theorem l_X8_laysOrder_2 {v : xw_V} {κ : xk_K} {post : Option Value → xw_G → Prop} {z : Nat × Nat × Nat} {G : xw_G} {M : md_T} {te ho ow hs ra lo st av so : Nat → Int32} {ln : Int32} {n : Nat} (hk : xk_Ok v κ yX8_laysOrder cX8_laysOrder 3 none 1 21) (hz : xk_zf κ = z) (hM : G 21 = pM v (md_th M) (nR te ho ow hs ra lo (nI n) st av so ln) (md_pt M) (md_re M) (md_sd M) (md_be M) (md_pb M) (md_ac M) (md_od M) (md_ad M) (md_wy M) (md_so M) (md_rl M) (md_io M) (md_po M) (md_sp M) (md_rs M) (md_st M) (md_av M) (md_ip M) (md_tx M) (md_tm M) (md_ta M) (md_td M) (md_wo M) (md_sq M) (md_tk M) (md_bg M) (md_nu M) (md_wr M)) (hn30 : n ≤ 30) (kx : ∀ (od : Nat → Int32) (p : Nat → Nat), pls n od p → inj n p → srt ra n p → xj v κ post z (xw_up G 21 (pM v (md_th M) (nR te ho ow hs ra lo (nI n) st av so ln) (md_pt M) (md_re M) (md_sd M) (md_be M) (md_pb M) (md_ac M) od (md_ad M) (md_wy M) (md_so M) (md_rl M) (md_io M) (md_po M) (md_sp M) (md_rs M) (md_st M) (md_av M) (md_ip M) (md_tx M) (md_tm M) (md_ta M) (md_td M) (md_wo M) (md_sq M) (md_tk M) (md_bg M) (md_nu M) (md_wr M))) 69 [some (.ref (xw_ad v 21 0)), some (.int (nI n)), none] []) : ∀ (m : Nat) (k : Nat) (od : Nat → Int32) (p : Nat → Nat), n - k < m → k ≤ n → pls k od p → inj k p → srt ra k p → xj v κ post z (xw_up G 21 (pM v (md_th M) (nR te ho ow hs ra lo (nI n) st av so ln) (md_pt M) (md_re M) (md_sd M) (md_be M) (md_pb M) (md_ac M) od (md_ad M) (md_wy M) (md_so M) (md_rl M) (md_io M) (md_po M) (md_sp M) (md_rs M) (md_st M) (md_av M) (md_ip M) (md_tx M) (md_tm M) (md_ta M) (md_td M) (md_wo M) (md_sq M) (md_tk M) (md_bg M) (md_nu M) (md_wr M))) 2 [some (.ref (xw_ad v 21 0)), some (.int (nI k)), none] [] := by
  intro m
  induction m with
  | zero => intro k od p h; exact absurd h (Nat.not_lt_zero _)
  | succ m ih =>
    intro k od p hm hkn hod hi hsr
    refine xj_iload_n (i := 1) hk dX8_laysOrder_2 rfl rfl ?_
    refine xj_aload_n (i := 0) hk dX8_laysOrder_3 rfl rfl ?_
    refine xj_callV hk hz (fr1 := 0) (lo1 := 0) (r1 := some (.int (nI n))) (As := []) (st := [.int (nI k)]) (st2 := [.int (nI n), .int (nI k)]) (G1 := xw_up G 21 (pM v (md_th M) (nR te ho ow hs ra lo (nI n) st av so ln) (md_pt M) (md_re M) (md_sd M) (md_be M) (md_pb M) (md_ac M) od (md_ad M) (md_wy M) (md_so M) (md_rl M) (md_io M) (md_po M) (md_sp M) (md_rs M) (md_st M) (md_av M) (md_ip M) (md_tx M) (md_tm M) (md_ta M) (md_td M) (md_wo M) (md_sq M) (md_tk M) (md_bg M) (md_nu M) (md_wr M))) ml_X8_73 (c_X8_many (M := (md_th M, nR te ho ow hs ra lo (nI n) st av so ln, md_pt M, md_re M, md_sd M, md_be M, md_pb M, md_ac M, od, md_ad M, md_wy M, md_so M, md_rl M, md_io M, md_po M, md_sp M, md_rs M, md_st M, md_av M, md_ip M, md_tx M, md_tm M, md_ta M, md_td M, md_wo M, md_sq M, md_tk M, md_bg M, md_nu M, md_wr M)) (show (xw_up G 21 (pM v (md_th M) (nR te ho ow hs ra lo (nI n) st av so ln) (md_pt M) (md_re M) (md_sd M) (md_be M) (md_pb M) (md_ac M) od (md_ad M) (md_wy M) (md_so M) (md_rl M) (md_io M) (md_po M) (md_sp M) (md_rs M) (md_st M) (md_av M) (md_ip M) (md_tx M) (md_tm M) (md_ta M) (md_td M) (md_wo M) (md_sq M) (md_tk M) (md_bg M) (md_nu M) (md_wr M))) 21 = pM v (md_th M) (nR te ho ow hs ra lo (nI n) st av so ln) (md_pt M) (md_re M) (md_sd M) (md_be M) (md_pb M) (md_ac M) od (md_ad M) (md_wy M) (md_so M) (md_rl M) (md_io M) (md_po M) (md_sp M) (md_rs M) (md_st M) (md_av M) (md_ip M) (md_tx M) (md_tm M) (md_ta M) (md_td M) (md_wo M) (md_sq M) (md_tk M) (md_bg M) (md_nu M) (md_wr M) from xw_up_s)) (xw_at xw_up_s rfl) rfl dX8_laysOrder_4 ⟨Nat.le_of_ble_eq_true rfl, Nat.le_of_ble_eq_true rfl⟩ rfl (Nat.le_of_ble_eq_true rfl) rfl rfl ?_
    refine xj_icmp_ge (tgt := 69) hk dX8_laysOrder_7 (by decide) (fun c7 => ?_) (fun c7 => ?_)
    · have c7 : n ≤ k := (nI_leI (a := n) (b := k) (by omega) (by omega)).mp c7
      have e9 : k = n := by omega
      subst e9
      exact kx _ _ hod hi hsr
    · have c7 : ¬ n ≤ k := fun q => c7 ((nI_leI (a := n) (b := k) (by omega) (by omega)).mpr q)
      refine xj_iload_n (i := 1) hk dX8_laysOrder_10 rfl rfl ?_
      refine xj_istore_n (i := 2) (ls2 := [some (.ref (xw_ad v 21 0)), some (.int (nI k)), some (.int (nI k))]) hk dX8_laysOrder_11 rfl (by decide) rfl rfl ?_
      refine xj.eqG (G' := xw_up G 21 (pM v (md_th M) (nR te ho ow hs ra lo (nI n) st av so ln) (md_pt M) (md_re M) (md_sd M) (md_be M) (md_pb M) (md_ac M) (shU k k od) (md_ad M) (md_wy M) (md_so M) (md_rl M) (md_io M) (md_po M) (md_sp M) (md_rs M) (md_st M) (md_av M) (md_ip M) (md_tx M) (md_tm M) (md_ta M) (md_td M) (md_wo M) (md_sq M) (md_tk M) (md_bg M) (md_nu M) (md_wr M))) (by simp only [shU_0]) ?_
      refine l_X8_laysOrder_12 hk hz hM hn30 (by omega) hod hi (fun a ha hb h0 => ?_) (k + 1) k (by omega) (by omega) (fun j h1 h2 => absurd h2 (by omega))
      refine xj_aload_n (i := 0) hk dX8_laysOrder_56 rfl rfl ?_
      refine xj_getfield hk dX8_laysOrder_57 fl_X8_33 (xw_at xw_up_s rfl) rfl ?_
      refine xj_iload_n (i := 2) hk dX8_laysOrder_60 rfl rfl ?_
      refine xj_iload_n (i := 1) hk dX8_laysOrder_61 rfl rfl ?_
      refine xj_iastore (k := a) (G2 := xw_up G 21 (pM v (md_th M) (nR te ho ow hs ra lo (nI n) st av so ln) (md_pt M) (md_re M) (md_sd M) (md_be M) (md_pb M) (md_ac M) (xu (shU a k od) a (nI k)) (md_ad M) (md_wy M) (md_so M) (md_rl M) (md_io M) (md_po M) (md_sp M) (md_rs M) (md_st M) (md_av M) (md_ip M) (md_tx M) (md_tm M) (md_ta M) (md_td M) (md_wo M) (md_sq M) (md_tk M) (md_bg M) (md_nu M) (md_wr M))) hk dX8_laysOrder_62 (xw_at xw_up_s rfl) (xi_n (by omega) (by decide)) (xw_wr2 rfl) ?_
      refine xj_iinc (i := 1) (x2 := nI (k + 1)) (ls2 := [some (.ref (xw_ad v 21 0)), some (.int (nI (k + 1))), some (.int (nI a))]) hk dX8_laysOrder_63 rfl (nI_1 k) (by decide) rfl rfl ?_
      refine xj_goto (tgt := 2) hk dX8_laysOrder_66 (by decide) ?_
      refine xj.le (ls' := [some (.ref (xw_ad v 21 0)), some (.int (nI (k + 1))), none]) (by simp [xl_le] <;> rfl) ?_
      exact ih (k + 1) _ _ (by omega) (by omega) (pls_ins2 hod ha) (ins1_inj ha (by omega) (inj_x hi)) (srt_ins2 hi hsr ha hb h0)

set_option maxHeartbeats 1000000 in
set_option maxRecDepth 10000 in
theorem c_X8_laysOrder {v : xw_V} {G : xw_G} {M : md_T} {te ho ow hs ra lo st av so : Nat → Int32} {ln : Int32} {n : Nat} (hM : G 21 = pM v (md_th M) (nR te ho ow hs ra lo (nI n) st av so ln) (md_pt M) (md_re M) (md_sd M) (md_be M) (md_pb M) (md_ac M) (md_od M) (md_ad M) (md_wy M) (md_so M) (md_rl M) (md_io M) (md_po M) (md_sp M) (md_rs M) (md_st M) (md_av M) (md_ip M) (md_tx M) (md_tm M) (md_ta M) (md_td M) (md_wo M) (md_sq M) (md_tk M) (md_bg M) (md_nu M) (md_wr M)) (hn30 : n ≤ 30) : xk_Con v yX8_laysOrder cX8_laysOrder 3 none 1 21 [.ref (xw_ad v 21 0)] G (fun r G' => r = none ∧ ∃ (od : Nat → Int32) (p : Nat → Nat), pls n od p ∧ inj n p ∧ srt ra n p ∧ G' = xw_up G 21 (pM v (md_th M) (nR te ho ow hs ra lo (nI n) st av so ln) (md_pt M) (md_re M) (md_sd M) (md_be M) (md_pb M) (md_ac M) od (md_ad M) (md_wy M) (md_so M) (md_rl M) (md_io M) (md_po M) (md_sp M) (md_rs M) (md_st M) (md_av M) (md_ip M) (md_tx M) (md_tm M) (md_ta M) (md_td M) (md_wo M) (md_sq M) (md_tk M) (md_bg M) (md_nu M) (md_wr M))) := by
  refine xk_of (ls0 := [some (.ref (xw_ad v 21 0)), none, none]) (by decide) rfl (Nat.le_of_ble_eq_true rfl) ?_
  intro κ z hk hz
  refine xj_iconst (x := 0) hk dX8_laysOrder_0 (by decide) ?_
  refine xj_istore_n (i := 1) (ls2 := [some (.ref (xw_ad v 21 0)), some (.int 0), none]) hk dX8_laysOrder_1 rfl (by decide) rfl rfl ?_
  refine xj.eqG (G' := xw_up G 21 (pM v (md_th M) (nR te ho ow hs ra lo (nI n) st av so ln) (md_pt M) (md_re M) (md_sd M) (md_be M) (md_pb M) (md_ac M) (md_od M) (md_ad M) (md_wy M) (md_so M) (md_rl M) (md_io M) (md_po M) (md_sp M) (md_rs M) (md_st M) (md_av M) (md_ip M) (md_tx M) (md_tm M) (md_ta M) (md_td M) (md_wo M) (md_sq M) (md_tk M) (md_bg M) (md_nu M) (md_wr M))) (xw_up_same hM).symm ?_
  refine l_X8_laysOrder_2 hk hz hM hn30 (fun od p hod hi hsr => ?_) (n + 1) 0 (md_od M) (fun x => x) (by omega) (by omega) (fun j h => absurd h (by omega)) (id_inj 0) (fun i j _ h => absurd h (by omega))
  refine xj_return hk hz dX8_laysOrder_69 ?_
  exact ⟨rfl, od, p, hod, hi, hsr, rfl⟩


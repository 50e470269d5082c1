set_option maxHeartbeats 1000000 in
set_option maxRecDepth 10000 in
theorem l_X8_ownedBy_4 {v : xw_V} {κ : xk_K} {post : Option Value → xw_G → Prop} {z : Nat × Nat × Nat} {G : xw_G} {M : md_T} {te ho ow hs ra lo st av so : Nat → Int32} {bi ln : Int32} (hk : xk_Ok v κ yX8_ownedBy cX8_ownedBy 4 (some .int) 0 0) (hz : xk_zf κ = z) (hM : G 21 = pM v (md_th M) (nR te ho ow hs ra lo bi st av so ln) (md_pt M) (md_re M) (md_sd M) (md_be M) (md_pb M) (md_ac M) (md_od M) (md_ad M) (md_wy M) (md_so M) (md_rl M) (md_io M) (md_po M) (md_sp M) (md_rs M) (md_st M) (md_av M) (md_ip M) (md_tx M) (md_tm M) (md_ta M) (md_td M) (md_wo M) (md_sq M) (md_tk M) (md_bg M) (md_nu M) (md_wr M)) (x : Int32) (kx : xj v κ post z G 32 [some (.ref (xw_ad v 21 0)), some (.int x), some (.int (sm (fun j => if ow j = x then 1 else 0) 8)), some (.int (nI 8))] []) : ∀ (m : Nat) (k : Nat), 8 - k < m → k ≤ 8 → xj v κ post z G 4 [some (.ref (xw_ad v 21 0)), some (.int x), some (.int (sm (fun j => if ow j = x then 1 else 0) k)), some (.int (nI k))] [] := by
  intro m
  induction m with
  | zero => intro k h; exact absurd h (Nat.not_lt_zero _)
  | succ m ih =>
    intro k hm hi
    refine xj_iload_n (i := 3) hk dX8_ownedBy_4 rfl rfl ?_
    refine xj_bipush (x := 8) hk dX8_ownedBy_5 (by decide) ?_
    refine xj_icmp_ge (tgt := 32) hk dX8_ownedBy_7 (by decide) (fun c7 => ?_) (fun c7 => ?_)
    · have c7 : 8 ≤ k := (nI_leI (a := 8) (b := k) (by omega) (by omega)).mp c7
      have e9 : k = 8 := by omega
      subst e9
      exact kx
    · have c7 : ¬ 8 ≤ k := fun q => c7 ((nI_leI (a := 8) (b := k) (by omega) (by omega)).mpr q)
      refine xj_aload_n (i := 0) hk dX8_ownedBy_10 rfl rfl ?_
      refine xj_getfield hk dX8_ownedBy_11 fl_X8_13 (xw_at hM rfl) rfl ?_
      refine xj_bipush (x := 15) hk dX8_ownedBy_14 (by decide) ?_
      refine xj_iload_n (i := 3) hk dX8_ownedBy_16 rfl rfl ?_
      refine xj_iadd hk dX8_ownedBy_17 ?_
      refine xj.eqi (x' := nI (15 + k)) (nI_add 15 k) ?_
      refine xj_iaload (k := 15 + k) hk dX8_ownedBy_18 (xw_at hM rfl) (xi_n (by omega) (by decide)) ?_
      refine xj.eqi (x' := ow k) (rR_ow (k := k) (by omega)) ?_
      refine xj_iload_n (i := 1) hk dX8_ownedBy_19 rfl rfl ?_
      refine xj_icmp_ne (tgt := 26) hk dX8_ownedBy_20 (by decide) (fun c20 => ?_) (fun c20 => ?_)
      · refine xj_iinc (i := 3) (x2 := nI (k + 1)) (ls2 := [some (.ref (xw_ad v 21 0)), some (.int x), some (.int (sm (fun j => if ow j = x then 1 else 0) k)), some (.int (nI (k + 1)))]) hk dX8_ownedBy_26 rfl (nI_1 k) (by decide) rfl rfl ?_
        refine xj_goto (tgt := 4) hk dX8_ownedBy_29 (by decide) ?_
        refine xj.to (ls' := [some (.ref (xw_ad v 21 0)), some (.int x), some (.int (sm (fun j => if ow j = x then 1 else 0) ((k + 1)))), some (.int (nI ((k + 1))))]) (by simp [sm, *]) (ih (k + 1) (by omega) (by omega))
      · refine xj_iinc (i := 2) (x2 := (sm (fun j => if ow j = x then 1 else 0) k) + 1) (ls2 := [some (.ref (xw_ad v 21 0)), some (.int x), some (.int ((sm (fun j => if ow j = x then 1 else 0) k) + 1)), some (.int (nI k))]) hk dX8_ownedBy_23 rfl rfl (by decide) rfl rfl ?_
        refine xj_iinc (i := 3) (x2 := nI (k + 1)) (ls2 := [some (.ref (xw_ad v 21 0)), some (.int x), some (.int ((sm (fun j => if ow j = x then 1 else 0) k) + 1)), some (.int (nI (k + 1)))]) hk dX8_ownedBy_26 rfl (nI_1 k) (by decide) rfl rfl ?_
        refine xj_goto (tgt := 4) hk dX8_ownedBy_29 (by decide) ?_
        refine xj.to (ls' := [some (.ref (xw_ad v 21 0)), some (.int x), some (.int (sm (fun j => if ow j = x then 1 else 0) ((k + 1)))), some (.int (nI ((k + 1))))]) (by simp [sm, *]) (ih (k + 1) (by omega) (by omega))

set_option maxHeartbeats 1000000 in
set_option maxRecDepth 10000 in
theorem c_X8_ownedBy {v : xw_V} {G : xw_G} {M : md_T} {te ho ow hs ra lo st av so : Nat → Int32} {bi ln : Int32} (hM : G 21 = pM v (md_th M) (nR te ho ow hs ra lo bi st av so ln) (md_pt M) (md_re M) (md_sd M) (md_be M) (md_pb M) (md_ac M) (md_od M) (md_ad M) (md_wy M) (md_so M) (md_rl M) (md_io M) (md_po M) (md_sp M) (md_rs M) (md_st M) (md_av M) (md_ip M) (md_tx M) (md_tm M) (md_ta M) (md_td M) (md_wo M) (md_sq M) (md_tk M) (md_bg M) (md_nu M) (md_wr M)) (x : Int32) : xk_Con v yX8_ownedBy cX8_ownedBy 4 (some .int) 0 0 [.ref (xw_ad v 21 0), .int x] G (xk_ret (some (.int (ownd ow x))) G) := by
  refine xk_of (ls0 := [some (.ref (xw_ad v 21 0)), some (.int x), none, none]) (by decide) rfl (Nat.le_of_ble_eq_true rfl) ?_
  intro κ z hk hz
  refine xj_iconst (x := 0) hk dX8_ownedBy_0 (by decide) ?_
  refine xj_istore_n (i := 2) (ls2 := [some (.ref (xw_ad v 21 0)), some (.int x), some (.int 0), none]) hk dX8_ownedBy_1 rfl (by decide) rfl rfl ?_
  refine xj_iconst (x := 0) hk dX8_ownedBy_2 (by decide) ?_
  refine xj_istore_n (i := 3) (ls2 := [some (.ref (xw_ad v 21 0)), some (.int x), some (.int 0), some (.int 0)]) hk dX8_ownedBy_3 rfl (by decide) rfl rfl ?_
  refine l_X8_ownedBy_4 hk hz hM x ?_ (8 + 1) 0 (by omega) (by omega)
  refine xj_iload_n (i := 2) hk dX8_ownedBy_32 rfl rfl ?_
  refine xj_ireturn hk hz dX8_ownedBy_33 ?_
  exact ⟨rfl, rfl⟩

theorem mIn_of {x : Int32} {m : Nat} (hm : m < 2 ^ 31) (h : mIn x 0 (nI m) = true) : ∃ j, j ≤ m ∧ x = nI j := by
  simp only [mIn, Bool.and_eq_true, Bool.not_eq_true', decide_eq_false_iff_not] at h
  obtain ⟨j, hj, rfl⟩ := nI_of h.1
  refine ⟨j, ?_, rfl⟩
  rcases Nat.lt_or_ge m j with q | q
  · exact absurd (nI_lt q hj) h.2
  · exact q
theorem mIn_nI {j m : Nat} (hm : m < 2 ^ 31) (h : j ≤ m) : mIn (nI j) 0 (nI m) = true := by
  simp only [mIn, Bool.and_eq_true, Bool.not_eq_true', decide_eq_false_iff_not]
  exact ⟨nI_pos (by omega), fun q => absurd ((nI_ltI (a := m) (b := j) hm (by omega)).mp q) (by omega)⟩
theorem mIn_isH (x : Int32) : mIn x 0 7 = isH x := by
  by_cases c : isH x = true
  · obtain ⟨j, hj, rfl⟩ := isH_of c
    rw [c]; exact mIn_nI (m := 7) (by decide) (by omega)
  · have c := Bool.eq_false_iff.mpr c
    rw [c, Bool.eq_false_iff]
    intro q
    obtain ⟨j, hj, rfl⟩ := mIn_of (m := 7) (by decide) q
    rw [show isH (nI j) = true from hasB_nI (m := 8) (n := 8) rfl (by omega) (by omega)] at c
    cases c
theorem mIn_bid {n : Nat} (hn : n ≤ 30) (x : Int32) : mIn x 0 (nI n - 1) = hasB (nI n) x := by
  by_cases z : n = 0
  · subst z
    rw [show (nI 0 - 1 : Int32) = -1 from rfl]
    have e1 : hasB (nI 0) x = false := by
      rw [Bool.eq_false_iff]; intro q
      obtain ⟨j, hj, rfl⟩ := hasB_of (n := 0) rfl (by omega) q
      omega
    rw [e1, Bool.eq_false_iff]
    intro q
    simp only [mIn, Bool.and_eq_true, Bool.not_eq_true', decide_eq_false_iff_not] at q
    have a := Int32.not_lt.mp q.1
    have b := Int32.not_lt.mp q.2
    exact absurd (Int32.le_trans a b) (by decide)
  · rw [nI_sub1 (k := n) (by omega)]
    by_cases c : hasB (nI n) x = true
    · obtain ⟨j, hj, rfl⟩ := hasB_of rfl hn c
      rw [c]; exact mIn_nI (by omega) (by omega)
    · have c := Bool.eq_false_iff.mpr c
      rw [c, Bool.eq_false_iff]
      intro q
      obtain ⟨j, hj, rfl⟩ := mIn_of (by omega) q
      rw [hasB_nI rfl hn (show j < n by omega)] at c
      cases c
set_option maxHeartbeats 1000000 in
set_option maxRecDepth 10000 in
theorem l_X8_likeAhead {v : xw_V} {κ : xk_K} {post : Option Value → xw_G → Prop} {z : Nat × Nat × Nat} {G : xw_G} {M : md_T} {te ho ow hs ra lo st av so : Nat → Int32} {bi ln : Int32} {b : Nat} (hk : xk_Ok v κ yX8_likeAhead cX8_likeAhead 3 (some .int) 1 21) (hz : xk_zf κ = z) (hM : G 21 = pM v (md_th M) (nR te ho ow hs ra lo bi st av so ln) (md_pt M) (md_re M) (md_sd M) (md_be M) (md_pb M) (md_ac M) (md_od M) (md_ad M) (md_wy M) (md_so M) (md_rl M) (md_io M) (md_po M) (md_sp M) (md_rs M) (md_st M) (md_av M) (md_ip M) (md_tx M) (md_tm M) (md_ta M) (md_td M) (md_wo M) (md_sq M) (md_tk M) (md_bg M) (md_nu M) (md_wr M)) (hb : b < 30) (kx : fnd (like hs ra b) b = b → xj v κ post z G 41 [some (.ref (xw_ad v 21 0)), some (.int (nI b)), some (.int (nI b))] []) (kr : ∀ k : Nat, k < b → fnd (like hs ra b) b = k → xj v κ post z G 33 [some (.ref (xw_ad v 21 0)), some (.int (nI b)), some (.int (nI k))] []) : ∀ (m : Nat) (k : Nat), b - k < m → k ≤ b → fnd (like hs ra b) k = k → xj v κ post z G 2 [some (.ref (xw_ad v 21 0)), some (.int (nI b)), some (.int (nI k))] [] := by
  intro m
  induction m with
  | zero => intro k h; exact absurd h (Nat.not_lt_zero _)
  | succ m ih =>
    intro k hm hi hf
    refine xj_iload_n (i := 2) hk dX8_likeAhead_2 rfl rfl ?_
    refine xj_iload_n (i := 1) hk dX8_likeAhead_3 rfl rfl ?_
    refine xj_icmp_ge (tgt := 41) hk dX8_likeAhead_4 (by decide) (fun c4 => ?_) (fun c4 => ?_)
    · have c4 : b ≤ k := (nI_leI (a := b) (b := k) (by omega) (by omega)).mp c4
      have e9 : k = b := by omega
      subst e9
      exact kx hf
    · have c4 : ¬ b ≤ k := fun q => c4 ((nI_leI (a := b) (b := k) (by omega) (by omega)).mpr q)
      refine xj_aload_n (i := 0) hk dX8_likeAhead_7 rfl rfl ?_
      refine xj_iload_n (i := 2) hk dX8_likeAhead_8 rfl rfl ?_
      refine xj_callV hk hz (fr1 := 0) (lo1 := 0) (r1 := some (.int (hs k))) (As := [.int (nI k)]) (st := []) (st2 := [.int (hs k)]) (G1 := G) ml_X8_81 (c_X8_houseOf (b := k) (M := M) (show G 21 = pM v (md_th M) (nR te ho ow hs ra lo bi st av so ln) (md_pt M) (md_re M) (md_sd M) (md_be M) (md_pb M) (md_ac M) (md_od M) (md_ad M) (md_wy M) (md_so M) (md_rl M) (md_io M) (md_po M) (md_sp M) (md_rs M) (md_st M) (md_av M) (md_ip M) (md_tx M) (md_tm M) (md_ta M) (md_td M) (md_wo M) (md_sq M) (md_tk M) (md_bg M) (md_nu M) (md_wr M) from hM) (by omega)) (xw_at hM rfl) rfl dX8_likeAhead_9 ⟨Nat.le_of_ble_eq_true rfl, Nat.le_of_ble_eq_true rfl⟩ rfl (Nat.le_of_ble_eq_true rfl) rfl rfl ?_
      refine xj_aload_n (i := 0) hk dX8_likeAhead_12 rfl rfl ?_
      refine xj_iload_n (i := 1) hk dX8_likeAhead_13 rfl rfl ?_
      refine xj_callV hk hz (fr1 := 0) (lo1 := 0) (r1 := some (.int (hs b))) (As := [.int (nI b)]) (st := [.int (hs k)]) (st2 := [.int (hs b), .int (hs k)]) (G1 := G) ml_X8_81 (c_X8_houseOf (b := b) (M := M) (show G 21 = pM v (md_th M) (nR te ho ow hs ra lo bi st av so ln) (md_pt M) (md_re M) (md_sd M) (md_be M) (md_pb M) (md_ac M) (md_od M) (md_ad M) (md_wy M) (md_so M) (md_rl M) (md_io M) (md_po M) (md_sp M) (md_rs M) (md_st M) (md_av M) (md_ip M) (md_tx M) (md_tm M) (md_ta M) (md_td M) (md_wo M) (md_sq M) (md_tk M) (md_bg M) (md_nu M) (md_wr M) from hM) (by omega)) (xw_at hM rfl) rfl dX8_likeAhead_14 ⟨Nat.le_of_ble_eq_true rfl, Nat.le_of_ble_eq_true rfl⟩ rfl (Nat.le_of_ble_eq_true rfl) rfl rfl ?_
      refine xj_icmp_ne (tgt := 35) hk dX8_likeAhead_17 (by decide) (fun c17 => ?_) (fun c17 => ?_)
      · refine xj_iinc (i := 2) (x2 := nI (k + 1)) (ls2 := [some (.ref (xw_ad v 21 0)), some (.int (nI b)), some (.int (nI (k + 1)))]) hk dX8_likeAhead_35 rfl (nI_1 k) (by decide) rfl rfl ?_
        refine xj_goto (tgt := 2) hk dX8_likeAhead_38 (by decide) ?_
        exact ih (k + 1) (by omega) (by omega) (fnd_no hf (by simp [like, *]))
      · refine xj_aload_n (i := 0) hk dX8_likeAhead_20 rfl rfl ?_
        refine xj_iload_n (i := 2) hk dX8_likeAhead_21 rfl rfl ?_
        refine xj_callV hk hz (fr1 := 0) (lo1 := 0) (r1 := some (.int (ra k))) (As := [.int (nI k)]) (st := []) (st2 := [.int (ra k)]) (G1 := G) ml_X8_77 (c_X8_rateOf (b := k) (M := M) (show G 21 = pM v (md_th M) (nR te ho ow hs ra lo bi st av so ln) (md_pt M) (md_re M) (md_sd M) (md_be M) (md_pb M) (md_ac M) (md_od M) (md_ad M) (md_wy M) (md_so M) (md_rl M) (md_io M) (md_po M) (md_sp M) (md_rs M) (md_st M) (md_av M) (md_ip M) (md_tx M) (md_tm M) (md_ta M) (md_td M) (md_wo M) (md_sq M) (md_tk M) (md_bg M) (md_nu M) (md_wr M) from hM) (by omega)) (xw_at hM rfl) rfl dX8_likeAhead_22 ⟨Nat.le_of_ble_eq_true rfl, Nat.le_of_ble_eq_true rfl⟩ rfl (Nat.le_of_ble_eq_true rfl) rfl rfl ?_
        refine xj_aload_n (i := 0) hk dX8_likeAhead_25 rfl rfl ?_
        refine xj_iload_n (i := 1) hk dX8_likeAhead_26 rfl rfl ?_
        refine xj_callV hk hz (fr1 := 0) (lo1 := 0) (r1 := some (.int (ra b))) (As := [.int (nI b)]) (st := [.int (ra k)]) (st2 := [.int (ra b), .int (ra k)]) (G1 := G) ml_X8_77 (c_X8_rateOf (b := b) (M := M) (show G 21 = pM v (md_th M) (nR te ho ow hs ra lo bi st av so ln) (md_pt M) (md_re M) (md_sd M) (md_be M) (md_pb M) (md_ac M) (md_od M) (md_ad M) (md_wy M) (md_so M) (md_rl M) (md_io M) (md_po M) (md_sp M) (md_rs M) (md_st M) (md_av M) (md_ip M) (md_tx M) (md_tm M) (md_ta M) (md_td M) (md_wo M) (md_sq M) (md_tk M) (md_bg M) (md_nu M) (md_wr M) from hM) (by omega)) (xw_at hM rfl) rfl dX8_likeAhead_27 ⟨Nat.le_of_ble_eq_true rfl, Nat.le_of_ble_eq_true rfl⟩ rfl (Nat.le_of_ble_eq_true rfl) rfl rfl ?_
        refine xj_icmp_ne (tgt := 35) hk dX8_likeAhead_30 (by decide) (fun c30 => ?_) (fun c30 => ?_)
        · refine xj_iinc (i := 2) (x2 := nI (k + 1)) (ls2 := [some (.ref (xw_ad v 21 0)), some (.int (nI b)), some (.int (nI (k + 1)))]) hk dX8_likeAhead_35 rfl (nI_1 k) (by decide) rfl rfl ?_
          refine xj_goto (tgt := 2) hk dX8_likeAhead_38 (by decide) ?_
          exact ih (k + 1) (by omega) (by omega) (fnd_no hf (by simp [like, *]))
        · exact kr k (by omega) (fnd_at hf (by simp [like, *]) b (by omega))

def lkA (hs ra : Nat → Int32) (b : Nat) : Int32 := if fnd (like hs ra b) b < b then nI (fnd (like hs ra b) b) else -1
set_option maxHeartbeats 1000000 in
set_option maxRecDepth 10000 in
theorem c_X8_likeAhead {v : xw_V} {G : xw_G} {M : md_T} {te ho ow hs ra lo st av so : Nat → Int32} {bi ln : Int32} {b : Nat} (hM : G 21 = pM v (md_th M) (nR te ho ow hs ra lo bi st av so ln) (md_pt M) (md_re M) (md_sd M) (md_be M) (md_pb M) (md_ac M) (md_od M) (md_ad M) (md_wy M) (md_so M) (md_rl M) (md_io M) (md_po M) (md_sp M) (md_rs M) (md_st M) (md_av M) (md_ip M) (md_tx M) (md_tm M) (md_ta M) (md_td M) (md_wo M) (md_sq M) (md_tk M) (md_bg M) (md_nu M) (md_wr M)) (hb : b < 30) : xk_Con v yX8_likeAhead cX8_likeAhead 3 (some .int) 1 21 [.ref (xw_ad v 21 0), .int (nI b)] G (xk_ret (some (.int (lkA hs ra b))) G) := by
  refine xk_of (ls0 := [some (.ref (xw_ad v 21 0)), some (.int (nI b)), none]) (by decide) rfl (Nat.le_of_ble_eq_true rfl) ?_
  intro κ z hk hz
  refine xj_iconst (x := 0) hk dX8_likeAhead_0 (by decide) ?_
  refine xj_istore_n (i := 2) (ls2 := [some (.ref (xw_ad v 21 0)), some (.int (nI b)), some (.int 0)]) hk dX8_likeAhead_1 rfl (by decide) rfl rfl ?_
  refine l_X8_likeAhead hk hz hM hb (fun q9 => ?_) (fun k hk9 q9 => ?_) (b + 1) 0 (by omega) (by omega) rfl
  · refine xj_iconst (x := (-1)) hk dX8_likeAhead_41 (by decide) ?_
    refine xj_ireturn hk hz dX8_likeAhead_42 ?_
    exact ⟨by simp only [lkA]; rw [q9, if_neg (Nat.lt_irrefl _)], rfl⟩
  · refine xj_iload_n (i := 2) hk dX8_likeAhead_33 rfl rfl ?_
    refine xj_ireturn hk hz dX8_likeAhead_34 ?_
    exact ⟨by simp only [lkA]; rw [q9, if_pos hk9], rfl⟩


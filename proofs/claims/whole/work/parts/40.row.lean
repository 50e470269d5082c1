theorem nI_mul (a b : Nat) : nI a * nI b = nI (a * b) := (Int32.ofNat_mul a b).symm
/-- the reference's row: terms, holds, owners, how many bids, the bids, how many lines, the lines -/
def nR (te ho ow hs ra lo : Nat → Int32) (bi : Int32) (st av so : Nat → Int32) (ln : Int32) : Nat → Int32 := fun x =>
  if x < 7 then te x else if x < 15 then ho (x - 7) else if x < 23 then ow (x - 15) else if x = 23 then bi
  else if x < 114 then (if x % 3 = 0 then hs ((x - 24) / 3) else if x % 3 = 1 then ra ((x - 24) / 3) else lo ((x - 24) / 3))
  else if x = 114 then ln
  else if x < 139 then (if x % 3 = 1 then st ((x - 115) / 3) else if x % 3 = 2 then av ((x - 115) / 3) else so ((x - 115) / 3)) else 0
theorem rR_te {te ho ow hs ra lo st av so : Nat → Int32} {bi ln : Int32} {k : Nat} (h : k < 7) : nR te ho ow hs ra lo bi st av so ln (k) = te k := by
  simp only [nR]
  repeat' split
  all_goals first | (exfalso; omega) | (congr 1; omega) | rfl
theorem wR_te {te ho ow hs ra lo st av so : Nat → Int32} {bi ln : Int32} {k : Nat} {x : Int32} (h : k < 7) : xu (nR te ho ow hs ra lo bi st av so ln) (k) x = nR (xu te k x) ho ow hs ra lo bi st av so ln := by
  funext j
  by_cases q : j = k
  · subst q; rw [xu_s, rR_te h, xu_s]
  · rw [xu_n q]
    simp only [nR]
    repeat' split
    all_goals first | rfl | (rw [xu_n (by omega)]) | (exfalso; omega)
theorem rR_ho {te ho ow hs ra lo st av so : Nat → Int32} {bi ln : Int32} {k : Nat} (h : k < 8) : nR te ho ow hs ra lo bi st av so ln (7 + k) = ho k := by
  simp only [nR]
  repeat' split
  all_goals first | (exfalso; omega) | (congr 1; omega) | rfl
theorem wR_ho {te ho ow hs ra lo st av so : Nat → Int32} {bi ln : Int32} {k : Nat} {x : Int32} (h : k < 8) : xu (nR te ho ow hs ra lo bi st av so ln) (7 + k) x = nR te (xu ho k x) ow hs ra lo bi st av so ln := by
  funext j
  by_cases q : j = 7 + k
  · subst q; rw [xu_s, rR_ho h, xu_s]
  · rw [xu_n q]
    simp only [nR]
    repeat' split
    all_goals first | rfl | (rw [xu_n (by omega)]) | (exfalso; omega)
theorem rR_ow {te ho ow hs ra lo st av so : Nat → Int32} {bi ln : Int32} {k : Nat} (h : k < 8) : nR te ho ow hs ra lo bi st av so ln (15 + k) = ow k := by
  simp only [nR]
  repeat' split
  all_goals first | (exfalso; omega) | (congr 1; omega) | rfl
theorem wR_ow {te ho ow hs ra lo st av so : Nat → Int32} {bi ln : Int32} {k : Nat} {x : Int32} (h : k < 8) : xu (nR te ho ow hs ra lo bi st av so ln) (15 + k) x = nR te ho (xu ow k x) hs ra lo bi st av so ln := by
  funext j
  by_cases q : j = 15 + k
  · subst q; rw [xu_s, rR_ow h, xu_s]
  · rw [xu_n q]
    simp only [nR]
    repeat' split
    all_goals first | rfl | (rw [xu_n (by omega)]) | (exfalso; omega)
theorem rR_hs {te ho ow hs ra lo st av so : Nat → Int32} {bi ln : Int32} {k : Nat} (h : k < 30) : nR te ho ow hs ra lo bi st av so ln (24 + 3 * k) = hs k := by
  simp only [nR]
  repeat' split
  all_goals first | (exfalso; omega) | (congr 1; omega) | rfl
theorem wR_hs {te ho ow hs ra lo st av so : Nat → Int32} {bi ln : Int32} {k : Nat} {x : Int32} (h : k < 30) : xu (nR te ho ow hs ra lo bi st av so ln) (24 + 3 * k) x = nR te ho ow (xu hs k x) ra lo bi st av so ln := by
  funext j
  by_cases q : j = 24 + 3 * k
  · subst q; rw [xu_s, rR_hs h, xu_s]
  · rw [xu_n q]
    simp only [nR]
    repeat' split
    all_goals first | rfl | (rw [xu_n (by omega)]) | (exfalso; omega)
theorem rR_ra {te ho ow hs ra lo st av so : Nat → Int32} {bi ln : Int32} {k : Nat} (h : k < 30) : nR te ho ow hs ra lo bi st av so ln (24 + 3 * k + 1) = ra k := by
  simp only [nR]
  repeat' split
  all_goals first | (exfalso; omega) | (congr 1; omega) | rfl
theorem wR_ra {te ho ow hs ra lo st av so : Nat → Int32} {bi ln : Int32} {k : Nat} {x : Int32} (h : k < 30) : xu (nR te ho ow hs ra lo bi st av so ln) (24 + 3 * k + 1) x = nR te ho ow hs (xu ra k x) lo bi st av so ln := by
  funext j
  by_cases q : j = 24 + 3 * k + 1
  · subst q; rw [xu_s, rR_ra h, xu_s]
  · rw [xu_n q]
    simp only [nR]
    repeat' split
    all_goals first | rfl | (rw [xu_n (by omega)]) | (exfalso; omega)
theorem rR_lo {te ho ow hs ra lo st av so : Nat → Int32} {bi ln : Int32} {k : Nat} (h : k < 30) : nR te ho ow hs ra lo bi st av so ln (24 + 3 * k + 2) = lo k := by
  simp only [nR]
  repeat' split
  all_goals first | (exfalso; omega) | (congr 1; omega) | rfl
theorem wR_lo {te ho ow hs ra lo st av so : Nat → Int32} {bi ln : Int32} {k : Nat} {x : Int32} (h : k < 30) : xu (nR te ho ow hs ra lo bi st av so ln) (24 + 3 * k + 2) x = nR te ho ow hs ra (xu lo k x) bi st av so ln := by
  funext j
  by_cases q : j = 24 + 3 * k + 2
  · subst q; rw [xu_s, rR_lo h, xu_s]
  · rw [xu_n q]
    simp only [nR]
    repeat' split
    all_goals first | rfl | (rw [xu_n (by omega)]) | (exfalso; omega)
theorem rR_st {te ho ow hs ra lo st av so : Nat → Int32} {bi ln : Int32} {k : Nat} (h : k < 8) : nR te ho ow hs ra lo bi st av so ln (115 + 3 * k) = st k := by
  simp only [nR]
  repeat' split
  all_goals first | (exfalso; omega) | (congr 1; omega) | rfl
theorem wR_st {te ho ow hs ra lo st av so : Nat → Int32} {bi ln : Int32} {k : Nat} {x : Int32} (h : k < 8) : xu (nR te ho ow hs ra lo bi st av so ln) (115 + 3 * k) x = nR te ho ow hs ra lo bi (xu st k x) av so ln := by
  funext j
  by_cases q : j = 115 + 3 * k
  · subst q; rw [xu_s, rR_st h, xu_s]
  · rw [xu_n q]
    simp only [nR]
    repeat' split
    all_goals first | rfl | (rw [xu_n (by omega)]) | (exfalso; omega)
theorem rR_av {te ho ow hs ra lo st av so : Nat → Int32} {bi ln : Int32} {k : Nat} (h : k < 8) : nR te ho ow hs ra lo bi st av so ln (115 + 3 * k + 1) = av k := by
  simp only [nR]
  repeat' split
  all_goals first | (exfalso; omega) | (congr 1; omega) | rfl
theorem wR_av {te ho ow hs ra lo st av so : Nat → Int32} {bi ln : Int32} {k : Nat} {x : Int32} (h : k < 8) : xu (nR te ho ow hs ra lo bi st av so ln) (115 + 3 * k + 1) x = nR te ho ow hs ra lo bi st (xu av k x) so ln := by
  funext j
  by_cases q : j = 115 + 3 * k + 1
  · subst q; rw [xu_s, rR_av h, xu_s]
  · rw [xu_n q]
    simp only [nR]
    repeat' split
    all_goals first | rfl | (rw [xu_n (by omega)]) | (exfalso; omega)
theorem rR_so {te ho ow hs ra lo st av so : Nat → Int32} {bi ln : Int32} {k : Nat} (h : k < 8) : nR te ho ow hs ra lo bi st av so ln (115 + 3 * k + 2) = so k := by
  simp only [nR]
  repeat' split
  all_goals first | (exfalso; omega) | (congr 1; omega) | rfl
theorem wR_so {te ho ow hs ra lo st av so : Nat → Int32} {bi ln : Int32} {k : Nat} {x : Int32} (h : k < 8) : xu (nR te ho ow hs ra lo bi st av so ln) (115 + 3 * k + 2) x = nR te ho ow hs ra lo bi st av (xu so k x) ln := by
  funext j
  by_cases q : j = 115 + 3 * k + 2
  · subst q; rw [xu_s, rR_so h, xu_s]
  · rw [xu_n q]
    simp only [nR]
    repeat' split
    all_goals first | rfl | (rw [xu_n (by omega)]) | (exfalso; omega)
theorem rR_bi {te ho ow hs ra lo st av so : Nat → Int32} {bi ln : Int32} : nR te ho ow hs ra lo bi st av so ln 23 = bi := rfl
theorem wR_bi {te ho ow hs ra lo st av so : Nat → Int32} {bi ln : Int32} {x : Int32} : xu (nR te ho ow hs ra lo bi st av so ln) 23 x = nR te ho ow hs ra lo x st av so ln := by
  funext j
  by_cases q : j = 23
  · subst q; rw [xu_s]; rfl
  · rw [xu_n q]
    simp only [nR]
    repeat' split
    all_goals first | rfl | (exfalso; omega)
theorem rR_ln {te ho ow hs ra lo st av so : Nat → Int32} {bi ln : Int32} : nR te ho ow hs ra lo bi st av so ln 114 = ln := rfl
theorem wR_ln {te ho ow hs ra lo st av so : Nat → Int32} {bi ln : Int32} {x : Int32} : xu (nR te ho ow hs ra lo bi st av so ln) 114 x = nR te ho ow hs ra lo bi st av so x := by
  funext j
  by_cases q : j = 114
  · subst q; rw [xu_s]; rfl
  · rw [xu_n q]
    simp only [nR]
    repeat' split
    all_goals first | rfl | (exfalso; omega)
def mIn (x a b : Int32) : Bool := !(decide (x < a)) && !(decide (b < x))
set_option maxHeartbeats 1000000 in
set_option maxRecDepth 10000 in
theorem c_X8_in {v : xw_V} {G : xw_G}  (x a b : Int32) : xk_Con v yX8_in cX8_in 3 (some .boolean) 0 0 [.int x, .int a, .int b] G (xk_ret (some (.int (xb (mIn x a b)))) G) := by
  refine xk_of (ls0 := [some (.int x), some (.int a), some (.int b)]) (by decide) rfl (Nat.le_of_ble_eq_true rfl) ?_
  intro κ z hk hz
  refine xj_iload_n (i := 0) hk dX8_in_0 rfl rfl ?_
  refine xj_iload_n (i := 1) hk dX8_in_1 rfl rfl ?_
  refine xj_icmp_lt (tgt := 14) hk dX8_in_2 (by decide) (fun c2 => ?_) (fun c2 => ?_)
  · refine xj_iconst (x := 0) hk dX8_in_14 (by decide) ?_
    refine xj_zreturn hk hz dX8_in_15 (by decide) ?_
    exact ⟨by simp [mIn, xb, *], rfl⟩
  · refine xj_iload_n (i := 0) hk dX8_in_5 rfl rfl ?_
    refine xj_iload_n (i := 2) hk dX8_in_6 rfl rfl ?_
    refine xj_icmp_gt (tgt := 14) hk dX8_in_7 (by decide) (fun c7 => ?_) (fun c7 => ?_)
    · refine xj_iconst (x := 0) hk dX8_in_14 (by decide) ?_
      refine xj_zreturn hk hz dX8_in_15 (by decide) ?_
      exact ⟨by simp [mIn, xb, *], rfl⟩
    · refine xj_iconst (x := 1) hk dX8_in_10 (by decide) ?_
      refine xj_goto (tgt := 15) hk dX8_in_11 (by decide) ?_
      refine xj_zreturn hk hz dX8_in_15 (by decide) ?_
      exact ⟨by simp [mIn, xb, *], rfl⟩

set_option maxHeartbeats 1000000 in
set_option maxRecDepth 10000 in
theorem c_X8_isHouse {v : xw_V} {G : xw_G}  (x : Int32) : xk_Con v yX8_isHouse cX8_isHouse 1 (some .boolean) 1 22 [.int x] G (xk_ret (some (.int (xb (mIn x 0 7)))) G) := by
  refine xk_of (ls0 := [some (.int x)]) (by decide) rfl (Nat.le_of_ble_eq_true rfl) ?_
  intro κ z hk hz
  refine xj_iload_n (i := 0) hk dX8_isHouse_0 rfl rfl ?_
  refine xj_iconst (x := 0) hk dX8_isHouse_1 (by decide) ?_
  refine xj_bipush (x := 7) hk dX8_isHouse_2 (by decide) ?_
  refine xj_callS hk hz (fr1 := 0) (lo1 := 0) (r1 := some (.int (xb (mIn x 0 7)))) (As := [.int x, .int 0, .int 7]) (st := []) (st2 := [.int (xb (mIn x 0 7))]) (G1 := G) ml_X8_69 (c_X8_in x 0 7) dX8_isHouse_4 ⟨Nat.le_of_ble_eq_true rfl, Nat.le_of_ble_eq_true rfl⟩ rfl (Nat.le_of_ble_eq_true rfl) rfl rfl ?_
  refine xj_zreturn hk hz dX8_isHouse_7 (xb_nar _) ?_
  exact ⟨rfl, rfl⟩

set_option maxHeartbeats 1000000 in
set_option maxRecDepth 10000 in
theorem c_X8_isRate {v : xw_V} {G : xw_G}  (x : Int32) : xk_Con v yX8_isRate cX8_isRate 1 (some .boolean) 1 22 [.int x] G (xk_ret (some (.int (xb (mIn x 0 999)))) G) := by
  refine xk_of (ls0 := [some (.int x)]) (by decide) rfl (Nat.le_of_ble_eq_true rfl) ?_
  intro κ z hk hz
  refine xj_iload_n (i := 0) hk dX8_isRate_0 rfl rfl ?_
  refine xj_iconst (x := 0) hk dX8_isRate_1 (by decide) ?_
  refine xj_sipush (x := 999) hk dX8_isRate_2 (by decide) ?_
  refine xj_callS hk hz (fr1 := 0) (lo1 := 0) (r1 := some (.int (xb (mIn x 0 999)))) (As := [.int x, .int 0, .int 999]) (st := []) (st2 := [.int (xb (mIn x 0 999))]) (G1 := G) ml_X8_69 (c_X8_in x 0 999) dX8_isRate_5 ⟨Nat.le_of_ble_eq_true rfl, Nat.le_of_ble_eq_true rfl⟩ rfl (Nat.le_of_ble_eq_true rfl) rfl rfl ?_
  refine xj_zreturn hk hz dX8_isRate_8 (xb_nar _) ?_
  exact ⟨rfl, rfl⟩

set_option maxHeartbeats 1000000 in
set_option maxRecDepth 10000 in
theorem c_X8_areLots {v : xw_V} {G : xw_G}  (x : Int32) : xk_Con v yX8_areLots cX8_areLots 1 (some .boolean) 1 22 [.int x] G (xk_ret (some (.int (xb (mIn x 1 1000)))) G) := by
  refine xk_of (ls0 := [some (.int x)]) (by decide) rfl (Nat.le_of_ble_eq_true rfl) ?_
  intro κ z hk hz
  refine xj_iload_n (i := 0) hk dX8_areLots_0 rfl rfl ?_
  refine xj_iconst (x := 1) hk dX8_areLots_1 (by decide) ?_
  refine xj_sipush (x := 1000) hk dX8_areLots_2 (by decide) ?_
  refine xj_callS hk hz (fr1 := 0) (lo1 := 0) (r1 := some (.int (xb (mIn x 1 1000)))) (As := [.int x, .int 1, .int 1000]) (st := []) (st2 := [.int (xb (mIn x 1 1000))]) (G1 := G) ml_X8_69 (c_X8_in x 1 1000) dX8_areLots_5 ⟨Nat.le_of_ble_eq_true rfl, Nat.le_of_ble_eq_true rfl⟩ rfl (Nat.le_of_ble_eq_true rfl) rfl rfl ?_
  refine xj_zreturn hk hz dX8_areLots_8 (xb_nar _) ?_
  exact ⟨rfl, rfl⟩


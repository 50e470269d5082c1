theorem mIn_isR (x : Int32) : mIn x 0 999 = isR x := rfl
theorem mIn_isL (x : Int32) : mIn x 1 1000 = isL x := rfl
theorem lt30 {n : Nat} (hn : n ≤ 30) : decide (nI n < 30) = !(decide (n = 30)) := by
  by_cases c : n = 30
  · subst c; decide
  · have e : nI n < 30 := (nI_ltI (a := n) (b := 30) (by omega) (by omega)).mpr (by omega)
    rw [decide_eq_true e, decide_eq_false c]; rfl
theorem mcBid_eq {n : Nat} (hn : n ≤ 30) (h x q : Int32) : mcBid n h x q = canBid n h x q := by
  simp only [mcBid, canBid, mIn_isH, mIn_isR, mIn_isL, lt30 hn]
theorem mcOwn_eq {B : bk_T} (h x : Int32) : mcOwn (bk_ow B) h x = canOwn B h x := by
  simp only [mcOwn, canOwn, mIn_isH]
theorem mcHold_eq {B : bk_T} (h q : Int32) : mcHold (bk_ho B) h q = canHold B h q := by
  simp only [mcHold, canHold, mIn_isH]
  simp only [mIn, Bool.and_assoc]
theorem mcMove_eq {B : bk_T} {n : Nat} (hB : bk_bi B = nI n) (hn : n ≤ 30) (b x : Int32) : mcMove n b x = canMove B b x := by
  simp only [mcMove, canMove, mIn_bid hn, hB]
theorem mcChL_eq {B : bk_T} {n : Nat} (hB : bk_bi B = nI n) (hn : n ≤ 30) (b v : Int32) : mcChL n (bk_lo B) b v = (hasB (bk_bi B) b && canChL B b v) := by
  simp only [mcChL, canChL, mIn_bid hn, hB, mIn_isL, Bool.and_assoc]
theorem mcChR_eq {B : bk_T} {n : Nat} (hB : bk_bi B = nI n) (hn : n ≤ 30) (b v : Int32) : mcChR n (bk_ra B) b v = (hasB (bk_bi B) b && canChR B b v) := by
  simp only [mcChR, canChR, mIn_bid hn, hB, mIn_isR, Bool.and_assoc]
theorem mcCh_eq {B : bk_T} {n : Nat} (hB : bk_bi B = nI n) (hn : n ≤ 30) (b w v : Int32) : mcCh n (bk_ra B) (bk_lo B) b w v = canCh B b w v := by
  simp only [mcCh, canCh, mcChL_eq hB hn, mcChR_eq hB hn]
  by_cases c : w = 0
  · simp [c]
  · by_cases d : w = 1
    · simp [d]
    · simp [c, d]
theorem mIn_l {l : Nat} (x : Int32) : mIn x 0 (nI l) = canBack l x := by
  simp only [mIn, canBack]
  by_cases c : x ≤ nI l
  · rw [decide_eq_true c, decide_eq_false (Int32.not_lt.mpr c)]; rfl
  · rw [decide_eq_false c, decide_eq_true (Int32.not_le.mp c)]; rfl
theorem insR_xu {a n : Nat} {x : Int32} {f : Nat → Int32} : insR a n x f = xu (shU a n f) a x := rfl

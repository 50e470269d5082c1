theorem xu_xu {α : Type} (f : Nat → α) (k : Nat) (x y : α) : xu (xu f k x) k y = xu f k y := by funext j; by_cases h : j = k <;> simp [xu, h]
theorem cp_n {α : Type} {n : Nat} {f' f : Nat → α} (h : f' n = f n) : cpN n f' f = cpN (n + 1) f' f := by
  funext j
  simp only [cpN]
  by_cases h2 : j < n
  · simp [h2, Nat.lt_succ_of_lt h2]
  · by_cases h3 : j = n
    · subst h3; simp [h]
    · simp [h2, show ¬ j < n + 1 by omega]
theorem cp_e {α : Type} {n : Nat} {f' f : Nat → α} {x : α} (h : f' n = x) : xu (cpN n f' f) n x = cpN (n + 1) f' f := by rw [← h]; exact cp_s n f' f
def oob (te : Nat → Int32) (r : Int32) : Bool := if r = -1 then false else if r < te 3 then true else if r ≤ te 4 then false else true
/-- room of an owner: what is left of it after the houses before h -/
def rmR (te ho ow : Nat → Int32) (o : Nat) : Nat → Int32
  | 0 => te 1 * te 0 / 100
  | h + 1 => if xn (ow h) = o then rmR te ho ow o h - ho h else rmR te ho ow o h
def mx0 (x : Int32) : Int32 := if 0 < x then x else 0
def rm8 (te ho ow : Nat → Int32) (o : Nat) : Int32 := mx0 (rmR te ho ow o 8)
def okOw (ow : Nat → Int32) : Prop := ∀ h, h < 8 → xi (ow h) (xn (ow h)) 8
def okHs (hs : Nat → Int32) (n : Nat) : Prop := ∀ b, b < n → xi (hs b) (xn (hs b)) 8
def own (ow hs : Nat → Int32) (b : Nat) : Nat := xn (ow (xn (hs b)))
def am (te ow hs ra lo rl : Nat → Int32) (b : Nat) : Int32 := if oob te (ra b) then 0 else if rl (own ow hs b) < lo b then rl (own ow hs b) else lo b
def wv (te ow hs ra lo rl : Nat → Int32) (b : Nat) : Int32 := if oob te (ra b) then 1 else if lo b ≤ am te ow hs ra lo rl b then 0 else 2
def rl1 (te ow hs ra lo rl : Nat → Int32) (b : Nat) : Nat → Int32 := if oob te (ra b) then rl else xu rl (own ow hs b) (rl (own ow hs b) - am te ow hs ra lo rl b)
/-- letting in: rows and sums behind the first k of the order -/
abbrev aI_T : Type := (Nat → Int32) × (Nat → Int32) × (Nat → Int32) × Int32 × Int32
def aI (te ow hs ra lo : Nat → Int32) (p : Nat → Nat) (x : aI_T) : Nat → aI_T
  | 0 => x
  | k + 1 => let q := aI te ow hs ra lo p x k
    (xu q.1 (p k) (am te ow hs ra lo q.2.2.1 (p k)), xu q.2.1 (p k) (wv te ow hs ra lo q.2.2.1 (p k)), rl1 te ow hs ra lo q.2.2.1 (p k),
     if ra (p k) = -1 then q.2.2.2.1 + am te ow hs ra lo q.2.2.1 (p k) else q.2.2.2.1, if ra (p k) = -1 then q.2.2.2.2 else q.2.2.2.2 + am te ow hs ra lo q.2.2.1 (p k))
/-- the greatest rest, the first place that has it -/
def gV (re : Nat → Int32) : Nat → Int32
  | 0 => 0
  | k + 1 => if re k ≤ gV re k then gV re k else re k
def gB (re : Nat → Int32) : Nat → Option Nat
  | 0 => none
  | k + 1 => if re k ≤ gV re k then gB re k else some k
def oI : Option Nat → Int32
  | none => -1
  | some j => nI j
theorem gB_lt {re : Nat → Int32} : ∀ {k j : Nat}, gB re k = some j → j < k := by
  intro k
  induction k with
  | zero => intro j h; simp [gB] at h
  | succ k ih =>
    intro j h
    simp only [gB] at h
    split at h
    · have := ih h; omega
    · cases h; omega
def gvS (n : Nat) (so re : Nat → Int32) : Nat → Int32 := match gB re n with
  | none => so
  | some j => xu so j (so j + 1)
def gvR (n : Nat) (re : Nat → Int32) : Nat → Int32 := match gB re n with
  | none => re
  | some j => xu re j 0
def prI (n : Nat) (x : (Nat → Int32) × (Nat → Int32)) : Nat → (Nat → Int32) × (Nat → Int32)
  | 0 => x
  | t + 1 => (gvS n (prI n x t).1 (prI n x t).2, gvR n (prI n x t).2)
def pQ (ad : Nat → Int32) (am to : Int32) (j : Nat) : Int32 := ad j * am / to
def pM_ (ad : Nat → Int32) (am to : Int32) (j : Nat) : Int32 := ad j * am - ad j * am / to * to
def ptS (ra ad so : Nat → Int32) (r am to : Int32) : Nat → Int32 := fun j => if ra j = r then pQ ad am to j else so j
def ptR (ra ad : Nat → Int32) (r am to : Int32) : Nat → Int32 := fun j => if ra j = r then pM_ ad am to j else 0
def ptL (ra ad : Nat → Int32) (r am to : Int32) : Nat → Int32
  | 0 => am
  | k + 1 => if ra k = r then ptL ra ad r am to k - pQ ad am to k else ptL ra ad r am to k
/-- how often one more is given -/
def ptN (n : Nat) (l : Int32) : Nat := fnd (fun t => decide (l ≤ nI t)) n
def prt (n : Nat) (ra ad so re : Nat → Int32) (r am to : Int32) : (Nat → Int32) × (Nat → Int32) := prI n (cpN n (ptS ra ad so r am to) so, cpN n (ptR ra ad r am to) re) (ptN n (ptL ra ad r am to n))
def fulS (ra ad so : Nat → Int32) (r : Int32) : Nat → Int32 := fun j => if ra j = r then ad j else so j
def atS (n : Nat) (ra ad so re : Nat → Int32) (r am to : Int32) : (Nat → Int32) × (Nat → Int32) := if to ≤ am then (cpN n (fulS ra ad so r) so, re) else if to ≤ 0 then (cpN n (fulS ra ad so r) so, re) else prt n ra ad so re r am to
/-- findStop: the sum and the rate behind the first k of the order -/
def fsS (ra ad : Nat → Int32) (p : Nat → Nat) (rs : Int32) : Nat → Int32
  | 0 => 0
  | k + 1 => if rs ≤ fsS ra ad p rs k then fsS ra ad p rs k else if ra (p k) = -1 then fsS ra ad p rs k else if ad (p k) ≤ 0 then fsS ra ad p rs k else fsS ra ad p rs k + ad (p k)
def fsG (ra ad : Nat → Int32) (p : Nat → Nat) (rs : Int32) : Nat → Int32
  | 0 => -2
  | k + 1 => if rs ≤ fsS ra ad p rs k then fsG ra ad p rs k else if ra (p k) = -1 then fsG ra ad p rs k else if ad (p k) ≤ 0 then fsG ra ad p rs k else ra (p k)
theorem fs_end {ra ad : Nat → Int32} {p : Nat → Nat} {rs : Int32} {k : Nat} (h : rs ≤ fsS ra ad p rs k) : ∀ m, fsS ra ad p rs (k + m) = fsS ra ad p rs k ∧ fsG ra ad p rs (k + m) = fsG ra ad p rs k := by
  intro m
  induction m with
  | zero => exact ⟨rfl, rfl⟩
  | succ m ih =>
    have h2 : rs ≤ fsS ra ad p rs (k + m) := by rw [ih.1]; exact h
    rw [show k + (m + 1) = (k + m) + 1 from rfl]
    simp only [fsS, fsG, if_pos h2]
    exact ih
def blw (ra ad : Nat → Int32) (st : Int32) : Nat → Int32 := fun j => if ra j = -1 then 0 else if st ≤ ra j then 0 else ad j
def ats (ra ad : Nat → Int32) (st : Int32) : Nat → Int32 := fun j => if ra j = -1 then 0 else if ra j = st then ad j else 0
def rtS (ra ad so : Nat → Int32) (st : Int32) : Nat → Int32 := fun j => if ra j = -1 then so j else if st ≤ ra j then 0 else ad j
def avr (n : Nat) (te ra so : Nat → Int32) (sr : Int32) : Int32 := if 1 ≤ sr then sm (fun j => if ra j = -1 then 0 else ra j * so j) n / sr else te 3
set_option maxHeartbeats 1000000 in
set_option maxRecDepth 10000 in
theorem c_X4_isOutOfBounds {v : xw_V} {G : xw_G} {s b : Nat} {S : sl_T} {B : bk_T} (hS : G s = pc_S v s b S) (hB : G b = pc_B v b B) (hsb : s ≠ b) (x : Int32) : xk_Con v yX4_isOutOfBounds cX4_isOutOfBounds 2 (some .boolean) 0 0 [.ref (xw_ad v s 0), .int x] G (xk_ret (some (.int (xb (oob (bk_te B) x)))) G) := by
  refine xk_of (ls0 := [some (.ref (xw_ad v s 0)), some (.int x)]) (by decide) rfl (Nat.le_of_ble_eq_true rfl) ?_
  intro κ z hk hz
  refine xj_iload_n (i := 1) hk dX4_isOutOfBounds_0 rfl rfl ?_
  refine xj_iconst (x := (-1)) hk dX4_isOutOfBounds_1 (by decide) ?_
  refine xj_icmp_eq (tgt := 35) hk dX4_isOutOfBounds_2 (by decide) (fun c2 => ?_) (fun c2 => ?_)
  · refine xj_iconst (x := 0) hk dX4_isOutOfBounds_35 (by decide) ?_
    refine xj_zreturn hk hz dX4_isOutOfBounds_36 (by decide) ?_
    exact ⟨by simp [oob, xb, *], rfl⟩
  · refine xj_iload_n (i := 1) hk dX4_isOutOfBounds_5 rfl rfl ?_
    refine xj_aload_n (i := 0) hk dX4_isOutOfBounds_6 rfl rfl ?_
    refine xj_getfield hk dX4_isOutOfBounds_7 fl_X4_37 (xw_at hS rfl) rfl ?_
    refine xj_getfield hk dX4_isOutOfBounds_10 fl_X4_75 (xw_at hB rfl) rfl ?_
    refine xj_iconst (x := 3) hk dX4_isOutOfBounds_13 (by decide) ?_
    refine xj_iaload (k := 3) hk dX4_isOutOfBounds_14 (xw_at hB rfl) (xi_d 3 7 (by decide)) ?_
    refine xj_icmp_lt (tgt := 31) hk dX4_isOutOfBounds_15 (by decide) (fun c15 => ?_) (fun c15 => ?_)
    · refine xj_iconst (x := 1) hk dX4_isOutOfBounds_31 (by decide) ?_
      refine xj_goto (tgt := 36) hk dX4_isOutOfBounds_32 (by decide) ?_
      refine xj_zreturn hk hz dX4_isOutOfBounds_36 (by decide) ?_
      exact ⟨by simp [oob, xb, *], rfl⟩
    · refine xj_iload_n (i := 1) hk dX4_isOutOfBounds_18 rfl rfl ?_
      refine xj_aload_n (i := 0) hk dX4_isOutOfBounds_19 rfl rfl ?_
      refine xj_getfield hk dX4_isOutOfBounds_20 fl_X4_37 (xw_at hS rfl) rfl ?_
      refine xj_getfield hk dX4_isOutOfBounds_23 fl_X4_75 (xw_at hB rfl) rfl ?_
      refine xj_iconst (x := 4) hk dX4_isOutOfBounds_26 (by decide) ?_
      refine xj_iaload (k := 4) hk dX4_isOutOfBounds_27 (xw_at hB rfl) (xi_d 4 7 (by decide)) ?_
      refine xj_icmp_le (tgt := 35) hk dX4_isOutOfBounds_28 (by decide) (fun c28 => ?_) (fun c28 => ?_)
      · refine xj_iconst (x := 0) hk dX4_isOutOfBounds_35 (by decide) ?_
        refine xj_zreturn hk hz dX4_isOutOfBounds_36 (by decide) ?_
        exact ⟨by simp [oob, xb, *], rfl⟩
      · refine xj_iconst (x := 1) hk dX4_isOutOfBounds_31 (by decide) ?_
        refine xj_goto (tgt := 36) hk dX4_isOutOfBounds_32 (by decide) ?_
        refine xj_zreturn hk hz dX4_isOutOfBounds_36 (by decide) ?_
        exact ⟨by simp [oob, xb, *], rfl⟩

theorem rm_step {te ho ow ro : Nat → Int32} {h : Nat} (hh : h < 8) (how : okOw ow) : xu (cpN 8 (fun o => rmR te ho ow o h) ro) (xn (ow h)) (cpN 8 (fun o => rmR te ho ow o h) ro (xn (ow h)) - ho h) = cpN 8 (fun o => rmR te ho ow o (h + 1)) ro := by
  funext j
  have h8 := (how h hh).2.2
  simp only [xu, cpN, rmR]
  by_cases e : j = xn (ow h)
  · rw [if_pos e, if_pos h8, if_pos (by omega), if_pos e.symm, e]
  · rw [if_neg e]
    by_cases h2 : j < 8
    · rw [if_pos h2, if_pos h2, if_neg (fun q => e q.symm)]
    · rw [if_neg h2, if_neg h2]
theorem rm_last {te ho ow ro : Nat → Int32} {k : Nat} (hk : k < 8) : cpN k (rm8 te ho ow) (cpN 8 (fun o => rmR te ho ow o 8) ro) k = rmR te ho ow k 8 := by simp [cpN, hk]
set_option maxHeartbeats 1000000 in
set_option maxRecDepth 10000 in
theorem l_X4_openRooms_25 {v : xw_V} {κ : xk_K} {post : Option Value → xw_G → Prop} {z : Nat × Nat × Nat} {G : xw_G} {s b : Nat} {S : sl_T} {B : bk_T} (hk : xk_Ok v κ yX4_openRooms cX4_openRooms 3 none 1 21) (hz : xk_zf κ = z) (hS : G s = pc_S v s b S) (hB : G b = pc_B v b B) (hsb : s ≠ b) (how : okOw (bk_ow B)) (kx : xj v κ post z (xw_up G s (pS v s b (sl_od S) (sl_ad S) (sl_wy S) (sl_so S) (sl_re S) (cpN 8 (fun o => rmR (bk_te B) (bk_ho B) (bk_ow B) o 0) (sl_ro S)) (sl_rl S) (sl_io S) (sl_ap S) (sl_ar S) (sl_po S) (sl_sp S) (sl_rs S) (sl_st S) (sl_sr S) (sl_pt S) (sl_av S))) 44 [some (.ref (xw_ad v s 0)), some (.int (bk_te B 1 * bk_te B 0 / 100)), some (.int (nI 8))] []) : ∀ (m : Nat) (k : Nat), 8 - k < m → k ≤ 8 → xj v κ post z (xw_up G s (pS v s b (sl_od S) (sl_ad S) (sl_wy S) (sl_so S) (sl_re S) (cpN k (fun o => rmR (bk_te B) (bk_ho B) (bk_ow B) o 0) (sl_ro S)) (sl_rl S) (sl_io S) (sl_ap S) (sl_ar S) (sl_po S) (sl_sp S) (sl_rs S) (sl_st S) (sl_sr S) (sl_pt S) (sl_av S))) 25 [some (.ref (xw_ad v s 0)), some (.int (bk_te B 1 * bk_te B 0 / 100)), some (.int (nI k))] [] := by
  intro m
  induction m with
  | zero => intro k h; exact absurd h (Nat.not_lt_zero _)
  | succ m ih =>
    intro k hm hi
    refine xj_iload_n (i := 2) hk dX4_openRooms_25 rfl rfl ?_
    refine xj_bipush (x := 8) hk dX4_openRooms_26 (by decide) ?_
    refine xj_icmp_ge (tgt := 44) hk dX4_openRooms_28 (by decide) (fun c28 => ?_) (fun c28 => ?_)
    · have c28 : 8 ≤ k := (nI_leI (a := 8) (b := k) (by omega) (by omega)).mp c28
      have e9 : k = 8 := by omega
      subst e9
      exact kx
    · have c28 : ¬ 8 ≤ k := fun q => c28 ((nI_leI (a := 8) (b := k) (by omega) (by omega)).mpr q)
      refine xj_aload_n (i := 0) hk dX4_openRooms_31 rfl rfl ?_
      refine xj_getfield hk dX4_openRooms_32 fl_X4_27 (xw_at xw_up_s rfl) rfl ?_
      refine xj_iload_n (i := 2) hk dX4_openRooms_35 rfl rfl ?_
      refine xj_iload_n (i := 1) hk dX4_openRooms_36 rfl rfl ?_
      refine xj_iastore (k := k) (G2 := xw_up G s (pS v s b (sl_od S) (sl_ad S) (sl_wy S) (sl_so S) (sl_re S) (xu (cpN k (fun o => rmR (bk_te B) (bk_ho B) (bk_ow B) o 0) (sl_ro S)) k (bk_te B 1 * bk_te B 0 / 100)) (sl_rl S) (sl_io S) (sl_ap S) (sl_ar S) (sl_po S) (sl_sp S) (sl_rs S) (sl_st S) (sl_sr S) (sl_pt S) (sl_av S))) hk dX4_openRooms_37 (xw_at xw_up_s rfl) (xi_n (by omega) (by decide)) (xw_wr2 rfl) ?_
      refine xj_iinc (i := 2) (x2 := nI (k + 1)) (ls2 := [some (.ref (xw_ad v s 0)), some (.int (bk_te B 1 * bk_te B 0 / 100)), some (.int (nI (k + 1)))]) hk dX4_openRooms_38 rfl (nI_1 k) (by decide) rfl rfl ?_
      refine xj_goto (tgt := 25) hk dX4_openRooms_41 (by decide) ?_
      refine xj.eqG (G' := xw_up G s (pS v s b (sl_od S) (sl_ad S) (sl_wy S) (sl_so S) (sl_re S) (cpN ((k + 1)) (fun o => rmR (bk_te B) (bk_ho B) (bk_ow B) o 0) (sl_ro S)) (sl_rl S) (sl_io S) (sl_ap S) (sl_ar S) (sl_po S) (sl_sp S) (sl_rs S) (sl_st S) (sl_sr S) (sl_pt S) (sl_av S))) (by rw [show ∀ f : Nat → Int32, xu (cpN k (fun o => rmR (bk_te B) (bk_ho B) (bk_ow B) o 0) f) k (bk_te B 1 * bk_te B 0 / 100) = cpN (k + 1) (fun o => rmR (bk_te B) (bk_ho B) (bk_ow B) o 0) f from fun f => cp_e rfl]) (ih (k + 1) (by omega) (by omega))

set_option maxHeartbeats 1000000 in
set_option maxRecDepth 10000 in
theorem l_X4_openRooms_46 {v : xw_V} {κ : xk_K} {post : Option Value → xw_G → Prop} {z : Nat × Nat × Nat} {G : xw_G} {s b : Nat} {S : sl_T} {B : bk_T} (hk : xk_Ok v κ yX4_openRooms cX4_openRooms 3 none 1 21) (hz : xk_zf κ = z) (hS : G s = pc_S v s b S) (hB : G b = pc_B v b B) (hsb : s ≠ b) (how : okOw (bk_ow B)) (kx : xj v κ post z (xw_up G s (pS v s b (sl_od S) (sl_ad S) (sl_wy S) (sl_so S) (sl_re S) (cpN 8 (fun o => rmR (bk_te B) (bk_ho B) (bk_ow B) o 8) (sl_ro S)) (sl_rl S) (sl_io S) (sl_ap S) (sl_ar S) (sl_po S) (sl_sp S) (sl_rs S) (sl_st S) (sl_sr S) (sl_pt S) (sl_av S))) 84 [some (.ref (xw_ad v s 0)), some (.int (bk_te B 1 * bk_te B 0 / 100)), some (.int (nI 8))] []) : ∀ (m : Nat) (k : Nat), 8 - k < m → k ≤ 8 → xj v κ post z (xw_up G s (pS v s b (sl_od S) (sl_ad S) (sl_wy S) (sl_so S) (sl_re S) (cpN 8 (fun o => rmR (bk_te B) (bk_ho B) (bk_ow B) o k) (sl_ro S)) (sl_rl S) (sl_io S) (sl_ap S) (sl_ar S) (sl_po S) (sl_sp S) (sl_rs S) (sl_st S) (sl_sr S) (sl_pt S) (sl_av S))) 46 [some (.ref (xw_ad v s 0)), some (.int (bk_te B 1 * bk_te B 0 / 100)), some (.int (nI k))] [] := by
  intro m
  induction m with
  | zero => intro k h; exact absurd h (Nat.not_lt_zero _)
  | succ m ih =>
    intro k hm hi
    refine xj_iload_n (i := 2) hk dX4_openRooms_46 rfl rfl ?_
    refine xj_bipush (x := 8) hk dX4_openRooms_47 (by decide) ?_
    refine xj_icmp_ge (tgt := 84) hk dX4_openRooms_49 (by decide) (fun c49 => ?_) (fun c49 => ?_)
    · have c49 : 8 ≤ k := (nI_leI (a := 8) (b := k) (by omega) (by omega)).mp c49
      have e9 : k = 8 := by omega
      subst e9
      exact kx
    · have c49 : ¬ 8 ≤ k := fun q => c49 ((nI_leI (a := 8) (b := k) (by omega) (by omega)).mpr q)
      refine xj_aload_n (i := 0) hk dX4_openRooms_52 rfl rfl ?_
      refine xj_getfield hk dX4_openRooms_53 fl_X4_27 (xw_at xw_up_s rfl) rfl ?_
      refine xj_aload_n (i := 0) hk dX4_openRooms_56 rfl rfl ?_
      refine xj_getfield hk dX4_openRooms_57 fl_X4_37 (xw_at xw_up_s rfl) rfl ?_
      refine xj_getfield hk dX4_openRooms_60 fl_X4_78 (xw_at (show (xw_up G s (pS v s b (sl_od S) (sl_ad S) (sl_wy S) (sl_so S) (sl_re S) (cpN 8 (fun o => rmR (bk_te B) (bk_ho B) (bk_ow B) o k) (sl_ro S)) (sl_rl S) (sl_io S) (sl_ap S) (sl_ar S) (sl_po S) (sl_sp S) (sl_rs S) (sl_st S) (sl_sr S) (sl_pt S) (sl_av S))) b = pc_B v b B from by rw [xw_up_n (Ne.symm hsb), hB]) rfl) rfl ?_
      refine xj_iload_n (i := 2) hk dX4_openRooms_63 rfl rfl ?_
      refine xj_iaload (k := k) hk dX4_openRooms_64 (xw_at (show (xw_up G s (pS v s b (sl_od S) (sl_ad S) (sl_wy S) (sl_so S) (sl_re S) (cpN 8 (fun o => rmR (bk_te B) (bk_ho B) (bk_ow B) o k) (sl_ro S)) (sl_rl S) (sl_io S) (sl_ap S) (sl_ar S) (sl_po S) (sl_sp S) (sl_rs S) (sl_st S) (sl_sr S) (sl_pt S) (sl_av S))) b = pc_B v b B from by rw [xw_up_n (Ne.symm hsb), hB]) rfl) (xi_n (by omega) (by decide)) ?_
      refine xj_dup2 hk dX4_openRooms_65 rfl rfl ?_
      refine xj_iaload (k := xn (bk_ow B k)) hk dX4_openRooms_66 (xw_at xw_up_s rfl) (how k (by omega)) ?_
      refine xj_aload_n (i := 0) hk dX4_openRooms_67 rfl rfl ?_
      refine xj_getfield hk dX4_openRooms_68 fl_X4_37 (xw_at xw_up_s rfl) rfl ?_
      refine xj_getfield hk dX4_openRooms_71 fl_X4_81 (xw_at (show (xw_up G s (pS v s b (sl_od S) (sl_ad S) (sl_wy S) (sl_so S) (sl_re S) (cpN 8 (fun o => rmR (bk_te B) (bk_ho B) (bk_ow B) o k) (sl_ro S)) (sl_rl S) (sl_io S) (sl_ap S) (sl_ar S) (sl_po S) (sl_sp S) (sl_rs S) (sl_st S) (sl_sr S) (sl_pt S) (sl_av S))) b = pc_B v b B from by rw [xw_up_n (Ne.symm hsb), hB]) rfl) rfl ?_
      refine xj_iload_n (i := 2) hk dX4_openRooms_74 rfl rfl ?_
      refine xj_iaload (k := k) hk dX4_openRooms_75 (xw_at (show (xw_up G s (pS v s b (sl_od S) (sl_ad S) (sl_wy S) (sl_so S) (sl_re S) (cpN 8 (fun o => rmR (bk_te B) (bk_ho B) (bk_ow B) o k) (sl_ro S)) (sl_rl S) (sl_io S) (sl_ap S) (sl_ar S) (sl_po S) (sl_sp S) (sl_rs S) (sl_st S) (sl_sr S) (sl_pt S) (sl_av S))) b = pc_B v b B from by rw [xw_up_n (Ne.symm hsb), hB]) rfl) (xi_n (by omega) (by decide)) ?_
      refine xj_isub hk dX4_openRooms_76 ?_
      refine xj_iastore (k := xn (bk_ow B k)) (G2 := xw_up G s (pS v s b (sl_od S) (sl_ad S) (sl_wy S) (sl_so S) (sl_re S) (xu (cpN 8 (fun o => rmR (bk_te B) (bk_ho B) (bk_ow B) o k) (sl_ro S)) (xn (bk_ow B k)) (((cpN 8 (fun o => rmR (bk_te B) (bk_ho B) (bk_ow B) o k) (sl_ro S)) (xn (bk_ow B k))) - (bk_ho B k))) (sl_rl S) (sl_io S) (sl_ap S) (sl_ar S) (sl_po S) (sl_sp S) (sl_rs S) (sl_st S) (sl_sr S) (sl_pt S) (sl_av S))) hk dX4_openRooms_77 (xw_at xw_up_s rfl) (how k (by omega)) (xw_wr2 rfl) ?_
      refine xj_iinc (i := 2) (x2 := nI (k + 1)) (ls2 := [some (.ref (xw_ad v s 0)), some (.int (bk_te B 1 * bk_te B 0 / 100)), some (.int (nI (k + 1)))]) hk dX4_openRooms_78 rfl (nI_1 k) (by decide) rfl rfl ?_
      refine xj_goto (tgt := 46) hk dX4_openRooms_81 (by decide) ?_
      refine xj.eqG (G' := xw_up G s (pS v s b (sl_od S) (sl_ad S) (sl_wy S) (sl_so S) (sl_re S) (cpN 8 (fun o => rmR (bk_te B) (bk_ho B) (bk_ow B) o ((k + 1))) (sl_ro S)) (sl_rl S) (sl_io S) (sl_ap S) (sl_ar S) (sl_po S) (sl_sp S) (sl_rs S) (sl_st S) (sl_sr S) (sl_pt S) (sl_av S))) (by rw [rm_step (by omega) how]) (ih (k + 1) (by omega) (by omega))

set_option maxHeartbeats 1000000 in
set_option maxRecDepth 10000 in
theorem l_X4_openRooms_86 {v : xw_V} {κ : xk_K} {post : Option Value → xw_G → Prop} {z : Nat × Nat × Nat} {G : xw_G} {s b : Nat} {S : sl_T} {B : bk_T} (hk : xk_Ok v κ yX4_openRooms cX4_openRooms 3 none 1 21) (hz : xk_zf κ = z) (hS : G s = pc_S v s b S) (hB : G b = pc_B v b B) (hsb : s ≠ b) (how : okOw (bk_ow B)) (kx : xj v κ post z (xw_up G s (pS v s b (sl_od S) (sl_ad S) (sl_wy S) (sl_so S) (sl_re S) (cpN 8 (rm8 (bk_te B) (bk_ho B) (bk_ow B)) (cpN 8 (fun o => rmR (bk_te B) (bk_ho B) (bk_ow B) o 8) (sl_ro S))) (cpN 8 (rm8 (bk_te B) (bk_ho B) (bk_ow B)) (sl_rl S)) (sl_io S) (sl_ap S) (sl_ar S) (sl_po S) (sl_sp S) (sl_rs S) (sl_st S) (sl_sr S) (sl_pt S) (sl_av S))) 126 [some (.ref (xw_ad v s 0)), some (.int (bk_te B 1 * bk_te B 0 / 100)), some (.int (nI 8))] []) : ∀ (m : Nat) (k : Nat), 8 - k < m → k ≤ 8 → xj v κ post z (xw_up G s (pS v s b (sl_od S) (sl_ad S) (sl_wy S) (sl_so S) (sl_re S) (cpN k (rm8 (bk_te B) (bk_ho B) (bk_ow B)) (cpN 8 (fun o => rmR (bk_te B) (bk_ho B) (bk_ow B) o 8) (sl_ro S))) (cpN k (rm8 (bk_te B) (bk_ho B) (bk_ow B)) (sl_rl S)) (sl_io S) (sl_ap S) (sl_ar S) (sl_po S) (sl_sp S) (sl_rs S) (sl_st S) (sl_sr S) (sl_pt S) (sl_av S))) 86 [some (.ref (xw_ad v s 0)), some (.int (bk_te B 1 * bk_te B 0 / 100)), some (.int (nI k))] [] := by
  intro m
  induction m with
  | zero => intro k h; exact absurd h (Nat.not_lt_zero _)
  | succ m ih =>
    intro k hm hi
    refine xj_iload_n (i := 2) hk dX4_openRooms_86 rfl rfl ?_
    refine xj_bipush (x := 8) hk dX4_openRooms_87 (by decide) ?_
    refine xj_icmp_ge (tgt := 126) hk dX4_openRooms_89 (by decide) (fun c89 => ?_) (fun c89 => ?_)
    · have c89 : 8 ≤ k := (nI_leI (a := 8) (b := k) (by omega) (by omega)).mp c89
      have e9 : k = 8 := by omega
      subst e9
      exact kx
    · have c89 : ¬ 8 ≤ k := fun q => c89 ((nI_leI (a := 8) (b := k) (by omega) (by omega)).mpr q)
      refine xj_aload_n (i := 0) hk dX4_openRooms_92 rfl rfl ?_
      refine xj_getfield hk dX4_openRooms_93 fl_X4_27 (xw_at xw_up_s rfl) rfl ?_
      refine xj_iload_n (i := 2) hk dX4_openRooms_96 rfl rfl ?_
      refine xj_iconst (x := 0) hk dX4_openRooms_97 (by decide) ?_
      refine xj_aload_n (i := 0) hk dX4_openRooms_98 rfl rfl ?_
      refine xj_getfield hk dX4_openRooms_99 fl_X4_27 (xw_at xw_up_s rfl) rfl ?_
      refine xj_iload_n (i := 2) hk dX4_openRooms_102 rfl rfl ?_
      refine xj_iaload (k := k) hk dX4_openRooms_103 (xw_at xw_up_s rfl) (xi_n (by omega) (by decide)) ?_
      refine xj_max hk hz dX4_openRooms_104 mm_X4_84 (by decide) (Nat.le_of_ble_eq_true rfl) mm_max.1 mm_max.2.1 mm_max.2.2 ?_
      refine xj.eqi (x' := rm8 (bk_te B) (bk_ho B) (bk_ow B) k) (by simp only [rm_last (show k < 8 by omega)]; rfl) ?_
      refine xj_iastore (k := k) (G2 := xw_up G s (pS v s b (sl_od S) (sl_ad S) (sl_wy S) (sl_so S) (sl_re S) (xu (cpN k (rm8 (bk_te B) (bk_ho B) (bk_ow B)) (cpN 8 (fun o => rmR (bk_te B) (bk_ho B) (bk_ow B) o 8) (sl_ro S))) k (rm8 (bk_te B) (bk_ho B) (bk_ow B) k)) (cpN k (rm8 (bk_te B) (bk_ho B) (bk_ow B)) (sl_rl S)) (sl_io S) (sl_ap S) (sl_ar S) (sl_po S) (sl_sp S) (sl_rs S) (sl_st S) (sl_sr S) (sl_pt S) (sl_av S))) hk dX4_openRooms_107 (xw_at xw_up_s rfl) (xi_n (by omega) (by decide)) (xw_wr2 rfl) ?_
      refine xj_aload_n (i := 0) hk dX4_openRooms_108 rfl rfl ?_
      refine xj_getfield hk dX4_openRooms_109 fl_X4_30 (xw_at xw_up_s rfl) rfl ?_
      refine xj_iload_n (i := 2) hk dX4_openRooms_112 rfl rfl ?_
      refine xj_aload_n (i := 0) hk dX4_openRooms_113 rfl rfl ?_
      refine xj_getfield hk dX4_openRooms_114 fl_X4_27 (xw_at xw_up_s rfl) rfl ?_
      refine xj_iload_n (i := 2) hk dX4_openRooms_117 rfl rfl ?_
      refine xj_iaload (k := k) hk dX4_openRooms_118 (xw_at xw_up_s rfl) (xi_n (by omega) (by decide)) ?_
      refine xj.eqi (x' := rm8 (bk_te B) (bk_ho B) (bk_ow B) k) (xu_s) ?_
      refine xj_iastore (k := k) (G2 := xw_up G s (pS v s b (sl_od S) (sl_ad S) (sl_wy S) (sl_so S) (sl_re S) (xu (cpN k (rm8 (bk_te B) (bk_ho B) (bk_ow B)) (cpN 8 (fun o => rmR (bk_te B) (bk_ho B) (bk_ow B) o 8) (sl_ro S))) k (rm8 (bk_te B) (bk_ho B) (bk_ow B) k)) (xu (cpN k (rm8 (bk_te B) (bk_ho B) (bk_ow B)) (sl_rl S)) k (rm8 (bk_te B) (bk_ho B) (bk_ow B) k)) (sl_io S) (sl_ap S) (sl_ar S) (sl_po S) (sl_sp S) (sl_rs S) (sl_st S) (sl_sr S) (sl_pt S) (sl_av S))) hk dX4_openRooms_119 (xw_at xw_up_s rfl) (xi_n (by omega) (by decide)) (xw_wr2 rfl) ?_
      refine xj_iinc (i := 2) (x2 := nI (k + 1)) (ls2 := [some (.ref (xw_ad v s 0)), some (.int (bk_te B 1 * bk_te B 0 / 100)), some (.int (nI (k + 1)))]) hk dX4_openRooms_120 rfl (nI_1 k) (by decide) rfl rfl ?_
      refine xj_goto (tgt := 86) hk dX4_openRooms_123 (by decide) ?_
      refine xj.eqG (G' := xw_up G s (pS v s b (sl_od S) (sl_ad S) (sl_wy S) (sl_so S) (sl_re S) (cpN ((k + 1)) (rm8 (bk_te B) (bk_ho B) (bk_ow B)) (cpN 8 (fun o => rmR (bk_te B) (bk_ho B) (bk_ow B) o 8) (sl_ro S))) (cpN ((k + 1)) (rm8 (bk_te B) (bk_ho B) (bk_ow B)) (sl_rl S)) (sl_io S) (sl_ap S) (sl_ar S) (sl_po S) (sl_sp S) (sl_rs S) (sl_st S) (sl_sr S) (sl_pt S) (sl_av S))) (by simp only [cp_s]) (ih (k + 1) (by omega) (by omega))

def orR (te ho ow ro : Nat → Int32) : Nat → Int32 := cpN 8 (rm8 te ho ow) (cpN 8 (fun o => rmR te ho ow o 8) ro)
set_option maxHeartbeats 1000000 in
set_option maxRecDepth 10000 in
theorem c_X4_openRooms {v : xw_V} {G : xw_G} {s b : Nat} {S : sl_T} {B : bk_T} (hS : G s = pc_S v s b S) (hB : G b = pc_B v b B) (hsb : s ≠ b) (how : okOw (bk_ow B)) : xk_Con v yX4_openRooms cX4_openRooms 3 none 1 21 [.ref (xw_ad v s 0)] G (xk_ret none (xw_up G s (pS v s b (sl_od S) (sl_ad S) (sl_wy S) (sl_so S) (sl_re S) (orR (bk_te B) (bk_ho B) (bk_ow B) (sl_ro S)) (cpN 8 (rm8 (bk_te B) (bk_ho B) (bk_ow B)) (sl_rl S)) (sl_io S) (sl_ap S) (sl_ar S) (sl_po S) (sl_sp S) (sl_rs S) (sl_st S) (sl_sr S) (sl_pt S) (sl_av S)))) := by
  refine xk_of (ls0 := [some (.ref (xw_ad v s 0)), none, none]) (by decide) rfl (Nat.le_of_ble_eq_true rfl) ?_
  intro κ z hk hz
  refine xj_aload_n (i := 0) hk dX4_openRooms_0 rfl rfl ?_
  refine xj_getfield hk dX4_openRooms_1 fl_X4_37 (xw_at hS rfl) rfl ?_
  refine xj_getfield hk dX4_openRooms_4 fl_X4_75 (xw_at hB rfl) rfl ?_
  refine xj_iconst (x := 1) hk dX4_openRooms_7 (by decide) ?_
  refine xj_iaload (k := 1) hk dX4_openRooms_8 (xw_at hB rfl) (xi_d 1 7 (by decide)) ?_
  refine xj_aload_n (i := 0) hk dX4_openRooms_9 rfl rfl ?_
  refine xj_getfield hk dX4_openRooms_10 fl_X4_37 (xw_at hS rfl) rfl ?_
  refine xj_getfield hk dX4_openRooms_13 fl_X4_75 (xw_at hB rfl) rfl ?_
  refine xj_iconst (x := 0) hk dX4_openRooms_16 (by decide) ?_
  refine xj_iaload (k := 0) hk dX4_openRooms_17 (xw_at hB rfl) (xi_d 0 7 (by decide)) ?_
  refine xj_imul hk dX4_openRooms_18 ?_
  refine xj_bipush (x := 100) hk dX4_openRooms_19 (by decide) ?_
  refine xj_idiv hk dX4_openRooms_21 (by decide) ?_
  refine xj_istore_n (i := 1) (ls2 := [some (.ref (xw_ad v s 0)), some (.int (((bk_te B 1) * (bk_te B 0)) / 100)), none]) hk dX4_openRooms_22 rfl (by decide) rfl rfl ?_
  refine xj_iconst (x := 0) hk dX4_openRooms_23 (by decide) ?_
  refine xj_istore_n (i := 2) (ls2 := [some (.ref (xw_ad v s 0)), some (.int (((bk_te B 1) * (bk_te B 0)) / 100)), some (.int 0)]) hk dX4_openRooms_24 rfl (by decide) rfl rfl ?_
  refine xj.eqG (G' := xw_up G s (pS v s b (sl_od S) (sl_ad S) (sl_wy S) (sl_so S) (sl_re S) (cpN 0 (fun o => rmR (bk_te B) (bk_ho B) (bk_ow B) o 0) (sl_ro S)) (sl_rl S) (sl_io S) (sl_ap S) (sl_ar S) (sl_po S) (sl_sp S) (sl_rs S) (sl_st S) (sl_sr S) (sl_pt S) (sl_av S))) (by simp only [cp_0]; exact (xw_up_same hS).symm) ?_
  refine l_X4_openRooms_25 hk hz hS hB hsb how ?_ (8 + 1) 0 (by omega) (by omega)
  refine xj_iconst (x := 0) hk dX4_openRooms_44 (by decide) ?_
  refine xj_istore_n (i := 2) (ls2 := [some (.ref (xw_ad v s 0)), some (.int (bk_te B 1 * bk_te B 0 / 100)), some (.int 0)]) hk dX4_openRooms_45 rfl (by decide) rfl rfl ?_
  refine l_X4_openRooms_46 hk hz hS hB hsb how ?_ (8 + 1) 0 (by omega) (by omega)
  refine xj_iconst (x := 0) hk dX4_openRooms_84 (by decide) ?_
  refine xj_istore_n (i := 2) (ls2 := [some (.ref (xw_ad v s 0)), some (.int (bk_te B 1 * bk_te B 0 / 100)), some (.int 0)]) hk dX4_openRooms_85 rfl (by decide) rfl rfl ?_
  refine xj.eqG (G' := xw_up G s (pS v s b (sl_od S) (sl_ad S) (sl_wy S) (sl_so S) (sl_re S) (cpN 0 (rm8 (bk_te B) (bk_ho B) (bk_ow B)) (cpN 8 (fun o => rmR (bk_te B) (bk_ho B) (bk_ow B) o 8) (sl_ro S))) (cpN 0 (rm8 (bk_te B) (bk_ho B) (bk_ow B)) (sl_rl S)) (sl_io S) (sl_ap S) (sl_ar S) (sl_po S) (sl_sp S) (sl_rs S) (sl_st S) (sl_sr S) (sl_pt S) (sl_av S))) (by simp only [cp_0]) ?_
  refine l_X4_openRooms_86 hk hz hS hB hsb how ?_ (8 + 1) 0 (by omega) (by omega)
  refine xj_return hk hz dX4_openRooms_126 ?_
  exact ⟨rfl, rfl⟩

set_option maxHeartbeats 1000000 in
set_option maxRecDepth 10000 in
theorem c_X4_admitOne {v : xw_V} {G : xw_G} {s b : Nat} {S : sl_T} {B : bk_T} {x : Nat} (hS : G s = pc_S v s b S) (hB : G b = pc_B v b B) (hsb : s ≠ b) (hb30 : x < 30) (how : okOw (bk_ow B)) (hh : xi (bk_hs B x) (xn (bk_hs B x)) 8) : xk_Con v yX4_admitOne cX4_admitOne 3 none 1 21 [.ref (xw_ad v s 0), .int (nI x)] G (xk_ret none (xw_up G s (pS v s b (sl_od S) (xu (sl_ad S) x (am (bk_te B) (bk_ow B) (bk_hs B) (bk_ra B) (bk_lo B) (sl_rl S) x)) (xu (sl_wy S) x (wv (bk_te B) (bk_ow B) (bk_hs B) (bk_ra B) (bk_lo B) (sl_rl S) x)) (sl_so S) (sl_re S) (sl_ro S) (rl1 (bk_te B) (bk_ow B) (bk_hs B) (bk_ra B) (bk_lo B) (sl_rl S) x) (sl_io S) (sl_ap S) (sl_ar S) (sl_po S) (sl_sp S) (sl_rs S) (sl_st S) (sl_sr S) (sl_pt S) (sl_av S)))) := by
  refine xk_of (ls0 := [some (.ref (xw_ad v s 0)), some (.int (nI x)), none]) (by decide) rfl (Nat.le_of_ble_eq_true rfl) ?_
  intro κ z hk hz
  refine xj_aload_n (i := 0) hk dX4_admitOne_0 rfl rfl ?_
  refine xj_aload_n (i := 0) hk dX4_admitOne_1 rfl rfl ?_
  refine xj_getfield hk dX4_admitOne_2 fl_X4_37 (xw_at hS rfl) rfl ?_
  refine xj_getfield hk dX4_admitOne_5 fl_X4_72 (xw_at hB rfl) rfl ?_
  refine xj_iload_n (i := 1) hk dX4_admitOne_8 rfl rfl ?_
  refine xj_iaload (k := x) hk dX4_admitOne_9 (xw_at hB rfl) (xi_n (by omega) (by decide)) ?_
  refine xj_callV hk hz (fr1 := 0) (lo1 := 0) (r1 := some (.int (xb (oob (bk_te B) (bk_ra B x))))) (As := [.int (bk_ra B x)]) (st := []) (st2 := [.int (xb (oob (bk_te B) (bk_ra B x)))]) (G1 := G) ml_X4_100 (c_X4_isOutOfBounds (show G s = pc_S v s b S from hS) (show G b = pc_B v b B from hB) hsb  (bk_ra B x)) (xw_at hS rfl) rfl dX4_admitOne_10 ⟨Nat.le_of_ble_eq_true rfl, Nat.le_of_ble_eq_true rfl⟩ rfl (Nat.le_of_ble_eq_true rfl) rfl rfl ?_
  refine xj_ifb_eq (tgt := 31) hk dX4_admitOne_13 (by decide) (fun c13 => ?_) (fun c13 => ?_)
  · refine xj_aload_n (i := 0) hk dX4_admitOne_31 rfl rfl ?_
    refine xj_getfield hk dX4_admitOne_32 fl_X4_37 (xw_at hS rfl) rfl ?_
    refine xj_getfield hk dX4_admitOne_35 fl_X4_78 (xw_at hB rfl) rfl ?_
    refine xj_aload_n (i := 0) hk dX4_admitOne_38 rfl rfl ?_
    refine xj_getfield hk dX4_admitOne_39 fl_X4_37 (xw_at hS rfl) rfl ?_
    refine xj_getfield hk dX4_admitOne_42 fl_X4_104 (xw_at hB rfl) rfl ?_
    refine xj_iload_n (i := 1) hk dX4_admitOne_45 rfl rfl ?_
    refine xj_iaload (k := x) hk dX4_admitOne_46 (xw_at hB rfl) (xi_n (by omega) (by decide)) ?_
    refine xj_iaload (k := xn (bk_hs B x)) hk dX4_admitOne_47 (xw_at hB rfl) hh ?_
    refine xj_istore_n (i := 2) (ls2 := [some (.ref (xw_ad v s 0)), some (.int (nI x)), some (.int (bk_ow B (xn (bk_hs B x))))]) hk dX4_admitOne_48 rfl (by decide) rfl rfl ?_
    refine xj_aload_n (i := 0) hk dX4_admitOne_49 rfl rfl ?_
    refine xj_getfield hk dX4_admitOne_50 fl_X4_15 (xw_at hS rfl) rfl ?_
    refine xj_iload_n (i := 1) hk dX4_admitOne_53 rfl rfl ?_
    refine xj_aload_n (i := 0) hk dX4_admitOne_54 rfl rfl ?_
    refine xj_getfield hk dX4_admitOne_55 fl_X4_37 (xw_at hS rfl) rfl ?_
    refine xj_getfield hk dX4_admitOne_58 fl_X4_107 (xw_at hB rfl) rfl ?_
    refine xj_iload_n (i := 1) hk dX4_admitOne_61 rfl rfl ?_
    refine xj_iaload (k := x) hk dX4_admitOne_62 (xw_at hB rfl) (xi_n (by omega) (by decide)) ?_
    refine xj_aload_n (i := 0) hk dX4_admitOne_63 rfl rfl ?_
    refine xj_getfield hk dX4_admitOne_64 fl_X4_30 (xw_at hS rfl) rfl ?_
    refine xj_iload_n (i := 2) hk dX4_admitOne_67 rfl rfl ?_
    refine xj_iaload (k := own (bk_ow B) (bk_hs B) x) hk dX4_admitOne_68 (xw_at hS rfl) (how _ hh.2.2) ?_
    refine xj_min hk hz dX4_admitOne_69 mm_X4_110 (by decide) (Nat.le_of_ble_eq_true rfl) mm_min.1 mm_min.2.1 mm_min.2.2 ?_
    refine xj.eqi (x' := am (bk_te B) (bk_ow B) (bk_hs B) (bk_ra B) (bk_lo B) (sl_rl S) x) (by simp only [am, c13, Bool.false_eq_true, if_false] <;> rfl) ?_
    refine xj_iastore (k := x) (G2 := xw_up G s (pS v s b (sl_od S) (xu (sl_ad S) x (am (bk_te B) (bk_ow B) (bk_hs B) (bk_ra B) (bk_lo B) (sl_rl S) x)) (sl_wy S) (sl_so S) (sl_re S) (sl_ro S) (sl_rl S) (sl_io S) (sl_ap S) (sl_ar S) (sl_po S) (sl_sp S) (sl_rs S) (sl_st S) (sl_sr S) (sl_pt S) (sl_av S))) hk dX4_admitOne_72 (xw_at hS rfl) (xi_n (by omega) (by decide)) (xw_wr hS rfl) ?_
    refine xj_aload_n (i := 0) hk dX4_admitOne_73 rfl rfl ?_
    refine xj_getfield hk dX4_admitOne_74 fl_X4_30 (xw_at xw_up_s rfl) rfl ?_
    refine xj_iload_n (i := 2) hk dX4_admitOne_77 rfl rfl ?_
    refine xj_dup2 hk dX4_admitOne_78 rfl rfl ?_
    refine xj_iaload (k := own (bk_ow B) (bk_hs B) x) hk dX4_admitOne_79 (xw_at xw_up_s rfl) (how _ hh.2.2) ?_
    refine xj_aload_n (i := 0) hk dX4_admitOne_80 rfl rfl ?_
    refine xj_getfield hk dX4_admitOne_81 fl_X4_15 (xw_at xw_up_s rfl) rfl ?_
    refine xj_iload_n (i := 1) hk dX4_admitOne_84 rfl rfl ?_
    refine xj_iaload (k := x) hk dX4_admitOne_85 (xw_at xw_up_s rfl) (xi_n (by omega) (by decide)) ?_
    refine xj.eqi (x' := am (bk_te B) (bk_ow B) (bk_hs B) (bk_ra B) (bk_lo B) (sl_rl S) x) (xu_s) ?_
    refine xj_isub hk dX4_admitOne_86 ?_
    refine xj_iastore (k := own (bk_ow B) (bk_hs B) x) (G2 := xw_up G s (pS v s b (sl_od S) (xu (sl_ad S) x (am (bk_te B) (bk_ow B) (bk_hs B) (bk_ra B) (bk_lo B) (sl_rl S) x)) (sl_wy S) (sl_so S) (sl_re S) (sl_ro S) (xu (sl_rl S) (own (bk_ow B) (bk_hs B) x) ((sl_rl S (own (bk_ow B) (bk_hs B) x)) - (am (bk_te B) (bk_ow B) (bk_hs B) (bk_ra B) (bk_lo B) (sl_rl S) x))) (sl_io S) (sl_ap S) (sl_ar S) (sl_po S) (sl_sp S) (sl_rs S) (sl_st S) (sl_sr S) (sl_pt S) (sl_av S))) hk dX4_admitOne_87 (xw_at xw_up_s rfl) (how _ hh.2.2) (xw_wr2 rfl) ?_
    refine xj_aload_n (i := 0) hk dX4_admitOne_88 rfl rfl ?_
    refine xj_getfield hk dX4_admitOne_89 fl_X4_18 (xw_at xw_up_s rfl) rfl ?_
    refine xj_iload_n (i := 1) hk dX4_admitOne_92 rfl rfl ?_
    refine xj_aload_n (i := 0) hk dX4_admitOne_93 rfl rfl ?_
    refine xj_getfield hk dX4_admitOne_94 fl_X4_15 (xw_at xw_up_s rfl) rfl ?_
    refine xj_iload_n (i := 1) hk dX4_admitOne_97 rfl rfl ?_
    refine xj_iaload (k := x) hk dX4_admitOne_98 (xw_at xw_up_s rfl) (xi_n (by omega) (by decide)) ?_
    refine xj.eqi (x' := am (bk_te B) (bk_ow B) (bk_hs B) (bk_ra B) (bk_lo B) (sl_rl S) x) (xu_s) ?_
    refine xj_aload_n (i := 0) hk dX4_admitOne_99 rfl rfl ?_
    refine xj_getfield hk dX4_admitOne_100 fl_X4_37 (xw_at xw_up_s rfl) rfl ?_
    refine xj_getfield hk dX4_admitOne_103 fl_X4_107 (xw_at (show (xw_up G s (pS v s b (sl_od S) (xu (sl_ad S) x (am (bk_te B) (bk_ow B) (bk_hs B) (bk_ra B) (bk_lo B) (sl_rl S) x)) (sl_wy S) (sl_so S) (sl_re S) (sl_ro S) (xu (sl_rl S) (own (bk_ow B) (bk_hs B) x) ((sl_rl S (own (bk_ow B) (bk_hs B) x)) - (am (bk_te B) (bk_ow B) (bk_hs B) (bk_ra B) (bk_lo B) (sl_rl S) x))) (sl_io S) (sl_ap S) (sl_ar S) (sl_po S) (sl_sp S) (sl_rs S) (sl_st S) (sl_sr S) (sl_pt S) (sl_av S))) b = pc_B v b B from by rw [xw_up_n (Ne.symm hsb), hB]) rfl) rfl ?_
    refine xj_iload_n (i := 1) hk dX4_admitOne_106 rfl rfl ?_
    refine xj_iaload (k := x) hk dX4_admitOne_107 (xw_at (show (xw_up G s (pS v s b (sl_od S) (xu (sl_ad S) x (am (bk_te B) (bk_ow B) (bk_hs B) (bk_ra B) (bk_lo B) (sl_rl S) x)) (sl_wy S) (sl_so S) (sl_re S) (sl_ro S) (xu (sl_rl S) (own (bk_ow B) (bk_hs B) x) ((sl_rl S (own (bk_ow B) (bk_hs B) x)) - (am (bk_te B) (bk_ow B) (bk_hs B) (bk_ra B) (bk_lo B) (sl_rl S) x))) (sl_io S) (sl_ap S) (sl_ar S) (sl_po S) (sl_sp S) (sl_rs S) (sl_st S) (sl_sr S) (sl_pt S) (sl_av S))) b = pc_B v b B from by rw [xw_up_n (Ne.symm hsb), hB]) rfl) (xi_n (by omega) (by decide)) ?_
    refine xj_icmp_ge (tgt := 115) hk dX4_admitOne_108 (by decide) (fun c108 => ?_) (fun c108 => ?_)
    · refine xj_iconst (x := 0) hk dX4_admitOne_115 (by decide) ?_
      refine xj_iastore (k := x) (G2 := xw_up G s (pS v s b (sl_od S) (xu (sl_ad S) x (am (bk_te B) (bk_ow B) (bk_hs B) (bk_ra B) (bk_lo B) (sl_rl S) x)) (xu (sl_wy S) x 0) (sl_so S) (sl_re S) (sl_ro S) (xu (sl_rl S) (own (bk_ow B) (bk_hs B) x) ((sl_rl S (own (bk_ow B) (bk_hs B) x)) - (am (bk_te B) (bk_ow B) (bk_hs B) (bk_ra B) (bk_lo B) (sl_rl S) x))) (sl_io S) (sl_ap S) (sl_ar S) (sl_po S) (sl_sp S) (sl_rs S) (sl_st S) (sl_sr S) (sl_pt S) (sl_av S))) hk dX4_admitOne_116 (xw_at xw_up_s rfl) (xi_n (by omega) (by decide)) (xw_wr2 rfl) ?_
      refine xj_return hk hz dX4_admitOne_117 ?_
      refine ⟨rfl, ?_⟩
      simp only [wv, rl1, c13, Bool.false_eq_true, if_false]
      first | rw [if_pos c108] | rw [if_neg c108]
    · refine xj_iconst (x := 2) hk dX4_admitOne_111 (by decide) ?_
      refine xj_goto (tgt := 116) hk dX4_admitOne_112 (by decide) ?_
      refine xj_iastore (k := x) (G2 := xw_up G s (pS v s b (sl_od S) (xu (sl_ad S) x (am (bk_te B) (bk_ow B) (bk_hs B) (bk_ra B) (bk_lo B) (sl_rl S) x)) (xu (sl_wy S) x 2) (sl_so S) (sl_re S) (sl_ro S) (xu (sl_rl S) (own (bk_ow B) (bk_hs B) x) ((sl_rl S (own (bk_ow B) (bk_hs B) x)) - (am (bk_te B) (bk_ow B) (bk_hs B) (bk_ra B) (bk_lo B) (sl_rl S) x))) (sl_io S) (sl_ap S) (sl_ar S) (sl_po S) (sl_sp S) (sl_rs S) (sl_st S) (sl_sr S) (sl_pt S) (sl_av S))) hk dX4_admitOne_116 (xw_at xw_up_s rfl) (xi_n (by omega) (by decide)) (xw_wr2 rfl) ?_
      refine xj_return hk hz dX4_admitOne_117 ?_
      refine ⟨rfl, ?_⟩
      simp only [wv, rl1, c13, Bool.false_eq_true, if_false]
      first | rw [if_pos c108] | rw [if_neg c108]
  · refine xj_aload_n (i := 0) hk dX4_admitOne_16 rfl rfl ?_
    refine xj_getfield hk dX4_admitOne_17 fl_X4_15 (xw_at hS rfl) rfl ?_
    refine xj_iload_n (i := 1) hk dX4_admitOne_20 rfl rfl ?_
    refine xj_iconst (x := 0) hk dX4_admitOne_21 (by decide) ?_
    refine xj_iastore (k := x) (G2 := xw_up G s (pS v s b (sl_od S) (xu (sl_ad S) x 0) (sl_wy S) (sl_so S) (sl_re S) (sl_ro S) (sl_rl S) (sl_io S) (sl_ap S) (sl_ar S) (sl_po S) (sl_sp S) (sl_rs S) (sl_st S) (sl_sr S) (sl_pt S) (sl_av S))) hk dX4_admitOne_22 (xw_at hS rfl) (xi_n (by omega) (by decide)) (xw_wr hS rfl) ?_
    refine xj_aload_n (i := 0) hk dX4_admitOne_23 rfl rfl ?_
    refine xj_getfield hk dX4_admitOne_24 fl_X4_18 (xw_at xw_up_s rfl) rfl ?_
    refine xj_iload_n (i := 1) hk dX4_admitOne_27 rfl rfl ?_
    refine xj_iconst (x := 1) hk dX4_admitOne_28 (by decide) ?_
    refine xj_iastore (k := x) (G2 := xw_up G s (pS v s b (sl_od S) (xu (sl_ad S) x 0) (xu (sl_wy S) x 1) (sl_so S) (sl_re S) (sl_ro S) (sl_rl S) (sl_io S) (sl_ap S) (sl_ar S) (sl_po S) (sl_sp S) (sl_rs S) (sl_st S) (sl_sr S) (sl_pt S) (sl_av S))) hk dX4_admitOne_29 (xw_at xw_up_s rfl) (xi_n (by omega) (by decide)) (xw_wr2 rfl) ?_
    refine xj_return hk hz dX4_admitOne_30 ?_
    refine ⟨rfl, ?_⟩
    simp only [am, wv, rl1, c13, if_true]

set_option maxHeartbeats 1000000 in
set_option maxRecDepth 10000 in
theorem l_X4_admit_12 {v : xw_V} {κ : xk_K} {post : Option Value → xw_G → Prop} {z : Nat × Nat × Nat} {G : xw_G} {s b : Nat} {S : sl_T} {B : bk_T} {n : Nat} {p : Nat → Nat} (hk : xk_Ok v κ yX4_admit cX4_admit 3 none 2 43) (hz : xk_zf κ = z) (hS : G s = pc_S v s b S) (hB : G b = pc_B v b B) (hsb : s ≠ b) (hn : bk_bi B = nI n) (hn30 : n ≤ 30) (hio : sl_io S = nI n) (how : okOw (bk_ow B)) (hhs : okHs (bk_hs B) n) (hod : pls n (sl_od S) p) (hp : inj n p) (kx : xj v κ post z (xw_up G s (pS v s b (sl_od S) ((aI (bk_te B) (bk_ow B) (bk_hs B) (bk_ra B) (bk_lo B) p (sl_ad S, sl_wy S, sl_rl S, 0, 0) n).1) ((aI (bk_te B) (bk_ow B) (bk_hs B) (bk_ra B) (bk_lo B) p (sl_ad S, sl_wy S, sl_rl S, 0, 0) n).2.1) (sl_so S) (sl_re S) (sl_ro S) ((aI (bk_te B) (bk_ow B) (bk_hs B) (bk_ra B) (bk_lo B) p (sl_ad S, sl_wy S, sl_rl S, 0, 0) n).2.2.1) (sl_io S) ((aI (bk_te B) (bk_ow B) (bk_hs B) (bk_ra B) (bk_lo B) p (sl_ad S, sl_wy S, sl_rl S, 0, 0) n).2.2.2.1) ((aI (bk_te B) (bk_ow B) (bk_hs B) (bk_ra B) (bk_lo B) p (sl_ad S, sl_wy S, sl_rl S, 0, 0) n).2.2.2.2) (sl_po S) (sl_sp S) (sl_rs S) (sl_st S) (sl_sr S) (sl_pt S) (sl_av S))) 84 [some (.ref (xw_ad v s 0)), some (.int (nI n)), none] []) : ∀ (m : Nat) (k : Nat), n - k < m → k ≤ n → xj v κ post z (xw_up G s (pS v s b (sl_od S) ((aI (bk_te B) (bk_ow B) (bk_hs B) (bk_ra B) (bk_lo B) p (sl_ad S, sl_wy S, sl_rl S, 0, 0) k).1) ((aI (bk_te B) (bk_ow B) (bk_hs B) (bk_ra B) (bk_lo B) p (sl_ad S, sl_wy S, sl_rl S, 0, 0) k).2.1) (sl_so S) (sl_re S) (sl_ro S) ((aI (bk_te B) (bk_ow B) (bk_hs B) (bk_ra B) (bk_lo B) p (sl_ad S, sl_wy S, sl_rl S, 0, 0) k).2.2.1) (sl_io S) ((aI (bk_te B) (bk_ow B) (bk_hs B) (bk_ra B) (bk_lo B) p (sl_ad S, sl_wy S, sl_rl S, 0, 0) k).2.2.2.1) ((aI (bk_te B) (bk_ow B) (bk_hs B) (bk_ra B) (bk_lo B) p (sl_ad S, sl_wy S, sl_rl S, 0, 0) k).2.2.2.2) (sl_po S) (sl_sp S) (sl_rs S) (sl_st S) (sl_sr S) (sl_pt S) (sl_av S))) 12 [some (.ref (xw_ad v s 0)), some (.int (nI k)), none] [] := by
  intro m
  induction m with
  | zero => intro k h; exact absurd h (Nat.not_lt_zero _)
  | succ m ih =>
    intro k hm hi
    refine xj_iload_n (i := 1) hk dX4_admit_12 rfl rfl ?_
    refine xj_aload_n (i := 0) hk dX4_admit_13 rfl rfl ?_
    refine xj_getfield hk dX4_admit_14 fl_X4_33 (xw_at xw_up_s rfl) rfl ?_
    refine xj.eqi (x' := nI n) hio ?_
    refine xj_icmp_ge (tgt := 84) hk dX4_admit_17 (by decide) (fun c17 => ?_) (fun c17 => ?_)
    · have c17 : n ≤ k := (nI_leI (a := n) (b := k) (by omega) (by omega)).mp c17
      have e9 : k = n := by omega
      subst e9
      exact kx
    · have c17 : ¬ n ≤ k := fun q => c17 ((nI_leI (a := n) (b := k) (by omega) (by omega)).mpr q)
      refine xj_aload_n (i := 0) hk dX4_admit_20 rfl rfl ?_
      refine xj_getfield hk dX4_admit_21 fl_X4_9 (xw_at xw_up_s rfl) rfl ?_
      refine xj_iload_n (i := 1) hk dX4_admit_24 rfl rfl ?_
      refine xj_iaload (k := k) hk dX4_admit_25 (xw_at xw_up_s rfl) (xi_n (by omega) (by decide)) ?_
      refine xj.eqi (x' := nI (p k)) (hod k (by omega)) ?_
      refine xj_istore_n (i := 2) (ls2 := [some (.ref (xw_ad v s 0)), some (.int (nI k)), some (.int (nI (p k)))]) hk dX4_admit_26 rfl (by decide) rfl rfl ?_
      refine xj_aload_n (i := 0) hk dX4_admit_27 rfl rfl ?_
      refine xj_iload_n (i := 2) hk dX4_admit_28 rfl rfl ?_
      refine xj_callV hk hz (fr1 := 1) (lo1 := 21) (r1 := none) (As := [.int (nI (p k))]) (st := []) (st2 := []) (G1 := xw_up G s (pS v s b (sl_od S) (xu ((aI (bk_te B) (bk_ow B) (bk_hs B) (bk_ra B) (bk_lo B) p (sl_ad S, sl_wy S, sl_rl S, 0, 0) k).1) (p k) (am (bk_te B) (bk_ow B) (bk_hs B) (bk_ra B) (bk_lo B) ((aI (bk_te B) (bk_ow B) (bk_hs B) (bk_ra B) (bk_lo B) p (sl_ad S, sl_wy S, sl_rl S, 0, 0) k).2.2.1) (p k))) (xu ((aI (bk_te B) (bk_ow B) (bk_hs B) (bk_ra B) (bk_lo B) p (sl_ad S, sl_wy S, sl_rl S, 0, 0) k).2.1) (p k) (wv (bk_te B) (bk_ow B) (bk_hs B) (bk_ra B) (bk_lo B) ((aI (bk_te B) (bk_ow B) (bk_hs B) (bk_ra B) (bk_lo B) p (sl_ad S, sl_wy S, sl_rl S, 0, 0) k).2.2.1) (p k))) (sl_so S) (sl_re S) (sl_ro S) (rl1 (bk_te B) (bk_ow B) (bk_hs B) (bk_ra B) (bk_lo B) ((aI (bk_te B) (bk_ow B) (bk_hs B) (bk_ra B) (bk_lo B) p (sl_ad S, sl_wy S, sl_rl S, 0, 0) k).2.2.1) (p k)) (sl_io S) ((aI (bk_te B) (bk_ow B) (bk_hs B) (bk_ra B) (bk_lo B) p (sl_ad S, sl_wy S, sl_rl S, 0, 0) k).2.2.2.1) ((aI (bk_te B) (bk_ow B) (bk_hs B) (bk_ra B) (bk_lo B) p (sl_ad S, sl_wy S, sl_rl S, 0, 0) k).2.2.2.2) (sl_po S) (sl_sp S) (sl_rs S) (sl_st S) (sl_sr S) (sl_pt S) (sl_av S))) ml_X4_96 (xk_cg (by rw [xw_up_u] <;> rfl) (c_X4_admitOne (x := p k) (show (xw_up G s (pS v s b (sl_od S) ((aI (bk_te B) (bk_ow B) (bk_hs B) (bk_ra B) (bk_lo B) p (sl_ad S, sl_wy S, sl_rl S, 0, 0) k).1) ((aI (bk_te B) (bk_ow B) (bk_hs B) (bk_ra B) (bk_lo B) p (sl_ad S, sl_wy S, sl_rl S, 0, 0) k).2.1) (sl_so S) (sl_re S) (sl_ro S) ((aI (bk_te B) (bk_ow B) (bk_hs B) (bk_ra B) (bk_lo B) p (sl_ad S, sl_wy S, sl_rl S, 0, 0) k).2.2.1) (sl_io S) ((aI (bk_te B) (bk_ow B) (bk_hs B) (bk_ra B) (bk_lo B) p (sl_ad S, sl_wy S, sl_rl S, 0, 0) k).2.2.2.1) ((aI (bk_te B) (bk_ow B) (bk_hs B) (bk_ra B) (bk_lo B) p (sl_ad S, sl_wy S, sl_rl S, 0, 0) k).2.2.2.2) (sl_po S) (sl_sp S) (sl_rs S) (sl_st S) (sl_sr S) (sl_pt S) (sl_av S))) s = pc_S v s b (sl_od S, (aI (bk_te B) (bk_ow B) (bk_hs B) (bk_ra B) (bk_lo B) p (sl_ad S, sl_wy S, sl_rl S, 0, 0) k).1, (aI (bk_te B) (bk_ow B) (bk_hs B) (bk_ra B) (bk_lo B) p (sl_ad S, sl_wy S, sl_rl S, 0, 0) k).2.1, sl_so S, sl_re S, sl_ro S, (aI (bk_te B) (bk_ow B) (bk_hs B) (bk_ra B) (bk_lo B) p (sl_ad S, sl_wy S, sl_rl S, 0, 0) k).2.2.1, sl_io S, (aI (bk_te B) (bk_ow B) (bk_hs B) (bk_ra B) (bk_lo B) p (sl_ad S, sl_wy S, sl_rl S, 0, 0) k).2.2.2.1, (aI (bk_te B) (bk_ow B) (bk_hs B) (bk_ra B) (bk_lo B) p (sl_ad S, sl_wy S, sl_rl S, 0, 0) k).2.2.2.2, sl_po S, sl_sp S, sl_rs S, sl_st S, sl_sr S, sl_pt S, sl_av S) from xw_up_s) (show (xw_up G s (pS v s b (sl_od S) ((aI (bk_te B) (bk_ow B) (bk_hs B) (bk_ra B) (bk_lo B) p (sl_ad S, sl_wy S, sl_rl S, 0, 0) k).1) ((aI (bk_te B) (bk_ow B) (bk_hs B) (bk_ra B) (bk_lo B) p (sl_ad S, sl_wy S, sl_rl S, 0, 0) k).2.1) (sl_so S) (sl_re S) (sl_ro S) ((aI (bk_te B) (bk_ow B) (bk_hs B) (bk_ra B) (bk_lo B) p (sl_ad S, sl_wy S, sl_rl S, 0, 0) k).2.2.1) (sl_io S) ((aI (bk_te B) (bk_ow B) (bk_hs B) (bk_ra B) (bk_lo B) p (sl_ad S, sl_wy S, sl_rl S, 0, 0) k).2.2.2.1) ((aI (bk_te B) (bk_ow B) (bk_hs B) (bk_ra B) (bk_lo B) p (sl_ad S, sl_wy S, sl_rl S, 0, 0) k).2.2.2.2) (sl_po S) (sl_sp S) (sl_rs S) (sl_st S) (sl_sr S) (sl_pt S) (sl_av S))) b = pc_B v b B from (show (xw_up G s (pS v s b (sl_od S) ((aI (bk_te B) (bk_ow B) (bk_hs B) (bk_ra B) (bk_lo B) p (sl_ad S, sl_wy S, sl_rl S, 0, 0) k).1) ((aI (bk_te B) (bk_ow B) (bk_hs B) (bk_ra B) (bk_lo B) p (sl_ad S, sl_wy S, sl_rl S, 0, 0) k).2.1) (sl_so S) (sl_re S) (sl_ro S) ((aI (bk_te B) (bk_ow B) (bk_hs B) (bk_ra B) (bk_lo B) p (sl_ad S, sl_wy S, sl_rl S, 0, 0) k).2.2.1) (sl_io S) ((aI (bk_te B) (bk_ow B) (bk_hs B) (bk_ra B) (bk_lo B) p (sl_ad S, sl_wy S, sl_rl S, 0, 0) k).2.2.2.1) ((aI (bk_te B) (bk_ow B) (bk_hs B) (bk_ra B) (bk_lo B) p (sl_ad S, sl_wy S, sl_rl S, 0, 0) k).2.2.2.2) (sl_po S) (sl_sp S) (sl_rs S) (sl_st S) (sl_sr S) (sl_pt S) (sl_av S))) b = pc_B v b B from by rw [xw_up_n (Ne.symm hsb), hB])) hsb (by have := hp.1 k (by omega); omega) how (hhs _ (hp.1 k (by omega))))) (xw_at xw_up_s rfl) rfl dX4_admit_29 ⟨Nat.le_of_ble_eq_true rfl, Nat.le_of_ble_eq_true rfl⟩ rfl (Nat.le_of_ble_eq_true rfl) rfl rfl ?_
      refine xj_aload_n (i := 0) hk dX4_admit_32 rfl rfl ?_
      refine xj_getfield hk dX4_admit_33 fl_X4_37 (xw_at xw_up_s rfl) rfl ?_
      refine xj_getfield hk dX4_admit_36 fl_X4_72 (xw_at (show (xw_up G s (pS v s b (sl_od S) (xu ((aI (bk_te B) (bk_ow B) (bk_hs B) (bk_ra B) (bk_lo B) p (sl_ad S, sl_wy S, sl_rl S, 0, 0) k).1) (p k) (am (bk_te B) (bk_ow B) (bk_hs B) (bk_ra B) (bk_lo B) ((aI (bk_te B) (bk_ow B) (bk_hs B) (bk_ra B) (bk_lo B) p (sl_ad S, sl_wy S, sl_rl S, 0, 0) k).2.2.1) (p k))) (xu ((aI (bk_te B) (bk_ow B) (bk_hs B) (bk_ra B) (bk_lo B) p (sl_ad S, sl_wy S, sl_rl S, 0, 0) k).2.1) (p k) (wv (bk_te B) (bk_ow B) (bk_hs B) (bk_ra B) (bk_lo B) ((aI (bk_te B) (bk_ow B) (bk_hs B) (bk_ra B) (bk_lo B) p (sl_ad S, sl_wy S, sl_rl S, 0, 0) k).2.2.1) (p k))) (sl_so S) (sl_re S) (sl_ro S) (rl1 (bk_te B) (bk_ow B) (bk_hs B) (bk_ra B) (bk_lo B) ((aI (bk_te B) (bk_ow B) (bk_hs B) (bk_ra B) (bk_lo B) p (sl_ad S, sl_wy S, sl_rl S, 0, 0) k).2.2.1) (p k)) (sl_io S) ((aI (bk_te B) (bk_ow B) (bk_hs B) (bk_ra B) (bk_lo B) p (sl_ad S, sl_wy S, sl_rl S, 0, 0) k).2.2.2.1) ((aI (bk_te B) (bk_ow B) (bk_hs B) (bk_ra B) (bk_lo B) p (sl_ad S, sl_wy S, sl_rl S, 0, 0) k).2.2.2.2) (sl_po S) (sl_sp S) (sl_rs S) (sl_st S) (sl_sr S) (sl_pt S) (sl_av S))) b = pc_B v b B from by rw [xw_up_n (Ne.symm hsb), hB]) rfl) rfl ?_
      refine xj_iload_n (i := 2) hk dX4_admit_39 rfl rfl ?_
      refine xj_iaload (k := p k) hk dX4_admit_40 (xw_at (show (xw_up G s (pS v s b (sl_od S) (xu ((aI (bk_te B) (bk_ow B) (bk_hs B) (bk_ra B) (bk_lo B) p (sl_ad S, sl_wy S, sl_rl S, 0, 0) k).1) (p k) (am (bk_te B) (bk_ow B) (bk_hs B) (bk_ra B) (bk_lo B) ((aI (bk_te B) (bk_ow B) (bk_hs B) (bk_ra B) (bk_lo B) p (sl_ad S, sl_wy S, sl_rl S, 0, 0) k).2.2.1) (p k))) (xu ((aI (bk_te B) (bk_ow B) (bk_hs B) (bk_ra B) (bk_lo B) p (sl_ad S, sl_wy S, sl_rl S, 0, 0) k).2.1) (p k) (wv (bk_te B) (bk_ow B) (bk_hs B) (bk_ra B) (bk_lo B) ((aI (bk_te B) (bk_ow B) (bk_hs B) (bk_ra B) (bk_lo B) p (sl_ad S, sl_wy S, sl_rl S, 0, 0) k).2.2.1) (p k))) (sl_so S) (sl_re S) (sl_ro S) (rl1 (bk_te B) (bk_ow B) (bk_hs B) (bk_ra B) (bk_lo B) ((aI (bk_te B) (bk_ow B) (bk_hs B) (bk_ra B) (bk_lo B) p (sl_ad S, sl_wy S, sl_rl S, 0, 0) k).2.2.1) (p k)) (sl_io S) ((aI (bk_te B) (bk_ow B) (bk_hs B) (bk_ra B) (bk_lo B) p (sl_ad S, sl_wy S, sl_rl S, 0, 0) k).2.2.2.1) ((aI (bk_te B) (bk_ow B) (bk_hs B) (bk_ra B) (bk_lo B) p (sl_ad S, sl_wy S, sl_rl S, 0, 0) k).2.2.2.2) (sl_po S) (sl_sp S) (sl_rs S) (sl_st S) (sl_sr S) (sl_pt S) (sl_av S))) b = pc_B v b B from by rw [xw_up_n (Ne.symm hsb), hB]) rfl) (xi_n (by have := hp.1 k (by omega); omega) (by decide)) ?_
      refine xj_iconst (x := (-1)) hk dX4_admit_41 (by decide) ?_
      refine xj_icmp_ne (tgt := 63) hk dX4_admit_42 (by decide) (fun c42 => ?_) (fun c42 => ?_)
      · refine xj_aload_n (i := 0) hk dX4_admit_63 rfl rfl ?_
        refine xj_dup hk dX4_admit_64 rfl ?_
        refine xj_getfield hk dX4_admit_65 fl_X4_93 (xw_at xw_up_s rfl) rfl ?_
        refine xj_aload_n (i := 0) hk dX4_admit_68 rfl rfl ?_
        refine xj_getfield hk dX4_admit_69 fl_X4_15 (xw_at xw_up_s rfl) rfl ?_
        refine xj_iload_n (i := 2) hk dX4_admit_72 rfl rfl ?_
        refine xj_iaload (k := p k) hk dX4_admit_73 (xw_at xw_up_s rfl) (xi_n (by have := hp.1 k (by omega); omega) (by decide)) ?_
        refine xj.eqi (x' := am (bk_te B) (bk_ow B) (bk_hs B) (bk_ra B) (bk_lo B) (aI (bk_te B) (bk_ow B) (bk_hs B) (bk_ra B) (bk_lo B) p (sl_ad S, sl_wy S, sl_rl S, 0, 0) k).2.2.1 (p k)) xu_s ?_
        refine xj_iadd hk dX4_admit_74 ?_
        refine xj_putfield (G2 := xw_up G s (pS v s b (sl_od S) (xu ((aI (bk_te B) (bk_ow B) (bk_hs B) (bk_ra B) (bk_lo B) p (sl_ad S, sl_wy S, sl_rl S, 0, 0) k).1) (p k) (am (bk_te B) (bk_ow B) (bk_hs B) (bk_ra B) (bk_lo B) ((aI (bk_te B) (bk_ow B) (bk_hs B) (bk_ra B) (bk_lo B) p (sl_ad S, sl_wy S, sl_rl S, 0, 0) k).2.2.1) (p k))) (xu ((aI (bk_te B) (bk_ow B) (bk_hs B) (bk_ra B) (bk_lo B) p (sl_ad S, sl_wy S, sl_rl S, 0, 0) k).2.1) (p k) (wv (bk_te B) (bk_ow B) (bk_hs B) (bk_ra B) (bk_lo B) ((aI (bk_te B) (bk_ow B) (bk_hs B) (bk_ra B) (bk_lo B) p (sl_ad S, sl_wy S, sl_rl S, 0, 0) k).2.2.1) (p k))) (sl_so S) (sl_re S) (sl_ro S) (rl1 (bk_te B) (bk_ow B) (bk_hs B) (bk_ra B) (bk_lo B) ((aI (bk_te B) (bk_ow B) (bk_hs B) (bk_ra B) (bk_lo B) p (sl_ad S, sl_wy S, sl_rl S, 0, 0) k).2.2.1) (p k)) (sl_io S) ((aI (bk_te B) (bk_ow B) (bk_hs B) (bk_ra B) (bk_lo B) p (sl_ad S, sl_wy S, sl_rl S, 0, 0) k).2.2.2.1) (((aI (bk_te B) (bk_ow B) (bk_hs B) (bk_ra B) (bk_lo B) p (sl_ad S, sl_wy S, sl_rl S, 0, 0) k).2.2.2.2) + (am (bk_te B) (bk_ow B) (bk_hs B) (bk_ra B) (bk_lo B) (aI (bk_te B) (bk_ow B) (bk_hs B) (bk_ra B) (bk_lo B) p (sl_ad S, sl_wy S, sl_rl S, 0, 0) k).2.2.1 (p k))) (sl_po S) (sl_sp S) (sl_rs S) (sl_st S) (sl_sr S) (sl_pt S) (sl_av S))) hk dX4_admit_75 fl_X4_93 rfl rfl (xw_at xw_up_s rfl) (Nat.le_of_ble_eq_true rfl) (xw_wr2 rfl) ?_
        refine xj_iinc (i := 1) (x2 := nI (k + 1)) (ls2 := [some (.ref (xw_ad v s 0)), some (.int (nI (k + 1))), some (.int (nI (p k)))]) hk dX4_admit_78 rfl (nI_1 k) (by decide) rfl rfl ?_
        refine xj_goto (tgt := 12) hk dX4_admit_81 (by decide) ?_
        refine xj.le (ls' := [some (.ref (xw_ad v s 0)), some (.int (nI ((k + 1)))), none]) (by simp [xl_le] <;> rfl) ?_
        refine xj.eqG (G' := xw_up G s (pS v s b (sl_od S) ((aI (bk_te B) (bk_ow B) (bk_hs B) (bk_ra B) (bk_lo B) p (sl_ad S, sl_wy S, sl_rl S, 0, 0) ((k + 1))).1) ((aI (bk_te B) (bk_ow B) (bk_hs B) (bk_ra B) (bk_lo B) p (sl_ad S, sl_wy S, sl_rl S, 0, 0) ((k + 1))).2.1) (sl_so S) (sl_re S) (sl_ro S) ((aI (bk_te B) (bk_ow B) (bk_hs B) (bk_ra B) (bk_lo B) p (sl_ad S, sl_wy S, sl_rl S, 0, 0) ((k + 1))).2.2.1) (sl_io S) ((aI (bk_te B) (bk_ow B) (bk_hs B) (bk_ra B) (bk_lo B) p (sl_ad S, sl_wy S, sl_rl S, 0, 0) ((k + 1))).2.2.2.1) ((aI (bk_te B) (bk_ow B) (bk_hs B) (bk_ra B) (bk_lo B) p (sl_ad S, sl_wy S, sl_rl S, 0, 0) ((k + 1))).2.2.2.2) (sl_po S) (sl_sp S) (sl_rs S) (sl_st S) (sl_sr S) (sl_pt S) (sl_av S))) (by simp only [aI]; first | rw [if_pos c42, if_pos c42] | rw [if_neg c42, if_neg c42]) (ih (k + 1) (by omega) (by omega))
      · refine xj_aload_n (i := 0) hk dX4_admit_45 rfl rfl ?_
        refine xj_dup hk dX4_admit_46 rfl ?_
        refine xj_getfield hk dX4_admit_47 fl_X4_90 (xw_at xw_up_s rfl) rfl ?_
        refine xj_aload_n (i := 0) hk dX4_admit_50 rfl rfl ?_
        refine xj_getfield hk dX4_admit_51 fl_X4_15 (xw_at xw_up_s rfl) rfl ?_
        refine xj_iload_n (i := 2) hk dX4_admit_54 rfl rfl ?_
        refine xj_iaload (k := p k) hk dX4_admit_55 (xw_at xw_up_s rfl) (xi_n (by have := hp.1 k (by omega); omega) (by decide)) ?_
        refine xj.eqi (x' := am (bk_te B) (bk_ow B) (bk_hs B) (bk_ra B) (bk_lo B) (aI (bk_te B) (bk_ow B) (bk_hs B) (bk_ra B) (bk_lo B) p (sl_ad S, sl_wy S, sl_rl S, 0, 0) k).2.2.1 (p k)) xu_s ?_
        refine xj_iadd hk dX4_admit_56 ?_
        refine xj_putfield (G2 := xw_up G s (pS v s b (sl_od S) (xu ((aI (bk_te B) (bk_ow B) (bk_hs B) (bk_ra B) (bk_lo B) p (sl_ad S, sl_wy S, sl_rl S, 0, 0) k).1) (p k) (am (bk_te B) (bk_ow B) (bk_hs B) (bk_ra B) (bk_lo B) ((aI (bk_te B) (bk_ow B) (bk_hs B) (bk_ra B) (bk_lo B) p (sl_ad S, sl_wy S, sl_rl S, 0, 0) k).2.2.1) (p k))) (xu ((aI (bk_te B) (bk_ow B) (bk_hs B) (bk_ra B) (bk_lo B) p (sl_ad S, sl_wy S, sl_rl S, 0, 0) k).2.1) (p k) (wv (bk_te B) (bk_ow B) (bk_hs B) (bk_ra B) (bk_lo B) ((aI (bk_te B) (bk_ow B) (bk_hs B) (bk_ra B) (bk_lo B) p (sl_ad S, sl_wy S, sl_rl S, 0, 0) k).2.2.1) (p k))) (sl_so S) (sl_re S) (sl_ro S) (rl1 (bk_te B) (bk_ow B) (bk_hs B) (bk_ra B) (bk_lo B) ((aI (bk_te B) (bk_ow B) (bk_hs B) (bk_ra B) (bk_lo B) p (sl_ad S, sl_wy S, sl_rl S, 0, 0) k).2.2.1) (p k)) (sl_io S) (((aI (bk_te B) (bk_ow B) (bk_hs B) (bk_ra B) (bk_lo B) p (sl_ad S, sl_wy S, sl_rl S, 0, 0) k).2.2.2.1) + (am (bk_te B) (bk_ow B) (bk_hs B) (bk_ra B) (bk_lo B) (aI (bk_te B) (bk_ow B) (bk_hs B) (bk_ra B) (bk_lo B) p (sl_ad S, sl_wy S, sl_rl S, 0, 0) k).2.2.1 (p k))) ((aI (bk_te B) (bk_ow B) (bk_hs B) (bk_ra B) (bk_lo B) p (sl_ad S, sl_wy S, sl_rl S, 0, 0) k).2.2.2.2) (sl_po S) (sl_sp S) (sl_rs S) (sl_st S) (sl_sr S) (sl_pt S) (sl_av S))) hk dX4_admit_57 fl_X4_90 rfl rfl (xw_at xw_up_s rfl) (Nat.le_of_ble_eq_true rfl) (xw_wr2 rfl) ?_
        refine xj_goto (tgt := 78) hk dX4_admit_60 (by decide) ?_
        refine xj_iinc (i := 1) (x2 := nI (k + 1)) (ls2 := [some (.ref (xw_ad v s 0)), some (.int (nI (k + 1))), some (.int (nI (p k)))]) hk dX4_admit_78 rfl (nI_1 k) (by decide) rfl rfl ?_
        refine xj_goto (tgt := 12) hk dX4_admit_81 (by decide) ?_
        refine xj.le (ls' := [some (.ref (xw_ad v s 0)), some (.int (nI ((k + 1)))), none]) (by simp [xl_le] <;> rfl) ?_
        refine xj.eqG (G' := xw_up G s (pS v s b (sl_od S) ((aI (bk_te B) (bk_ow B) (bk_hs B) (bk_ra B) (bk_lo B) p (sl_ad S, sl_wy S, sl_rl S, 0, 0) ((k + 1))).1) ((aI (bk_te B) (bk_ow B) (bk_hs B) (bk_ra B) (bk_lo B) p (sl_ad S, sl_wy S, sl_rl S, 0, 0) ((k + 1))).2.1) (sl_so S) (sl_re S) (sl_ro S) ((aI (bk_te B) (bk_ow B) (bk_hs B) (bk_ra B) (bk_lo B) p (sl_ad S, sl_wy S, sl_rl S, 0, 0) ((k + 1))).2.2.1) (sl_io S) ((aI (bk_te B) (bk_ow B) (bk_hs B) (bk_ra B) (bk_lo B) p (sl_ad S, sl_wy S, sl_rl S, 0, 0) ((k + 1))).2.2.2.1) ((aI (bk_te B) (bk_ow B) (bk_hs B) (bk_ra B) (bk_lo B) p (sl_ad S, sl_wy S, sl_rl S, 0, 0) ((k + 1))).2.2.2.2) (sl_po S) (sl_sp S) (sl_rs S) (sl_st S) (sl_sr S) (sl_pt S) (sl_av S))) (by simp only [aI]; first | rw [if_pos c42, if_pos c42] | rw [if_neg c42, if_neg c42]) (ih (k + 1) (by omega) (by omega))

set_option maxHeartbeats 1000000 in
set_option maxRecDepth 10000 in
theorem c_X4_admit {v : xw_V} {G : xw_G} {s b : Nat} {S : sl_T} {B : bk_T} {n : Nat} {p : Nat → Nat} (hS : G s = pc_S v s b S) (hB : G b = pc_B v b B) (hsb : s ≠ b) (hn : bk_bi B = nI n) (hn30 : n ≤ 30) (hio : sl_io S = nI n) (how : okOw (bk_ow B)) (hhs : okHs (bk_hs B) n) (hod : pls n (sl_od S) p) (hp : inj n p) : xk_Con v yX4_admit cX4_admit 3 none 2 43 [.ref (xw_ad v s 0)] G (xk_ret none (xw_up G s (pS v s b (sl_od S) ((aI (bk_te B) (bk_ow B) (bk_hs B) (bk_ra B) (bk_lo B) p (sl_ad S, sl_wy S, sl_rl S, 0, 0) n).1) ((aI (bk_te B) (bk_ow B) (bk_hs B) (bk_ra B) (bk_lo B) p (sl_ad S, sl_wy S, sl_rl S, 0, 0) n).2.1) (sl_so S) (sl_re S) (sl_ro S) ((aI (bk_te B) (bk_ow B) (bk_hs B) (bk_ra B) (bk_lo B) p (sl_ad S, sl_wy S, sl_rl S, 0, 0) n).2.2.1) (sl_io S) ((aI (bk_te B) (bk_ow B) (bk_hs B) (bk_ra B) (bk_lo B) p (sl_ad S, sl_wy S, sl_rl S, 0, 0) n).2.2.2.1) ((aI (bk_te B) (bk_ow B) (bk_hs B) (bk_ra B) (bk_lo B) p (sl_ad S, sl_wy S, sl_rl S, 0, 0) n).2.2.2.2) (sl_po S) (sl_sp S) (sl_rs S) (sl_st S) (sl_sr S) (sl_pt S) (sl_av S)))) := by
  refine xk_of (ls0 := [some (.ref (xw_ad v s 0)), none, none]) (by decide) rfl (Nat.le_of_ble_eq_true rfl) ?_
  intro κ z hk hz
  refine xj_aload_n (i := 0) hk dX4_admit_0 rfl rfl ?_
  refine xj_iconst (x := 0) hk dX4_admit_1 (by decide) ?_
  refine xj_putfield (G2 := xw_up G s (pS v s b (sl_od S) (sl_ad S) (sl_wy S) (sl_so S) (sl_re S) (sl_ro S) (sl_rl S) (sl_io S) 0 (sl_ar S) (sl_po S) (sl_sp S) (sl_rs S) (sl_st S) (sl_sr S) (sl_pt S) (sl_av S))) hk dX4_admit_2 fl_X4_90 rfl rfl (xw_at hS rfl) (Nat.le_of_ble_eq_true rfl) (xw_wr hS rfl) ?_
  refine xj_aload_n (i := 0) hk dX4_admit_5 rfl rfl ?_
  refine xj_iconst (x := 0) hk dX4_admit_6 (by decide) ?_
  refine xj_putfield (G2 := xw_up G s (pS v s b (sl_od S) (sl_ad S) (sl_wy S) (sl_so S) (sl_re S) (sl_ro S) (sl_rl S) (sl_io S) 0 0 (sl_po S) (sl_sp S) (sl_rs S) (sl_st S) (sl_sr S) (sl_pt S) (sl_av S))) hk dX4_admit_7 fl_X4_93 rfl rfl (xw_at xw_up_s rfl) (Nat.le_of_ble_eq_true rfl) (xw_wr2 rfl) ?_
  refine xj_iconst (x := 0) hk dX4_admit_10 (by decide) ?_
  refine xj_istore_n (i := 1) (ls2 := [some (.ref (xw_ad v s 0)), some (.int 0), none]) hk dX4_admit_11 rfl (by decide) rfl rfl ?_
  refine l_X4_admit_12 hk hz hS hB hsb hn hn30 hio how hhs hod hp ?_ (n + 1) 0 (by omega) (by omega)
  refine xj_return hk hz dX4_admit_84 ?_
  exact ⟨rfl, rfl⟩

set_option maxHeartbeats 1000000 in
set_option maxRecDepth 10000 in
theorem l_X4_giveOneMore_6 {v : xw_V} {κ : xk_K} {post : Option Value → xw_G → Prop} {z : Nat × Nat × Nat} {G : xw_G} {s b : Nat} {S : sl_T} {B : bk_T} {n : Nat} (hk : xk_Ok v κ yX4_giveOneMore cX4_giveOneMore 4 none 0 0) (hz : xk_zf κ = z) (hS : G s = pc_S v s b S) (hB : G b = pc_B v b B) (hsb : s ≠ b) (hio : sl_io S = nI n) (hn30 : n ≤ 30) (kx : xj v κ post z G 39 [some (.ref (xw_ad v s 0)), some (.int (oI (gB (sl_re S) n))), some (.int (gV (sl_re S) n)), some (.int (nI n))] []) : ∀ (m : Nat) (k : Nat), n - k < m → k ≤ n → xj v κ post z G 6 [some (.ref (xw_ad v s 0)), some (.int (oI (gB (sl_re S) k))), some (.int (gV (sl_re S) k)), some (.int (nI k))] [] := by
  intro m
  induction m with
  | zero => intro k h; exact absurd h (Nat.not_lt_zero _)
  | succ m ih =>
    intro k hm hi
    refine xj_iload_n (i := 3) hk dX4_giveOneMore_6 rfl rfl ?_
    refine xj_aload_n (i := 0) hk dX4_giveOneMore_7 rfl rfl ?_
    refine xj_getfield hk dX4_giveOneMore_8 fl_X4_33 (xw_at hS rfl) rfl ?_
    refine xj.eqi (x' := nI n) hio ?_
    refine xj_icmp_ge (tgt := 39) hk dX4_giveOneMore_11 (by decide) (fun c11 => ?_) (fun c11 => ?_)
    · have c11 : n ≤ k := (nI_leI (a := n) (b := k) (by omega) (by omega)).mp c11
      have e9 : k = n := by omega
      subst e9
      exact kx
    · have c11 : ¬ n ≤ k := fun q => c11 ((nI_leI (a := n) (b := k) (by omega) (by omega)).mpr q)
      refine xj_aload_n (i := 0) hk dX4_giveOneMore_14 rfl rfl ?_
      refine xj_getfield hk dX4_giveOneMore_15 fl_X4_24 (xw_at hS rfl) rfl ?_
      refine xj_iload_n (i := 3) hk dX4_giveOneMore_18 rfl rfl ?_
      refine xj_iaload (k := k) hk dX4_giveOneMore_19 (xw_at hS rfl) (xi_n (by omega) (by decide)) ?_
      refine xj_iload_n (i := 2) hk dX4_giveOneMore_20 rfl rfl ?_
      refine xj_icmp_le (tgt := 33) hk dX4_giveOneMore_21 (by decide) (fun c21 => ?_) (fun c21 => ?_)
      · refine xj_iinc (i := 3) (x2 := nI (k + 1)) (ls2 := [some (.ref (xw_ad v s 0)), some (.int (oI (gB (sl_re S) k))), some (.int (gV (sl_re S) k)), some (.int (nI (k + 1)))]) hk dX4_giveOneMore_33 rfl (nI_1 k) (by decide) rfl rfl ?_
        refine xj_goto (tgt := 6) hk dX4_giveOneMore_36 (by decide) ?_
        refine xj.to (ls' := [some (.ref (xw_ad v s 0)), some (.int (oI (gB (sl_re S) ((k + 1))))), some (.int (gV (sl_re S) ((k + 1)))), some (.int (nI ((k + 1))))]) (by simp [gB, gV, oI, *]) (ih (k + 1) (by omega) (by omega))
      · refine xj_aload_n (i := 0) hk dX4_giveOneMore_24 rfl rfl ?_
        refine xj_getfield hk dX4_giveOneMore_25 fl_X4_24 (xw_at hS rfl) rfl ?_
        refine xj_iload_n (i := 3) hk dX4_giveOneMore_28 rfl rfl ?_
        refine xj_iaload (k := k) hk dX4_giveOneMore_29 (xw_at hS rfl) (xi_n (by omega) (by decide)) ?_
        refine xj_istore_n (i := 2) (ls2 := [some (.ref (xw_ad v s 0)), some (.int (oI (gB (sl_re S) k))), some (.int (sl_re S k)), some (.int (nI k))]) hk dX4_giveOneMore_30 rfl (by decide) rfl rfl ?_
        refine xj_iload_n (i := 3) hk dX4_giveOneMore_31 rfl rfl ?_
        refine xj_istore_n (i := 1) (ls2 := [some (.ref (xw_ad v s 0)), some (.int (nI k)), some (.int (sl_re S k)), some (.int (nI k))]) hk dX4_giveOneMore_32 rfl (by decide) rfl rfl ?_
        refine xj_iinc (i := 3) (x2 := nI (k + 1)) (ls2 := [some (.ref (xw_ad v s 0)), some (.int (nI k)), some (.int (sl_re S k)), some (.int (nI (k + 1)))]) hk dX4_giveOneMore_33 rfl (nI_1 k) (by decide) rfl rfl ?_
        refine xj_goto (tgt := 6) hk dX4_giveOneMore_36 (by decide) ?_
        refine xj.to (ls' := [some (.ref (xw_ad v s 0)), some (.int (oI (gB (sl_re S) ((k + 1))))), some (.int (gV (sl_re S) ((k + 1)))), some (.int (nI ((k + 1))))]) (by simp [gB, gV, oI, *]) (ih (k + 1) (by omega) (by omega))

set_option maxHeartbeats 1000000 in
set_option maxRecDepth 10000 in
theorem c_X4_giveOneMore {v : xw_V} {G : xw_G} {s b : Nat} {S : sl_T} {B : bk_T} {n : Nat} (hS : G s = pc_S v s b S) (hB : G b = pc_B v b B) (hsb : s ≠ b) (hio : sl_io S = nI n) (hn30 : n ≤ 30) : xk_Con v yX4_giveOneMore cX4_giveOneMore 4 none 0 0 [.ref (xw_ad v s 0)] G (xk_ret none (xw_up G s (pS v s b (sl_od S) (sl_ad S) (sl_wy S) (gvS n (sl_so S) (sl_re S)) (gvR n (sl_re S)) (sl_ro S) (sl_rl S) (sl_io S) (sl_ap S) (sl_ar S) (sl_po S) (sl_sp S) (sl_rs S) (sl_st S) (sl_sr S) (sl_pt S) (sl_av S)))) := by
  refine xk_of (ls0 := [some (.ref (xw_ad v s 0)), none, none, none]) (by decide) rfl (Nat.le_of_ble_eq_true rfl) ?_
  intro κ z hk hz
  refine xj_iconst (x := (-1)) hk dX4_giveOneMore_0 (by decide) ?_
  refine xj_istore_n (i := 1) (ls2 := [some (.ref (xw_ad v s 0)), some (.int ((-1))), none, none]) hk dX4_giveOneMore_1 rfl (by decide) rfl rfl ?_
  refine xj_iconst (x := 0) hk dX4_giveOneMore_2 (by decide) ?_
  refine xj_istore_n (i := 2) (ls2 := [some (.ref (xw_ad v s 0)), some (.int ((-1))), some (.int 0), none]) hk dX4_giveOneMore_3 rfl (by decide) rfl rfl ?_
  refine xj_iconst (x := 0) hk dX4_giveOneMore_4 (by decide) ?_
  refine xj_istore_n (i := 3) (ls2 := [some (.ref (xw_ad v s 0)), some (.int ((-1))), some (.int 0), some (.int 0)]) hk dX4_giveOneMore_5 rfl (by decide) rfl rfl ?_
  refine l_X4_giveOneMore_6 hk hz hS hB hsb hio hn30 ?_ (n + 1) 0 (by omega) (by omega)
  cases hg : gB (sl_re S) n with
  | none =>
    show xj v κ _ z G 39 [some (.ref (xw_ad v s 0)), some (.int ((-1))), some (.int (gV (sl_re S) n)), some (.int (nI n))] []
    refine xj_iload_n (i := 1) hk dX4_giveOneMore_39 rfl rfl ?_
    refine xj_if_lt (tgt := 60) hk dX4_giveOneMore_40 (by decide) (fun c40 => ?_) (fun c40 => ?_)
    · refine xj_return hk hz dX4_giveOneMore_60 ?_
      exact ⟨rfl, by simp only [gvS, gvR, hg]; exact (xw_up_same hS).symm⟩
    · exact absurd (by decide) c40
  | some j =>
    show xj v κ _ z G 39 [some (.ref (xw_ad v s 0)), some (.int (nI j)), some (.int (gV (sl_re S) n)), some (.int (nI n))] []
    refine xj_iload_n (i := 1) hk dX4_giveOneMore_39 rfl rfl ?_
    refine xj_if_lt (tgt := 60) hk dX4_giveOneMore_40 (by decide) (fun c40 => ?_) (fun c40 => ?_)
    · exact absurd c40 (nI_pos (by have := gB_lt hg; omega))
    · refine xj_aload_n (i := 0) hk dX4_giveOneMore_43 rfl rfl ?_
      refine xj_getfield hk dX4_giveOneMore_44 fl_X4_21 (xw_at hS rfl) rfl ?_
      refine xj_iload_n (i := 1) hk dX4_giveOneMore_47 rfl rfl ?_
      refine xj_dup2 hk dX4_giveOneMore_48 rfl rfl ?_
      refine xj_iaload (k := j) hk dX4_giveOneMore_49 (xw_at hS rfl) (xi_n (by have := gB_lt hg; omega) (by decide)) ?_
      refine xj_iconst (x := 1) hk dX4_giveOneMore_50 (by decide) ?_
      refine xj_iadd hk dX4_giveOneMore_51 ?_
      refine xj_iastore (k := j) (G2 := xw_up G s (pS v s b (sl_od S) (sl_ad S) (sl_wy S) (xu (sl_so S) j ((sl_so S j) + 1)) (sl_re S) (sl_ro S) (sl_rl S) (sl_io S) (sl_ap S) (sl_ar S) (sl_po S) (sl_sp S) (sl_rs S) (sl_st S) (sl_sr S) (sl_pt S) (sl_av S))) hk dX4_giveOneMore_52 (xw_at hS rfl) (xi_n (by have := gB_lt hg; omega) (by decide)) (xw_wr hS rfl) ?_
      refine xj_aload_n (i := 0) hk dX4_giveOneMore_53 rfl rfl ?_
      refine xj_getfield hk dX4_giveOneMore_54 fl_X4_24 (xw_at xw_up_s rfl) rfl ?_
      refine xj_iload_n (i := 1) hk dX4_giveOneMore_57 rfl rfl ?_
      refine xj_iconst (x := 0) hk dX4_giveOneMore_58 (by decide) ?_
      refine xj_iastore (k := j) (G2 := xw_up G s (pS v s b (sl_od S) (sl_ad S) (sl_wy S) (xu (sl_so S) j ((sl_so S j) + 1)) (xu (sl_re S) j 0) (sl_ro S) (sl_rl S) (sl_io S) (sl_ap S) (sl_ar S) (sl_po S) (sl_sp S) (sl_rs S) (sl_st S) (sl_sr S) (sl_pt S) (sl_av S))) hk dX4_giveOneMore_59 (xw_at xw_up_s rfl) (xi_n (by have := gB_lt hg; omega) (by decide)) (xw_wr2 rfl) ?_
      refine xj_return hk hz dX4_giveOneMore_60 ?_
      exact ⟨rfl, by simp only [gvS, gvR, hg]⟩

set_option maxHeartbeats 1000000 in
set_option maxRecDepth 10000 in
theorem l_X4_sellPart_6 {v : xw_V} {κ : xk_K} {post : Option Value → xw_G → Prop} {z : Nat × Nat × Nat} {G : xw_G} {s b : Nat} {S : sl_T} {B : bk_T} {n : Nat} (hk : xk_Ok v κ yX4_sellPart cX4_sellPart 7 none 1 23) (hz : xk_zf κ = z) (hS : G s = pc_S v s b S) (hB : G b = pc_B v b B) (hsb : s ≠ b) (hio : sl_io S = nI n) (hn30 : n ≤ 30) (r am to : Int32) (hto : ¬ to ≤ 0) (kx : xj v κ post z (xw_up G s (pS v s b (sl_od S) (sl_ad S) (sl_wy S) (cpN n (ptS (bk_ra B) (sl_ad S) (sl_so S) r am to) (sl_so S)) (cpN n (ptR (bk_ra B) (sl_ad S) r am to) (sl_re S)) (sl_ro S) (sl_rl S) (sl_io S) (sl_ap S) (sl_ar S) (sl_po S) (sl_sp S) (sl_rs S) (sl_st S) (sl_sr S) (sl_pt S) (sl_av S))) 92 [some (.ref (xw_ad v s 0)), some (.int r), some (.int am), some (.int to), some (.int (ptL (bk_ra B) (sl_ad S) r am to n)), some (.int (nI n)), none] []) : ∀ (m : Nat) (k : Nat), n - k < m → k ≤ n → xj v κ post z (xw_up G s (pS v s b (sl_od S) (sl_ad S) (sl_wy S) (cpN k (ptS (bk_ra B) (sl_ad S) (sl_so S) r am to) (sl_so S)) (cpN k (ptR (bk_ra B) (sl_ad S) r am to) (sl_re S)) (sl_ro S) (sl_rl S) (sl_io S) (sl_ap S) (sl_ar S) (sl_po S) (sl_sp S) (sl_rs S) (sl_st S) (sl_sr S) (sl_pt S) (sl_av S))) 6 [some (.ref (xw_ad v s 0)), some (.int r), some (.int am), some (.int to), some (.int (ptL (bk_ra B) (sl_ad S) r am to k)), some (.int (nI k)), none] [] := by
  intro m
  induction m with
  | zero => intro k h; exact absurd h (Nat.not_lt_zero _)
  | succ m ih =>
    intro k hm hi
    refine xj_iload hk dX4_sellPart_6 rfl ?_
    refine xj_aload_n (i := 0) hk dX4_sellPart_8 rfl rfl ?_
    refine xj_getfield hk dX4_sellPart_9 fl_X4_33 (xw_at xw_up_s rfl) rfl ?_
    refine xj.eqi (x' := nI n) hio ?_
    refine xj_icmp_ge (tgt := 92) hk dX4_sellPart_12 (by decide) (fun c12 => ?_) (fun c12 => ?_)
    · have c12 : n ≤ k := (nI_leI (a := n) (b := k) (by omega) (by omega)).mp c12
      have e9 : k = n := by omega
      subst e9
      exact kx
    · have c12 : ¬ n ≤ k := fun q => c12 ((nI_leI (a := n) (b := k) (by omega) (by omega)).mpr q)
      refine xj_aload_n (i := 0) hk dX4_sellPart_15 rfl rfl ?_
      refine xj_getfield hk dX4_sellPart_16 fl_X4_24 (xw_at xw_up_s rfl) rfl ?_
      refine xj_iload hk dX4_sellPart_19 rfl ?_
      refine xj_iconst (x := 0) hk dX4_sellPart_21 (by decide) ?_
      refine xj_iastore (k := k) (G2 := xw_up G s (pS v s b (sl_od S) (sl_ad S) (sl_wy S) (cpN k (ptS (bk_ra B) (sl_ad S) (sl_so S) r am to) (sl_so S)) (xu (cpN k (ptR (bk_ra B) (sl_ad S) r am to) (sl_re S)) k 0) (sl_ro S) (sl_rl S) (sl_io S) (sl_ap S) (sl_ar S) (sl_po S) (sl_sp S) (sl_rs S) (sl_st S) (sl_sr S) (sl_pt S) (sl_av S))) hk dX4_sellPart_22 (xw_at xw_up_s rfl) (xi_n (by omega) (by decide)) (xw_wr2 rfl) ?_
      refine xj_aload_n (i := 0) hk dX4_sellPart_23 rfl rfl ?_
      refine xj_getfield hk dX4_sellPart_24 fl_X4_37 (xw_at xw_up_s rfl) rfl ?_
      refine xj_getfield hk dX4_sellPart_27 fl_X4_72 (xw_at (show (xw_up G s (pS v s b (sl_od S) (sl_ad S) (sl_wy S) (cpN k (ptS (bk_ra B) (sl_ad S) (sl_so S) r am to) (sl_so S)) (xu (cpN k (ptR (bk_ra B) (sl_ad S) r am to) (sl_re S)) k 0) (sl_ro S) (sl_rl S) (sl_io S) (sl_ap S) (sl_ar S) (sl_po S) (sl_sp S) (sl_rs S) (sl_st S) (sl_sr S) (sl_pt S) (sl_av S))) b = pc_B v b B from by rw [xw_up_n (Ne.symm hsb), hB]) rfl) rfl ?_
      refine xj_iload hk dX4_sellPart_30 rfl ?_
      refine xj_iaload (k := k) hk dX4_sellPart_32 (xw_at (show (xw_up G s (pS v s b (sl_od S) (sl_ad S) (sl_wy S) (cpN k (ptS (bk_ra B) (sl_ad S) (sl_so S) r am to) (sl_so S)) (xu (cpN k (ptR (bk_ra B) (sl_ad S) r am to) (sl_re S)) k 0) (sl_ro S) (sl_rl S) (sl_io S) (sl_ap S) (sl_ar S) (sl_po S) (sl_sp S) (sl_rs S) (sl_st S) (sl_sr S) (sl_pt S) (sl_av S))) b = pc_B v b B from by rw [xw_up_n (Ne.symm hsb), hB]) rfl) (xi_n (by omega) (by decide)) ?_
      refine xj_iload_n (i := 1) hk dX4_sellPart_33 rfl rfl ?_
      refine xj_icmp_ne (tgt := 86) hk dX4_sellPart_34 (by decide) (fun c34 => ?_) (fun c34 => ?_)
      · refine xj_iinc (i := 5) (x2 := nI (k + 1)) (ls2 := [some (.ref (xw_ad v s 0)), some (.int r), some (.int am), some (.int to), some (.int (ptL (bk_ra B) (sl_ad S) r am to k)), some (.int (nI (k + 1))), none]) hk dX4_sellPart_86 rfl (nI_1 k) (by decide) rfl rfl ?_
        refine xj_goto (tgt := 6) hk dX4_sellPart_89 (by decide) ?_
        refine xj.le (ls' := [some (.ref (xw_ad v s 0)), some (.int r), some (.int am), some (.int to), some (.int (ptL (bk_ra B) (sl_ad S) r am to ((k + 1)))), some (.int (nI ((k + 1)))), none]) (by simp [xl_le, ptL, pQ, *]) ?_
        refine xj.eqG (G' := xw_up G s (pS v s b (sl_od S) (sl_ad S) (sl_wy S) (cpN ((k + 1)) (ptS (bk_ra B) (sl_ad S) (sl_so S) r am to) (sl_so S)) (cpN ((k + 1)) (ptR (bk_ra B) (sl_ad S) r am to) (sl_re S)) (sl_ro S) (sl_rl S) (sl_io S) (sl_ap S) (sl_ar S) (sl_po S) (sl_sp S) (sl_rs S) (sl_st S) (sl_sr S) (sl_pt S) (sl_av S))) (by first | (rw [xu_xu, cp_e (show ptS (bk_ra B) (sl_ad S) (sl_so S) r am to k = sl_ad S k * am / to by simp only [ptS, if_pos c34]; rfl), cp_e (show ptR (bk_ra B) (sl_ad S) r am to k = _ by simp only [ptR, if_pos c34]; rfl)]) | (rw [cp_e (show ptR (bk_ra B) (sl_ad S) r am to k = 0 by simp only [ptR, if_neg c34]), cp_n (show ptS (bk_ra B) (sl_ad S) (sl_so S) r am to k = sl_so S k by simp only [ptS, if_neg c34])])) (ih (k + 1) (by omega) (by omega))
      · refine xj_iload_n (i := 3) hk dX4_sellPart_37 rfl rfl ?_
        refine xj_if_le (tgt := 86) hk dX4_sellPart_38 (by decide) (fun c38 => ?_) (fun c38 => ?_)
        · exact absurd c38 hto
        · refine xj_aload_n (i := 0) hk dX4_sellPart_41 rfl rfl ?_
          refine xj_getfield hk dX4_sellPart_42 fl_X4_15 (xw_at xw_up_s rfl) rfl ?_
          refine xj_iload hk dX4_sellPart_45 rfl ?_
          refine xj_iaload (k := k) hk dX4_sellPart_47 (xw_at xw_up_s rfl) (xi_n (by omega) (by decide)) ?_
          refine xj_iload_n (i := 2) hk dX4_sellPart_48 rfl rfl ?_
          refine xj_imul hk dX4_sellPart_49 ?_
          refine xj_istore (i := 6) (ls2 := [some (.ref (xw_ad v s 0)), some (.int r), some (.int am), some (.int to), some (.int (ptL (bk_ra B) (sl_ad S) r am to k)), some (.int (nI k)), some (.int ((sl_ad S k) * am))]) hk dX4_sellPart_50 (by decide) rfl rfl ?_
          refine xj_aload_n (i := 0) hk dX4_sellPart_52 rfl rfl ?_
          refine xj_getfield hk dX4_sellPart_53 fl_X4_21 (xw_at xw_up_s rfl) rfl ?_
          refine xj_iload hk dX4_sellPart_56 rfl ?_
          refine xj_iload hk dX4_sellPart_58 rfl ?_
          refine xj_iload_n (i := 3) hk dX4_sellPart_60 rfl rfl ?_
          refine xj_idiv hk dX4_sellPart_61 (fun q => hto (by rw [q]; decide)) ?_
          refine xj_iastore (k := k) (G2 := xw_up G s (pS v s b (sl_od S) (sl_ad S) (sl_wy S) (xu (cpN k (ptS (bk_ra B) (sl_ad S) (sl_so S) r am to) (sl_so S)) k (((sl_ad S k) * am) / to)) (xu (cpN k (ptR (bk_ra B) (sl_ad S) r am to) (sl_re S)) k 0) (sl_ro S) (sl_rl S) (sl_io S) (sl_ap S) (sl_ar S) (sl_po S) (sl_sp S) (sl_rs S) (sl_st S) (sl_sr S) (sl_pt S) (sl_av S))) hk dX4_sellPart_62 (xw_at xw_up_s rfl) (xi_n (by omega) (by decide)) (xw_wr2 rfl) ?_
          refine xj_aload_n (i := 0) hk dX4_sellPart_63 rfl rfl ?_
          refine xj_getfield hk dX4_sellPart_64 fl_X4_24 (xw_at xw_up_s rfl) rfl ?_
          refine xj_iload hk dX4_sellPart_67 rfl ?_
          refine xj_iload hk dX4_sellPart_69 rfl ?_
          refine xj_iload_n (i := 3) hk dX4_sellPart_71 rfl rfl ?_
          refine xj_irem hk dX4_sellPart_72 (fun q => hto (by rw [q]; decide)) ?_
          refine xj_iastore (k := k) (G2 := xw_up G s (pS v s b (sl_od S) (sl_ad S) (sl_wy S) (xu (cpN k (ptS (bk_ra B) (sl_ad S) (sl_so S) r am to) (sl_so S)) k (((sl_ad S k) * am) / to)) (xu (xu (cpN k (ptR (bk_ra B) (sl_ad S) r am to) (sl_re S)) k 0) k (((sl_ad S k) * am) - ((sl_ad S k) * am) / to * to)) (sl_ro S) (sl_rl S) (sl_io S) (sl_ap S) (sl_ar S) (sl_po S) (sl_sp S) (sl_rs S) (sl_st S) (sl_sr S) (sl_pt S) (sl_av S))) hk dX4_sellPart_73 (xw_at xw_up_s rfl) (xi_n (by omega) (by decide)) (xw_wr2 rfl) ?_
          refine xj_iload hk dX4_sellPart_74 rfl ?_
          refine xj_aload_n (i := 0) hk dX4_sellPart_76 rfl rfl ?_
          refine xj_getfield hk dX4_sellPart_77 fl_X4_21 (xw_at xw_up_s rfl) rfl ?_
          refine xj_iload hk dX4_sellPart_80 rfl ?_
          refine xj_iaload (k := k) hk dX4_sellPart_82 (xw_at xw_up_s rfl) (xi_n (by omega) (by decide)) ?_
          refine xj.eqi (x' := sl_ad S k * am / to) xu_s ?_
          refine xj_isub hk dX4_sellPart_83 ?_
          refine xj_istore (i := 4) (ls2 := [some (.ref (xw_ad v s 0)), some (.int r), some (.int am), some (.int to), some (.int ((ptL (bk_ra B) (sl_ad S) r am to k) - (sl_ad S k * am / to))), some (.int (nI k)), some (.int ((sl_ad S k) * am))]) hk dX4_sellPart_84 (by decide) rfl rfl ?_
          refine xj_iinc (i := 5) (x2 := nI (k + 1)) (ls2 := [some (.ref (xw_ad v s 0)), some (.int r), some (.int am), some (.int to), some (.int ((ptL (bk_ra B) (sl_ad S) r am to k) - (sl_ad S k * am / to))), some (.int (nI (k + 1))), some (.int ((sl_ad S k) * am))]) hk dX4_sellPart_86 rfl (nI_1 k) (by decide) rfl rfl ?_
          refine xj_goto (tgt := 6) hk dX4_sellPart_89 (by decide) ?_
          refine xj.le (ls' := [some (.ref (xw_ad v s 0)), some (.int r), some (.int am), some (.int to), some (.int (ptL (bk_ra B) (sl_ad S) r am to ((k + 1)))), some (.int (nI ((k + 1)))), none]) (by simp [xl_le, ptL, pQ, *]) ?_
          refine xj.eqG (G' := xw_up G s (pS v s b (sl_od S) (sl_ad S) (sl_wy S) (cpN ((k + 1)) (ptS (bk_ra B) (sl_ad S) (sl_so S) r am to) (sl_so S)) (cpN ((k + 1)) (ptR (bk_ra B) (sl_ad S) r am to) (sl_re S)) (sl_ro S) (sl_rl S) (sl_io S) (sl_ap S) (sl_ar S) (sl_po S) (sl_sp S) (sl_rs S) (sl_st S) (sl_sr S) (sl_pt S) (sl_av S))) (by first | (rw [xu_xu, cp_e (show ptS (bk_ra B) (sl_ad S) (sl_so S) r am to k = sl_ad S k * am / to by simp only [ptS, if_pos c34]; rfl), cp_e (show ptR (bk_ra B) (sl_ad S) r am to k = _ by simp only [ptR, if_pos c34]; rfl)]) | (rw [cp_e (show ptR (bk_ra B) (sl_ad S) r am to k = 0 by simp only [ptR, if_neg c34]), cp_n (show ptS (bk_ra B) (sl_ad S) (sl_so S) r am to k = sl_so S k by simp only [ptS, if_neg c34])])) (ih (k + 1) (by omega) (by omega))

set_option maxHeartbeats 1000000 in
set_option maxRecDepth 10000 in
theorem l_X4_sellPart_95 {v : xw_V} {κ : xk_K} {post : Option Value → xw_G → Prop} {z : Nat × Nat × Nat} {G : xw_G} {s b : Nat} {S : sl_T} {B : bk_T} {n : Nat} (hk : xk_Ok v κ yX4_sellPart cX4_sellPart 7 none 1 23) (hz : xk_zf κ = z) (hS : G s = pc_S v s b S) (hB : G b = pc_B v b B) (hsb : s ≠ b) (hio : sl_io S = nI n) (hn30 : n ≤ 30) (r am to : Int32) (hto : ¬ to ≤ 0) (kx : xj v κ post z (xw_up G s (pS v s b (sl_od S) (sl_ad S) (sl_wy S) ((prI n (cpN n (ptS (bk_ra B) (sl_ad S) (sl_so S) r am to) (sl_so S), cpN n (ptR (bk_ra B) (sl_ad S) r am to) (sl_re S)) ((ptN n (ptL (bk_ra B) (sl_ad S) r am to n)))).1) ((prI n (cpN n (ptS (bk_ra B) (sl_ad S) (sl_so S) r am to) (sl_so S), cpN n (ptR (bk_ra B) (sl_ad S) r am to) (sl_re S)) ((ptN n (ptL (bk_ra B) (sl_ad S) r am to n)))).2) (sl_ro S) (sl_rl S) (sl_io S) (sl_ap S) (sl_ar S) (sl_po S) (sl_sp S) (sl_rs S) (sl_st S) (sl_sr S) (sl_pt S) (sl_av S))) 121 [some (.ref (xw_ad v s 0)), some (.int r), some (.int am), some (.int to), some (.int (ptL (bk_ra B) (sl_ad S) r am to n)), some (.int (nI ((ptN n (ptL (bk_ra B) (sl_ad S) r am to n))))), none] []) : ∀ (m : Nat) (t : Nat), n - t < m → t ≤ n → fnd (fun t => decide (ptL (bk_ra B) (sl_ad S) r am to n ≤ nI t)) t = t → xj v κ post z (xw_up G s (pS v s b (sl_od S) (sl_ad S) (sl_wy S) ((prI n (cpN n (ptS (bk_ra B) (sl_ad S) (sl_so S) r am to) (sl_so S), cpN n (ptR (bk_ra B) (sl_ad S) r am to) (sl_re S)) t).1) ((prI n (cpN n (ptS (bk_ra B) (sl_ad S) (sl_so S) r am to) (sl_so S), cpN n (ptR (bk_ra B) (sl_ad S) r am to) (sl_re S)) t).2) (sl_ro S) (sl_rl S) (sl_io S) (sl_ap S) (sl_ar S) (sl_po S) (sl_sp S) (sl_rs S) (sl_st S) (sl_sr S) (sl_pt S) (sl_av S))) 95 [some (.ref (xw_ad v s 0)), some (.int r), some (.int am), some (.int to), some (.int (ptL (bk_ra B) (sl_ad S) r am to n)), some (.int (nI t)), none] [] := by
  intro m
  induction m with
  | zero => intro t h; exact absurd h (Nat.not_lt_zero _)
  | succ m ih =>
    intro t hm hi hf
    refine xj_iload hk dX4_sellPart_95 rfl ?_
    refine xj_iload hk dX4_sellPart_97 rfl ?_
    refine xj_icmp_ge (tgt := 121) hk dX4_sellPart_99 (by decide) (fun c99 => ?_) (fun c99 => ?_)
    · have e9 : ptN n (ptL (bk_ra B) (sl_ad S) r am to n) = t := by
        rcases Nat.lt_or_ge t n with q | q
        · first | exact fnd_at hf (decide_eq_true c99) n q | exact absurd c108 (by omega)
        · have e8 : t = n := by omega
          subst e8; exact hf
      rw [← e9]
      exact kx
    · refine xj_iload hk dX4_sellPart_102 rfl ?_
      refine xj_aload_n (i := 0) hk dX4_sellPart_104 rfl rfl ?_
      refine xj_getfield hk dX4_sellPart_105 fl_X4_33 (xw_at xw_up_s rfl) rfl ?_
      refine xj.eqi (x' := nI n) hio ?_
      refine xj_icmp_ge (tgt := 121) hk dX4_sellPart_108 (by decide) (fun c108 => ?_) (fun c108 => ?_)
      · have c108 : n ≤ t := (nI_leI (a := n) (b := t) (by omega) (by omega)).mp c108
        have e9 : ptN n (ptL (bk_ra B) (sl_ad S) r am to n) = t := by
          rcases Nat.lt_or_ge t n with q | q
          · first | exact fnd_at hf (decide_eq_true c99) n q | exact absurd c108 (by omega)
          · have e8 : t = n := by omega
            subst e8; exact hf
        rw [← e9]
        exact kx
      · have c108 : ¬ n ≤ t := fun q => c108 ((nI_leI (a := n) (b := t) (by omega) (by omega)).mpr q)
        refine xj_aload_n (i := 0) hk dX4_sellPart_111 rfl rfl ?_
        refine xj_callV hk hz (fr1 := 0) (lo1 := 0) (r1 := none) (As := []) (st := []) (st2 := []) (G1 := xw_up G s (pS v s b (sl_od S) (sl_ad S) (sl_wy S) (gvS n ((prI n (cpN n (ptS (bk_ra B) (sl_ad S) (sl_so S) r am to) (sl_so S), cpN n (ptR (bk_ra B) (sl_ad S) r am to) (sl_re S)) t).1) ((prI n (cpN n (ptS (bk_ra B) (sl_ad S) (sl_so S) r am to) (sl_so S), cpN n (ptR (bk_ra B) (sl_ad S) r am to) (sl_re S)) t).2)) (gvR n ((prI n (cpN n (ptS (bk_ra B) (sl_ad S) (sl_so S) r am to) (sl_so S), cpN n (ptR (bk_ra B) (sl_ad S) r am to) (sl_re S)) t).2)) (sl_ro S) (sl_rl S) (sl_io S) (sl_ap S) (sl_ar S) (sl_po S) (sl_sp S) (sl_rs S) (sl_st S) (sl_sr S) (sl_pt S) (sl_av S))) ml_X4_142 (xk_cg (by rw [xw_up_u] <;> rfl) (c_X4_giveOneMore (n := n) (show (xw_up G s (pS v s b (sl_od S) (sl_ad S) (sl_wy S) ((prI n (cpN n (ptS (bk_ra B) (sl_ad S) (sl_so S) r am to) (sl_so S), cpN n (ptR (bk_ra B) (sl_ad S) r am to) (sl_re S)) t).1) ((prI n (cpN n (ptS (bk_ra B) (sl_ad S) (sl_so S) r am to) (sl_so S), cpN n (ptR (bk_ra B) (sl_ad S) r am to) (sl_re S)) t).2) (sl_ro S) (sl_rl S) (sl_io S) (sl_ap S) (sl_ar S) (sl_po S) (sl_sp S) (sl_rs S) (sl_st S) (sl_sr S) (sl_pt S) (sl_av S))) s = pc_S v s b (sl_od S, sl_ad S, sl_wy S, (prI n (cpN n (ptS (bk_ra B) (sl_ad S) (sl_so S) r am to) (sl_so S), cpN n (ptR (bk_ra B) (sl_ad S) r am to) (sl_re S)) t).1, (prI n (cpN n (ptS (bk_ra B) (sl_ad S) (sl_so S) r am to) (sl_so S), cpN n (ptR (bk_ra B) (sl_ad S) r am to) (sl_re S)) t).2, sl_ro S, sl_rl S, sl_io S, sl_ap S, sl_ar S, sl_po S, sl_sp S, sl_rs S, sl_st S, sl_sr S, sl_pt S, sl_av S) from xw_up_s) (show (xw_up G s (pS v s b (sl_od S) (sl_ad S) (sl_wy S) ((prI n (cpN n (ptS (bk_ra B) (sl_ad S) (sl_so S) r am to) (sl_so S), cpN n (ptR (bk_ra B) (sl_ad S) r am to) (sl_re S)) t).1) ((prI n (cpN n (ptS (bk_ra B) (sl_ad S) (sl_so S) r am to) (sl_so S), cpN n (ptR (bk_ra B) (sl_ad S) r am to) (sl_re S)) t).2) (sl_ro S) (sl_rl S) (sl_io S) (sl_ap S) (sl_ar S) (sl_po S) (sl_sp S) (sl_rs S) (sl_st S) (sl_sr S) (sl_pt S) (sl_av S))) b = pc_B v b B from (show (xw_up G s (pS v s b (sl_od S) (sl_ad S) (sl_wy S) ((prI n (cpN n (ptS (bk_ra B) (sl_ad S) (sl_so S) r am to) (sl_so S), cpN n (ptR (bk_ra B) (sl_ad S) r am to) (sl_re S)) t).1) ((prI n (cpN n (ptS (bk_ra B) (sl_ad S) (sl_so S) r am to) (sl_so S), cpN n (ptR (bk_ra B) (sl_ad S) r am to) (sl_re S)) t).2) (sl_ro S) (sl_rl S) (sl_io S) (sl_ap S) (sl_ar S) (sl_po S) (sl_sp S) (sl_rs S) (sl_st S) (sl_sr S) (sl_pt S) (sl_av S))) b = pc_B v b B from by rw [xw_up_n (Ne.symm hsb), hB])) hsb hio hn30)) (xw_at xw_up_s rfl) rfl dX4_sellPart_112 ⟨Nat.le_of_ble_eq_true rfl, Nat.le_of_ble_eq_true rfl⟩ rfl (Nat.le_of_ble_eq_true rfl) rfl rfl ?_
        refine xj_iinc (i := 5) (x2 := nI (t + 1)) (ls2 := [some (.ref (xw_ad v s 0)), some (.int r), some (.int am), some (.int to), some (.int (ptL (bk_ra B) (sl_ad S) r am to n)), some (.int (nI (t + 1))), none]) hk dX4_sellPart_115 rfl (nI_1 t) (by decide) rfl rfl ?_
        refine xj_goto (tgt := 95) hk dX4_sellPart_118 (by decide) ?_
        exact ih (t + 1) (by omega) (by omega) (fnd_no hf (by simp [c99]))

set_option maxHeartbeats 1000000 in
set_option maxRecDepth 10000 in
theorem c_X4_sellPart {v : xw_V} {G : xw_G} {s b : Nat} {S : sl_T} {B : bk_T} {n : Nat} (hS : G s = pc_S v s b S) (hB : G b = pc_B v b B) (hsb : s ≠ b) (hio : sl_io S = nI n) (hn30 : n ≤ 30) (r am to : Int32) (hto : ¬ to ≤ 0) : xk_Con v yX4_sellPart cX4_sellPart 7 none 1 23 [.ref (xw_ad v s 0), .int r, .int am, .int to] G (xk_ret none (xw_up G s (pS v s b (sl_od S) (sl_ad S) (sl_wy S) ((prt n (bk_ra B) (sl_ad S) (sl_so S) (sl_re S) r am to).1) ((prt n (bk_ra B) (sl_ad S) (sl_so S) (sl_re S) r am to).2) (sl_ro S) (sl_rl S) (sl_io S) (sl_ap S) (sl_ar S) (sl_po S) (sl_sp S) (sl_rs S) (sl_st S) (sl_sr S) (sl_pt S) (sl_av S)))) := by
  refine xk_of (ls0 := [some (.ref (xw_ad v s 0)), some (.int r), some (.int am), some (.int to), none, none, none]) (by decide) rfl (Nat.le_of_ble_eq_true rfl) ?_
  intro κ z hk hz
  refine xj_iload_n (i := 2) hk dX4_sellPart_0 rfl rfl ?_
  refine xj_istore (i := 4) (ls2 := [some (.ref (xw_ad v s 0)), some (.int r), some (.int am), some (.int to), some (.int am), none, none]) hk dX4_sellPart_1 (by decide) rfl rfl ?_
  refine xj_iconst (x := 0) hk dX4_sellPart_3 (by decide) ?_
  refine xj_istore (i := 5) (ls2 := [some (.ref (xw_ad v s 0)), some (.int r), some (.int am), some (.int to), some (.int am), some (.int 0), none]) hk dX4_sellPart_4 (by decide) rfl rfl ?_
  refine xj.eqG (G' := xw_up G s (pS v s b (sl_od S) (sl_ad S) (sl_wy S) (cpN 0 (ptS (bk_ra B) (sl_ad S) (sl_so S) r am to) (sl_so S)) (cpN 0 (ptR (bk_ra B) (sl_ad S) r am to) (sl_re S)) (sl_ro S) (sl_rl S) (sl_io S) (sl_ap S) (sl_ar S) (sl_po S) (sl_sp S) (sl_rs S) (sl_st S) (sl_sr S) (sl_pt S) (sl_av S))) (by simp only [cp_0]; exact (xw_up_same hS).symm) ?_
  refine l_X4_sellPart_6 hk hz hS hB hsb hio hn30 r am to hto ?_ (n + 1) 0 (by omega) (by omega)
  refine xj_iconst (x := 0) hk dX4_sellPart_92 (by decide) ?_
  refine xj_istore (i := 5) (ls2 := [some (.ref (xw_ad v s 0)), some (.int r), some (.int am), some (.int to), some (.int (ptL (bk_ra B) (sl_ad S) r am to n)), some (.int 0), none]) hk dX4_sellPart_93 (by decide) rfl rfl ?_
  refine xj.eqG (G' := xw_up G s (pS v s b (sl_od S) (sl_ad S) (sl_wy S) ((prI n (cpN n (ptS (bk_ra B) (sl_ad S) (sl_so S) r am to) (sl_so S), cpN n (ptR (bk_ra B) (sl_ad S) r am to) (sl_re S)) 0).1) ((prI n (cpN n (ptS (bk_ra B) (sl_ad S) (sl_so S) r am to) (sl_so S), cpN n (ptR (bk_ra B) (sl_ad S) r am to) (sl_re S)) 0).2) (sl_ro S) (sl_rl S) (sl_io S) (sl_ap S) (sl_ar S) (sl_po S) (sl_sp S) (sl_rs S) (sl_st S) (sl_sr S) (sl_pt S) (sl_av S))) rfl ?_
  refine l_X4_sellPart_95 hk hz hS hB hsb hio hn30 r am to hto ?_ (n + 1) 0 (by omega) (by omega) rfl
  refine xj_return hk hz dX4_sellPart_121 ?_
  exact ⟨rfl, rfl⟩

set_option maxHeartbeats 1000000 in
set_option maxRecDepth 10000 in
theorem l_X4_sellAt_20 {v : xw_V} {κ : xk_K} {post : Option Value → xw_G → Prop} {z : Nat × Nat × Nat} {G : xw_G} {s b : Nat} {S : sl_T} {B : bk_T} {n : Nat} (hk : xk_Ok v κ yX4_sellAt cX4_sellAt 5 none 2 49) (hz : xk_zf κ = z) (hS : G s = pc_S v s b S) (hB : G b = pc_B v b B) (hsb : s ≠ b) (hio : sl_io S = nI n) (hn30 : n ≤ 30) (r am to : Int32) (kx : xj v κ post z (xw_up G s (pS v s b (sl_od S) (sl_ad S) (sl_wy S) (cpN n (fulS (bk_ra B) (sl_ad S) (sl_so S) r) (sl_so S)) (sl_re S) (sl_ro S) (sl_rl S) (sl_io S) (sl_ap S) (sl_ar S) (sl_po S) (sl_sp S) (sl_rs S) (sl_st S) (sl_sr S) (sl_pt S) (sl_av S))) 63 [some (.ref (xw_ad v s 0)), some (.int r), some (.int am), some (.int to), some (.int (nI n))] []) : ∀ (m : Nat) (k : Nat), n - k < m → k ≤ n → xj v κ post z (xw_up G s (pS v s b (sl_od S) (sl_ad S) (sl_wy S) (cpN k (fulS (bk_ra B) (sl_ad S) (sl_so S) r) (sl_so S)) (sl_re S) (sl_ro S) (sl_rl S) (sl_io S) (sl_ap S) (sl_ar S) (sl_po S) (sl_sp S) (sl_rs S) (sl_st S) (sl_sr S) (sl_pt S) (sl_av S))) 20 [some (.ref (xw_ad v s 0)), some (.int r), some (.int am), some (.int to), some (.int (nI k))] [] := by
  intro m
  induction m with
  | zero => intro k h; exact absurd h (Nat.not_lt_zero _)
  | succ m ih =>
    intro k hm hi
    refine xj_iload hk dX4_sellAt_20 rfl ?_
    refine xj_aload_n (i := 0) hk dX4_sellAt_22 rfl rfl ?_
    refine xj_getfield hk dX4_sellAt_23 fl_X4_33 (xw_at xw_up_s rfl) rfl ?_
    refine xj.eqi (x' := nI n) hio ?_
    refine xj_icmp_ge (tgt := 63) hk dX4_sellAt_26 (by decide) (fun c26 => ?_) (fun c26 => ?_)
    · have c26 : n ≤ k := (nI_leI (a := n) (b := k) (by omega) (by omega)).mp c26
      have e9 : k = n := by omega
      subst e9
      exact kx
    · have c26 : ¬ n ≤ k := fun q => c26 ((nI_leI (a := n) (b := k) (by omega) (by omega)).mpr q)
      refine xj_aload_n (i := 0) hk dX4_sellAt_29 rfl rfl ?_
      refine xj_getfield hk dX4_sellAt_30 fl_X4_37 (xw_at xw_up_s rfl) rfl ?_
      refine xj_getfield hk dX4_sellAt_33 fl_X4_72 (xw_at (show (xw_up G s (pS v s b (sl_od S) (sl_ad S) (sl_wy S) (cpN k (fulS (bk_ra B) (sl_ad S) (sl_so S) r) (sl_so S)) (sl_re S) (sl_ro S) (sl_rl S) (sl_io S) (sl_ap S) (sl_ar S) (sl_po S) (sl_sp S) (sl_rs S) (sl_st S) (sl_sr S) (sl_pt S) (sl_av S))) b = pc_B v b B from by rw [xw_up_n (Ne.symm hsb), hB]) rfl) rfl ?_
      refine xj_iload hk dX4_sellAt_36 rfl ?_
      refine xj_iaload (k := k) hk dX4_sellAt_38 (xw_at (show (xw_up G s (pS v s b (sl_od S) (sl_ad S) (sl_wy S) (cpN k (fulS (bk_ra B) (sl_ad S) (sl_so S) r) (sl_so S)) (sl_re S) (sl_ro S) (sl_rl S) (sl_io S) (sl_ap S) (sl_ar S) (sl_po S) (sl_sp S) (sl_rs S) (sl_st S) (sl_sr S) (sl_pt S) (sl_av S))) b = pc_B v b B from by rw [xw_up_n (Ne.symm hsb), hB]) rfl) (xi_n (by omega) (by decide)) ?_
      refine xj_iload_n (i := 1) hk dX4_sellAt_39 rfl rfl ?_
      refine xj_icmp_ne (tgt := 57) hk dX4_sellAt_40 (by decide) (fun c40 => ?_) (fun c40 => ?_)
      · refine xj_iinc (i := 4) (x2 := nI (k + 1)) (ls2 := [some (.ref (xw_ad v s 0)), some (.int r), some (.int am), some (.int to), some (.int (nI (k + 1)))]) hk dX4_sellAt_57 rfl (nI_1 k) (by decide) rfl rfl ?_
        refine xj_goto (tgt := 20) hk dX4_sellAt_60 (by decide) ?_
        refine xj.eqG (G' := xw_up G s (pS v s b (sl_od S) (sl_ad S) (sl_wy S) (cpN ((k + 1)) (fulS (bk_ra B) (sl_ad S) (sl_so S) r) (sl_so S)) (sl_re S) (sl_ro S) (sl_rl S) (sl_io S) (sl_ap S) (sl_ar S) (sl_po S) (sl_sp S) (sl_rs S) (sl_st S) (sl_sr S) (sl_pt S) (sl_av S))) (by first | rw [cp_e (show fulS (bk_ra B) (sl_ad S) (sl_so S) r k = sl_ad S k by simp only [fulS, if_pos c40])] | rw [cp_n (show fulS (bk_ra B) (sl_ad S) (sl_so S) r k = sl_so S k by simp only [fulS, if_neg c40])]) (ih (k + 1) (by omega) (by omega))
      · refine xj_aload_n (i := 0) hk dX4_sellAt_43 rfl rfl ?_
        refine xj_getfield hk dX4_sellAt_44 fl_X4_21 (xw_at xw_up_s rfl) rfl ?_
        refine xj_iload hk dX4_sellAt_47 rfl ?_
        refine xj_aload_n (i := 0) hk dX4_sellAt_49 rfl rfl ?_
        refine xj_getfield hk dX4_sellAt_50 fl_X4_15 (xw_at xw_up_s rfl) rfl ?_
        refine xj_iload hk dX4_sellAt_53 rfl ?_
        refine xj_iaload (k := k) hk dX4_sellAt_55 (xw_at xw_up_s rfl) (xi_n (by omega) (by decide)) ?_
        refine xj_iastore (k := k) (G2 := xw_up G s (pS v s b (sl_od S) (sl_ad S) (sl_wy S) (xu (cpN k (fulS (bk_ra B) (sl_ad S) (sl_so S) r) (sl_so S)) k (sl_ad S k)) (sl_re S) (sl_ro S) (sl_rl S) (sl_io S) (sl_ap S) (sl_ar S) (sl_po S) (sl_sp S) (sl_rs S) (sl_st S) (sl_sr S) (sl_pt S) (sl_av S))) hk dX4_sellAt_56 (xw_at xw_up_s rfl) (xi_n (by omega) (by decide)) (xw_wr2 rfl) ?_
        refine xj_iinc (i := 4) (x2 := nI (k + 1)) (ls2 := [some (.ref (xw_ad v s 0)), some (.int r), some (.int am), some (.int to), some (.int (nI (k + 1)))]) hk dX4_sellAt_57 rfl (nI_1 k) (by decide) rfl rfl ?_
        refine xj_goto (tgt := 20) hk dX4_sellAt_60 (by decide) ?_
        refine xj.eqG (G' := xw_up G s (pS v s b (sl_od S) (sl_ad S) (sl_wy S) (cpN ((k + 1)) (fulS (bk_ra B) (sl_ad S) (sl_so S) r) (sl_so S)) (sl_re S) (sl_ro S) (sl_rl S) (sl_io S) (sl_ap S) (sl_ar S) (sl_po S) (sl_sp S) (sl_rs S) (sl_st S) (sl_sr S) (sl_pt S) (sl_av S))) (by first | rw [cp_e (show fulS (bk_ra B) (sl_ad S) (sl_so S) r k = sl_ad S k by simp only [fulS, if_pos c40])] | rw [cp_n (show fulS (bk_ra B) (sl_ad S) (sl_so S) r k = sl_so S k by simp only [fulS, if_neg c40])]) (ih (k + 1) (by omega) (by omega))

set_option maxHeartbeats 1000000 in
set_option maxRecDepth 10000 in
theorem c_X4_sellAt {v : xw_V} {G : xw_G} {s b : Nat} {S : sl_T} {B : bk_T} {n : Nat} (hS : G s = pc_S v s b S) (hB : G b = pc_B v b B) (hsb : s ≠ b) (hio : sl_io S = nI n) (hn30 : n ≤ 30) (r am to : Int32) : xk_Con v yX4_sellAt cX4_sellAt 5 none 2 49 [.ref (xw_ad v s 0), .int r, .int am, .int to] G (xk_ret none (xw_up G s (pS v s b (sl_od S) (sl_ad S) (sl_wy S) ((atS n (bk_ra B) (sl_ad S) (sl_so S) (sl_re S) r am to).1) ((atS n (bk_ra B) (sl_ad S) (sl_so S) (sl_re S) r am to).2) (sl_ro S) (sl_rl S) (sl_io S) (sl_ap S) (sl_ar S) (sl_po S) (sl_sp S) (sl_rs S) (sl_st S) (sl_sr S) (sl_pt S) (sl_av S)))) := by
  refine xk_of (ls0 := [some (.ref (xw_ad v s 0)), some (.int r), some (.int am), some (.int to), none]) (by decide) rfl (Nat.le_of_ble_eq_true rfl) ?_
  intro κ z hk hz
  refine xj_iload_n (i := 3) hk dX4_sellAt_0 rfl rfl ?_
  refine xj_iload_n (i := 2) hk dX4_sellAt_1 rfl rfl ?_
  refine xj_icmp_le (tgt := 17) hk dX4_sellAt_2 (by decide) (fun c2 => ?_) (fun c2 => ?_)
  · refine xj_iconst (x := 0) hk dX4_sellAt_17 (by decide) ?_
    refine xj_istore (i := 4) (ls2 := [some (.ref (xw_ad v s 0)), some (.int r), some (.int am), some (.int to), some (.int 0)]) hk dX4_sellAt_18 (by decide) rfl rfl ?_
    refine xj.eqG (G' := xw_up G s (pS v s b (sl_od S) (sl_ad S) (sl_wy S) (cpN 0 (fulS (bk_ra B) (sl_ad S) (sl_so S) r) (sl_so S)) (sl_re S) (sl_ro S) (sl_rl S) (sl_io S) (sl_ap S) (sl_ar S) (sl_po S) (sl_sp S) (sl_rs S) (sl_st S) (sl_sr S) (sl_pt S) (sl_av S))) (by simp only [cp_0]; exact (xw_up_same hS).symm) ?_
    refine l_X4_sellAt_20 hk hz hS hB hsb hio hn30 r am to ?_ (n + 1) 0 (by omega) (by omega)
    refine xj_return hk hz dX4_sellAt_63 ?_
    refine ⟨rfl, ?_⟩
    first | (simp only [atS, if_pos c2]; done) | (simp only [atS, if_neg c2, if_pos c6]; done) | (simp only [atS, if_neg c2, if_neg c6]; done)
  · refine xj_iload_n (i := 3) hk dX4_sellAt_5 rfl rfl ?_
    refine xj_if_le (tgt := 17) hk dX4_sellAt_6 (by decide) (fun c6 => ?_) (fun c6 => ?_)
    · refine xj_iconst (x := 0) hk dX4_sellAt_17 (by decide) ?_
      refine xj_istore (i := 4) (ls2 := [some (.ref (xw_ad v s 0)), some (.int r), some (.int am), some (.int to), some (.int 0)]) hk dX4_sellAt_18 (by decide) rfl rfl ?_
      refine xj.eqG (G' := xw_up G s (pS v s b (sl_od S) (sl_ad S) (sl_wy S) (cpN 0 (fulS (bk_ra B) (sl_ad S) (sl_so S) r) (sl_so S)) (sl_re S) (sl_ro S) (sl_rl S) (sl_io S) (sl_ap S) (sl_ar S) (sl_po S) (sl_sp S) (sl_rs S) (sl_st S) (sl_sr S) (sl_pt S) (sl_av S))) (by simp only [cp_0]; exact (xw_up_same hS).symm) ?_
      refine l_X4_sellAt_20 hk hz hS hB hsb hio hn30 r am to ?_ (n + 1) 0 (by omega) (by omega)
      refine xj_return hk hz dX4_sellAt_63 ?_
      refine ⟨rfl, ?_⟩
      first | (simp only [atS, if_pos c2]; done) | (simp only [atS, if_neg c2, if_pos c6]; done) | (simp only [atS, if_neg c2, if_neg c6]; done)
    · refine xj_aload_n (i := 0) hk dX4_sellAt_9 rfl rfl ?_
      refine xj_iload_n (i := 1) hk dX4_sellAt_10 rfl rfl ?_
      refine xj_iload_n (i := 2) hk dX4_sellAt_11 rfl rfl ?_
      refine xj_iload_n (i := 3) hk dX4_sellAt_12 rfl rfl ?_
      refine xj_callV hk hz (fr1 := 1) (lo1 := 23) (r1 := none) (As := [.int r, .int am, .int to]) (st := []) (st2 := []) (G1 := xw_up G s (pS v s b (sl_od S) (sl_ad S) (sl_wy S) ((prt n (bk_ra B) (sl_ad S) (sl_so S) (sl_re S) r am to).1) ((prt n (bk_ra B) (sl_ad S) (sl_so S) (sl_re S) r am to).2) (sl_ro S) (sl_rl S) (sl_io S) (sl_ap S) (sl_ar S) (sl_po S) (sl_sp S) (sl_rs S) (sl_st S) (sl_sr S) (sl_pt S) (sl_av S))) ml_X4_139 (c_X4_sellPart (n := n) (show G s = pc_S v s b S from hS) (show G b = pc_B v b B from hB) hsb hio hn30 r am to c6) (xw_at hS rfl) rfl dX4_sellAt_13 ⟨Nat.le_of_ble_eq_true rfl, Nat.le_of_ble_eq_true rfl⟩ rfl (Nat.le_of_ble_eq_true rfl) rfl rfl ?_
      refine xj_return hk hz dX4_sellAt_16 ?_
      refine ⟨rfl, ?_⟩
      first | (simp only [atS, if_pos c2]; done) | (simp only [atS, if_neg c2, if_pos c6]; done) | (simp only [atS, if_neg c2, if_neg c6]; done)

set_option maxHeartbeats 1000000 in
set_option maxRecDepth 10000 in
theorem c_X4_sellPlain {v : xw_V} {G : xw_G} {s b : Nat} {S : sl_T} {B : bk_T} {n : Nat} (hS : G s = pc_S v s b S) (hB : G b = pc_B v b B) (hsb : s ≠ b) (hio : sl_io S = nI n) (hn30 : n ≤ 30) : xk_Con v yX4_sellPlain cX4_sellPlain 1 none 3 73 [.ref (xw_ad v s 0)] G (xk_ret none (xw_up G s (pS v s b (sl_od S) (sl_ad S) (sl_wy S) ((atS n (bk_ra B) (sl_ad S) (sl_so S) (sl_re S) (-1) (bk_te B 2 * bk_te B 0 / 100) (sl_ap S)).1) ((atS n (bk_ra B) (sl_ad S) (sl_so S) (sl_re S) (-1) (bk_te B 2 * bk_te B 0 / 100) (sl_ap S)).2) (sl_ro S) (sl_rl S) (sl_io S) (sl_ap S) (sl_ar S) (bk_te B 2 * bk_te B 0 / 100) ((if sl_ap S < bk_te B 2 * bk_te B 0 / 100 then sl_ap S else bk_te B 2 * bk_te B 0 / 100)) (bk_te B 0 - (if sl_ap S < bk_te B 2 * bk_te B 0 / 100 then sl_ap S else bk_te B 2 * bk_te B 0 / 100)) (sl_st S) (sl_sr S) (sl_pt S) (sl_av S)))) := by
  refine xk_of (ls0 := [some (.ref (xw_ad v s 0))]) (by decide) rfl (Nat.le_of_ble_eq_true rfl) ?_
  intro κ z hk hz
  refine xj_aload_n (i := 0) hk dX4_sellPlain_0 rfl rfl ?_
  refine xj_aload_n (i := 0) hk dX4_sellPlain_1 rfl rfl ?_
  refine xj_getfield hk dX4_sellPlain_2 fl_X4_37 (xw_at hS rfl) rfl ?_
  refine xj_getfield hk dX4_sellPlain_5 fl_X4_75 (xw_at hB rfl) rfl ?_
  refine xj_iconst (x := 2) hk dX4_sellPlain_8 (by decide) ?_
  refine xj_iaload (k := 2) hk dX4_sellPlain_9 (xw_at hB rfl) (xi_d 2 7 (by decide)) ?_
  refine xj_aload_n (i := 0) hk dX4_sellPlain_10 rfl rfl ?_
  refine xj_getfield hk dX4_sellPlain_11 fl_X4_37 (xw_at hS rfl) rfl ?_
  refine xj_getfield hk dX4_sellPlain_14 fl_X4_75 (xw_at hB rfl) rfl ?_
  refine xj_iconst (x := 0) hk dX4_sellPlain_17 (by decide) ?_
  refine xj_iaload (k := 0) hk dX4_sellPlain_18 (xw_at hB rfl) (xi_d 0 7 (by decide)) ?_
  refine xj_imul hk dX4_sellPlain_19 ?_
  refine xj_bipush (x := 100) hk dX4_sellPlain_20 (by decide) ?_
  refine xj_idiv hk dX4_sellPlain_22 (by decide) ?_
  refine xj_putfield (G2 := xw_up G s (pS v s b (sl_od S) (sl_ad S) (sl_wy S) (sl_so S) (sl_re S) (sl_ro S) (sl_rl S) (sl_io S) (sl_ap S) (sl_ar S) (((bk_te B 2) * (bk_te B 0)) / 100) (sl_sp S) (sl_rs S) (sl_st S) (sl_sr S) (sl_pt S) (sl_av S))) hk dX4_sellPlain_23 fl_X4_113 rfl rfl (xw_at hS rfl) (Nat.le_of_ble_eq_true rfl) (xw_wr hS rfl) ?_
  refine xj_aload_n (i := 0) hk dX4_sellPlain_26 rfl rfl ?_
  refine xj_aload_n (i := 0) hk dX4_sellPlain_27 rfl rfl ?_
  refine xj_getfield hk dX4_sellPlain_28 fl_X4_113 (xw_at xw_up_s rfl) rfl ?_
  refine xj_aload_n (i := 0) hk dX4_sellPlain_31 rfl rfl ?_
  refine xj_getfield hk dX4_sellPlain_32 fl_X4_90 (xw_at xw_up_s rfl) rfl ?_
  refine xj_min hk hz dX4_sellPlain_35 mm_X4_110 (by decide) (Nat.le_of_ble_eq_true rfl) mm_min.1 mm_min.2.1 mm_min.2.2 ?_
  refine xj_putfield (G2 := xw_up G s (pS v s b (sl_od S) (sl_ad S) (sl_wy S) (sl_so S) (sl_re S) (sl_ro S) (sl_rl S) (sl_io S) (sl_ap S) (sl_ar S) (((bk_te B 2) * (bk_te B 0)) / 100) (if sl_ap S < ((bk_te B 2) * (bk_te B 0)) / 100 then sl_ap S else ((bk_te B 2) * (bk_te B 0)) / 100) (sl_rs S) (sl_st S) (sl_sr S) (sl_pt S) (sl_av S))) hk dX4_sellPlain_38 fl_X4_116 rfl rfl (xw_at xw_up_s rfl) (Nat.le_of_ble_eq_true rfl) (xw_wr2 rfl) ?_
  refine xj_aload_n (i := 0) hk dX4_sellPlain_41 rfl rfl ?_
  refine xj_iconst (x := (-1)) hk dX4_sellPlain_42 (by decide) ?_
  refine xj_aload_n (i := 0) hk dX4_sellPlain_43 rfl rfl ?_
  refine xj_getfield hk dX4_sellPlain_44 fl_X4_113 (xw_at xw_up_s rfl) rfl ?_
  refine xj_aload_n (i := 0) hk dX4_sellPlain_47 rfl rfl ?_
  refine xj_getfield hk dX4_sellPlain_48 fl_X4_90 (xw_at xw_up_s rfl) rfl ?_
  refine xj_callV hk hz (fr1 := 2) (lo1 := 49) (r1 := none) (As := [.int ((-1)), .int (((bk_te B 2) * (bk_te B 0)) / 100), .int (sl_ap S)]) (st := []) (st2 := []) (G1 := xw_up G s (pS v s b (sl_od S) (sl_ad S) (sl_wy S) ((atS n (bk_ra B) (sl_ad S) (sl_so S) (sl_re S) ((-1)) (((bk_te B 2) * (bk_te B 0)) / 100) (sl_ap S)).1) ((atS n (bk_ra B) (sl_ad S) (sl_so S) (sl_re S) ((-1)) (((bk_te B 2) * (bk_te B 0)) / 100) (sl_ap S)).2) (sl_ro S) (sl_rl S) (sl_io S) (sl_ap S) (sl_ar S) (((bk_te B 2) * (bk_te B 0)) / 100) (if sl_ap S < ((bk_te B 2) * (bk_te B 0)) / 100 then sl_ap S else ((bk_te B 2) * (bk_te B 0)) / 100) (sl_rs S) (sl_st S) (sl_sr S) (sl_pt S) (sl_av S))) ml_X4_119 (xk_cg (by rw [xw_up_u] <;> rfl) (c_X4_sellAt (n := n) (show (xw_up G s (pS v s b (sl_od S) (sl_ad S) (sl_wy S) (sl_so S) (sl_re S) (sl_ro S) (sl_rl S) (sl_io S) (sl_ap S) (sl_ar S) (((bk_te B 2) * (bk_te B 0)) / 100) (if sl_ap S < ((bk_te B 2) * (bk_te B 0)) / 100 then sl_ap S else ((bk_te B 2) * (bk_te B 0)) / 100) (sl_rs S) (sl_st S) (sl_sr S) (sl_pt S) (sl_av S))) s = pc_S v s b (sl_od S, sl_ad S, sl_wy S, sl_so S, sl_re S, sl_ro S, sl_rl S, sl_io S, sl_ap S, sl_ar S, ((bk_te B 2) * (bk_te B 0)) / 100, if sl_ap S < ((bk_te B 2) * (bk_te B 0)) / 100 then sl_ap S else ((bk_te B 2) * (bk_te B 0)) / 100, sl_rs S, sl_st S, sl_sr S, sl_pt S, sl_av S) from xw_up_s) (show (xw_up G s (pS v s b (sl_od S) (sl_ad S) (sl_wy S) (sl_so S) (sl_re S) (sl_ro S) (sl_rl S) (sl_io S) (sl_ap S) (sl_ar S) (((bk_te B 2) * (bk_te B 0)) / 100) (if sl_ap S < ((bk_te B 2) * (bk_te B 0)) / 100 then sl_ap S else ((bk_te B 2) * (bk_te B 0)) / 100) (sl_rs S) (sl_st S) (sl_sr S) (sl_pt S) (sl_av S))) b = pc_B v b B from (show (xw_up G s (pS v s b (sl_od S) (sl_ad S) (sl_wy S) (sl_so S) (sl_re S) (sl_ro S) (sl_rl S) (sl_io S) (sl_ap S) (sl_ar S) (((bk_te B 2) * (bk_te B 0)) / 100) (if sl_ap S < ((bk_te B 2) * (bk_te B 0)) / 100 then sl_ap S else ((bk_te B 2) * (bk_te B 0)) / 100) (sl_rs S) (sl_st S) (sl_sr S) (sl_pt S) (sl_av S))) b = pc_B v b B from by rw [xw_up_n (Ne.symm hsb), hB])) hsb hio hn30 ((-1)) (((bk_te B 2) * (bk_te B 0)) / 100) (sl_ap S))) (xw_at xw_up_s rfl) rfl dX4_sellPlain_51 ⟨Nat.le_of_ble_eq_true rfl, Nat.le_of_ble_eq_true rfl⟩ rfl (Nat.le_of_ble_eq_true rfl) rfl rfl ?_
  refine xj_aload_n (i := 0) hk dX4_sellPlain_54 rfl rfl ?_
  refine xj_aload_n (i := 0) hk dX4_sellPlain_55 rfl rfl ?_
  refine xj_getfield hk dX4_sellPlain_56 fl_X4_37 (xw_at xw_up_s rfl) rfl ?_
  refine xj_getfield hk dX4_sellPlain_59 fl_X4_75 (xw_at (show (xw_up G s (pS v s b (sl_od S) (sl_ad S) (sl_wy S) ((atS n (bk_ra B) (sl_ad S) (sl_so S) (sl_re S) ((-1)) (((bk_te B 2) * (bk_te B 0)) / 100) (sl_ap S)).1) ((atS n (bk_ra B) (sl_ad S) (sl_so S) (sl_re S) ((-1)) (((bk_te B 2) * (bk_te B 0)) / 100) (sl_ap S)).2) (sl_ro S) (sl_rl S) (sl_io S) (sl_ap S) (sl_ar S) (((bk_te B 2) * (bk_te B 0)) / 100) (if sl_ap S < ((bk_te B 2) * (bk_te B 0)) / 100 then sl_ap S else ((bk_te B 2) * (bk_te B 0)) / 100) (sl_rs S) (sl_st S) (sl_sr S) (sl_pt S) (sl_av S))) b = pc_B v b B from by rw [xw_up_n (Ne.symm hsb), hB]) rfl) rfl ?_
  refine xj_iconst (x := 0) hk dX4_sellPlain_62 (by decide) ?_
  refine xj_iaload (k := 0) hk dX4_sellPlain_63 (xw_at (show (xw_up G s (pS v s b (sl_od S) (sl_ad S) (sl_wy S) ((atS n (bk_ra B) (sl_ad S) (sl_so S) (sl_re S) ((-1)) (((bk_te B 2) * (bk_te B 0)) / 100) (sl_ap S)).1) ((atS n (bk_ra B) (sl_ad S) (sl_so S) (sl_re S) ((-1)) (((bk_te B 2) * (bk_te B 0)) / 100) (sl_ap S)).2) (sl_ro S) (sl_rl S) (sl_io S) (sl_ap S) (sl_ar S) (((bk_te B 2) * (bk_te B 0)) / 100) (if sl_ap S < ((bk_te B 2) * (bk_te B 0)) / 100 then sl_ap S else ((bk_te B 2) * (bk_te B 0)) / 100) (sl_rs S) (sl_st S) (sl_sr S) (sl_pt S) (sl_av S))) b = pc_B v b B from by rw [xw_up_n (Ne.symm hsb), hB]) rfl) (xi_d 0 7 (by decide)) ?_
  refine xj_aload_n (i := 0) hk dX4_sellPlain_64 rfl rfl ?_
  refine xj_getfield hk dX4_sellPlain_65 fl_X4_116 (xw_at xw_up_s rfl) rfl ?_
  refine xj_isub hk dX4_sellPlain_68 ?_
  refine xj_putfield (G2 := xw_up G s (pS v s b (sl_od S) (sl_ad S) (sl_wy S) ((atS n (bk_ra B) (sl_ad S) (sl_so S) (sl_re S) ((-1)) (((bk_te B 2) * (bk_te B 0)) / 100) (sl_ap S)).1) ((atS n (bk_ra B) (sl_ad S) (sl_so S) (sl_re S) ((-1)) (((bk_te B 2) * (bk_te B 0)) / 100) (sl_ap S)).2) (sl_ro S) (sl_rl S) (sl_io S) (sl_ap S) (sl_ar S) (((bk_te B 2) * (bk_te B 0)) / 100) (if sl_ap S < ((bk_te B 2) * (bk_te B 0)) / 100 then sl_ap S else ((bk_te B 2) * (bk_te B 0)) / 100) ((bk_te B 0) - (if sl_ap S < ((bk_te B 2) * (bk_te B 0)) / 100 then sl_ap S else ((bk_te B 2) * (bk_te B 0)) / 100)) (sl_st S) (sl_sr S) (sl_pt S) (sl_av S))) hk dX4_sellPlain_69 fl_X4_123 rfl rfl (xw_at xw_up_s rfl) (Nat.le_of_ble_eq_true rfl) (xw_wr2 rfl) ?_
  refine xj_return hk hz dX4_sellPlain_72 ?_
  exact ⟨rfl, rfl⟩

set_option maxHeartbeats 1000000 in
set_option maxRecDepth 10000 in
theorem l_X4_findStop_7 {v : xw_V} {κ : xk_K} {post : Option Value → xw_G → Prop} {z : Nat × Nat × Nat} {G : xw_G} {s b : Nat} {S : sl_T} {B : bk_T} {n : Nat} {p : Nat → Nat} (hk : xk_Ok v κ yX4_findStop cX4_findStop 5 (some .int) 0 0) (hz : xk_zf κ = z) (hS : G s = pc_S v s b S) (hB : G b = pc_B v b B) (hsb : s ≠ b) (hio : sl_io S = nI n) (hn30 : n ≤ 30) (hod : pls n (sl_od S) p) (hp : inj n p) (kx : xj v κ post z G 82 [some (.ref (xw_ad v s 0)), none, some (.int (fsG (bk_ra B) (sl_ad S) p (sl_rs S) n)), none, none] []) : ∀ (m : Nat) (k : Nat), n - k < m → k ≤ n → xj v κ post z G 7 [some (.ref (xw_ad v s 0)), some (.int (fsS (bk_ra B) (sl_ad S) p (sl_rs S) k)), some (.int (fsG (bk_ra B) (sl_ad S) p (sl_rs S) k)), some (.int (nI k)), none] [] := by
  intro m
  induction m with
  | zero => intro k h; exact absurd h (Nat.not_lt_zero _)
  | succ m ih =>
    intro k hm hi
    refine xj_iload_n (i := 3) hk dX4_findStop_7 rfl rfl ?_
    refine xj_aload_n (i := 0) hk dX4_findStop_8 rfl rfl ?_
    refine xj_getfield hk dX4_findStop_9 fl_X4_33 (xw_at hS rfl) rfl ?_
    refine xj.eqi (x' := nI n) hio ?_
    refine xj_icmp_ge (tgt := 82) hk dX4_findStop_12 (by decide) (fun c12 => ?_) (fun c12 => ?_)
    · have c12 : n ≤ k := (nI_leI (a := n) (b := k) (by omega) (by omega)).mp c12
      have e9 : fsG (bk_ra B) (sl_ad S) p (sl_rs S) n = fsG (bk_ra B) (sl_ad S) p (sl_rs S) k := by
        first
          | (have := (fs_end c20 (n - k)).2; rw [show k + (n - k) = n by omega] at this; exact this)
          | rw [show k = n by omega]
      refine xj.le (ls' := [some (.ref (xw_ad v s 0)), none, some (.int (fsG (bk_ra B) (sl_ad S) p (sl_rs S) n)), none, none]) (by simp [xl_le, e9]) kx
    · have c12 : ¬ n ≤ k := fun q => c12 ((nI_leI (a := n) (b := k) (by omega) (by omega)).mpr q)
      refine xj_iload_n (i := 1) hk dX4_findStop_15 rfl rfl ?_
      refine xj_aload_n (i := 0) hk dX4_findStop_16 rfl rfl ?_
      refine xj_getfield hk dX4_findStop_17 fl_X4_123 (xw_at hS rfl) rfl ?_
      refine xj_icmp_ge (tgt := 82) hk dX4_findStop_20 (by decide) (fun c20 => ?_) (fun c20 => ?_)
      · have e9 : fsG (bk_ra B) (sl_ad S) p (sl_rs S) n = fsG (bk_ra B) (sl_ad S) p (sl_rs S) k := by
          first
            | (have := (fs_end c20 (n - k)).2; rw [show k + (n - k) = n by omega] at this; exact this)
            | rw [show k = n by omega]
        refine xj.le (ls' := [some (.ref (xw_ad v s 0)), none, some (.int (fsG (bk_ra B) (sl_ad S) p (sl_rs S) n)), none, none]) (by simp [xl_le, e9]) kx
      · refine xj_aload_n (i := 0) hk dX4_findStop_23 rfl rfl ?_
        refine xj_getfield hk dX4_findStop_24 fl_X4_9 (xw_at hS rfl) rfl ?_
        refine xj_iload_n (i := 3) hk dX4_findStop_27 rfl rfl ?_
        refine xj_iaload (k := k) hk dX4_findStop_28 (xw_at hS rfl) (xi_n (by omega) (by decide)) ?_
        refine xj.eqi (x' := nI (p k)) (hod k (by omega)) ?_
        refine xj_istore (i := 4) (ls2 := [some (.ref (xw_ad v s 0)), some (.int (fsS (bk_ra B) (sl_ad S) p (sl_rs S) k)), some (.int (fsG (bk_ra B) (sl_ad S) p (sl_rs S) k)), some (.int (nI k)), some (.int (nI (p k)))]) hk dX4_findStop_29 (by decide) rfl rfl ?_
        refine xj_aload_n (i := 0) hk dX4_findStop_31 rfl rfl ?_
        refine xj_getfield hk dX4_findStop_32 fl_X4_37 (xw_at hS rfl) rfl ?_
        refine xj_getfield hk dX4_findStop_35 fl_X4_72 (xw_at hB rfl) rfl ?_
        refine xj_iload hk dX4_findStop_38 rfl ?_
        refine xj_iaload (k := p k) hk dX4_findStop_40 (xw_at hB rfl) (xi_n (by have := hp.1 k (by omega); omega) (by decide)) ?_
        refine xj_iconst (x := (-1)) hk dX4_findStop_41 (by decide) ?_
        refine xj_icmp_eq (tgt := 76) hk dX4_findStop_42 (by decide) (fun c42 => ?_) (fun c42 => ?_)
        · refine xj_iinc (i := 3) (x2 := nI (k + 1)) (ls2 := [some (.ref (xw_ad v s 0)), some (.int (fsS (bk_ra B) (sl_ad S) p (sl_rs S) k)), some (.int (fsG (bk_ra B) (sl_ad S) p (sl_rs S) k)), some (.int (nI (k + 1))), some (.int (nI (p k)))]) hk dX4_findStop_76 rfl (nI_1 k) (by decide) rfl rfl ?_
          refine xj_goto (tgt := 7) hk dX4_findStop_79 (by decide) ?_
          refine xj.le (ls' := [some (.ref (xw_ad v s 0)), some (.int (fsS (bk_ra B) (sl_ad S) p (sl_rs S) ((k + 1)))), some (.int (fsG (bk_ra B) (sl_ad S) p (sl_rs S) ((k + 1)))), some (.int (nI ((k + 1)))), none]) (by simp [xl_le, fsS, fsG, *]) (ih (k + 1) (by omega) (by omega))
        · refine xj_aload_n (i := 0) hk dX4_findStop_45 rfl rfl ?_
          refine xj_getfield hk dX4_findStop_46 fl_X4_15 (xw_at hS rfl) rfl ?_
          refine xj_iload hk dX4_findStop_49 rfl ?_
          refine xj_iaload (k := p k) hk dX4_findStop_51 (xw_at hS rfl) (xi_n (by have := hp.1 k (by omega); omega) (by decide)) ?_
          refine xj_if_le (tgt := 76) hk dX4_findStop_52 (by decide) (fun c52 => ?_) (fun c52 => ?_)
          · refine xj_iinc (i := 3) (x2 := nI (k + 1)) (ls2 := [some (.ref (xw_ad v s 0)), some (.int (fsS (bk_ra B) (sl_ad S) p (sl_rs S) k)), some (.int (fsG (bk_ra B) (sl_ad S) p (sl_rs S) k)), some (.int (nI (k + 1))), some (.int (nI (p k)))]) hk dX4_findStop_76 rfl (nI_1 k) (by decide) rfl rfl ?_
            refine xj_goto (tgt := 7) hk dX4_findStop_79 (by decide) ?_
            refine xj.le (ls' := [some (.ref (xw_ad v s 0)), some (.int (fsS (bk_ra B) (sl_ad S) p (sl_rs S) ((k + 1)))), some (.int (fsG (bk_ra B) (sl_ad S) p (sl_rs S) ((k + 1)))), some (.int (nI ((k + 1)))), none]) (by simp [xl_le, fsS, fsG, *]) (ih (k + 1) (by omega) (by omega))
          · refine xj_iload_n (i := 1) hk dX4_findStop_55 rfl rfl ?_
            refine xj_aload_n (i := 0) hk dX4_findStop_56 rfl rfl ?_
            refine xj_getfield hk dX4_findStop_57 fl_X4_15 (xw_at hS rfl) rfl ?_
            refine xj_iload hk dX4_findStop_60 rfl ?_
            refine xj_iaload (k := p k) hk dX4_findStop_62 (xw_at hS rfl) (xi_n (by have := hp.1 k (by omega); omega) (by decide)) ?_
            refine xj_iadd hk dX4_findStop_63 ?_
            refine xj_istore_n (i := 1) (ls2 := [some (.ref (xw_ad v s 0)), some (.int ((fsS (bk_ra B) (sl_ad S) p (sl_rs S) k) + (sl_ad S (p k)))), some (.int (fsG (bk_ra B) (sl_ad S) p (sl_rs S) k)), some (.int (nI k)), some (.int (nI (p k)))]) hk dX4_findStop_64 rfl (by decide) rfl rfl ?_
            refine xj_aload_n (i := 0) hk dX4_findStop_65 rfl rfl ?_
            refine xj_getfield hk dX4_findStop_66 fl_X4_37 (xw_at hS rfl) rfl ?_
            refine xj_getfield hk dX4_findStop_69 fl_X4_72 (xw_at hB rfl) rfl ?_
            refine xj_iload hk dX4_findStop_72 rfl ?_
            refine xj_iaload (k := p k) hk dX4_findStop_74 (xw_at hB rfl) (xi_n (by have := hp.1 k (by omega); omega) (by decide)) ?_
            refine xj_istore_n (i := 2) (ls2 := [some (.ref (xw_ad v s 0)), some (.int ((fsS (bk_ra B) (sl_ad S) p (sl_rs S) k) + (sl_ad S (p k)))), some (.int (bk_ra B (p k))), some (.int (nI k)), some (.int (nI (p k)))]) hk dX4_findStop_75 rfl (by decide) rfl rfl ?_
            refine xj_iinc (i := 3) (x2 := nI (k + 1)) (ls2 := [some (.ref (xw_ad v s 0)), some (.int ((fsS (bk_ra B) (sl_ad S) p (sl_rs S) k) + (sl_ad S (p k)))), some (.int (bk_ra B (p k))), some (.int (nI (k + 1))), some (.int (nI (p k)))]) hk dX4_findStop_76 rfl (nI_1 k) (by decide) rfl rfl ?_
            refine xj_goto (tgt := 7) hk dX4_findStop_79 (by decide) ?_
            refine xj.le (ls' := [some (.ref (xw_ad v s 0)), some (.int (fsS (bk_ra B) (sl_ad S) p (sl_rs S) ((k + 1)))), some (.int (fsG (bk_ra B) (sl_ad S) p (sl_rs S) ((k + 1)))), some (.int (nI ((k + 1)))), none]) (by simp [xl_le, fsS, fsG, *]) (ih (k + 1) (by omega) (by omega))

set_option maxHeartbeats 1000000 in
set_option maxRecDepth 10000 in
theorem c_X4_findStop {v : xw_V} {G : xw_G} {s b : Nat} {S : sl_T} {B : bk_T} {n : Nat} {p : Nat → Nat} (hS : G s = pc_S v s b S) (hB : G b = pc_B v b B) (hsb : s ≠ b) (hio : sl_io S = nI n) (hn30 : n ≤ 30) (hod : pls n (sl_od S) p) (hp : inj n p) : xk_Con v yX4_findStop cX4_findStop 5 (some .int) 0 0 [.ref (xw_ad v s 0)] G (xk_ret (some (.int (fsG (bk_ra B) (sl_ad S) p (sl_rs S) n))) G) := by
  refine xk_of (ls0 := [some (.ref (xw_ad v s 0)), none, none, none, none]) (by decide) rfl (Nat.le_of_ble_eq_true rfl) ?_
  intro κ z hk hz
  refine xj_iconst (x := 0) hk dX4_findStop_0 (by decide) ?_
  refine xj_istore_n (i := 1) (ls2 := [some (.ref (xw_ad v s 0)), some (.int 0), none, none, none]) hk dX4_findStop_1 rfl (by decide) rfl rfl ?_
  refine xj_bipush (x := (-2)) hk dX4_findStop_2 (by decide) ?_
  refine xj_istore_n (i := 2) (ls2 := [some (.ref (xw_ad v s 0)), some (.int 0), some (.int ((-2))), none, none]) hk dX4_findStop_4 rfl (by decide) rfl rfl ?_
  refine xj_iconst (x := 0) hk dX4_findStop_5 (by decide) ?_
  refine xj_istore_n (i := 3) (ls2 := [some (.ref (xw_ad v s 0)), some (.int 0), some (.int ((-2))), some (.int 0), none]) hk dX4_findStop_6 rfl (by decide) rfl rfl ?_
  refine xj.le (ls' := [some (.ref (xw_ad v s 0)), some (.int (fsS (bk_ra B) (sl_ad S) p (sl_rs S) 0)), some (.int (fsG (bk_ra B) (sl_ad S) p (sl_rs S) 0)), some (.int (nI 0)), none]) (by simp [xl_le, fsS, fsG] <;> rfl) ?_
  refine l_X4_findStop_7 hk hz hS hB hsb hio hn30 hod hp ?_ (n + 1) 0 (by omega) (by omega)
  refine xj_iload_n (i := 2) hk dX4_findStop_82 rfl rfl ?_
  refine xj_ireturn hk hz dX4_findStop_83 ?_
  exact ⟨rfl, rfl⟩

set_option maxHeartbeats 1000000 in
set_option maxRecDepth 10000 in
theorem l_X4_sellRated_14 {v : xw_V} {κ : xk_K} {post : Option Value → xw_G → Prop} {z : Nat × Nat × Nat} {G : xw_G} {s b : Nat} {S : sl_T} {B : bk_T} {n : Nat} {p : Nat → Nat} (hk : xk_Ok v κ yX4_sellRated cX4_sellRated 5 none 3 73) (hz : xk_zf κ = z) (hS : G s = pc_S v s b S) (hB : G b = pc_B v b B) (hsb : s ≠ b) (hio : sl_io S = nI n) (hn30 : n ≤ 30) (hod : pls n (sl_od S) p) (hp : inj n p) (kx : xj v κ post z (xw_up G s (pS v s b (sl_od S) (sl_ad S) (sl_wy S) (cpN n (rtS (bk_ra B) (sl_ad S) (sl_so S) (fsG (bk_ra B) (sl_ad S) p (sl_rs S) n)) (sl_so S)) (sl_re S) (sl_ro S) (sl_rl S) (sl_io S) (sl_ap S) (sl_ar S) (sl_po S) (sl_sp S) (sl_rs S) (fsG (bk_ra B) (sl_ad S) p (sl_rs S) n) (sl_sr S) (sl_pt S) (sl_av S))) 104 [some (.ref (xw_ad v s 0)), some (.int (sm (blw (bk_ra B) (sl_ad S) (fsG (bk_ra B) (sl_ad S) p (sl_rs S) n)) n)), some (.int (sm (ats (bk_ra B) (sl_ad S) (fsG (bk_ra B) (sl_ad S) p (sl_rs S) n)) n)), some (.int (nI n)), none] []) : ∀ (m : Nat) (k : Nat), n - k < m → k ≤ n → xj v κ post z (xw_up G s (pS v s b (sl_od S) (sl_ad S) (sl_wy S) (cpN k (rtS (bk_ra B) (sl_ad S) (sl_so S) (fsG (bk_ra B) (sl_ad S) p (sl_rs S) n)) (sl_so S)) (sl_re S) (sl_ro S) (sl_rl S) (sl_io S) (sl_ap S) (sl_ar S) (sl_po S) (sl_sp S) (sl_rs S) (fsG (bk_ra B) (sl_ad S) p (sl_rs S) n) (sl_sr S) (sl_pt S) (sl_av S))) 14 [some (.ref (xw_ad v s 0)), some (.int (sm (blw (bk_ra B) (sl_ad S) (fsG (bk_ra B) (sl_ad S) p (sl_rs S) n)) k)), some (.int (sm (ats (bk_ra B) (sl_ad S) (fsG (bk_ra B) (sl_ad S) p (sl_rs S) n)) k)), some (.int (nI k)), none] [] := by
  intro m
  induction m with
  | zero => intro k h; exact absurd h (Nat.not_lt_zero _)
  | succ m ih =>
    intro k hm hi
    refine xj_iload_n (i := 3) hk dX4_sellRated_14 rfl rfl ?_
    refine xj_aload_n (i := 0) hk dX4_sellRated_15 rfl rfl ?_
    refine xj_getfield hk dX4_sellRated_16 fl_X4_33 (xw_at xw_up_s rfl) rfl ?_
    refine xj.eqi (x' := nI n) hio ?_
    refine xj_icmp_ge (tgt := 104) hk dX4_sellRated_19 (by decide) (fun c19 => ?_) (fun c19 => ?_)
    · have c19 : n ≤ k := (nI_leI (a := n) (b := k) (by omega) (by omega)).mp c19
      have e9 : k = n := by omega
      subst e9
      exact kx
    · have c19 : ¬ n ≤ k := fun q => c19 ((nI_leI (a := n) (b := k) (by omega) (by omega)).mpr q)
      refine xj_aload_n (i := 0) hk dX4_sellRated_22 rfl rfl ?_
      refine xj_getfield hk dX4_sellRated_23 fl_X4_37 (xw_at xw_up_s rfl) rfl ?_
      refine xj_getfield hk dX4_sellRated_26 fl_X4_72 (xw_at (show (xw_up G s (pS v s b (sl_od S) (sl_ad S) (sl_wy S) (cpN k (rtS (bk_ra B) (sl_ad S) (sl_so S) (fsG (bk_ra B) (sl_ad S) p (sl_rs S) n)) (sl_so S)) (sl_re S) (sl_ro S) (sl_rl S) (sl_io S) (sl_ap S) (sl_ar S) (sl_po S) (sl_sp S) (sl_rs S) (fsG (bk_ra B) (sl_ad S) p (sl_rs S) n) (sl_sr S) (sl_pt S) (sl_av S))) b = pc_B v b B from by rw [xw_up_n (Ne.symm hsb), hB]) rfl) rfl ?_
      refine xj_iload_n (i := 3) hk dX4_sellRated_29 rfl rfl ?_
      refine xj_iaload (k := k) hk dX4_sellRated_30 (xw_at (show (xw_up G s (pS v s b (sl_od S) (sl_ad S) (sl_wy S) (cpN k (rtS (bk_ra B) (sl_ad S) (sl_so S) (fsG (bk_ra B) (sl_ad S) p (sl_rs S) n)) (sl_so S)) (sl_re S) (sl_ro S) (sl_rl S) (sl_io S) (sl_ap S) (sl_ar S) (sl_po S) (sl_sp S) (sl_rs S) (fsG (bk_ra B) (sl_ad S) p (sl_rs S) n) (sl_sr S) (sl_pt S) (sl_av S))) b = pc_B v b B from by rw [xw_up_n (Ne.symm hsb), hB]) rfl) (xi_n (by omega) (by decide)) ?_
      refine xj_istore (i := 4) (ls2 := [some (.ref (xw_ad v s 0)), some (.int (sm (blw (bk_ra B) (sl_ad S) (fsG (bk_ra B) (sl_ad S) p (sl_rs S) n)) k)), some (.int (sm (ats (bk_ra B) (sl_ad S) (fsG (bk_ra B) (sl_ad S) p (sl_rs S) n)) k)), some (.int (nI k)), some (.int (bk_ra B k))]) hk dX4_sellRated_31 (by decide) rfl rfl ?_
      refine xj_iload hk dX4_sellRated_33 rfl ?_
      refine xj_iconst (x := (-1)) hk dX4_sellRated_35 (by decide) ?_
      refine xj_icmp_ne (tgt := 42) hk dX4_sellRated_36 (by decide) (fun c36 => ?_) (fun c36 => ?_)
      · refine xj_aload_n (i := 0) hk dX4_sellRated_42 rfl rfl ?_
        refine xj_getfield hk dX4_sellRated_43 fl_X4_21 (xw_at xw_up_s rfl) rfl ?_
        refine xj_iload_n (i := 3) hk dX4_sellRated_46 rfl rfl ?_
        refine xj_iload hk dX4_sellRated_47 rfl ?_
        refine xj_aload_n (i := 0) hk dX4_sellRated_49 rfl rfl ?_
        refine xj_getfield hk dX4_sellRated_50 fl_X4_129 (xw_at xw_up_s rfl) rfl ?_
        refine xj_icmp_ge (tgt := 65) hk dX4_sellRated_53 (by decide) (fun c53 => ?_) (fun c53 => ?_)
        · refine xj_iconst (x := 0) hk dX4_sellRated_65 (by decide) ?_
          refine xj_iastore (k := k) (G2 := xw_up G s (pS v s b (sl_od S) (sl_ad S) (sl_wy S) (xu (cpN k (rtS (bk_ra B) (sl_ad S) (sl_so S) (fsG (bk_ra B) (sl_ad S) p (sl_rs S) n)) (sl_so S)) k 0) (sl_re S) (sl_ro S) (sl_rl S) (sl_io S) (sl_ap S) (sl_ar S) (sl_po S) (sl_sp S) (sl_rs S) (fsG (bk_ra B) (sl_ad S) p (sl_rs S) n) (sl_sr S) (sl_pt S) (sl_av S))) hk dX4_sellRated_66 (xw_at xw_up_s rfl) (xi_n (by omega) (by decide)) (xw_wr2 rfl) ?_
          refine xj_iload_n (i := 1) hk dX4_sellRated_67 rfl rfl ?_
          refine xj_aload_n (i := 0) hk dX4_sellRated_68 rfl rfl ?_
          refine xj_getfield hk dX4_sellRated_69 fl_X4_21 (xw_at xw_up_s rfl) rfl ?_
          refine xj_iload_n (i := 3) hk dX4_sellRated_72 rfl rfl ?_
          refine xj_iaload (k := k) hk dX4_sellRated_73 (xw_at xw_up_s rfl) (xi_n (by omega) (by decide)) ?_
          refine xj.eqi (x' := 0) xu_s ?_
          refine xj_iadd hk dX4_sellRated_74 ?_
          refine xj_istore_n (i := 1) (ls2 := [some (.ref (xw_ad v s 0)), some (.int ((sm (blw (bk_ra B) (sl_ad S) (fsG (bk_ra B) (sl_ad S) p (sl_rs S) n)) k) + 0)), some (.int (sm (ats (bk_ra B) (sl_ad S) (fsG (bk_ra B) (sl_ad S) p (sl_rs S) n)) k)), some (.int (nI k)), some (.int (bk_ra B k))]) hk dX4_sellRated_75 rfl (by decide) rfl rfl ?_
          refine xj_iload_n (i := 2) hk dX4_sellRated_76 rfl rfl ?_
          refine xj_iload hk dX4_sellRated_77 rfl ?_
          refine xj_aload_n (i := 0) hk dX4_sellRated_79 rfl rfl ?_
          refine xj_getfield hk dX4_sellRated_80 fl_X4_129 (xw_at xw_up_s rfl) rfl ?_
          refine xj_icmp_ne (tgt := 95) hk dX4_sellRated_83 (by decide) (fun c83 => ?_) (fun c83 => ?_)
          · refine xj_iconst (x := 0) hk dX4_sellRated_95 (by decide) ?_
            refine xj_iadd hk dX4_sellRated_96 ?_
            refine xj_istore_n (i := 2) (ls2 := [some (.ref (xw_ad v s 0)), some (.int ((sm (blw (bk_ra B) (sl_ad S) (fsG (bk_ra B) (sl_ad S) p (sl_rs S) n)) k) + 0)), some (.int ((sm (ats (bk_ra B) (sl_ad S) (fsG (bk_ra B) (sl_ad S) p (sl_rs S) n)) k) + 0)), some (.int (nI k)), some (.int (bk_ra B k))]) hk dX4_sellRated_97 rfl (by decide) rfl rfl ?_
            refine xj_iinc (i := 3) (x2 := nI (k + 1)) (ls2 := [some (.ref (xw_ad v s 0)), some (.int ((sm (blw (bk_ra B) (sl_ad S) (fsG (bk_ra B) (sl_ad S) p (sl_rs S) n)) k) + 0)), some (.int ((sm (ats (bk_ra B) (sl_ad S) (fsG (bk_ra B) (sl_ad S) p (sl_rs S) n)) k) + 0)), some (.int (nI (k + 1))), some (.int (bk_ra B k))]) hk dX4_sellRated_98 rfl (nI_1 k) (by decide) rfl rfl ?_
            refine xj_goto (tgt := 14) hk dX4_sellRated_101 (by decide) ?_
            refine xj.le (ls' := [some (.ref (xw_ad v s 0)), some (.int (sm (blw (bk_ra B) (sl_ad S) (fsG (bk_ra B) (sl_ad S) p (sl_rs S) n)) ((k + 1)))), some (.int (sm (ats (bk_ra B) (sl_ad S) (fsG (bk_ra B) (sl_ad S) p (sl_rs S) n)) ((k + 1)))), some (.int (nI ((k + 1)))), none]) (by first | (simp only [xl_le, sm, blw, ats, if_pos c36, Int32.add_zero, and_self, and_true, true_and]; done) | (simp only [xl_le, sm, blw, ats, if_neg c36, if_pos c53, if_pos c83, Int32.add_zero, and_self, and_true, true_and]; done) | (simp only [xl_le, sm, blw, ats, if_neg c36, if_pos c53, if_neg c83, Int32.add_zero, and_self, and_true, true_and]; done) | (simp only [xl_le, sm, blw, ats, if_neg c36, if_neg c53, if_pos c83, Int32.add_zero, and_self, and_true, true_and]; done) | (simp only [xl_le, sm, blw, ats, if_neg c36, if_neg c53, if_neg c83, Int32.add_zero, and_self, and_true, true_and]; done)) ?_
            refine xj.eqG (G' := xw_up G s (pS v s b (sl_od S) (sl_ad S) (sl_wy S) (cpN ((k + 1)) (rtS (bk_ra B) (sl_ad S) (sl_so S) (fsG (bk_ra B) (sl_ad S) p (sl_rs S) n)) (sl_so S)) (sl_re S) (sl_ro S) (sl_rl S) (sl_io S) (sl_ap S) (sl_ar S) (sl_po S) (sl_sp S) (sl_rs S) (fsG (bk_ra B) (sl_ad S) p (sl_rs S) n) (sl_sr S) (sl_pt S) (sl_av S))) (by first | (rw [cp_e (show rtS (bk_ra B) (sl_ad S) (sl_so S) (fsG (bk_ra B) (sl_ad S) p (sl_rs S) n) k = 0 by simp only [rtS, if_neg c36, if_pos c53])]; done) | (rw [cp_e (show rtS (bk_ra B) (sl_ad S) (sl_so S) (fsG (bk_ra B) (sl_ad S) p (sl_rs S) n) k = sl_ad S k by simp only [rtS, if_neg c36, if_neg c53])]; done) | (rw [cp_n (show rtS (bk_ra B) (sl_ad S) (sl_so S) (fsG (bk_ra B) (sl_ad S) p (sl_rs S) n) k = sl_so S k by simp only [rtS, if_pos c36])]; done)) (ih (k + 1) (by omega) (by omega))
          · refine xj_aload_n (i := 0) hk dX4_sellRated_86 rfl rfl ?_
            refine xj_getfield hk dX4_sellRated_87 fl_X4_15 (xw_at xw_up_s rfl) rfl ?_
            refine xj_iload_n (i := 3) hk dX4_sellRated_90 rfl rfl ?_
            refine xj_iaload (k := k) hk dX4_sellRated_91 (xw_at xw_up_s rfl) (xi_n (by omega) (by decide)) ?_
            refine xj_goto (tgt := 96) hk dX4_sellRated_92 (by decide) ?_
            refine xj_iadd hk dX4_sellRated_96 ?_
            refine xj_istore_n (i := 2) (ls2 := [some (.ref (xw_ad v s 0)), some (.int ((sm (blw (bk_ra B) (sl_ad S) (fsG (bk_ra B) (sl_ad S) p (sl_rs S) n)) k) + 0)), some (.int ((sm (ats (bk_ra B) (sl_ad S) (fsG (bk_ra B) (sl_ad S) p (sl_rs S) n)) k) + (sl_ad S k))), some (.int (nI k)), some (.int (bk_ra B k))]) hk dX4_sellRated_97 rfl (by decide) rfl rfl ?_
            refine xj_iinc (i := 3) (x2 := nI (k + 1)) (ls2 := [some (.ref (xw_ad v s 0)), some (.int ((sm (blw (bk_ra B) (sl_ad S) (fsG (bk_ra B) (sl_ad S) p (sl_rs S) n)) k) + 0)), some (.int ((sm (ats (bk_ra B) (sl_ad S) (fsG (bk_ra B) (sl_ad S) p (sl_rs S) n)) k) + (sl_ad S k))), some (.int (nI (k + 1))), some (.int (bk_ra B k))]) hk dX4_sellRated_98 rfl (nI_1 k) (by decide) rfl rfl ?_
            refine xj_goto (tgt := 14) hk dX4_sellRated_101 (by decide) ?_
            refine xj.le (ls' := [some (.ref (xw_ad v s 0)), some (.int (sm (blw (bk_ra B) (sl_ad S) (fsG (bk_ra B) (sl_ad S) p (sl_rs S) n)) ((k + 1)))), some (.int (sm (ats (bk_ra B) (sl_ad S) (fsG (bk_ra B) (sl_ad S) p (sl_rs S) n)) ((k + 1)))), some (.int (nI ((k + 1)))), none]) (by first | (simp only [xl_le, sm, blw, ats, if_pos c36, Int32.add_zero, and_self, and_true, true_and]; done) | (simp only [xl_le, sm, blw, ats, if_neg c36, if_pos c53, if_pos c83, Int32.add_zero, and_self, and_true, true_and]; done) | (simp only [xl_le, sm, blw, ats, if_neg c36, if_pos c53, if_neg c83, Int32.add_zero, and_self, and_true, true_and]; done) | (simp only [xl_le, sm, blw, ats, if_neg c36, if_neg c53, if_pos c83, Int32.add_zero, and_self, and_true, true_and]; done) | (simp only [xl_le, sm, blw, ats, if_neg c36, if_neg c53, if_neg c83, Int32.add_zero, and_self, and_true, true_and]; done)) ?_
            refine xj.eqG (G' := xw_up G s (pS v s b (sl_od S) (sl_ad S) (sl_wy S) (cpN ((k + 1)) (rtS (bk_ra B) (sl_ad S) (sl_so S) (fsG (bk_ra B) (sl_ad S) p (sl_rs S) n)) (sl_so S)) (sl_re S) (sl_ro S) (sl_rl S) (sl_io S) (sl_ap S) (sl_ar S) (sl_po S) (sl_sp S) (sl_rs S) (fsG (bk_ra B) (sl_ad S) p (sl_rs S) n) (sl_sr S) (sl_pt S) (sl_av S))) (by first | (rw [cp_e (show rtS (bk_ra B) (sl_ad S) (sl_so S) (fsG (bk_ra B) (sl_ad S) p (sl_rs S) n) k = 0 by simp only [rtS, if_neg c36, if_pos c53])]; done) | (rw [cp_e (show rtS (bk_ra B) (sl_ad S) (sl_so S) (fsG (bk_ra B) (sl_ad S) p (sl_rs S) n) k = sl_ad S k by simp only [rtS, if_neg c36, if_neg c53])]; done) | (rw [cp_n (show rtS (bk_ra B) (sl_ad S) (sl_so S) (fsG (bk_ra B) (sl_ad S) p (sl_rs S) n) k = sl_so S k by simp only [rtS, if_pos c36])]; done)) (ih (k + 1) (by omega) (by omega))
        · refine xj_aload_n (i := 0) hk dX4_sellRated_56 rfl rfl ?_
          refine xj_getfield hk dX4_sellRated_57 fl_X4_15 (xw_at xw_up_s rfl) rfl ?_
          refine xj_iload_n (i := 3) hk dX4_sellRated_60 rfl rfl ?_
          refine xj_iaload (k := k) hk dX4_sellRated_61 (xw_at xw_up_s rfl) (xi_n (by omega) (by decide)) ?_
          refine xj_goto (tgt := 66) hk dX4_sellRated_62 (by decide) ?_
          refine xj_iastore (k := k) (G2 := xw_up G s (pS v s b (sl_od S) (sl_ad S) (sl_wy S) (xu (cpN k (rtS (bk_ra B) (sl_ad S) (sl_so S) (fsG (bk_ra B) (sl_ad S) p (sl_rs S) n)) (sl_so S)) k (sl_ad S k)) (sl_re S) (sl_ro S) (sl_rl S) (sl_io S) (sl_ap S) (sl_ar S) (sl_po S) (sl_sp S) (sl_rs S) (fsG (bk_ra B) (sl_ad S) p (sl_rs S) n) (sl_sr S) (sl_pt S) (sl_av S))) hk dX4_sellRated_66 (xw_at xw_up_s rfl) (xi_n (by omega) (by decide)) (xw_wr2 rfl) ?_
          refine xj_iload_n (i := 1) hk dX4_sellRated_67 rfl rfl ?_
          refine xj_aload_n (i := 0) hk dX4_sellRated_68 rfl rfl ?_
          refine xj_getfield hk dX4_sellRated_69 fl_X4_21 (xw_at xw_up_s rfl) rfl ?_
          refine xj_iload_n (i := 3) hk dX4_sellRated_72 rfl rfl ?_
          refine xj_iaload (k := k) hk dX4_sellRated_73 (xw_at xw_up_s rfl) (xi_n (by omega) (by decide)) ?_
          refine xj.eqi (x' := (sl_ad S k)) xu_s ?_
          refine xj_iadd hk dX4_sellRated_74 ?_
          refine xj_istore_n (i := 1) (ls2 := [some (.ref (xw_ad v s 0)), some (.int ((sm (blw (bk_ra B) (sl_ad S) (fsG (bk_ra B) (sl_ad S) p (sl_rs S) n)) k) + ((sl_ad S k)))), some (.int (sm (ats (bk_ra B) (sl_ad S) (fsG (bk_ra B) (sl_ad S) p (sl_rs S) n)) k)), some (.int (nI k)), some (.int (bk_ra B k))]) hk dX4_sellRated_75 rfl (by decide) rfl rfl ?_
          refine xj_iload_n (i := 2) hk dX4_sellRated_76 rfl rfl ?_
          refine xj_iload hk dX4_sellRated_77 rfl ?_
          refine xj_aload_n (i := 0) hk dX4_sellRated_79 rfl rfl ?_
          refine xj_getfield hk dX4_sellRated_80 fl_X4_129 (xw_at xw_up_s rfl) rfl ?_
          refine xj_icmp_ne (tgt := 95) hk dX4_sellRated_83 (by decide) (fun c83 => ?_) (fun c83 => ?_)
          · refine xj_iconst (x := 0) hk dX4_sellRated_95 (by decide) ?_
            refine xj_iadd hk dX4_sellRated_96 ?_
            refine xj_istore_n (i := 2) (ls2 := [some (.ref (xw_ad v s 0)), some (.int ((sm (blw (bk_ra B) (sl_ad S) (fsG (bk_ra B) (sl_ad S) p (sl_rs S) n)) k) + ((sl_ad S k)))), some (.int ((sm (ats (bk_ra B) (sl_ad S) (fsG (bk_ra B) (sl_ad S) p (sl_rs S) n)) k) + 0)), some (.int (nI k)), some (.int (bk_ra B k))]) hk dX4_sellRated_97 rfl (by decide) rfl rfl ?_
            refine xj_iinc (i := 3) (x2 := nI (k + 1)) (ls2 := [some (.ref (xw_ad v s 0)), some (.int ((sm (blw (bk_ra B) (sl_ad S) (fsG (bk_ra B) (sl_ad S) p (sl_rs S) n)) k) + ((sl_ad S k)))), some (.int ((sm (ats (bk_ra B) (sl_ad S) (fsG (bk_ra B) (sl_ad S) p (sl_rs S) n)) k) + 0)), some (.int (nI (k + 1))), some (.int (bk_ra B k))]) hk dX4_sellRated_98 rfl (nI_1 k) (by decide) rfl rfl ?_
            refine xj_goto (tgt := 14) hk dX4_sellRated_101 (by decide) ?_
            refine xj.le (ls' := [some (.ref (xw_ad v s 0)), some (.int (sm (blw (bk_ra B) (sl_ad S) (fsG (bk_ra B) (sl_ad S) p (sl_rs S) n)) ((k + 1)))), some (.int (sm (ats (bk_ra B) (sl_ad S) (fsG (bk_ra B) (sl_ad S) p (sl_rs S) n)) ((k + 1)))), some (.int (nI ((k + 1)))), none]) (by first | (simp only [xl_le, sm, blw, ats, if_pos c36, Int32.add_zero, and_self, and_true, true_and]; done) | (simp only [xl_le, sm, blw, ats, if_neg c36, if_pos c53, if_pos c83, Int32.add_zero, and_self, and_true, true_and]; done) | (simp only [xl_le, sm, blw, ats, if_neg c36, if_pos c53, if_neg c83, Int32.add_zero, and_self, and_true, true_and]; done) | (simp only [xl_le, sm, blw, ats, if_neg c36, if_neg c53, if_pos c83, Int32.add_zero, and_self, and_true, true_and]; done) | (simp only [xl_le, sm, blw, ats, if_neg c36, if_neg c53, if_neg c83, Int32.add_zero, and_self, and_true, true_and]; done)) ?_
            refine xj.eqG (G' := xw_up G s (pS v s b (sl_od S) (sl_ad S) (sl_wy S) (cpN ((k + 1)) (rtS (bk_ra B) (sl_ad S) (sl_so S) (fsG (bk_ra B) (sl_ad S) p (sl_rs S) n)) (sl_so S)) (sl_re S) (sl_ro S) (sl_rl S) (sl_io S) (sl_ap S) (sl_ar S) (sl_po S) (sl_sp S) (sl_rs S) (fsG (bk_ra B) (sl_ad S) p (sl_rs S) n) (sl_sr S) (sl_pt S) (sl_av S))) (by first | (rw [cp_e (show rtS (bk_ra B) (sl_ad S) (sl_so S) (fsG (bk_ra B) (sl_ad S) p (sl_rs S) n) k = 0 by simp only [rtS, if_neg c36, if_pos c53])]; done) | (rw [cp_e (show rtS (bk_ra B) (sl_ad S) (sl_so S) (fsG (bk_ra B) (sl_ad S) p (sl_rs S) n) k = sl_ad S k by simp only [rtS, if_neg c36, if_neg c53])]; done) | (rw [cp_n (show rtS (bk_ra B) (sl_ad S) (sl_so S) (fsG (bk_ra B) (sl_ad S) p (sl_rs S) n) k = sl_so S k by simp only [rtS, if_pos c36])]; done)) (ih (k + 1) (by omega) (by omega))
          · refine xj_aload_n (i := 0) hk dX4_sellRated_86 rfl rfl ?_
            refine xj_getfield hk dX4_sellRated_87 fl_X4_15 (xw_at xw_up_s rfl) rfl ?_
            refine xj_iload_n (i := 3) hk dX4_sellRated_90 rfl rfl ?_
            refine xj_iaload (k := k) hk dX4_sellRated_91 (xw_at xw_up_s rfl) (xi_n (by omega) (by decide)) ?_
            refine xj_goto (tgt := 96) hk dX4_sellRated_92 (by decide) ?_
            refine xj_iadd hk dX4_sellRated_96 ?_
            refine xj_istore_n (i := 2) (ls2 := [some (.ref (xw_ad v s 0)), some (.int ((sm (blw (bk_ra B) (sl_ad S) (fsG (bk_ra B) (sl_ad S) p (sl_rs S) n)) k) + ((sl_ad S k)))), some (.int ((sm (ats (bk_ra B) (sl_ad S) (fsG (bk_ra B) (sl_ad S) p (sl_rs S) n)) k) + (sl_ad S k))), some (.int (nI k)), some (.int (bk_ra B k))]) hk dX4_sellRated_97 rfl (by decide) rfl rfl ?_
            refine xj_iinc (i := 3) (x2 := nI (k + 1)) (ls2 := [some (.ref (xw_ad v s 0)), some (.int ((sm (blw (bk_ra B) (sl_ad S) (fsG (bk_ra B) (sl_ad S) p (sl_rs S) n)) k) + ((sl_ad S k)))), some (.int ((sm (ats (bk_ra B) (sl_ad S) (fsG (bk_ra B) (sl_ad S) p (sl_rs S) n)) k) + (sl_ad S k))), some (.int (nI (k + 1))), some (.int (bk_ra B k))]) hk dX4_sellRated_98 rfl (nI_1 k) (by decide) rfl rfl ?_
            refine xj_goto (tgt := 14) hk dX4_sellRated_101 (by decide) ?_
            refine xj.le (ls' := [some (.ref (xw_ad v s 0)), some (.int (sm (blw (bk_ra B) (sl_ad S) (fsG (bk_ra B) (sl_ad S) p (sl_rs S) n)) ((k + 1)))), some (.int (sm (ats (bk_ra B) (sl_ad S) (fsG (bk_ra B) (sl_ad S) p (sl_rs S) n)) ((k + 1)))), some (.int (nI ((k + 1)))), none]) (by first | (simp only [xl_le, sm, blw, ats, if_pos c36, Int32.add_zero, and_self, and_true, true_and]; done) | (simp only [xl_le, sm, blw, ats, if_neg c36, if_pos c53, if_pos c83, Int32.add_zero, and_self, and_true, true_and]; done) | (simp only [xl_le, sm, blw, ats, if_neg c36, if_pos c53, if_neg c83, Int32.add_zero, and_self, and_true, true_and]; done) | (simp only [xl_le, sm, blw, ats, if_neg c36, if_neg c53, if_pos c83, Int32.add_zero, and_self, and_true, true_and]; done) | (simp only [xl_le, sm, blw, ats, if_neg c36, if_neg c53, if_neg c83, Int32.add_zero, and_self, and_true, true_and]; done)) ?_
            refine xj.eqG (G' := xw_up G s (pS v s b (sl_od S) (sl_ad S) (sl_wy S) (cpN ((k + 1)) (rtS (bk_ra B) (sl_ad S) (sl_so S) (fsG (bk_ra B) (sl_ad S) p (sl_rs S) n)) (sl_so S)) (sl_re S) (sl_ro S) (sl_rl S) (sl_io S) (sl_ap S) (sl_ar S) (sl_po S) (sl_sp S) (sl_rs S) (fsG (bk_ra B) (sl_ad S) p (sl_rs S) n) (sl_sr S) (sl_pt S) (sl_av S))) (by first | (rw [cp_e (show rtS (bk_ra B) (sl_ad S) (sl_so S) (fsG (bk_ra B) (sl_ad S) p (sl_rs S) n) k = 0 by simp only [rtS, if_neg c36, if_pos c53])]; done) | (rw [cp_e (show rtS (bk_ra B) (sl_ad S) (sl_so S) (fsG (bk_ra B) (sl_ad S) p (sl_rs S) n) k = sl_ad S k by simp only [rtS, if_neg c36, if_neg c53])]; done) | (rw [cp_n (show rtS (bk_ra B) (sl_ad S) (sl_so S) (fsG (bk_ra B) (sl_ad S) p (sl_rs S) n) k = sl_so S k by simp only [rtS, if_pos c36])]; done)) (ih (k + 1) (by omega) (by omega))
      · refine xj_goto (tgt := 98) hk dX4_sellRated_39 (by decide) ?_
        refine xj_iinc (i := 3) (x2 := nI (k + 1)) (ls2 := [some (.ref (xw_ad v s 0)), some (.int (sm (blw (bk_ra B) (sl_ad S) (fsG (bk_ra B) (sl_ad S) p (sl_rs S) n)) k)), some (.int (sm (ats (bk_ra B) (sl_ad S) (fsG (bk_ra B) (sl_ad S) p (sl_rs S) n)) k)), some (.int (nI (k + 1))), some (.int (bk_ra B k))]) hk dX4_sellRated_98 rfl (nI_1 k) (by decide) rfl rfl ?_
        refine xj_goto (tgt := 14) hk dX4_sellRated_101 (by decide) ?_
        refine xj.le (ls' := [some (.ref (xw_ad v s 0)), some (.int (sm (blw (bk_ra B) (sl_ad S) (fsG (bk_ra B) (sl_ad S) p (sl_rs S) n)) ((k + 1)))), some (.int (sm (ats (bk_ra B) (sl_ad S) (fsG (bk_ra B) (sl_ad S) p (sl_rs S) n)) ((k + 1)))), some (.int (nI ((k + 1)))), none]) (by first | (simp only [xl_le, sm, blw, ats, if_pos c36, Int32.add_zero, and_self, and_true, true_and]; done) | (simp only [xl_le, sm, blw, ats, if_neg c36, if_pos c53, if_pos c83, Int32.add_zero, and_self, and_true, true_and]; done) | (simp only [xl_le, sm, blw, ats, if_neg c36, if_pos c53, if_neg c83, Int32.add_zero, and_self, and_true, true_and]; done) | (simp only [xl_le, sm, blw, ats, if_neg c36, if_neg c53, if_pos c83, Int32.add_zero, and_self, and_true, true_and]; done) | (simp only [xl_le, sm, blw, ats, if_neg c36, if_neg c53, if_neg c83, Int32.add_zero, and_self, and_true, true_and]; done)) ?_
        refine xj.eqG (G' := xw_up G s (pS v s b (sl_od S) (sl_ad S) (sl_wy S) (cpN ((k + 1)) (rtS (bk_ra B) (sl_ad S) (sl_so S) (fsG (bk_ra B) (sl_ad S) p (sl_rs S) n)) (sl_so S)) (sl_re S) (sl_ro S) (sl_rl S) (sl_io S) (sl_ap S) (sl_ar S) (sl_po S) (sl_sp S) (sl_rs S) (fsG (bk_ra B) (sl_ad S) p (sl_rs S) n) (sl_sr S) (sl_pt S) (sl_av S))) (by first | (rw [cp_e (show rtS (bk_ra B) (sl_ad S) (sl_so S) (fsG (bk_ra B) (sl_ad S) p (sl_rs S) n) k = 0 by simp only [rtS, if_neg c36, if_pos c53])]; done) | (rw [cp_e (show rtS (bk_ra B) (sl_ad S) (sl_so S) (fsG (bk_ra B) (sl_ad S) p (sl_rs S) n) k = sl_ad S k by simp only [rtS, if_neg c36, if_neg c53])]; done) | (rw [cp_n (show rtS (bk_ra B) (sl_ad S) (sl_so S) (fsG (bk_ra B) (sl_ad S) p (sl_rs S) n) k = sl_so S k by simp only [rtS, if_pos c36])]; done)) (ih (k + 1) (by omega) (by omega))

set_option maxHeartbeats 1000000 in
set_option maxRecDepth 10000 in
theorem c_X4_sellRated {v : xw_V} {G : xw_G} {s b : Nat} {S : sl_T} {B : bk_T} {n : Nat} {p : Nat → Nat} (hS : G s = pc_S v s b S) (hB : G b = pc_B v b B) (hsb : s ≠ b) (hio : sl_io S = nI n) (hn30 : n ≤ 30) (hod : pls n (sl_od S) p) (hp : inj n p) : xk_Con v yX4_sellRated cX4_sellRated 5 none 3 73 [.ref (xw_ad v s 0)] G (xk_ret none (xw_up G s (pS v s b (sl_od S) (sl_ad S) (sl_wy S) ((atS n (bk_ra B) (sl_ad S) (cpN n (rtS (bk_ra B) (sl_ad S) (sl_so S) (fsG (bk_ra B) (sl_ad S) p (sl_rs S) n)) (sl_so S)) (sl_re S) (fsG (bk_ra B) (sl_ad S) p (sl_rs S) n) (sl_rs S - sm (blw (bk_ra B) (sl_ad S) (fsG (bk_ra B) (sl_ad S) p (sl_rs S) n)) n) (sm (ats (bk_ra B) (sl_ad S) (fsG (bk_ra B) (sl_ad S) p (sl_rs S) n)) n)).1) ((atS n (bk_ra B) (sl_ad S) (cpN n (rtS (bk_ra B) (sl_ad S) (sl_so S) (fsG (bk_ra B) (sl_ad S) p (sl_rs S) n)) (sl_so S)) (sl_re S) (fsG (bk_ra B) (sl_ad S) p (sl_rs S) n) (sl_rs S - sm (blw (bk_ra B) (sl_ad S) (fsG (bk_ra B) (sl_ad S) p (sl_rs S) n)) n) (sm (ats (bk_ra B) (sl_ad S) (fsG (bk_ra B) (sl_ad S) p (sl_rs S) n)) n)).2) (sl_ro S) (sl_rl S) (sl_io S) (sl_ap S) (sl_ar S) (sl_po S) (sl_sp S) (sl_rs S) (fsG (bk_ra B) (sl_ad S) p (sl_rs S) n) (sm (blw (bk_ra B) (sl_ad S) (fsG (bk_ra B) (sl_ad S) p (sl_rs S) n)) n + (if sm (ats (bk_ra B) (sl_ad S) (fsG (bk_ra B) (sl_ad S) p (sl_rs S) n)) n < sl_rs S - sm (blw (bk_ra B) (sl_ad S) (fsG (bk_ra B) (sl_ad S) p (sl_rs S) n)) n then sm (ats (bk_ra B) (sl_ad S) (fsG (bk_ra B) (sl_ad S) p (sl_rs S) n)) n else sl_rs S - sm (blw (bk_ra B) (sl_ad S) (fsG (bk_ra B) (sl_ad S) p (sl_rs S) n)) n)) (if sm (ats (bk_ra B) (sl_ad S) (fsG (bk_ra B) (sl_ad S) p (sl_rs S) n)) n ≤ sl_rs S - sm (blw (bk_ra B) (sl_ad S) (fsG (bk_ra B) (sl_ad S) p (sl_rs S) n)) n then 0 else 1) (sl_av S)))) := by
  refine xk_of (ls0 := [some (.ref (xw_ad v s 0)), none, none, none, none]) (by decide) rfl (Nat.le_of_ble_eq_true rfl) ?_
  intro κ z hk hz
  refine xj_aload_n (i := 0) hk dX4_sellRated_0 rfl rfl ?_
  refine xj_aload_n (i := 0) hk dX4_sellRated_1 rfl rfl ?_
  refine xj_callV hk hz (fr1 := 0) (lo1 := 0) (r1 := some (.int (fsG (bk_ra B) (sl_ad S) p (sl_rs S) n))) (As := []) (st := [.ref (xw_ad v s 0)]) (st2 := [.int (fsG (bk_ra B) (sl_ad S) p (sl_rs S) n), .ref (xw_ad v s 0)]) (G1 := G) ml_X4_126 (c_X4_findStop (n := n) (p := p) (show G s = pc_S v s b S from hS) (show G b = pc_B v b B from hB) hsb hio hn30 hod hp) (xw_at hS rfl) rfl dX4_sellRated_2 ⟨Nat.le_of_ble_eq_true rfl, Nat.le_of_ble_eq_true rfl⟩ rfl (Nat.le_of_ble_eq_true rfl) rfl rfl ?_
  refine xj_putfield (G2 := xw_up G s (pS v s b (sl_od S) (sl_ad S) (sl_wy S) (sl_so S) (sl_re S) (sl_ro S) (sl_rl S) (sl_io S) (sl_ap S) (sl_ar S) (sl_po S) (sl_sp S) (sl_rs S) (fsG (bk_ra B) (sl_ad S) p (sl_rs S) n) (sl_sr S) (sl_pt S) (sl_av S))) hk dX4_sellRated_5 fl_X4_129 rfl rfl (xw_at hS rfl) (Nat.le_of_ble_eq_true rfl) (xw_wr hS rfl) ?_
  refine xj_iconst (x := 0) hk dX4_sellRated_8 (by decide) ?_
  refine xj_istore_n (i := 1) (ls2 := [some (.ref (xw_ad v s 0)), some (.int 0), none, none, none]) hk dX4_sellRated_9 rfl (by decide) rfl rfl ?_
  refine xj_iconst (x := 0) hk dX4_sellRated_10 (by decide) ?_
  refine xj_istore_n (i := 2) (ls2 := [some (.ref (xw_ad v s 0)), some (.int 0), some (.int 0), none, none]) hk dX4_sellRated_11 rfl (by decide) rfl rfl ?_
  refine xj_iconst (x := 0) hk dX4_sellRated_12 (by decide) ?_
  refine xj_istore_n (i := 3) (ls2 := [some (.ref (xw_ad v s 0)), some (.int 0), some (.int 0), some (.int 0), none]) hk dX4_sellRated_13 rfl (by decide) rfl rfl ?_
  refine xj.eqG (G' := xw_up G s (pS v s b (sl_od S) (sl_ad S) (sl_wy S) (cpN 0 (rtS (bk_ra B) (sl_ad S) (sl_so S) (fsG (bk_ra B) (sl_ad S) p (sl_rs S) n)) (sl_so S)) (sl_re S) (sl_ro S) (sl_rl S) (sl_io S) (sl_ap S) (sl_ar S) (sl_po S) (sl_sp S) (sl_rs S) (fsG (bk_ra B) (sl_ad S) p (sl_rs S) n) (sl_sr S) (sl_pt S) (sl_av S))) (by simp only [cp_0]) ?_
  refine xj.le (ls' := [some (.ref (xw_ad v s 0)), some (.int (sm (blw (bk_ra B) (sl_ad S) (fsG (bk_ra B) (sl_ad S) p (sl_rs S) n)) 0)), some (.int (sm (ats (bk_ra B) (sl_ad S) (fsG (bk_ra B) (sl_ad S) p (sl_rs S) n)) 0)), some (.int (nI 0)), none]) (by simp [xl_le, sm] <;> rfl) ?_
  refine l_X4_sellRated_14 hk hz hS hB hsb hio hn30 hod hp ?_ (n + 1) 0 (by omega) (by omega)
  refine xj_aload_n (i := 0) hk dX4_sellRated_104 rfl rfl ?_
  refine xj_getfield hk dX4_sellRated_105 fl_X4_123 (xw_at xw_up_s rfl) rfl ?_
  refine xj_iload_n (i := 1) hk dX4_sellRated_108 rfl rfl ?_
  refine xj_isub hk dX4_sellRated_109 ?_
  refine xj_istore_n (i := 3) (ls2 := [some (.ref (xw_ad v s 0)), some (.int (sm (blw (bk_ra B) (sl_ad S) (fsG (bk_ra B) (sl_ad S) p (sl_rs S) n)) n)), some (.int (sm (ats (bk_ra B) (sl_ad S) (fsG (bk_ra B) (sl_ad S) p (sl_rs S) n)) n)), some (.int ((sl_rs S) - (sm (blw (bk_ra B) (sl_ad S) (fsG (bk_ra B) (sl_ad S) p (sl_rs S) n)) n))), none]) hk dX4_sellRated_110 rfl (by decide) rfl rfl ?_
  refine xj_aload_n (i := 0) hk dX4_sellRated_111 rfl rfl ?_
  refine xj_iload_n (i := 3) hk dX4_sellRated_112 rfl rfl ?_
  refine xj_iload_n (i := 2) hk dX4_sellRated_113 rfl rfl ?_
  refine xj_icmp_ge (tgt := 121) hk dX4_sellRated_114 (by decide) (fun c114 => ?_) (fun c114 => ?_)
  · refine xj_iconst (x := 0) hk dX4_sellRated_121 (by decide) ?_
    refine xj_putfield (G2 := xw_up G s (pS v s b (sl_od S) (sl_ad S) (sl_wy S) (cpN n (rtS (bk_ra B) (sl_ad S) (sl_so S) (fsG (bk_ra B) (sl_ad S) p (sl_rs S) n)) (sl_so S)) (sl_re S) (sl_ro S) (sl_rl S) (sl_io S) (sl_ap S) (sl_ar S) (sl_po S) (sl_sp S) (sl_rs S) (fsG (bk_ra B) (sl_ad S) p (sl_rs S) n) (sl_sr S) 0 (sl_av S))) hk dX4_sellRated_122 fl_X4_132 (by decide) (by decide) (xw_at xw_up_s rfl) (Nat.le_of_ble_eq_true rfl) (xw_wr2 rfl) ?_
    refine xj_aload_n (i := 0) hk dX4_sellRated_125 rfl rfl ?_
    refine xj_iload_n (i := 1) hk dX4_sellRated_126 rfl rfl ?_
    refine xj_iload_n (i := 3) hk dX4_sellRated_127 rfl rfl ?_
    refine xj_iload_n (i := 2) hk dX4_sellRated_128 rfl rfl ?_
    refine xj_min hk hz dX4_sellRated_129 mm_X4_110 (by decide) (Nat.le_of_ble_eq_true rfl) mm_min.1 mm_min.2.1 mm_min.2.2 ?_
    refine xj_iadd hk dX4_sellRated_132 ?_
    refine xj_putfield (G2 := xw_up G s (pS v s b (sl_od S) (sl_ad S) (sl_wy S) (cpN n (rtS (bk_ra B) (sl_ad S) (sl_so S) (fsG (bk_ra B) (sl_ad S) p (sl_rs S) n)) (sl_so S)) (sl_re S) (sl_ro S) (sl_rl S) (sl_io S) (sl_ap S) (sl_ar S) (sl_po S) (sl_sp S) (sl_rs S) (fsG (bk_ra B) (sl_ad S) p (sl_rs S) n) ((sm (blw (bk_ra B) (sl_ad S) (fsG (bk_ra B) (sl_ad S) p (sl_rs S) n)) n) + (if sm (ats (bk_ra B) (sl_ad S) (fsG (bk_ra B) (sl_ad S) p (sl_rs S) n)) n < (sl_rs S) - (sm (blw (bk_ra B) (sl_ad S) (fsG (bk_ra B) (sl_ad S) p (sl_rs S) n)) n) then sm (ats (bk_ra B) (sl_ad S) (fsG (bk_ra B) (sl_ad S) p (sl_rs S) n)) n else (sl_rs S) - (sm (blw (bk_ra B) (sl_ad S) (fsG (bk_ra B) (sl_ad S) p (sl_rs S) n)) n))) 0 (sl_av S))) hk dX4_sellRated_133 fl_X4_136 rfl rfl (xw_at xw_up_s rfl) (Nat.le_of_ble_eq_true rfl) (xw_wr2 rfl) ?_
    refine xj_aload_n (i := 0) hk dX4_sellRated_136 rfl rfl ?_
    refine xj_aload_n (i := 0) hk dX4_sellRated_137 rfl rfl ?_
    refine xj_getfield hk dX4_sellRated_138 fl_X4_129 (xw_at xw_up_s rfl) rfl ?_
    refine xj_iload_n (i := 3) hk dX4_sellRated_141 rfl rfl ?_
    refine xj_iload_n (i := 2) hk dX4_sellRated_142 rfl rfl ?_
    refine xj_callV hk hz (fr1 := 2) (lo1 := 49) (r1 := none) (As := [.int (fsG (bk_ra B) (sl_ad S) p (sl_rs S) n), .int ((sl_rs S) - (sm (blw (bk_ra B) (sl_ad S) (fsG (bk_ra B) (sl_ad S) p (sl_rs S) n)) n)), .int (sm (ats (bk_ra B) (sl_ad S) (fsG (bk_ra B) (sl_ad S) p (sl_rs S) n)) n)]) (st := []) (st2 := []) (G1 := xw_up G s (pS v s b (sl_od S) (sl_ad S) (sl_wy S) ((atS n (bk_ra B) (sl_ad S) (cpN n (rtS (bk_ra B) (sl_ad S) (sl_so S) (fsG (bk_ra B) (sl_ad S) p (sl_rs S) n)) (sl_so S)) (sl_re S) (fsG (bk_ra B) (sl_ad S) p (sl_rs S) n) ((sl_rs S) - (sm (blw (bk_ra B) (sl_ad S) (fsG (bk_ra B) (sl_ad S) p (sl_rs S) n)) n)) (sm (ats (bk_ra B) (sl_ad S) (fsG (bk_ra B) (sl_ad S) p (sl_rs S) n)) n)).1) ((atS n (bk_ra B) (sl_ad S) (cpN n (rtS (bk_ra B) (sl_ad S) (sl_so S) (fsG (bk_ra B) (sl_ad S) p (sl_rs S) n)) (sl_so S)) (sl_re S) (fsG (bk_ra B) (sl_ad S) p (sl_rs S) n) ((sl_rs S) - (sm (blw (bk_ra B) (sl_ad S) (fsG (bk_ra B) (sl_ad S) p (sl_rs S) n)) n)) (sm (ats (bk_ra B) (sl_ad S) (fsG (bk_ra B) (sl_ad S) p (sl_rs S) n)) n)).2) (sl_ro S) (sl_rl S) (sl_io S) (sl_ap S) (sl_ar S) (sl_po S) (sl_sp S) (sl_rs S) (fsG (bk_ra B) (sl_ad S) p (sl_rs S) n) ((sm (blw (bk_ra B) (sl_ad S) (fsG (bk_ra B) (sl_ad S) p (sl_rs S) n)) n) + (if sm (ats (bk_ra B) (sl_ad S) (fsG (bk_ra B) (sl_ad S) p (sl_rs S) n)) n < (sl_rs S) - (sm (blw (bk_ra B) (sl_ad S) (fsG (bk_ra B) (sl_ad S) p (sl_rs S) n)) n) then sm (ats (bk_ra B) (sl_ad S) (fsG (bk_ra B) (sl_ad S) p (sl_rs S) n)) n else (sl_rs S) - (sm (blw (bk_ra B) (sl_ad S) (fsG (bk_ra B) (sl_ad S) p (sl_rs S) n)) n))) 0 (sl_av S))) ml_X4_119 (xk_cg (by rw [xw_up_u] <;> rfl) (c_X4_sellAt (n := n) (show (xw_up G s (pS v s b (sl_od S) (sl_ad S) (sl_wy S) (cpN n (rtS (bk_ra B) (sl_ad S) (sl_so S) (fsG (bk_ra B) (sl_ad S) p (sl_rs S) n)) (sl_so S)) (sl_re S) (sl_ro S) (sl_rl S) (sl_io S) (sl_ap S) (sl_ar S) (sl_po S) (sl_sp S) (sl_rs S) (fsG (bk_ra B) (sl_ad S) p (sl_rs S) n) ((sm (blw (bk_ra B) (sl_ad S) (fsG (bk_ra B) (sl_ad S) p (sl_rs S) n)) n) + (if sm (ats (bk_ra B) (sl_ad S) (fsG (bk_ra B) (sl_ad S) p (sl_rs S) n)) n < (sl_rs S) - (sm (blw (bk_ra B) (sl_ad S) (fsG (bk_ra B) (sl_ad S) p (sl_rs S) n)) n) then sm (ats (bk_ra B) (sl_ad S) (fsG (bk_ra B) (sl_ad S) p (sl_rs S) n)) n else (sl_rs S) - (sm (blw (bk_ra B) (sl_ad S) (fsG (bk_ra B) (sl_ad S) p (sl_rs S) n)) n))) 0 (sl_av S))) s = pc_S v s b (sl_od S, sl_ad S, sl_wy S, cpN n (rtS (bk_ra B) (sl_ad S) (sl_so S) (fsG (bk_ra B) (sl_ad S) p (sl_rs S) n)) (sl_so S), sl_re S, sl_ro S, sl_rl S, sl_io S, sl_ap S, sl_ar S, sl_po S, sl_sp S, sl_rs S, fsG (bk_ra B) (sl_ad S) p (sl_rs S) n, (sm (blw (bk_ra B) (sl_ad S) (fsG (bk_ra B) (sl_ad S) p (sl_rs S) n)) n) + (if sm (ats (bk_ra B) (sl_ad S) (fsG (bk_ra B) (sl_ad S) p (sl_rs S) n)) n < (sl_rs S) - (sm (blw (bk_ra B) (sl_ad S) (fsG (bk_ra B) (sl_ad S) p (sl_rs S) n)) n) then sm (ats (bk_ra B) (sl_ad S) (fsG (bk_ra B) (sl_ad S) p (sl_rs S) n)) n else (sl_rs S) - (sm (blw (bk_ra B) (sl_ad S) (fsG (bk_ra B) (sl_ad S) p (sl_rs S) n)) n)), 0, sl_av S) from xw_up_s) (show (xw_up G s (pS v s b (sl_od S) (sl_ad S) (sl_wy S) (cpN n (rtS (bk_ra B) (sl_ad S) (sl_so S) (fsG (bk_ra B) (sl_ad S) p (sl_rs S) n)) (sl_so S)) (sl_re S) (sl_ro S) (sl_rl S) (sl_io S) (sl_ap S) (sl_ar S) (sl_po S) (sl_sp S) (sl_rs S) (fsG (bk_ra B) (sl_ad S) p (sl_rs S) n) ((sm (blw (bk_ra B) (sl_ad S) (fsG (bk_ra B) (sl_ad S) p (sl_rs S) n)) n) + (if sm (ats (bk_ra B) (sl_ad S) (fsG (bk_ra B) (sl_ad S) p (sl_rs S) n)) n < (sl_rs S) - (sm (blw (bk_ra B) (sl_ad S) (fsG (bk_ra B) (sl_ad S) p (sl_rs S) n)) n) then sm (ats (bk_ra B) (sl_ad S) (fsG (bk_ra B) (sl_ad S) p (sl_rs S) n)) n else (sl_rs S) - (sm (blw (bk_ra B) (sl_ad S) (fsG (bk_ra B) (sl_ad S) p (sl_rs S) n)) n))) 0 (sl_av S))) b = pc_B v b B from (show (xw_up G s (pS v s b (sl_od S) (sl_ad S) (sl_wy S) (cpN n (rtS (bk_ra B) (sl_ad S) (sl_so S) (fsG (bk_ra B) (sl_ad S) p (sl_rs S) n)) (sl_so S)) (sl_re S) (sl_ro S) (sl_rl S) (sl_io S) (sl_ap S) (sl_ar S) (sl_po S) (sl_sp S) (sl_rs S) (fsG (bk_ra B) (sl_ad S) p (sl_rs S) n) ((sm (blw (bk_ra B) (sl_ad S) (fsG (bk_ra B) (sl_ad S) p (sl_rs S) n)) n) + (if sm (ats (bk_ra B) (sl_ad S) (fsG (bk_ra B) (sl_ad S) p (sl_rs S) n)) n < (sl_rs S) - (sm (blw (bk_ra B) (sl_ad S) (fsG (bk_ra B) (sl_ad S) p (sl_rs S) n)) n) then sm (ats (bk_ra B) (sl_ad S) (fsG (bk_ra B) (sl_ad S) p (sl_rs S) n)) n else (sl_rs S) - (sm (blw (bk_ra B) (sl_ad S) (fsG (bk_ra B) (sl_ad S) p (sl_rs S) n)) n))) 0 (sl_av S))) b = pc_B v b B from by rw [xw_up_n (Ne.symm hsb), hB])) hsb hio hn30 (fsG (bk_ra B) (sl_ad S) p (sl_rs S) n) ((sl_rs S) - (sm (blw (bk_ra B) (sl_ad S) (fsG (bk_ra B) (sl_ad S) p (sl_rs S) n)) n)) (sm (ats (bk_ra B) (sl_ad S) (fsG (bk_ra B) (sl_ad S) p (sl_rs S) n)) n))) (xw_at xw_up_s rfl) rfl dX4_sellRated_143 ⟨Nat.le_of_ble_eq_true rfl, Nat.le_of_ble_eq_true rfl⟩ rfl (Nat.le_of_ble_eq_true rfl) rfl rfl ?_
    refine xj_return hk hz dX4_sellRated_146 ?_
    refine ⟨rfl, ?_⟩
    first | rw [if_pos c114] | rw [if_neg c114]
  · refine xj_iconst (x := 1) hk dX4_sellRated_117 (by decide) ?_
    refine xj_goto (tgt := 122) hk dX4_sellRated_118 (by decide) ?_
    refine xj_putfield (G2 := xw_up G s (pS v s b (sl_od S) (sl_ad S) (sl_wy S) (cpN n (rtS (bk_ra B) (sl_ad S) (sl_so S) (fsG (bk_ra B) (sl_ad S) p (sl_rs S) n)) (sl_so S)) (sl_re S) (sl_ro S) (sl_rl S) (sl_io S) (sl_ap S) (sl_ar S) (sl_po S) (sl_sp S) (sl_rs S) (fsG (bk_ra B) (sl_ad S) p (sl_rs S) n) (sl_sr S) 1 (sl_av S))) hk dX4_sellRated_122 fl_X4_132 (by decide) (by decide) (xw_at xw_up_s rfl) (Nat.le_of_ble_eq_true rfl) (xw_wr2 rfl) ?_
    refine xj_aload_n (i := 0) hk dX4_sellRated_125 rfl rfl ?_
    refine xj_iload_n (i := 1) hk dX4_sellRated_126 rfl rfl ?_
    refine xj_iload_n (i := 3) hk dX4_sellRated_127 rfl rfl ?_
    refine xj_iload_n (i := 2) hk dX4_sellRated_128 rfl rfl ?_
    refine xj_min hk hz dX4_sellRated_129 mm_X4_110 (by decide) (Nat.le_of_ble_eq_true rfl) mm_min.1 mm_min.2.1 mm_min.2.2 ?_
    refine xj_iadd hk dX4_sellRated_132 ?_
    refine xj_putfield (G2 := xw_up G s (pS v s b (sl_od S) (sl_ad S) (sl_wy S) (cpN n (rtS (bk_ra B) (sl_ad S) (sl_so S) (fsG (bk_ra B) (sl_ad S) p (sl_rs S) n)) (sl_so S)) (sl_re S) (sl_ro S) (sl_rl S) (sl_io S) (sl_ap S) (sl_ar S) (sl_po S) (sl_sp S) (sl_rs S) (fsG (bk_ra B) (sl_ad S) p (sl_rs S) n) ((sm (blw (bk_ra B) (sl_ad S) (fsG (bk_ra B) (sl_ad S) p (sl_rs S) n)) n) + (if sm (ats (bk_ra B) (sl_ad S) (fsG (bk_ra B) (sl_ad S) p (sl_rs S) n)) n < (sl_rs S) - (sm (blw (bk_ra B) (sl_ad S) (fsG (bk_ra B) (sl_ad S) p (sl_rs S) n)) n) then sm (ats (bk_ra B) (sl_ad S) (fsG (bk_ra B) (sl_ad S) p (sl_rs S) n)) n else (sl_rs S) - (sm (blw (bk_ra B) (sl_ad S) (fsG (bk_ra B) (sl_ad S) p (sl_rs S) n)) n))) 1 (sl_av S))) hk dX4_sellRated_133 fl_X4_136 rfl rfl (xw_at xw_up_s rfl) (Nat.le_of_ble_eq_true rfl) (xw_wr2 rfl) ?_
    refine xj_aload_n (i := 0) hk dX4_sellRated_136 rfl rfl ?_
    refine xj_aload_n (i := 0) hk dX4_sellRated_137 rfl rfl ?_
    refine xj_getfield hk dX4_sellRated_138 fl_X4_129 (xw_at xw_up_s rfl) rfl ?_
    refine xj_iload_n (i := 3) hk dX4_sellRated_141 rfl rfl ?_
    refine xj_iload_n (i := 2) hk dX4_sellRated_142 rfl rfl ?_
    refine xj_callV hk hz (fr1 := 2) (lo1 := 49) (r1 := none) (As := [.int (fsG (bk_ra B) (sl_ad S) p (sl_rs S) n), .int ((sl_rs S) - (sm (blw (bk_ra B) (sl_ad S) (fsG (bk_ra B) (sl_ad S) p (sl_rs S) n)) n)), .int (sm (ats (bk_ra B) (sl_ad S) (fsG (bk_ra B) (sl_ad S) p (sl_rs S) n)) n)]) (st := []) (st2 := []) (G1 := xw_up G s (pS v s b (sl_od S) (sl_ad S) (sl_wy S) ((atS n (bk_ra B) (sl_ad S) (cpN n (rtS (bk_ra B) (sl_ad S) (sl_so S) (fsG (bk_ra B) (sl_ad S) p (sl_rs S) n)) (sl_so S)) (sl_re S) (fsG (bk_ra B) (sl_ad S) p (sl_rs S) n) ((sl_rs S) - (sm (blw (bk_ra B) (sl_ad S) (fsG (bk_ra B) (sl_ad S) p (sl_rs S) n)) n)) (sm (ats (bk_ra B) (sl_ad S) (fsG (bk_ra B) (sl_ad S) p (sl_rs S) n)) n)).1) ((atS n (bk_ra B) (sl_ad S) (cpN n (rtS (bk_ra B) (sl_ad S) (sl_so S) (fsG (bk_ra B) (sl_ad S) p (sl_rs S) n)) (sl_so S)) (sl_re S) (fsG (bk_ra B) (sl_ad S) p (sl_rs S) n) ((sl_rs S) - (sm (blw (bk_ra B) (sl_ad S) (fsG (bk_ra B) (sl_ad S) p (sl_rs S) n)) n)) (sm (ats (bk_ra B) (sl_ad S) (fsG (bk_ra B) (sl_ad S) p (sl_rs S) n)) n)).2) (sl_ro S) (sl_rl S) (sl_io S) (sl_ap S) (sl_ar S) (sl_po S) (sl_sp S) (sl_rs S) (fsG (bk_ra B) (sl_ad S) p (sl_rs S) n) ((sm (blw (bk_ra B) (sl_ad S) (fsG (bk_ra B) (sl_ad S) p (sl_rs S) n)) n) + (if sm (ats (bk_ra B) (sl_ad S) (fsG (bk_ra B) (sl_ad S) p (sl_rs S) n)) n < (sl_rs S) - (sm (blw (bk_ra B) (sl_ad S) (fsG (bk_ra B) (sl_ad S) p (sl_rs S) n)) n) then sm (ats (bk_ra B) (sl_ad S) (fsG (bk_ra B) (sl_ad S) p (sl_rs S) n)) n else (sl_rs S) - (sm (blw (bk_ra B) (sl_ad S) (fsG (bk_ra B) (sl_ad S) p (sl_rs S) n)) n))) 1 (sl_av S))) ml_X4_119 (xk_cg (by rw [xw_up_u] <;> rfl) (c_X4_sellAt (n := n) (show (xw_up G s (pS v s b (sl_od S) (sl_ad S) (sl_wy S) (cpN n (rtS (bk_ra B) (sl_ad S) (sl_so S) (fsG (bk_ra B) (sl_ad S) p (sl_rs S) n)) (sl_so S)) (sl_re S) (sl_ro S) (sl_rl S) (sl_io S) (sl_ap S) (sl_ar S) (sl_po S) (sl_sp S) (sl_rs S) (fsG (bk_ra B) (sl_ad S) p (sl_rs S) n) ((sm (blw (bk_ra B) (sl_ad S) (fsG (bk_ra B) (sl_ad S) p (sl_rs S) n)) n) + (if sm (ats (bk_ra B) (sl_ad S) (fsG (bk_ra B) (sl_ad S) p (sl_rs S) n)) n < (sl_rs S) - (sm (blw (bk_ra B) (sl_ad S) (fsG (bk_ra B) (sl_ad S) p (sl_rs S) n)) n) then sm (ats (bk_ra B) (sl_ad S) (fsG (bk_ra B) (sl_ad S) p (sl_rs S) n)) n else (sl_rs S) - (sm (blw (bk_ra B) (sl_ad S) (fsG (bk_ra B) (sl_ad S) p (sl_rs S) n)) n))) 1 (sl_av S))) s = pc_S v s b (sl_od S, sl_ad S, sl_wy S, cpN n (rtS (bk_ra B) (sl_ad S) (sl_so S) (fsG (bk_ra B) (sl_ad S) p (sl_rs S) n)) (sl_so S), sl_re S, sl_ro S, sl_rl S, sl_io S, sl_ap S, sl_ar S, sl_po S, sl_sp S, sl_rs S, fsG (bk_ra B) (sl_ad S) p (sl_rs S) n, (sm (blw (bk_ra B) (sl_ad S) (fsG (bk_ra B) (sl_ad S) p (sl_rs S) n)) n) + (if sm (ats (bk_ra B) (sl_ad S) (fsG (bk_ra B) (sl_ad S) p (sl_rs S) n)) n < (sl_rs S) - (sm (blw (bk_ra B) (sl_ad S) (fsG (bk_ra B) (sl_ad S) p (sl_rs S) n)) n) then sm (ats (bk_ra B) (sl_ad S) (fsG (bk_ra B) (sl_ad S) p (sl_rs S) n)) n else (sl_rs S) - (sm (blw (bk_ra B) (sl_ad S) (fsG (bk_ra B) (sl_ad S) p (sl_rs S) n)) n)), 1, sl_av S) from xw_up_s) (show (xw_up G s (pS v s b (sl_od S) (sl_ad S) (sl_wy S) (cpN n (rtS (bk_ra B) (sl_ad S) (sl_so S) (fsG (bk_ra B) (sl_ad S) p (sl_rs S) n)) (sl_so S)) (sl_re S) (sl_ro S) (sl_rl S) (sl_io S) (sl_ap S) (sl_ar S) (sl_po S) (sl_sp S) (sl_rs S) (fsG (bk_ra B) (sl_ad S) p (sl_rs S) n) ((sm (blw (bk_ra B) (sl_ad S) (fsG (bk_ra B) (sl_ad S) p (sl_rs S) n)) n) + (if sm (ats (bk_ra B) (sl_ad S) (fsG (bk_ra B) (sl_ad S) p (sl_rs S) n)) n < (sl_rs S) - (sm (blw (bk_ra B) (sl_ad S) (fsG (bk_ra B) (sl_ad S) p (sl_rs S) n)) n) then sm (ats (bk_ra B) (sl_ad S) (fsG (bk_ra B) (sl_ad S) p (sl_rs S) n)) n else (sl_rs S) - (sm (blw (bk_ra B) (sl_ad S) (fsG (bk_ra B) (sl_ad S) p (sl_rs S) n)) n))) 1 (sl_av S))) b = pc_B v b B from (show (xw_up G s (pS v s b (sl_od S) (sl_ad S) (sl_wy S) (cpN n (rtS (bk_ra B) (sl_ad S) (sl_so S) (fsG (bk_ra B) (sl_ad S) p (sl_rs S) n)) (sl_so S)) (sl_re S) (sl_ro S) (sl_rl S) (sl_io S) (sl_ap S) (sl_ar S) (sl_po S) (sl_sp S) (sl_rs S) (fsG (bk_ra B) (sl_ad S) p (sl_rs S) n) ((sm (blw (bk_ra B) (sl_ad S) (fsG (bk_ra B) (sl_ad S) p (sl_rs S) n)) n) + (if sm (ats (bk_ra B) (sl_ad S) (fsG (bk_ra B) (sl_ad S) p (sl_rs S) n)) n < (sl_rs S) - (sm (blw (bk_ra B) (sl_ad S) (fsG (bk_ra B) (sl_ad S) p (sl_rs S) n)) n) then sm (ats (bk_ra B) (sl_ad S) (fsG (bk_ra B) (sl_ad S) p (sl_rs S) n)) n else (sl_rs S) - (sm (blw (bk_ra B) (sl_ad S) (fsG (bk_ra B) (sl_ad S) p (sl_rs S) n)) n))) 1 (sl_av S))) b = pc_B v b B from by rw [xw_up_n (Ne.symm hsb), hB])) hsb hio hn30 (fsG (bk_ra B) (sl_ad S) p (sl_rs S) n) ((sl_rs S) - (sm (blw (bk_ra B) (sl_ad S) (fsG (bk_ra B) (sl_ad S) p (sl_rs S) n)) n)) (sm (ats (bk_ra B) (sl_ad S) (fsG (bk_ra B) (sl_ad S) p (sl_rs S) n)) n))) (xw_at xw_up_s rfl) rfl dX4_sellRated_143 ⟨Nat.le_of_ble_eq_true rfl, Nat.le_of_ble_eq_true rfl⟩ rfl (Nat.le_of_ble_eq_true rfl) rfl rfl ?_
    refine xj_return hk hz dX4_sellRated_146 ?_
    refine ⟨rfl, ?_⟩
    first | rw [if_pos c114] | rw [if_neg c114]

set_option maxHeartbeats 1000000 in
set_option maxRecDepth 10000 in
theorem l_X4_averageRate_22 {v : xw_V} {κ : xk_K} {post : Option Value → xw_G → Prop} {z : Nat × Nat × Nat} {G : xw_G} {s b : Nat} {S : sl_T} {B : bk_T} {n : Nat} (hk : xk_Ok v κ yX4_averageRate cX4_averageRate 3 (some .int) 0 0) (hz : xk_zf κ = z) (hS : G s = pc_S v s b S) (hB : G b = pc_B v b B) (hsb : s ≠ b) (hio : sl_io S = nI n) (hn30 : n ≤ 30) (kx : xj v κ post z G 68 [some (.ref (xw_ad v s 0)), some (.int (sm (fun j => if bk_ra B j = -1 then 0 else bk_ra B j * sl_so S j) n)), some (.int (nI n))] []) : ∀ (m : Nat) (k : Nat), n - k < m → k ≤ n → xj v κ post z G 22 [some (.ref (xw_ad v s 0)), some (.int (sm (fun j => if bk_ra B j = -1 then 0 else bk_ra B j * sl_so S j) k)), some (.int (nI k))] [] := by
  intro m
  induction m with
  | zero => intro k h; exact absurd h (Nat.not_lt_zero _)
  | succ m ih =>
    intro k hm hi
    refine xj_iload_n (i := 2) hk dX4_averageRate_22 rfl rfl ?_
    refine xj_aload_n (i := 0) hk dX4_averageRate_23 rfl rfl ?_
    refine xj_getfield hk dX4_averageRate_24 fl_X4_33 (xw_at hS rfl) rfl ?_
    refine xj.eqi (x' := nI n) hio ?_
    refine xj_icmp_ge (tgt := 68) hk dX4_averageRate_27 (by decide) (fun c27 => ?_) (fun c27 => ?_)
    · have c27 : n ≤ k := (nI_leI (a := n) (b := k) (by omega) (by omega)).mp c27
      have e9 : k = n := by omega
      subst e9
      exact kx
    · have c27 : ¬ n ≤ k := fun q => c27 ((nI_leI (a := n) (b := k) (by omega) (by omega)).mpr q)
      refine xj_aload_n (i := 0) hk dX4_averageRate_30 rfl rfl ?_
      refine xj_getfield hk dX4_averageRate_31 fl_X4_37 (xw_at hS rfl) rfl ?_
      refine xj_getfield hk dX4_averageRate_34 fl_X4_72 (xw_at hB rfl) rfl ?_
      refine xj_iload_n (i := 2) hk dX4_averageRate_37 rfl rfl ?_
      refine xj_iaload (k := k) hk dX4_averageRate_38 (xw_at hB rfl) (xi_n (by omega) (by decide)) ?_
      refine xj_iconst (x := (-1)) hk dX4_averageRate_39 (by decide) ?_
      refine xj_icmp_eq (tgt := 62) hk dX4_averageRate_40 (by decide) (fun c40 => ?_) (fun c40 => ?_)
      · refine xj_iinc (i := 2) (x2 := nI (k + 1)) (ls2 := [some (.ref (xw_ad v s 0)), some (.int (sm (fun j => if bk_ra B j = -1 then 0 else bk_ra B j * sl_so S j) k)), some (.int (nI (k + 1)))]) hk dX4_averageRate_62 rfl (nI_1 k) (by decide) rfl rfl ?_
        refine xj_goto (tgt := 22) hk dX4_averageRate_65 (by decide) ?_
        refine xj.to (ls' := [some (.ref (xw_ad v s 0)), some (.int (sm (fun j => if bk_ra B j = -1 then 0 else bk_ra B j * sl_so S j) ((k + 1)))), some (.int (nI ((k + 1))))]) (by simp [sm, *]) (ih (k + 1) (by omega) (by omega))
      · refine xj_iload_n (i := 1) hk dX4_averageRate_43 rfl rfl ?_
        refine xj_aload_n (i := 0) hk dX4_averageRate_44 rfl rfl ?_
        refine xj_getfield hk dX4_averageRate_45 fl_X4_37 (xw_at hS rfl) rfl ?_
        refine xj_getfield hk dX4_averageRate_48 fl_X4_72 (xw_at hB rfl) rfl ?_
        refine xj_iload_n (i := 2) hk dX4_averageRate_51 rfl rfl ?_
        refine xj_iaload (k := k) hk dX4_averageRate_52 (xw_at hB rfl) (xi_n (by omega) (by decide)) ?_
        refine xj_aload_n (i := 0) hk dX4_averageRate_53 rfl rfl ?_
        refine xj_getfield hk dX4_averageRate_54 fl_X4_21 (xw_at hS rfl) rfl ?_
        refine xj_iload_n (i := 2) hk dX4_averageRate_57 rfl rfl ?_
        refine xj_iaload (k := k) hk dX4_averageRate_58 (xw_at hS rfl) (xi_n (by omega) (by decide)) ?_
        refine xj_imul hk dX4_averageRate_59 ?_
        refine xj_iadd hk dX4_averageRate_60 ?_
        refine xj_istore_n (i := 1) (ls2 := [some (.ref (xw_ad v s 0)), some (.int ((sm (fun j => if bk_ra B j = -1 then 0 else bk_ra B j * sl_so S j) k) + ((bk_ra B k) * (sl_so S k)))), some (.int (nI k))]) hk dX4_averageRate_61 rfl (by decide) rfl rfl ?_
        refine xj_iinc (i := 2) (x2 := nI (k + 1)) (ls2 := [some (.ref (xw_ad v s 0)), some (.int ((sm (fun j => if bk_ra B j = -1 then 0 else bk_ra B j * sl_so S j) k) + ((bk_ra B k) * (sl_so S k)))), some (.int (nI (k + 1)))]) hk dX4_averageRate_62 rfl (nI_1 k) (by decide) rfl rfl ?_
        refine xj_goto (tgt := 22) hk dX4_averageRate_65 (by decide) ?_
        refine xj.to (ls' := [some (.ref (xw_ad v s 0)), some (.int (sm (fun j => if bk_ra B j = -1 then 0 else bk_ra B j * sl_so S j) ((k + 1)))), some (.int (nI ((k + 1))))]) (by simp [sm, *]) (ih (k + 1) (by omega) (by omega))

set_option maxHeartbeats 1000000 in
set_option maxRecDepth 10000 in
theorem c_X4_averageRate {v : xw_V} {G : xw_G} {s b : Nat} {S : sl_T} {B : bk_T} {n : Nat} (hS : G s = pc_S v s b S) (hB : G b = pc_B v b B) (hsb : s ≠ b) (hio : sl_io S = nI n) (hn30 : n ≤ 30) : xk_Con v yX4_averageRate cX4_averageRate 3 (some .int) 0 0 [.ref (xw_ad v s 0)] G (xk_ret (some (.int (avr n (bk_te B) (bk_ra B) (sl_so S) (sl_sr S)))) G) := by
  refine xk_of (ls0 := [some (.ref (xw_ad v s 0)), none, none]) (by decide) rfl (Nat.le_of_ble_eq_true rfl) ?_
  intro κ z hk hz
  refine xj_aload_n (i := 0) hk dX4_averageRate_0 rfl rfl ?_
  refine xj_getfield hk dX4_averageRate_1 fl_X4_136 (xw_at hS rfl) rfl ?_
  refine xj_iconst (x := 1) hk dX4_averageRate_4 (by decide) ?_
  refine xj_icmp_ge (tgt := 18) hk dX4_averageRate_5 (by decide) (fun c5 => ?_) (fun c5 => ?_)
  · refine xj_iconst (x := 0) hk dX4_averageRate_18 (by decide) ?_
    refine xj_istore_n (i := 1) (ls2 := [some (.ref (xw_ad v s 0)), some (.int 0), none]) hk dX4_averageRate_19 rfl (by decide) rfl rfl ?_
    refine xj_iconst (x := 0) hk dX4_averageRate_20 (by decide) ?_
    refine xj_istore_n (i := 2) (ls2 := [some (.ref (xw_ad v s 0)), some (.int 0), some (.int 0)]) hk dX4_averageRate_21 rfl (by decide) rfl rfl ?_
    refine l_X4_averageRate_22 hk hz hS hB hsb hio hn30 ?_ (n + 1) 0 (by omega) (by omega)
    refine xj_iload_n (i := 1) hk dX4_averageRate_68 rfl rfl ?_
    refine xj_aload_n (i := 0) hk dX4_averageRate_69 rfl rfl ?_
    refine xj_getfield hk dX4_averageRate_70 fl_X4_136 (xw_at hS rfl) rfl ?_
    refine xj_idiv hk dX4_averageRate_73 (fun q => by rw [q] at c5; exact absurd c5 (by decide)) ?_
    refine xj_ireturn hk hz dX4_averageRate_74 ?_
    exact ⟨by simp [avr, *], rfl⟩
  · refine xj_aload_n (i := 0) hk dX4_averageRate_8 rfl rfl ?_
    refine xj_getfield hk dX4_averageRate_9 fl_X4_37 (xw_at hS rfl) rfl ?_
    refine xj_getfield hk dX4_averageRate_12 fl_X4_75 (xw_at hB rfl) rfl ?_
    refine xj_iconst (x := 3) hk dX4_averageRate_15 (by decide) ?_
    refine xj_iaload (k := 3) hk dX4_averageRate_16 (xw_at hB rfl) (xi_d 3 7 (by decide)) ?_
    refine xj_ireturn hk hz dX4_averageRate_17 ?_
    exact ⟨by simp [avr, *], rfl⟩


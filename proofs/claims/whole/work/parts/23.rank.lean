def ahd (ra : Nat → Int32) (x y : Nat) : Bool := decide (ra x < ra y) || (decide (ra x = ra y) && decide (x < y))
/-- a row that holds places -/
def pls (n : Nat) (od : Nat → Int32) (p : Nat → Nat) : Prop := ∀ j, j < n → od j = nI (p j)
def inj (n : Nat) (p : Nat → Nat) : Prop := (∀ j, j < n → p j < n) ∧ ∀ i j, i < j → j < n → p i ≠ p j
def srt (ra : Nat → Int32) (n : Nat) (p : Nat → Nat) : Prop := ∀ i j, i < j → j < n → ahd ra (p i) (p j) = true
theorem ahd_irr {ra : Nat → Int32} {x y : Nat} (h : ahd ra x y = true) : ahd ra y x = false := by
  simp only [ahd, Bool.or_eq_true, decide_eq_true_eq, Bool.and_eq_true] at h
  simp only [ahd, Bool.or_eq_false_iff, decide_eq_false_iff_not, Bool.and_eq_false_iff]
  rcases h with h | ⟨h1, h2⟩
  · exact ⟨Int32.not_lt.mpr (Int32.le_of_lt h), Or.inl (fun e => by rw [e] at h; exact Int32.lt_irrefl h)⟩
  · exact ⟨by rw [h1]; exact Int32.lt_irrefl, Or.inr (by omega)⟩
theorem ahd_tr {ra : Nat → Int32} {x y w : Nat} (h1 : ahd ra x y = true) (h2 : ahd ra y w = true) : ahd ra x w = true := by
  simp only [ahd, Bool.or_eq_true, decide_eq_true_eq, Bool.and_eq_true] at h1 h2 ⊢
  rcases h1 with h1 | ⟨e1, l1⟩ <;> rcases h2 with h2 | ⟨e2, l2⟩
  · exact Or.inl (Int32.lt_trans h1 h2)
  · exact Or.inl (by rw [← e2]; exact h1)
  · exact Or.inl (by rw [e1]; exact h2)
  · exact Or.inr ⟨e1.trans e2, by omega⟩
theorem ahd_tot {ra : Nat → Int32} {x y : Nat} (h : ahd ra x y = false) (hne : x ≠ y) : ahd ra y x = true := by
  simp only [ahd, Bool.or_eq_false_iff, decide_eq_false_iff_not, Bool.and_eq_false_iff] at h
  simp only [ahd, Bool.or_eq_true, decide_eq_true_eq, Bool.and_eq_true]
  obtain ⟨h1, h2⟩ := h
  have h3 := Int32.not_lt.mp h1
  by_cases e : ra y = ra x
  · refine Or.inr ⟨e, ?_⟩
    rcases h2 with h2 | h2
    · exact absurd e.symm h2
    · omega
  · exact Or.inl (Int32.lt_of_le_of_ne h3 e)
/-- the place k's one goes down to place a -/
def ins1 (a k : Nat) (p : Nat → Nat) : Nat → Nat := xu (shU a k p) a (p k)
theorem ins1_at {a k : Nat} (p : Nat → Nat) (h : a ≤ k) (j : Nat) : ins1 a k p j = if j < a then p j else if j = a then p k else if j ≤ k then p (j - 1) else p j := by
  simp only [ins1, xu, shU]
  by_cases h1 : j = a
  · subst h1; simp
  · rw [if_neg h1]
    by_cases h2 : j < a
    · rw [if_pos h2, if_neg (by omega)]
    · rw [if_neg h2, if_neg h1]
      by_cases h3 : j ≤ k
      · rw [if_pos h3, if_pos (by omega)]
      · rw [if_neg h3, if_neg (by omega)]
theorem ins1_inj {n a k : Nat} {p : Nat → Nat} (h : a ≤ k) (hk : k < n) (hp : inj n p) : inj n (ins1 a k p) := by
  obtain ⟨h1, h2⟩ := hp
  have ne : ∀ i j, i < n → j < n → i ≠ j → p i ≠ p j := fun i j hi hj hij => by
    rcases Nat.lt_or_gt_of_ne hij with q | q
    · exact h2 i j q hj
    · exact (h2 j i q hi).symm
  have src : ∀ j, j < n → ∃ j', j' < n ∧ ins1 a k p j = p j' ∧ j' = (if j < a then j else if j = a then k else if j ≤ k then j - 1 else j) := by
    intro j hj
    refine ⟨_, ?_, ?_, rfl⟩
    · split <;> (try split) <;> (try split) <;> omega
    · rw [ins1_at p h]
      split <;> (try split) <;> (try split) <;> rfl
  refine ⟨fun j hj => ?_, fun i j hij hj => ?_⟩
  · obtain ⟨j', e1, e2, -⟩ := src j hj
    rw [e2]; exact h1 j' e1
  · obtain ⟨i', a1, a2, a3⟩ := src i (by omega)
    obtain ⟨j', b1, b2, b3⟩ := src j hj
    rw [a2, b2]
    refine ne i' j' a1 b1 ?_
    subst a3; subst b3
    (repeat' split) <;> omega
theorem ins1_srt {ra : Nat → Int32} {n a k : Nat} {p : Nat → Nat} (h : a ≤ k) (hk : k < n) (hi : inj n p) (hs : srt ra k p) (hb : ∀ j, a ≤ j → j < k → ahd ra (p k) (p j) = true) (ha : a = 0 ∨ ahd ra (p k) (p (a - 1)) = false) : srt ra (k + 1) (ins1 a k p) := by
  have lo : ∀ i, i < a → ahd ra (p i) (p k) = true := by
    intro i hia
    rcases ha with ha | ha
    · omega
    · have h1 : ahd ra (p (a - 1)) (p k) = true := ahd_tot ha (fun e => hi.2 (a - 1) k (by omega) hk e.symm)
      by_cases e : i = a - 1
      · rw [e]; exact h1
      · exact ahd_tr (hs i (a - 1) (by omega) (by omega)) h1
  intro i j hij hj
  by_cases i1 : i < a
  · rw [ins1_at p h i, if_pos i1]
    by_cases j1 : j < a
    · rw [ins1_at p h j, if_pos j1]; exact hs i j hij (by omega)
    · by_cases j2 : j = a
      · rw [ins1_at p h j, if_neg j1, if_pos j2]; exact lo i i1
      · rw [ins1_at p h j, if_neg j1, if_neg j2, if_pos (by omega)]; exact hs i (j - 1) (by omega) (by omega)
  · have j1 : ¬ j < a := by omega
    have j2 : ¬ j = a := by omega
    have j3 : j ≤ k := by omega
    rw [ins1_at p h j, if_neg j1, if_neg j2, if_pos j3]
    by_cases i2 : i = a
    · rw [ins1_at p h i, if_neg i1, if_pos i2]; exact hb (j - 1) (by omega) (by omega)
    · rw [ins1_at p h i, if_neg i1, if_neg i2, if_pos (by omega)]; exact hs (i - 1) (j - 1) (by omega) (by omega)
theorem pls_ins {n a k : Nat} {od : Nat → Int32} {p : Nat → Nat} (hk : k < n) (h : pls n od p) : pls n (xu (shU a k od) a (nI (p k))) (ins1 a k p) := by
  intro j hj
  simp only [ins1, xu, shU]
  by_cases e : j = a
  · simp [e]
  · rw [if_neg e, if_neg e]
    split
    · exact h (j - 1) (by omega)
    · exact h j hj
theorem id_inj (n : Nat) : inj n (fun k => k) := ⟨fun _ h => h, fun i j h _ => Nat.ne_of_lt h⟩
set_option maxHeartbeats 1000000 in
set_option maxRecDepth 10000 in
theorem c_X4_isAhead {v : xw_V} {G : xw_G} {s b : Nat} {S : sl_T} {B : bk_T} {x y : Nat} (hS : G s = pc_S v s b S) (hB : G b = pc_B v b B) (hsb : s ≠ b) (hx : x < 30) (hy : y < 30) : xk_Con v yX4_isAhead cX4_isAhead 5 (some .boolean) 0 0 [.ref (xw_ad v s 0), .int (nI x), .int (nI y)] G (xk_ret (some (.int (xb (ahd (bk_ra B) x y)))) G) := by
  refine xk_of (ls0 := [some (.ref (xw_ad v s 0)), some (.int (nI x)), some (.int (nI y)), none, none]) (by decide) rfl (Nat.le_of_ble_eq_true rfl) ?_
  intro κ z hk hz
  refine xj_aload_n (i := 0) hk dX4_isAhead_0 rfl rfl ?_
  refine xj_getfield hk dX4_isAhead_1 fl_X4_37 (xw_at hS rfl) rfl ?_
  refine xj_getfield hk dX4_isAhead_4 fl_X4_72 (xw_at hB rfl) rfl ?_
  refine xj_iload_n (i := 1) hk dX4_isAhead_7 rfl rfl ?_
  refine xj_iaload (k := x) hk dX4_isAhead_8 (xw_at hB rfl) (xi_n (by omega) (by decide)) ?_
  refine xj_istore_n (i := 3) (ls2 := [some (.ref (xw_ad v s 0)), some (.int (nI x)), some (.int (nI y)), some (.int (bk_ra B x)), none]) hk dX4_isAhead_9 rfl (by decide) rfl rfl ?_
  refine xj_aload_n (i := 0) hk dX4_isAhead_10 rfl rfl ?_
  refine xj_getfield hk dX4_isAhead_11 fl_X4_37 (xw_at hS rfl) rfl ?_
  refine xj_getfield hk dX4_isAhead_14 fl_X4_72 (xw_at hB rfl) rfl ?_
  refine xj_iload_n (i := 2) hk dX4_isAhead_17 rfl rfl ?_
  refine xj_iaload (k := y) hk dX4_isAhead_18 (xw_at hB rfl) (xi_n (by omega) (by decide)) ?_
  refine xj_istore (i := 4) (ls2 := [some (.ref (xw_ad v s 0)), some (.int (nI x)), some (.int (nI y)), some (.int (bk_ra B x)), some (.int (bk_ra B y))]) hk dX4_isAhead_19 (by decide) rfl rfl ?_
  refine xj_iload_n (i := 3) hk dX4_isAhead_21 rfl rfl ?_
  refine xj_iload hk dX4_isAhead_22 rfl ?_
  refine xj_icmp_lt (tgt := 38) hk dX4_isAhead_24 (by decide) (fun c24 => ?_) (fun c24 => ?_)
  · refine xj_iconst (x := 1) hk dX4_isAhead_38 (by decide) ?_
    refine xj_goto (tgt := 43) hk dX4_isAhead_39 (by decide) ?_
    refine xj_zreturn hk hz dX4_isAhead_43 (by decide) ?_
    exact ⟨by simp [ahd, xb, *], rfl⟩
  · refine xj_iload_n (i := 3) hk dX4_isAhead_27 rfl rfl ?_
    refine xj_iload hk dX4_isAhead_28 rfl ?_
    refine xj_icmp_ne (tgt := 42) hk dX4_isAhead_30 (by decide) (fun c30 => ?_) (fun c30 => ?_)
    · refine xj_iconst (x := 0) hk dX4_isAhead_42 (by decide) ?_
      refine xj_zreturn hk hz dX4_isAhead_43 (by decide) ?_
      exact ⟨by simp [ahd, xb, *], rfl⟩
    · refine xj_iload_n (i := 1) hk dX4_isAhead_33 rfl rfl ?_
      refine xj_iload_n (i := 2) hk dX4_isAhead_34 rfl rfl ?_
      refine xj_icmp_ge (tgt := 42) hk dX4_isAhead_35 (by decide) (fun c35 => ?_) (fun c35 => ?_)
      · have c35 : y ≤ x := (nI_leI (a := y) (b := x) (by omega) (by omega)).mp c35
        refine xj_iconst (x := 0) hk dX4_isAhead_42 (by decide) ?_
        refine xj_zreturn hk hz dX4_isAhead_43 (by decide) ?_
        exact ⟨by simp [ahd, xb, *], rfl⟩
      · have c35 : ¬ y ≤ x := fun q => c35 ((nI_leI (a := y) (b := x) (by omega) (by omega)).mpr q)
        refine xj_iconst (x := 1) hk dX4_isAhead_38 (by decide) ?_
        refine xj_goto (tgt := 43) hk dX4_isAhead_39 (by decide) ?_
        refine xj_zreturn hk hz dX4_isAhead_43 (by decide) ?_
        exact ⟨by simp [ahd, xb, *], rfl⟩

set_option maxHeartbeats 1000000 in
set_option maxRecDepth 10000 in
theorem l_X4_rank_67 {v : xw_V} {κ : xk_K} {post : Option Value → xw_G → Prop} {z : Nat × Nat × Nat} {G : xw_G} {s b : Nat} {S : sl_T} {B : bk_T} {n : Nat} {k : Nat} {od : Nat → Int32} {p : Nat → Nat} (hk : xk_Ok v κ yX4_rank cX4_rank 4 none 1 24) (hz : xk_zf κ = z) (hS : G s = pc_S v s b S) (hB : G b = pc_B v b B) (hsb : s ≠ b) (hn : bk_bi B = nI n) (hn30 : n ≤ 30) (hk9 : k < n) (hod : pls n od p) (hp : inj n p) (kx : ∀ a : Nat, a ≤ k → (∀ j, a ≤ j → j < k → ahd (bk_ra B) (p k) (p j) = true) → (a = 0 ∨ ahd (bk_ra B) (p k) (p (a - 1)) = false) → xj v κ post z (xw_up G s (pS v s b (shU a k od) (sl_ad S) (sl_wy S) (sl_so S) (sl_re S) (sl_ro S) (sl_rl S) (nI n) (sl_ap S) (sl_ar S) (sl_po S) (sl_sp S) (sl_rs S) (sl_st S) (sl_sr S) (sl_pt S) (sl_av S))) 107 [some (.ref (xw_ad v s 0)), some (.int (nI k)), some (.int (nI (p k))), some (.int (nI a))] []) : ∀ (m : Nat) (a : Nat), a < m → a ≤ k → (∀ j, a ≤ j → j < k → ahd (bk_ra B) (p k) (p j) = true) → xj v κ post z (xw_up G s (pS v s b (shU a k od) (sl_ad S) (sl_wy S) (sl_so S) (sl_re S) (sl_ro S) (sl_rl S) (nI n) (sl_ap S) (sl_ar S) (sl_po S) (sl_sp S) (sl_rs S) (sl_st S) (sl_sr S) (sl_pt S) (sl_av S))) 67 [some (.ref (xw_ad v s 0)), some (.int (nI k)), some (.int (nI (p k))), some (.int (nI a))] [] := by
  intro m
  induction m with
  | zero => intro a h; exact absurd h (Nat.not_lt_zero _)
  | succ m ih =>
    intro a hm hi hb
    refine xj_iload_n (i := 3) hk dX4_rank_67 rfl rfl ?_
    refine xj_if_le (tgt := 107) hk dX4_rank_68 (by decide) (fun c68 => ?_) (fun c68 => ?_)
    · have c68 : a ≤ 0 := (nI_leI (a := a) (b := 0) (by omega) (by omega)).mp c68
      first | exact kx a (by omega) hb (Or.inl (by omega)) | exact kx a (by omega) hb (Or.inr c84)
    · have c68 : ¬ a ≤ 0 := fun q => c68 ((nI_leI (a := a) (b := 0) (by omega) (by omega)).mpr q)
      refine xj_aload_n (i := 0) hk dX4_rank_71 rfl rfl ?_
      refine xj_iload_n (i := 2) hk dX4_rank_72 rfl rfl ?_
      refine xj_aload_n (i := 0) hk dX4_rank_73 rfl rfl ?_
      refine xj_getfield hk dX4_rank_74 fl_X4_9 (xw_at xw_up_s rfl) rfl ?_
      refine xj_iload_n (i := 3) hk dX4_rank_77 rfl rfl ?_
      refine xj_iconst (x := 1) hk dX4_rank_78 (by decide) ?_
      refine xj_isub hk dX4_rank_79 ?_
      refine xj.eqi (x' := nI (a - 1)) (nI_sub1 (by omega)) ?_
      refine xj_iaload (k := a - 1) hk dX4_rank_80 (xw_at xw_up_s rfl) (xi_n (by omega) (by decide)) ?_
      refine xj.eqi (x' := nI (p (a - 1))) (by simp only [shU]; rw [if_neg (by omega)]; exact hod (a - 1) (by omega)) ?_
      refine xj_callV hk hz (fr1 := 0) (lo1 := 0) (r1 := some (.int (xb (ahd (bk_ra B) (p k) (p (a - 1)))))) (As := [.int (nI (p k)), .int (nI (p (a - 1)))]) (st := []) (st2 := [.int (xb (ahd (bk_ra B) (p k) (p (a - 1))))]) (G1 := xw_up G s (pS v s b (shU a k od) (sl_ad S) (sl_wy S) (sl_so S) (sl_re S) (sl_ro S) (sl_rl S) (nI n) (sl_ap S) (sl_ar S) (sl_po S) (sl_sp S) (sl_rs S) (sl_st S) (sl_sr S) (sl_pt S) (sl_av S))) ml_X4_68 (c_X4_isAhead (x := p k) (y := p (a - 1)) (show (xw_up G s (pS v s b (shU a k od) (sl_ad S) (sl_wy S) (sl_so S) (sl_re S) (sl_ro S) (sl_rl S) (nI n) (sl_ap S) (sl_ar S) (sl_po S) (sl_sp S) (sl_rs S) (sl_st S) (sl_sr S) (sl_pt S) (sl_av S))) s = pc_S v s b (shU a k od, sl_ad S, sl_wy S, sl_so S, sl_re S, sl_ro S, sl_rl S, nI n, sl_ap S, sl_ar S, sl_po S, sl_sp S, sl_rs S, sl_st S, sl_sr S, sl_pt S, sl_av S) from xw_up_s) (show (xw_up G s (pS v s b (shU a k od) (sl_ad S) (sl_wy S) (sl_so S) (sl_re S) (sl_ro S) (sl_rl S) (nI n) (sl_ap S) (sl_ar S) (sl_po S) (sl_sp S) (sl_rs S) (sl_st S) (sl_sr S) (sl_pt S) (sl_av S))) b = pc_B v b B from (show (xw_up G s (pS v s b (shU a k od) (sl_ad S) (sl_wy S) (sl_so S) (sl_re S) (sl_ro S) (sl_rl S) (nI n) (sl_ap S) (sl_ar S) (sl_po S) (sl_sp S) (sl_rs S) (sl_st S) (sl_sr S) (sl_pt S) (sl_av S))) b = pc_B v b B from by rw [xw_up_n (Ne.symm hsb), hB])) hsb (by have := hp.1 (k) (by omega); omega) (by have := hp.1 (a - 1) (by omega); omega)) (xw_at xw_up_s rfl) rfl dX4_rank_81 ⟨Nat.le_of_ble_eq_true rfl, Nat.le_of_ble_eq_true rfl⟩ rfl (Nat.le_of_ble_eq_true rfl) rfl rfl ?_
      refine xj_ifb_eq (tgt := 107) hk dX4_rank_84 (by decide) (fun c84 => ?_) (fun c84 => ?_)
      · first | exact kx a (by omega) hb (Or.inl (by omega)) | exact kx a (by omega) hb (Or.inr c84)
      · refine xj_aload_n (i := 0) hk dX4_rank_87 rfl rfl ?_
        refine xj_getfield hk dX4_rank_88 fl_X4_9 (xw_at xw_up_s rfl) rfl ?_
        refine xj_iload_n (i := 3) hk dX4_rank_91 rfl rfl ?_
        refine xj_aload_n (i := 0) hk dX4_rank_92 rfl rfl ?_
        refine xj_getfield hk dX4_rank_93 fl_X4_9 (xw_at xw_up_s rfl) rfl ?_
        refine xj_iload_n (i := 3) hk dX4_rank_96 rfl rfl ?_
        refine xj_iconst (x := 1) hk dX4_rank_97 (by decide) ?_
        refine xj_isub hk dX4_rank_98 ?_
        refine xj.eqi (x' := nI (a - 1)) (nI_sub1 (by omega)) ?_
        refine xj_iaload (k := a - 1) hk dX4_rank_99 (xw_at xw_up_s rfl) (xi_n (by omega) (by decide)) ?_
        refine xj_iastore (k := a) (G2 := xw_up G s (pS v s b (xu (shU a k od) a ((shU a k od) (a - 1))) (sl_ad S) (sl_wy S) (sl_so S) (sl_re S) (sl_ro S) (sl_rl S) (nI n) (sl_ap S) (sl_ar S) (sl_po S) (sl_sp S) (sl_rs S) (sl_st S) (sl_sr S) (sl_pt S) (sl_av S))) hk dX4_rank_100 (xw_at xw_up_s rfl) (xi_n (by omega) (by decide)) (xw_wr2 rfl) ?_
        refine xj_iinc (i := 3) (x2 := nI (a - 1)) (ls2 := [some (.ref (xw_ad v s 0)), some (.int (nI k)), some (.int (nI (p k))), some (.int (nI (a - 1)))]) hk dX4_rank_101 rfl (nI_dec (by omega)) (by decide) rfl rfl ?_
        refine xj_goto (tgt := 67) hk dX4_rank_104 (by decide) ?_
        refine xj.eqG (G' := xw_up G s (pS v s b (shU ((a - 1)) k od) (sl_ad S) (sl_wy S) (sl_so S) (sl_re S) (sl_ro S) (sl_rl S) (nI n) (sl_ap S) (sl_ar S) (sl_po S) (sl_sp S) (sl_rs S) (sl_st S) (sl_sr S) (sl_pt S) (sl_av S))) (by simp only [shU_s _ (show 0 < a by omega) (show a ≤ k by omega)]) (ih (a - 1) (by omega) (by omega) (fun j h1 h2 => ?_))
        by_cases e : j = a - 1
        · rw [e]; exact c84
        · exact hb j (by omega) h2

set_option maxHeartbeats 1000000 in
set_option maxRecDepth 10000 in
theorem l_X4_rank_50 {v : xw_V} {κ : xk_K} {post : Option Value → xw_G → Prop} {z : Nat × Nat × Nat} {G : xw_G} {s b : Nat} {S : sl_T} {B : bk_T} {n : Nat} (hk : xk_Ok v κ yX4_rank cX4_rank 4 none 1 24) (hz : xk_zf κ = z) (hS : G s = pc_S v s b S) (hB : G b = pc_B v b B) (hsb : s ≠ b) (hn : bk_bi B = nI n) (hn30 : n ≤ 30) (kx : ∀ (od : Nat → Int32) (p : Nat → Nat), pls n od p → inj n p → srt (bk_ra B) n p → xj v κ post z (xw_up G s (pS v s b od (sl_ad S) (sl_wy S) (sl_so S) (sl_re S) (sl_ro S) (sl_rl S) (nI n) (sl_ap S) (sl_ar S) (sl_po S) (sl_sp S) (sl_rs S) (sl_st S) (sl_sr S) (sl_pt S) (sl_av S))) 120 [some (.ref (xw_ad v s 0)), none, none, none] []) : ∀ (m : Nat) (k : Nat) (od : Nat → Int32) (p : Nat → Nat), n + 1 - k < m → 1 ≤ k → k ≤ n + 1 → pls n od p → inj n p → srt (bk_ra B) k p → xj v κ post z (xw_up G s (pS v s b od (sl_ad S) (sl_wy S) (sl_so S) (sl_re S) (sl_ro S) (sl_rl S) (nI n) (sl_ap S) (sl_ar S) (sl_po S) (sl_sp S) (sl_rs S) (sl_st S) (sl_sr S) (sl_pt S) (sl_av S))) 50 [some (.ref (xw_ad v s 0)), some (.int (nI k)), none, none] [] := by
  intro m
  induction m with
  | zero => intro k od p h; exact absurd h (Nat.not_lt_zero _)
  | succ m ih =>
    intro k od p hm h1 hi hod hp hs
    refine xj_iload_n (i := 1) hk dX4_rank_50 rfl rfl ?_
    refine xj_aload_n (i := 0) hk dX4_rank_51 rfl rfl ?_
    refine xj_getfield hk dX4_rank_52 fl_X4_33 (xw_at xw_up_s rfl) rfl ?_
    refine xj_icmp_ge (tgt := 120) hk dX4_rank_55 (by decide) (fun c55 => ?_) (fun c55 => ?_)
    · have c55 : n ≤ k := (nI_leI (a := n) (b := k) (by omega) (by omega)).mp c55
      refine xj.le (ls' := [some (.ref (xw_ad v s 0)), none, none, none]) (by simp [xl_le] <;> rfl) ?_
      exact kx od p hod hp (fun i j h1 h2 => hs i j h1 (by omega))
    · have c55 : ¬ n ≤ k := fun q => c55 ((nI_leI (a := n) (b := k) (by omega) (by omega)).mpr q)
      refine xj_aload_n (i := 0) hk dX4_rank_58 rfl rfl ?_
      refine xj_getfield hk dX4_rank_59 fl_X4_9 (xw_at xw_up_s rfl) rfl ?_
      refine xj_iload_n (i := 1) hk dX4_rank_62 rfl rfl ?_
      refine xj_iaload (k := k) hk dX4_rank_63 (xw_at xw_up_s rfl) (xi_n (by omega) (by decide)) ?_
      refine xj.eqi (x' := nI (p k)) (hod k (by omega)) ?_
      refine xj_istore_n (i := 2) (ls2 := [some (.ref (xw_ad v s 0)), some (.int (nI k)), some (.int (nI (p k))), none]) hk dX4_rank_64 rfl (by decide) rfl rfl ?_
      refine xj_iload_n (i := 1) hk dX4_rank_65 rfl rfl ?_
      refine xj_istore_n (i := 3) (ls2 := [some (.ref (xw_ad v s 0)), some (.int (nI k)), some (.int (nI (p k))), some (.int (nI k))]) hk dX4_rank_66 rfl (by decide) rfl rfl ?_
      refine xj.eqG (G' := xw_up G s (pS v s b (shU k k od) (sl_ad S) (sl_wy S) (sl_so S) (sl_re S) (sl_ro S) (sl_rl S) (nI n) (sl_ap S) (sl_ar S) (sl_po S) (sl_sp S) (sl_rs S) (sl_st S) (sl_sr S) (sl_pt S) (sl_av S))) (by simp only [shU_0]) ?_
      refine l_X4_rank_67 hk hz hS hB hsb hn hn30 (by omega) hod hp (fun a h9 hb9 ha9 => ?_) (k + 1) k (by omega) (by omega) (fun j h1 h2 => by omega)
      refine xj_aload_n (i := 0) hk dX4_rank_107 rfl rfl ?_
      refine xj_getfield hk dX4_rank_108 fl_X4_9 (xw_at xw_up_s rfl) rfl ?_
      refine xj_iload_n (i := 3) hk dX4_rank_111 rfl rfl ?_
      refine xj_iload_n (i := 2) hk dX4_rank_112 rfl rfl ?_
      refine xj_iastore (k := a) (G2 := xw_up G s (pS v s b (xu (shU a k od) a (nI (p k))) (sl_ad S) (sl_wy S) (sl_so S) (sl_re S) (sl_ro S) (sl_rl S) (nI n) (sl_ap S) (sl_ar S) (sl_po S) (sl_sp S) (sl_rs S) (sl_st S) (sl_sr S) (sl_pt S) (sl_av S))) hk dX4_rank_113 (xw_at xw_up_s rfl) (xi_n (by omega) (by decide)) (xw_wr2 rfl) ?_
      refine xj_iinc (i := 1) (x2 := nI (k + 1)) (ls2 := [some (.ref (xw_ad v s 0)), some (.int (nI (k + 1))), some (.int (nI (p k))), some (.int (nI a))]) hk dX4_rank_114 rfl (nI_1 k) (by decide) rfl rfl ?_
      refine xj_goto (tgt := 50) hk dX4_rank_117 (by decide) ?_
      refine xj.le (ls' := [some (.ref (xw_ad v s 0)), some (.int (nI ((k + 1)))), none, none]) (by simp [xl_le] <;> rfl) ?_
      exact ih (k + 1) _ _ (by omega) (by omega) (by omega) (pls_ins (by omega) hod) (ins1_inj (by omega) (by omega) hp) (ins1_srt (by omega) (by omega) hp hs hb9 ha9)

set_option maxHeartbeats 1000000 in
set_option maxRecDepth 10000 in
theorem l_X4_rank_27 {v : xw_V} {κ : xk_K} {post : Option Value → xw_G → Prop} {z : Nat × Nat × Nat} {G : xw_G} {s b : Nat} {S : sl_T} {B : bk_T} {n : Nat} (hk : xk_Ok v κ yX4_rank cX4_rank 4 none 1 24) (hz : xk_zf κ = z) (hS : G s = pc_S v s b S) (hB : G b = pc_B v b B) (hsb : s ≠ b) (hn : bk_bi B = nI n) (hn30 : n ≤ 30) (kx : xj v κ post z (xw_up G s (pS v s b (cpN n nI (sl_od S)) (sl_ad S) (sl_wy S) (sl_so S) (sl_re S) (sl_ro S) (sl_rl S) (nI n) (sl_ap S) (sl_ar S) (sl_po S) (sl_sp S) (sl_rs S) (sl_st S) (sl_sr S) (sl_pt S) (sl_av S))) 48 [some (.ref (xw_ad v s 0)), some (.int (nI n)), none, none] []) : ∀ (m : Nat) (k : Nat), n - k < m → k ≤ n → xj v κ post z (xw_up G s (pS v s b (cpN k nI (sl_od S)) (sl_ad S) (sl_wy S) (sl_so S) (sl_re S) (sl_ro S) (sl_rl S) (nI n) (sl_ap S) (sl_ar S) (sl_po S) (sl_sp S) (sl_rs S) (sl_st S) (sl_sr S) (sl_pt S) (sl_av S))) 27 [some (.ref (xw_ad v s 0)), some (.int (nI k)), none, none] [] := by
  intro m
  induction m with
  | zero => intro k h; exact absurd h (Nat.not_lt_zero _)
  | succ m ih =>
    intro k hm hi
    refine xj_iload_n (i := 1) hk dX4_rank_27 rfl rfl ?_
    refine xj_aload_n (i := 0) hk dX4_rank_28 rfl rfl ?_
    refine xj_getfield hk dX4_rank_29 fl_X4_33 (xw_at xw_up_s rfl) rfl ?_
    refine xj_icmp_ge (tgt := 48) hk dX4_rank_32 (by decide) (fun c32 => ?_) (fun c32 => ?_)
    · have c32 : n ≤ k := (nI_leI (a := n) (b := k) (by omega) (by omega)).mp c32
      have e9 : k = n := by omega
      subst e9
      exact kx
    · have c32 : ¬ n ≤ k := fun q => c32 ((nI_leI (a := n) (b := k) (by omega) (by omega)).mpr q)
      refine xj_aload_n (i := 0) hk dX4_rank_35 rfl rfl ?_
      refine xj_getfield hk dX4_rank_36 fl_X4_9 (xw_at xw_up_s rfl) rfl ?_
      refine xj_iload_n (i := 1) hk dX4_rank_39 rfl rfl ?_
      refine xj_iload_n (i := 1) hk dX4_rank_40 rfl rfl ?_
      refine xj_iastore (k := k) (G2 := xw_up G s (pS v s b (xu (cpN k nI (sl_od S)) k (nI k)) (sl_ad S) (sl_wy S) (sl_so S) (sl_re S) (sl_ro S) (sl_rl S) (nI n) (sl_ap S) (sl_ar S) (sl_po S) (sl_sp S) (sl_rs S) (sl_st S) (sl_sr S) (sl_pt S) (sl_av S))) hk dX4_rank_41 (xw_at xw_up_s rfl) (xi_n (by omega) (by decide)) (xw_wr2 rfl) ?_
      refine xj_iinc (i := 1) (x2 := nI (k + 1)) (ls2 := [some (.ref (xw_ad v s 0)), some (.int (nI (k + 1))), none, none]) hk dX4_rank_42 rfl (nI_1 k) (by decide) rfl rfl ?_
      refine xj_goto (tgt := 27) hk dX4_rank_45 (by decide) ?_
      refine xj.eqG (G' := xw_up G s (pS v s b (cpN ((k + 1)) nI (sl_od S)) (sl_ad S) (sl_wy S) (sl_so S) (sl_re S) (sl_ro S) (sl_rl S) (nI n) (sl_ap S) (sl_ar S) (sl_po S) (sl_sp S) (sl_rs S) (sl_st S) (sl_sr S) (sl_pt S) (sl_av S))) (by simp only [cp_s]) (ih (k + 1) (by omega) (by omega))

def sl_wod (S : sl_T) (od : Nat → Int32) (io : Int32) : sl_T := (od, sl_ad S, sl_wy S, sl_so S, sl_re S, sl_ro S, sl_rl S, io, sl_ap S, sl_ar S, sl_po S, sl_sp S, sl_rs S, sl_st S, sl_sr S, sl_pt S, sl_av S)
/-- what the latest order must be, for the next one to be found from it -/
def okO (S : sl_T) : Prop := ∃ (i : Nat) (p : Nat → Nat), i ≤ 30 ∧ sl_io S = nI i ∧ pls i (sl_od S) p ∧ inj i p
set_option maxHeartbeats 1000000 in
set_option maxRecDepth 10000 in
theorem c_X4_rank {v : xw_V} {G : xw_G} {s b : Nat} {S : sl_T} {B : bk_T} {n : Nat} (hS : G s = pc_S v s b S) (hB : G b = pc_B v b B) (hsb : s ≠ b) (hn : bk_bi B = nI n) (hn30 : n ≤ 30) (hok : okO S) : xk_Con v yX4_rank cX4_rank 4 none 1 24 [.ref (xw_ad v s 0)] G (fun r G' => r = none ∧ ∃ (od : Nat → Int32) (p : Nat → Nat), pls n od p ∧ inj n p ∧ srt (bk_ra B) n p ∧ G' = xw_up G s (pc_S v s b (sl_wod S od (nI n)))) := by
  refine xk_of (ls0 := [some (.ref (xw_ad v s 0)), none, none, none]) (by decide) rfl (Nat.le_of_ble_eq_true rfl) ?_
  intro κ z hk hz
  obtain ⟨i0, p0, hi30, hio, ho, hi0⟩ := hok
  refine xj_aload_n (i := 0) hk dX4_rank_0 rfl rfl ?_
  refine xj_getfield hk dX4_rank_1 fl_X4_33 (xw_at hS rfl) rfl ?_
  refine xj.eqi (x' := nI i0) hio ?_
  refine xj_aload_n (i := 0) hk dX4_rank_4 rfl rfl ?_
  refine xj_getfield hk dX4_rank_5 fl_X4_37 (xw_at hS rfl) rfl ?_
  refine xj_getfield hk dX4_rank_8 fl_X4_63 (xw_at hB rfl) rfl ?_
  refine xj.eqi (x' := nI n) hn ?_
  refine xj_icmp_eq (tgt := 48) hk dX4_rank_11 (by decide) (fun c11 => ?_) (fun c11 => ?_)
  · have c11 : i0 = n := (nI_eq (a := i0) (b := n) (by omega) (by omega)).mp c11
    refine xj_iconst (x := 1) hk dX4_rank_48 (by decide) ?_
    refine xj_istore_n (i := 1) (ls2 := [some (.ref (xw_ad v s 0)), some (.int 1), none, none]) hk dX4_rank_49 rfl (by decide) rfl rfl ?_
    refine xj.eqG (G' := xw_up G s (pS v s b (sl_od S) (sl_ad S) (sl_wy S) (sl_so S) (sl_re S) (sl_ro S) (sl_rl S) (nI n) (sl_ap S) (sl_ar S) (sl_po S) (sl_sp S) (sl_rs S) (sl_st S) (sl_sr S) (sl_pt S) (sl_av S))) (by rw [← c11, ← hio]; exact (xw_up_same hS).symm) ?_
    refine xj.le (ls' := [some (.ref (xw_ad v s 0)), some (.int (nI 1)), none, none]) (by simp [xl_le] <;> rfl) ?_
    refine l_X4_rank_50 hk hz hS hB hsb hn hn30 (fun od p hod hp hs => ?_) (n + 1) 1 (sl_od S) p0 (by omega) (by omega) (by omega) (by rw [← c11]; exact ho) (by rw [← c11]; exact hi0) (fun i j h1 h2 => by omega)
    refine xj_return hk hz dX4_rank_120 ?_
    exact ⟨rfl, od, p, hod, hp, hs, rfl⟩
  · have c11 : ¬ i0 = n := fun q => c11 ((nI_eq (a := i0) (b := n) (by omega) (by omega)).mpr q)
    refine xj_aload_n (i := 0) hk dX4_rank_14 rfl rfl ?_
    refine xj_aload_n (i := 0) hk dX4_rank_15 rfl rfl ?_
    refine xj_getfield hk dX4_rank_16 fl_X4_37 (xw_at hS rfl) rfl ?_
    refine xj_getfield hk dX4_rank_19 fl_X4_63 (xw_at hB rfl) rfl ?_
    refine xj.eqi (x' := nI n) hn ?_
    refine xj_putfield (G2 := xw_up G s (pS v s b (sl_od S) (sl_ad S) (sl_wy S) (sl_so S) (sl_re S) (sl_ro S) (sl_rl S) (nI n) (sl_ap S) (sl_ar S) (sl_po S) (sl_sp S) (sl_rs S) (sl_st S) (sl_sr S) (sl_pt S) (sl_av S))) hk dX4_rank_22 fl_X4_33 rfl rfl (xw_at hS rfl) (Nat.le_of_ble_eq_true rfl) (xw_wr hS rfl) ?_
    refine xj_iconst (x := 0) hk dX4_rank_25 (by decide) ?_
    refine xj_istore_n (i := 1) (ls2 := [some (.ref (xw_ad v s 0)), some (.int 0), none, none]) hk dX4_rank_26 rfl (by decide) rfl rfl ?_
    refine xj.eqG (G' := xw_up G s (pS v s b (cpN 0 nI (sl_od S)) (sl_ad S) (sl_wy S) (sl_so S) (sl_re S) (sl_ro S) (sl_rl S) (nI n) (sl_ap S) (sl_ar S) (sl_po S) (sl_sp S) (sl_rs S) (sl_st S) (sl_sr S) (sl_pt S) (sl_av S))) (by simp only [cp_0]) ?_
    refine l_X4_rank_27 hk hz hS hB hsb hn hn30 ?_ (n + 1) 0 (by omega) (by omega)
    refine xj_iconst (x := 1) hk dX4_rank_48 (by decide) ?_
    refine xj_istore_n (i := 1) (ls2 := [some (.ref (xw_ad v s 0)), some (.int 1), none, none]) hk dX4_rank_49 rfl (by decide) rfl rfl ?_
    refine xj.eqG (G' := xw_up G s (pS v s b (cpN n nI (sl_od S)) (sl_ad S) (sl_wy S) (sl_so S) (sl_re S) (sl_ro S) (sl_rl S) (nI n) (sl_ap S) (sl_ar S) (sl_po S) (sl_sp S) (sl_rs S) (sl_st S) (sl_sr S) (sl_pt S) (sl_av S))) (by rfl) ?_
    refine xj.le (ls' := [some (.ref (xw_ad v s 0)), some (.int (nI 1)), none, none]) (by simp [xl_le] <;> rfl) ?_
    refine l_X4_rank_50 hk hz hS hB hsb hn hn30 (fun od p hod hp hs => ?_) (n + 1) 1 (cpN n nI (sl_od S)) ((fun k => k)) (by omega) (by omega) (by omega) (fun j hj => by simp only [cpN]; rw [if_pos hj]) (id_inj n) (fun i j h1 h2 => by omega)
    refine xj_return hk hz dX4_rank_120 ?_
    exact ⟨rfl, od, p, hod, hp, hs, rfl⟩


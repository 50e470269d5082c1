theorem jn_st {h : Int32} (i : Nat) (t : bd_T) : bd_jn h (i + 1) t = bd_jn h i (jnS h i t) := by
  cases i with
  | zero => show t = jnS h 0 t; simp only [jnS]; rw [if_neg (fun q => by omega)]
  | succ i => rfl
def jP (hs ra : Nat → Int32) (h : Int32) (j : Nat) : Bool := decide (hs j = h) && decide (fnd (like hs ra j) j < j)
def cM (hs ra : Nat → Int32) (h : Int32) (i : Nat) : Nat := nS (fun j => if jP hs ra h j = true then 1 else 0) i
theorem like_lo {hs ra hs' ra' : Nat → Int32} {b : Nat} (h : ∀ j, j < b + 1 → hs j = hs' j ∧ ra j = ra' j) : fnd (like hs ra b) b = fnd (like hs' ra' b) b := fnd_congr (fun j hj => by
  simp only [like]
  rw [(h j (by omega)).1, (h j (by omega)).2, (h b (by omega)).1, (h b (by omega)).2])
theorem jP_lo {hs ra hs' ra' : Nat → Int32} {b : Nat} {x : Int32} (h : ∀ j, j < b + 1 → hs j = hs' j ∧ ra j = ra' j) : jP hs ra x b = jP hs' ra' x b := by
  simp only [jP]
  rw [like_lo h, (h b (by omega)).1]
theorem jnS_y {h : Int32} {i : Nat} {t : bd_T} (p : jP t.2.1 t.2.2.1 h i = true) : jnS h i t = bd_rm (t.1, t.2.1, t.2.2.1, xu t.2.2.2 (fnd (like t.2.1 t.2.2.1 i) i) (mn1 (t.2.2.2 (fnd (like t.2.1 t.2.2.1 i) i) + t.2.2.2 i))) i := by
  simp only [jP, Bool.and_eq_true, decide_eq_true_eq] at p
  exact if_pos p
theorem jnS_n {h : Int32} {i : Nat} {t : bd_T} (p : jP t.2.1 t.2.2.1 h i = false) : jnS h i t = t := by
  refine if_neg (fun q => ?_)
  simp only [jP] at p
  rw [decide_eq_true q.1, decide_eq_true q.2] at p
  cases p
theorem jn_cnt {hs ra : Nat → Int32} {h : Int32} : ∀ (i : Nat) (t : bd_T), i ≤ t.1 → (∀ j, j < i → t.2.1 j = hs j ∧ t.2.2.1 j = ra j) → (bd_jn h i t).1 + cM hs ra h i = t.1
  | 0, t, _, _ => Nat.add_zero _
  | i + 1, t, hi, he => by
    rw [jn_st]
    have e := jP_lo (x := h) he
    have ec : cM hs ra h (i + 1) = cM hs ra h i + (if jP hs ra h i = true then 1 else 0) := rfl
    rw [ec]
    cases p : jP t.2.1 t.2.2.1 h i with
    | true =>
      rw [jnS_y p]
      rw [p] at e
      rw [← e, if_pos rfl]
      have := jn_cnt (hs := hs) (ra := ra) (h := h) i (bd_rm (t.1, t.2.1, t.2.2.1, xu t.2.2.2 (fnd (like t.2.1 t.2.2.1 i) i) (mn1 (t.2.2.2 (fnd (like t.2.1 t.2.2.1 i) i) + t.2.2.2 i))) i) (by simp only [bd_rm]; omega) (fun j hj => by
        have q := he j (by omega)
        simp only [bd_rm, shD]
        rw [if_neg (by omega), if_neg (by omega)]
        exact q)
      simp only [bd_rm] at this ⊢
      omega
    | false =>
      rw [jnS_n p]
      rw [p] at e
      rw [← e, if_neg (by decide)]
      have := jn_cnt (hs := hs) (ra := ra) (h := h) i t (by omega) (fun j hj => he j (by omega))
      omega
theorem nS_shD {c : Nat → Nat} {b : Nat} : ∀ {m : Nat}, b < m → nS (shD b (m - 1) c) (m - 1) + c b = nS c m := by
  intro m
  induction m with
  | zero => intro h; omega
  | succ m ih =>
    intro h
    simp only [Nat.add_sub_cancel, nS]
    by_cases q : b = m
    · subst q
      rw [nS_congr (g := shD b b c) (h := c) (fun j hj => by simp only [shD]; rw [if_neg (by omega)])]
    · have i := ih (by omega)
      obtain ⟨m', rfl⟩ : ∃ m', m = m' + 1 := ⟨m - 1, by omega⟩
      simp only [Nat.add_sub_cancel] at i
      simp only [nS] at i ⊢
      rw [nS_congr (g := shD b (m' + 1) c) (h := shD b m' c) (fun j hj => by
        simp only [shD]
        by_cases d : b ≤ j
        · rw [if_pos (by omega), if_pos (by omega)]
        · rw [if_neg (by omega), if_neg (by omega)])]
      have e : shD b (m' + 1) c m' = c (m' + 1) := by simp only [shD]; rw [if_pos (by omega)]
      rw [e]
      omega
theorem mn1_min {x y : Nat} (hx : x ≤ 100000) (hy : y ≤ 100000) : mn1 (nI (min x 1000) + nI (min y 1000)) = nI (min (x + y) 1000) ∨ x = 0 ∨ y = 0 := by
  by_cases z : x = 0 ∨ y = 0
  · exact Or.inr z
  · refine Or.inl ?_
    rw [nI_add]
    simp only [mn1]
    by_cases c : min x 1000 + min y 1000 < 1000
    · rw [if_pos (show nI (min x 1000 + min y 1000) < (1000 : Int32) from (nI_ltI (a := min x 1000 + min y 1000) (b := 1000) (by omega) (by decide)).mpr c)]
      congr 1
      omega
    · rw [if_neg (show ¬ nI (min x 1000 + min y 1000) < (1000 : Int32) from fun q => c ((nI_ltI (a := min x 1000 + min y 1000) (b := 1000) (by omega) (by decide)).mp q)), show min (x + y) 1000 = 1000 by omega]
      rfl
def jI (m : Nat) (l1 lc : Nat → Int32) : Prop := ∃ c : Nat → Nat, (∀ j, j < m → l1 j = nI (c j) ∧ 1 ≤ c j ∧ lc j = nI (min (c j) 1000)) ∧ nS c m ≤ 30000
theorem nS_el {c : Nat → Nat} {j : Nat} : ∀ {m : Nat}, j < m → c j ≤ nS c m := by
  intro m
  induction m with
  | zero => intro h; omega
  | succ m ih =>
    intro h
    simp only [nS]
    by_cases q : j = m
    · subst q; omega
    · have := ih (by omega); omega
theorem jI_0 {lo : Nat → Int32} {n : Nat} (hn : n ≤ 30) (hl : ∀ b, b < n → 1 ≤ lo b ∧ lo b ≤ 1000) : jI n lo lo := by
  refine ⟨fun j => xn (lo j), fun j hj => ?_, ?_⟩
  · obtain ⟨h1, h2⟩ := hl j hj
    have h0 : 0 ≤ lo j := Int32.le_trans (by decide) h1
    have a := xn_le (by decide) h1
    have b := xn_le h0 h2
    have a : 1 ≤ xn (lo j) := a
    have b : xn (lo j) ≤ 1000 := b
    refine ⟨nI_xn h0, a, ?_⟩
    rw [show min (xn (lo j)) 1000 = xn (lo j) by omega]
    exact nI_xn h0
  · refine Nat.le_trans (nS_bd (c := 1000) (fun j hj => ?_)) (by omega)
    obtain ⟨h1, h2⟩ := hl j hj
    exact xn_le (Int32.le_trans (by decide) h1) h2
theorem jI_s {m i f : Nat} {l1 lc : Nat → Int32} (hi : i < m) (hf : f < i) (h : jI m l1 lc) : jI (m - 1) (shD i (m - 1) (xu l1 f (l1 f + l1 i))) (shD i (m - 1) (xu lc f (mn1 (lc f + lc i)))) := by
  obtain ⟨c, hc, hs⟩ := h
  refine ⟨shD i (m - 1) (xu c f (c f + c i)), fun j hj => ?_, ?_⟩
  · have key : ∀ q, q < m → xu l1 f (l1 f + l1 i) q = nI (xu c f (c f + c i) q) ∧ 1 ≤ xu c f (c f + c i) q ∧ xu lc f (mn1 (lc f + lc i)) q = nI (min (xu c f (c f + c i) q) 1000) := by
      intro q hq
      by_cases d : q = f
      · subst d
        rw [xu_s, xu_s, xu_s]
        obtain ⟨a1, a2, a3⟩ := hc q hq
        obtain ⟨b1, b2, b3⟩ := hc i hi
        have e1 := nS_el (c := c) hq
        have e2 := nS_el (c := c) hi
        refine ⟨by rw [a1, b1, nI_add], by omega, ?_⟩
        rw [a3, b3]
        rcases mn1_min (x := c q) (y := c i) (by omega) (by omega) with e | e | e
        · exact e
        · omega
        · omega
      · rw [xu_n d, xu_n d, xu_n d]; exact hc q hq
    by_cases d : i ≤ j ∧ j < m - 1
    · simp only [shD]
      rw [if_pos d, if_pos d, if_pos d]
      exact key (j + 1) (by omega)
    · simp only [shD]
      rw [if_neg d, if_neg d, if_neg d]
      exact key j (by omega)
  · have e1 := nS_shD (c := xu c f (c f + c i)) hi
    have e2 := nS_one (f := xu c f (c f + c i)) (g := c) (m := f) (n := m) (by omega) (fun j _ hj => xu_n hj)
    rw [xu_n (show i ≠ f by omega)] at e1
    rw [xu_s] at e2
    omega
theorem lkA_y {hs ra : Nat → Int32} {b : Nat} (hb : b < 2 ^ 31) : lkA hs ra b = -1 ↔ ¬ fnd (like hs ra b) b < b := by
  simp only [lkA]
  by_cases c : fnd (like hs ra b) b < b
  · rw [if_pos c]
    exact ⟨fun q => absurd q (fun q => by have := nI_pos (n := fnd (like hs ra b) b) (by omega); rw [q] at this; exact this (by decide)), fun q => absurd c q⟩
  · rw [if_neg c]; exact ⟨fun _ => c, fun _ => rfl⟩
theorem cM_sm {hs ra : Nat → Int32} {h : Int32} {n : Nat} (hn : n ≤ 30) : sm (fun j => if hs j = h then (if lkA hs ra j = -1 then 0 else 1) else 0) n = nI (cM hs ra h n) ∧ cM hs ra h n ≤ 30 := by
  refine ⟨sm_nS (fun j hj => ?_), ?_⟩
  · by_cases c : hs j = h
    · rw [if_pos c]
      by_cases d : fnd (like hs ra j) j < j
      · have e : jP hs ra h j = true := by simp [jP, c, d]
        rw [if_neg (fun q => (lkA_y (by omega)).mp q d), e]; rfl
      · have e : jP hs ra h j = false := by simp [jP, d]
        rw [if_pos ((lkA_y (by omega)).mpr d), e]; rfl
    · have e : jP hs ra h j = false := by simp [jP, c]
      rw [if_neg c, e]; rfl
  · have := nS_bd (g := fun j => if jP hs ra h j = true then 1 else 0) (c := 1) (n := n) (fun j _ => by split <;> omega)
    simp only [cM]
    omega
set_option maxHeartbeats 1000000 in
set_option maxRecDepth 10000 in
theorem l_X8_merge_13 {v : xw_V} {κ : xk_K} {post : Option Value → xw_G → Prop} {z : Nat × Nat × Nat} {G : xw_G} {M : md_T} {te ho ow hs ra lo st av so : Nat → Int32} {ln : Int32} {n : Nat} (hk : xk_Ok v κ yX8_merge cX8_merge 6 (some .int) 3 68) (hz : xk_zf κ = z) (hM : G 21 = pM v (md_th M) (nR te ho ow hs ra lo (nI n) st av so ln) (md_pt M) (md_re M) (md_sd M) (md_be M) (md_pb M) (md_ac M) (md_od M) (md_ad M) (md_wy M) (md_so M) (md_rl M) (md_io M) (md_po M) (md_sp M) (md_rs M) (md_st M) (md_av M) (md_ip M) (md_tx M) (md_tm M) (md_ta M) (md_td M) (md_wo M) (md_sq M) (md_tk M) (md_bg M) (md_nu M) (md_wr M)) (hn30 : n ≤ 30) (h : Int32) (kx : xj v κ post z G 48 [some (.ref (xw_ad v 21 0)), some (.int h), some (.int (sm (fun j => if hs j = h then (if lkA hs ra j = -1 then 0 else 1) else 0) n)), some (.int (nI n)), none, none] []) : ∀ (m : Nat) (k : Nat), n - k < m → k ≤ n → xj v κ post z G 13 [some (.ref (xw_ad v 21 0)), some (.int h), some (.int (sm (fun j => if hs j = h then (if lkA hs ra j = -1 then 0 else 1) else 0) k)), some (.int (nI k)), none, none] [] := by
  intro m
  induction m with
  | zero => intro k h; exact absurd h (Nat.not_lt_zero _)
  | succ m ih =>
    intro k hm hi
    refine xj_iload_n (i := 3) hk dX8_merge_13 rfl rfl ?_
    refine xj_aload_n (i := 0) hk dX8_merge_14 rfl rfl ?_
    refine xj_callV hk hz (fr1 := 0) (lo1 := 0) (r1 := some (.int (nI n))) (As := []) (st := [.int (nI k)]) (st2 := [.int (nI n), .int (nI k)]) (G1 := G) ml_X8_73 (c_X8_many (M := M) (show G 21 = pM v (md_th M) (nR te ho ow hs ra lo (nI n) st av so ln) (md_pt M) (md_re M) (md_sd M) (md_be M) (md_pb M) (md_ac M) (md_od M) (md_ad M) (md_wy M) (md_so M) (md_rl M) (md_io M) (md_po M) (md_sp M) (md_rs M) (md_st M) (md_av M) (md_ip M) (md_tx M) (md_tm M) (md_ta M) (md_td M) (md_wo M) (md_sq M) (md_tk M) (md_bg M) (md_nu M) (md_wr M) from hM)) (xw_at hM rfl) rfl dX8_merge_15 ⟨Nat.le_of_ble_eq_true rfl, Nat.le_of_ble_eq_true rfl⟩ rfl (Nat.le_of_ble_eq_true rfl) rfl rfl ?_
    refine xj_icmp_ge (tgt := 48) hk dX8_merge_18 (by decide) (fun c18 => ?_) (fun c18 => ?_)
    · have c18 : n ≤ k := (nI_leI (a := n) (b := k) (by omega) (by omega)).mp c18
      have e9 : k = n := by omega
      subst e9
      exact kx
    · have c18 : ¬ n ≤ k := fun q => c18 ((nI_leI (a := n) (b := k) (by omega) (by omega)).mpr q)
      refine xj_aload_n (i := 0) hk dX8_merge_21 rfl rfl ?_
      refine xj_iload_n (i := 3) hk dX8_merge_22 rfl rfl ?_
      refine xj_callV hk hz (fr1 := 0) (lo1 := 0) (r1 := some (.int (hs k))) (As := [.int (nI k)]) (st := []) (st2 := [.int (hs k)]) (G1 := G) ml_X8_81 (c_X8_houseOf (b := k) (M := M) (show G 21 = pM v (md_th M) (nR te ho ow hs ra lo (nI n) st av so ln) (md_pt M) (md_re M) (md_sd M) (md_be M) (md_pb M) (md_ac M) (md_od M) (md_ad M) (md_wy M) (md_so M) (md_rl M) (md_io M) (md_po M) (md_sp M) (md_rs M) (md_st M) (md_av M) (md_ip M) (md_tx M) (md_tm M) (md_ta M) (md_td M) (md_wo M) (md_sq M) (md_tk M) (md_bg M) (md_nu M) (md_wr M) from hM) (by omega)) (xw_at hM rfl) rfl dX8_merge_23 ⟨Nat.le_of_ble_eq_true rfl, Nat.le_of_ble_eq_true rfl⟩ rfl (Nat.le_of_ble_eq_true rfl) rfl rfl ?_
      refine xj_iload_n (i := 1) hk dX8_merge_26 rfl rfl ?_
      refine xj_icmp_ne (tgt := 42) hk dX8_merge_27 (by decide) (fun c27 => ?_) (fun c27 => ?_)
      · refine xj_iinc (i := 3) (x2 := nI (k + 1)) (ls2 := [some (.ref (xw_ad v 21 0)), some (.int h), some (.int (sm (fun j => if hs j = h then (if lkA hs ra j = -1 then 0 else 1) else 0) k)), some (.int (nI (k + 1))), none, none]) hk dX8_merge_42 rfl (nI_1 k) (by decide) rfl rfl ?_
        refine xj_goto (tgt := 13) hk dX8_merge_45 (by decide) ?_
        refine xj.to (ls' := [some (.ref (xw_ad v 21 0)), some (.int h), some (.int (sm (fun j => if hs j = h then (if lkA hs ra j = -1 then 0 else 1) else 0) ((k + 1)))), some (.int (nI ((k + 1)))), none, none]) (by simp only [sm]; first | (rw [if_neg c27, Int32.add_zero]) | (rw [if_pos c27, if_pos c36, Int32.add_zero]) | (rw [if_pos c27, if_neg c36])) (ih (k + 1) (by omega) (by omega))
      · refine xj_aload_n (i := 0) hk dX8_merge_30 rfl rfl ?_
        refine xj_iload_n (i := 3) hk dX8_merge_31 rfl rfl ?_
        refine xj_callV hk hz (fr1 := 1) (lo1 := 21) (r1 := some (.int (lkA hs ra k))) (As := [.int (nI k)]) (st := []) (st2 := [.int (lkA hs ra k)]) (G1 := G) ml_X8_129 (c_X8_likeAhead (b := k) (M := M) (show G 21 = pM v (md_th M) (nR te ho ow hs ra lo (nI n) st av so ln) (md_pt M) (md_re M) (md_sd M) (md_be M) (md_pb M) (md_ac M) (md_od M) (md_ad M) (md_wy M) (md_so M) (md_rl M) (md_io M) (md_po M) (md_sp M) (md_rs M) (md_st M) (md_av M) (md_ip M) (md_tx M) (md_tm M) (md_ta M) (md_td M) (md_wo M) (md_sq M) (md_tk M) (md_bg M) (md_nu M) (md_wr M) from hM) (by omega)) (xw_at hM rfl) rfl dX8_merge_32 ⟨Nat.le_of_ble_eq_true rfl, Nat.le_of_ble_eq_true rfl⟩ rfl (Nat.le_of_ble_eq_true rfl) rfl rfl ?_
        refine xj_iconst (x := (-1)) hk dX8_merge_35 (by decide) ?_
        refine xj_icmp_eq (tgt := 42) hk dX8_merge_36 (by decide) (fun c36 => ?_) (fun c36 => ?_)
        · refine xj_iinc (i := 3) (x2 := nI (k + 1)) (ls2 := [some (.ref (xw_ad v 21 0)), some (.int h), some (.int (sm (fun j => if hs j = h then (if lkA hs ra j = -1 then 0 else 1) else 0) k)), some (.int (nI (k + 1))), none, none]) hk dX8_merge_42 rfl (nI_1 k) (by decide) rfl rfl ?_
          refine xj_goto (tgt := 13) hk dX8_merge_45 (by decide) ?_
          refine xj.to (ls' := [some (.ref (xw_ad v 21 0)), some (.int h), some (.int (sm (fun j => if hs j = h then (if lkA hs ra j = -1 then 0 else 1) else 0) ((k + 1)))), some (.int (nI ((k + 1)))), none, none]) (by simp only [sm]; first | (rw [if_neg c27, Int32.add_zero]) | (rw [if_pos c27, if_pos c36, Int32.add_zero]) | (rw [if_pos c27, if_neg c36])) (ih (k + 1) (by omega) (by omega))
        · refine xj_iinc (i := 2) (x2 := (sm (fun j => if hs j = h then (if lkA hs ra j = -1 then 0 else 1) else 0) k) + 1) (ls2 := [some (.ref (xw_ad v 21 0)), some (.int h), some (.int ((sm (fun j => if hs j = h then (if lkA hs ra j = -1 then 0 else 1) else 0) k) + 1)), some (.int (nI k)), none, none]) hk dX8_merge_39 rfl rfl (by decide) rfl rfl ?_
          refine xj_iinc (i := 3) (x2 := nI (k + 1)) (ls2 := [some (.ref (xw_ad v 21 0)), some (.int h), some (.int ((sm (fun j => if hs j = h then (if lkA hs ra j = -1 then 0 else 1) else 0) k) + 1)), some (.int (nI (k + 1))), none, none]) hk dX8_merge_42 rfl (nI_1 k) (by decide) rfl rfl ?_
          refine xj_goto (tgt := 13) hk dX8_merge_45 (by decide) ?_
          refine xj.to (ls' := [some (.ref (xw_ad v 21 0)), some (.int h), some (.int (sm (fun j => if hs j = h then (if lkA hs ra j = -1 then 0 else 1) else 0) ((k + 1)))), some (.int (nI ((k + 1)))), none, none]) (by simp only [sm]; first | (rw [if_neg c27, Int32.add_zero]) | (rw [if_pos c27, if_pos c36, Int32.add_zero]) | (rw [if_pos c27, if_neg c36])) (ih (k + 1) (by omega) (by omega))

set_option maxHeartbeats 1000000 in
set_option maxRecDepth 10000 in
theorem l_X8_merge_65 {v : xw_V} {κ : xk_K} {post : Option Value → xw_G → Prop} {z : Nat × Nat × Nat} {G : xw_G} {M : md_T} {te ho ow hs ra lo st av so : Nat → Int32} {ln : Int32} {n : Nat} {h x : Int32} (hk : xk_Ok v κ yX8_merge cX8_merge 6 (some .int) 3 68) (hz : xk_zf κ = z)  (kx : ∀ (m : Nat) (h1 r1 l1 lc : Nat → Int32) (G1 : xw_G) (M1 : md_T), m ≤ 30 → (m, h1, r1, lc) = bd_jn h n (n, hs, ra, lo) → jI m l1 lc → G1 21 = pM v (md_th M1) (nR te ho ow h1 r1 l1 (nI m) st av so ln) (md_pt M1) (md_re M1) (md_sd M1) (md_be M1) (md_pb M1) (md_ac M1) (md_od M1) (md_ad M1) (md_wy M1) (md_so M1) (md_rl M1) (md_io M1) (md_po M1) (md_sp M1) (md_rs M1) (md_st M1) (md_av M1) (md_ip M1) (md_tx M1) (md_tm M1) (md_ta M1) (md_td M1) (md_wo M1) (md_sq M1) (md_tk M1) (md_bg M1) (md_nu M1) (md_wr M1) → mK M M1 → (∀ g, g ≠ 21 → G1 g = G g) → xj v κ post z G1 137 [some (.ref (xw_ad v 21 0)), some (.int h), some (.int x), none, none, none] []) : ∀ (m9 : Nat) (i : Nat) (m : Nat) (h1 : Nat → Int32) (r1 : Nat → Int32) (l1 : Nat → Int32) (lc : Nat → Int32) (G1 : xw_G) (M1 : md_T), i < m9 → i ≤ m → m ≤ 30 → bd_jn h i (m, h1, r1, lc) = bd_jn h n (n, hs, ra, lo) → jI m l1 lc → G1 21 = pM v (md_th M1) (nR te ho ow h1 r1 l1 (nI m) st av so ln) (md_pt M1) (md_re M1) (md_sd M1) (md_be M1) (md_pb M1) (md_ac M1) (md_od M1) (md_ad M1) (md_wy M1) (md_so M1) (md_rl M1) (md_io M1) (md_po M1) (md_sp M1) (md_rs M1) (md_st M1) (md_av M1) (md_ip M1) (md_tx M1) (md_tm M1) (md_ta M1) (md_td M1) (md_wo M1) (md_sq M1) (md_tk M1) (md_bg M1) (md_nu M1) (md_wr M1) → mK M M1 → (∀ g, g ≠ 21 → G1 g = G g) → xj v κ post z G1 65 [some (.ref (xw_ad v 21 0)), some (.int h), some (.int x), some (.int (nI i - 1)), none, none] [] := by
  intro m9
  induction m9 with
  | zero => intro i m h1 r1 l1 lc G1 M1 h; exact absurd h (Nat.not_lt_zero _)
  | succ m9 ih =>
    intro i m h1 r1 l1 lc G1 M1 hm hi hm30 hb hj hM1 hkM1 hfM1
    refine xj_iload_n (i := 3) hk dX8_merge_65 rfl rfl ?_
    refine xj_if_lt (tgt := 137) hk dX8_merge_66 (by decide) (fun c66 => ?_) (fun c66 => ?_)
    · have c66 : i = 0 := (nI_neg (i := i) (by omega)).mp c66
      refine xj.le (ls' := [some (.ref (xw_ad v 21 0)), some (.int h), some (.int x), none, none, none]) (by simp [xl_le] <;> rfl) ?_
      have e9 : i = 0 := c66
      subst e9
      exact kx m h1 r1 l1 lc G1 M1 hm30 hb hj hM1 hkM1 hfM1
    · have c66 : ¬ i = 0 := fun q => c66 ((nI_neg (i := i) (by omega)).mpr q)
      refine xj.to (ls' := [some (.ref (xw_ad v 21 0)), some (.int h), some (.int x), some (.int (nI (i - 1))), none, none]) (by rw [nI_m1 (i := i) (by omega)]) ?_
      refine xj_aload_n (i := 0) hk dX8_merge_69 rfl rfl ?_
      refine xj_iload_n (i := 3) hk dX8_merge_70 rfl rfl ?_
      refine xj_callV hk hz (fr1 := 0) (lo1 := 0) (r1 := some (.int (h1 (i - 1)))) (As := [.int (nI (i - 1))]) (st := []) (st2 := [.int (h1 (i - 1))]) (G1 := G1) ml_X8_81 (c_X8_houseOf (b := i - 1) (M := M1) (show G1 21 = pM v (md_th M1) (nR te ho ow h1 r1 l1 (nI m) st av so ln) (md_pt M1) (md_re M1) (md_sd M1) (md_be M1) (md_pb M1) (md_ac M1) (md_od M1) (md_ad M1) (md_wy M1) (md_so M1) (md_rl M1) (md_io M1) (md_po M1) (md_sp M1) (md_rs M1) (md_st M1) (md_av M1) (md_ip M1) (md_tx M1) (md_tm M1) (md_ta M1) (md_td M1) (md_wo M1) (md_sq M1) (md_tk M1) (md_bg M1) (md_nu M1) (md_wr M1) from hM1) (by omega)) (xw_at hM1 rfl) rfl dX8_merge_71 ⟨Nat.le_of_ble_eq_true rfl, Nat.le_of_ble_eq_true rfl⟩ rfl (Nat.le_of_ble_eq_true rfl) rfl rfl ?_
      refine xj_iload_n (i := 1) hk dX8_merge_74 rfl rfl ?_
      refine xj_icmp_ne (tgt := 86) hk dX8_merge_75 (by decide) (fun c75 => ?_) (fun c75 => ?_)
      · refine xj_iconst (x := (-1)) hk dX8_merge_86 (by decide) ?_
        refine xj_istore (i := 4) (ls2 := [some (.ref (xw_ad v 21 0)), some (.int h), some (.int x), some (.int (nI (i - 1))), some (.int ((-1))), none]) hk dX8_merge_87 (by decide) rfl rfl ?_
        refine xj_iload hk dX8_merge_89 rfl ?_
        refine xj_iconst (x := (-1)) hk dX8_merge_91 (by decide) ?_
        refine xj_icmp_ne (tgt := 98) hk dX8_merge_92 (by decide) (fun c92 => ?_) (fun c92 => ?_)
        · exact absurd rfl c92
        · refine xj_goto (tgt := 131) hk dX8_merge_95 (by decide) ?_
          refine xj_iinc (i := 3) (x2 := nI (i - 1) - 1) (ls2 := [some (.ref (xw_ad v 21 0)), some (.int h), some (.int x), some (.int (nI (i - 1) - 1)), some (.int ((-1))), none]) hk dX8_merge_131 rfl (nI_decI _) (by decide) rfl rfl ?_
          refine xj_goto (tgt := 65) hk dX8_merge_134 (by decide) ?_
          refine xj.le (ls' := [some (.ref (xw_ad v 21 0)), some (.int h), some (.int x), some (.int (nI (i - 1) - 1)), none, none]) (by simp [xl_le] <;> rfl) ?_
          refine xj.to (ls' := [some (.ref (xw_ad v 21 0)), some (.int h), some (.int x), some (.int (nI ((i - 1)) - 1)), none, none]) (by first | rfl | simp) (ih (i - 1) m h1 r1 l1 lc G1 M1 (by omega) (by omega) hm30 ?_ hj hM1 hkM1 hfM1)
          rw [← hb]
          obtain ⟨i9, rfl⟩ : ∃ i9, i = i9 + 1 := ⟨i - 1, by omega⟩
          rw [jn_st, jnS_n (show jP h1 r1 h i9 = false from by simp only [jP]; rw [decide_eq_false (show ¬ h1 i9 = h from c75)]; rfl)]
          rfl
      · refine xj_aload_n (i := 0) hk dX8_merge_78 rfl rfl ?_
        refine xj_iload_n (i := 3) hk dX8_merge_79 rfl rfl ?_
        refine xj_callV hk hz (fr1 := 1) (lo1 := 21) (r1 := some (.int (lkA h1 r1 (i - 1)))) (As := [.int (nI (i - 1))]) (st := []) (st2 := [.int (lkA h1 r1 (i - 1))]) (G1 := G1) ml_X8_129 (c_X8_likeAhead (b := i - 1) (M := M1) (show G1 21 = pM v (md_th M1) (nR te ho ow h1 r1 l1 (nI m) st av so ln) (md_pt M1) (md_re M1) (md_sd M1) (md_be M1) (md_pb M1) (md_ac M1) (md_od M1) (md_ad M1) (md_wy M1) (md_so M1) (md_rl M1) (md_io M1) (md_po M1) (md_sp M1) (md_rs M1) (md_st M1) (md_av M1) (md_ip M1) (md_tx M1) (md_tm M1) (md_ta M1) (md_td M1) (md_wo M1) (md_sq M1) (md_tk M1) (md_bg M1) (md_nu M1) (md_wr M1) from hM1) (by omega)) (xw_at hM1 rfl) rfl dX8_merge_80 ⟨Nat.le_of_ble_eq_true rfl, Nat.le_of_ble_eq_true rfl⟩ rfl (Nat.le_of_ble_eq_true rfl) rfl rfl ?_
        refine xj_goto (tgt := 87) hk dX8_merge_83 (by decide) ?_
        refine xj_istore (i := 4) (ls2 := [some (.ref (xw_ad v 21 0)), some (.int h), some (.int x), some (.int (nI (i - 1))), some (.int (lkA h1 r1 (i - 1))), none]) hk dX8_merge_87 (by decide) rfl rfl ?_
        refine xj_iload hk dX8_merge_89 rfl ?_
        refine xj_iconst (x := (-1)) hk dX8_merge_91 (by decide) ?_
        refine xj_icmp_ne (tgt := 98) hk dX8_merge_92 (by decide) (fun c92 => ?_) (fun c92 => ?_)
        · have hlt : fnd (like h1 r1 (i - 1)) (i - 1) < i - 1 := by
            by_cases d : fnd (like h1 r1 (i - 1)) (i - 1) < i - 1
            · exact d
            · exact absurd ((lkA_y (by omega)).mpr d) c92
          refine xj.to (ls' := [some (.ref (xw_ad v 21 0)), some (.int h), some (.int x), some (.int (nI (i - 1))), some (.int (nI (fnd (like h1 r1 (i - 1)) (i - 1)))), none]) (by simp only [lkA]; rw [if_pos hlt]) ?_
          have hsp : h1 (fnd (like h1 r1 (i - 1)) (i - 1)) = h ∧ r1 (fnd (like h1 r1 (i - 1)) (i - 1)) = r1 (i - 1) := by
            have q := fnd_spec hlt
            simp only [like, Bool.and_eq_true, decide_eq_true_eq] at q
            exact ⟨q.1.trans c75, q.2⟩
          refine xj_aload_n (i := 0) hk dX8_merge_98 rfl rfl ?_
          refine xj_iload hk dX8_merge_99 rfl ?_
          refine xj_callV hk hz (fr1 := 0) (lo1 := 0) (r1 := some (.int (l1 (fnd (like h1 r1 (i - 1)) (i - 1))))) (As := [.int (nI (fnd (like h1 r1 (i - 1)) (i - 1)))]) (st := []) (st2 := [.int (l1 (fnd (like h1 r1 (i - 1)) (i - 1)))]) (G1 := G1) ml_X8_84 (c_X8_lotsOf (b := fnd (like h1 r1 (i - 1)) (i - 1)) (M := M1) (show G1 21 = pM v (md_th M1) (nR te ho ow h1 r1 l1 (nI m) st av so ln) (md_pt M1) (md_re M1) (md_sd M1) (md_be M1) (md_pb M1) (md_ac M1) (md_od M1) (md_ad M1) (md_wy M1) (md_so M1) (md_rl M1) (md_io M1) (md_po M1) (md_sp M1) (md_rs M1) (md_st M1) (md_av M1) (md_ip M1) (md_tx M1) (md_tm M1) (md_ta M1) (md_td M1) (md_wo M1) (md_sq M1) (md_tk M1) (md_bg M1) (md_nu M1) (md_wr M1) from hM1) (by omega)) (xw_at hM1 rfl) rfl dX8_merge_101 ⟨Nat.le_of_ble_eq_true rfl, Nat.le_of_ble_eq_true rfl⟩ rfl (Nat.le_of_ble_eq_true rfl) rfl rfl ?_
          refine xj_aload_n (i := 0) hk dX8_merge_104 rfl rfl ?_
          refine xj_iload_n (i := 3) hk dX8_merge_105 rfl rfl ?_
          refine xj_callV hk hz (fr1 := 0) (lo1 := 0) (r1 := some (.int (l1 (i - 1)))) (As := [.int (nI (i - 1))]) (st := [.int (l1 (fnd (like h1 r1 (i - 1)) (i - 1)))]) (st2 := [.int (l1 (i - 1)), .int (l1 (fnd (like h1 r1 (i - 1)) (i - 1)))]) (G1 := G1) ml_X8_84 (c_X8_lotsOf (b := i - 1) (M := M1) (show G1 21 = pM v (md_th M1) (nR te ho ow h1 r1 l1 (nI m) st av so ln) (md_pt M1) (md_re M1) (md_sd M1) (md_be M1) (md_pb M1) (md_ac M1) (md_od M1) (md_ad M1) (md_wy M1) (md_so M1) (md_rl M1) (md_io M1) (md_po M1) (md_sp M1) (md_rs M1) (md_st M1) (md_av M1) (md_ip M1) (md_tx M1) (md_tm M1) (md_ta M1) (md_td M1) (md_wo M1) (md_sq M1) (md_tk M1) (md_bg M1) (md_nu M1) (md_wr M1) from hM1) (by omega)) (xw_at hM1 rfl) rfl dX8_merge_106 ⟨Nat.le_of_ble_eq_true rfl, Nat.le_of_ble_eq_true rfl⟩ rfl (Nat.le_of_ble_eq_true rfl) rfl rfl ?_
          refine xj_iadd hk dX8_merge_109 ?_
          refine xj_istore (i := 5) (ls2 := [some (.ref (xw_ad v 21 0)), some (.int h), some (.int x), some (.int (nI (i - 1))), some (.int (nI (fnd (like h1 r1 (i - 1)) (i - 1)))), some (.int ((l1 (fnd (like h1 r1 (i - 1)) (i - 1))) + (l1 (i - 1))))]) hk dX8_merge_110 (by decide) rfl rfl ?_
          refine xj_aload_n (i := 0) hk dX8_merge_112 rfl rfl ?_
          refine xj_iload hk dX8_merge_113 rfl ?_
          refine xj_iload_n (i := 1) hk dX8_merge_115 rfl rfl ?_
          refine xj_aload_n (i := 0) hk dX8_merge_116 rfl rfl ?_
          refine xj_iload_n (i := 3) hk dX8_merge_117 rfl rfl ?_
          refine xj_callV hk hz (fr1 := 0) (lo1 := 0) (r1 := some (.int (r1 (i - 1)))) (As := [.int (nI (i - 1))]) (st := [.int h, .int (nI (fnd (like h1 r1 (i - 1)) (i - 1))), .ref (xw_ad v 21 0)]) (st2 := [.int (r1 (i - 1)), .int h, .int (nI (fnd (like h1 r1 (i - 1)) (i - 1))), .ref (xw_ad v 21 0)]) (G1 := G1) ml_X8_77 (c_X8_rateOf (b := i - 1) (M := M1) (show G1 21 = pM v (md_th M1) (nR te ho ow h1 r1 l1 (nI m) st av so ln) (md_pt M1) (md_re M1) (md_sd M1) (md_be M1) (md_pb M1) (md_ac M1) (md_od M1) (md_ad M1) (md_wy M1) (md_so M1) (md_rl M1) (md_io M1) (md_po M1) (md_sp M1) (md_rs M1) (md_st M1) (md_av M1) (md_ip M1) (md_tx M1) (md_tm M1) (md_ta M1) (md_td M1) (md_wo M1) (md_sq M1) (md_tk M1) (md_bg M1) (md_nu M1) (md_wr M1) from hM1) (by omega)) (xw_at hM1 rfl) rfl dX8_merge_118 ⟨Nat.le_of_ble_eq_true rfl, Nat.le_of_ble_eq_true rfl⟩ rfl (Nat.le_of_ble_eq_true rfl) rfl rfl ?_
          refine xj_iload hk dX8_merge_121 rfl ?_
          refine xj_callV hk hz (fr1 := 0) (lo1 := 0) (r1 := none) (As := [.int (nI (fnd (like h1 r1 (i - 1)) (i - 1))), .int h, .int (r1 (i - 1)), .int ((l1 (fnd (like h1 r1 (i - 1)) (i - 1))) + (l1 (i - 1)))]) (st := []) (st2 := []) (G1 := xw_up G1 21 (pM v (md_th M1) (nR te ho ow (xu h1 (fnd (like h1 r1 (i - 1)) (i - 1)) h) (xu r1 (fnd (like h1 r1 (i - 1)) (i - 1)) (r1 (i - 1))) (xu l1 (fnd (like h1 r1 (i - 1)) (i - 1)) ((l1 (fnd (like h1 r1 (i - 1)) (i - 1))) + (l1 (i - 1)))) (nI m) st av so ln) (md_pt M1) (md_re M1) (md_sd M1) (md_be M1) (md_pb M1) (md_ac M1) (md_od M1) (md_ad M1) (md_wy M1) (md_so M1) (md_rl M1) (md_io M1) (md_po M1) (md_sp M1) (md_rs M1) (md_st M1) (md_av M1) (md_ip M1) (md_tx M1) (md_tm M1) (md_ta M1) (md_td M1) (md_wo M1) (md_sq M1) (md_tk M1) (md_bg M1) (md_nu M1) (md_wr M1))) ml_X8_87 (c_X8_lays (b := fnd (like h1 r1 (i - 1)) (i - 1)) (M := M1) (show G1 21 = pM v (md_th M1) (nR te ho ow h1 r1 l1 (nI m) st av so ln) (md_pt M1) (md_re M1) (md_sd M1) (md_be M1) (md_pb M1) (md_ac M1) (md_od M1) (md_ad M1) (md_wy M1) (md_so M1) (md_rl M1) (md_io M1) (md_po M1) (md_sp M1) (md_rs M1) (md_st M1) (md_av M1) (md_ip M1) (md_tx M1) (md_tm M1) (md_ta M1) (md_td M1) (md_wo M1) (md_sq M1) (md_tk M1) (md_bg M1) (md_nu M1) (md_wr M1) from hM1) (by omega) h (r1 (i - 1)) ((l1 (fnd (like h1 r1 (i - 1)) (i - 1))) + (l1 (i - 1)))) (xw_at hM1 rfl) rfl dX8_merge_123 ⟨Nat.le_of_ble_eq_true rfl, Nat.le_of_ble_eq_true rfl⟩ rfl (Nat.le_of_ble_eq_true rfl) rfl rfl ?_
          refine xj_aload_n (i := 0) hk dX8_merge_126 rfl rfl ?_
          refine xj_iload_n (i := 3) hk dX8_merge_127 rfl rfl ?_
          refine xj_callV hk hz (fr1 := 2) (lo1 := 46) (r1 := none) (As := [.int (nI (i - 1))]) (st := []) (st2 := []) (G1 := xw_up G1 21 (pM v (md_th M1) (nR te ho ow (shD (i - 1) (m - 1) (xu h1 (fnd (like h1 r1 (i - 1)) (i - 1)) h)) (shD (i - 1) (m - 1) (xu r1 (fnd (like h1 r1 (i - 1)) (i - 1)) (r1 (i - 1)))) (shD (i - 1) (m - 1) (xu l1 (fnd (like h1 r1 (i - 1)) (i - 1)) ((l1 (fnd (like h1 r1 (i - 1)) (i - 1))) + (l1 (i - 1))))) (nI (m - 1)) st av so ln) (md_pt M1) (md_re M1) (md_sd M1) (md_be M1) (md_pb M1) (md_ac M1) (md_od M1) (md_ad M1) (md_wy M1) (md_so M1) (md_rl M1) (md_io M1) (md_po M1) (md_sp M1) (md_rs M1) (md_st M1) (md_av M1) (md_ip M1) (md_tx M1) (md_tm M1) (md_ta M1) (md_td M1) (md_wo M1) (md_sq M1) (md_tk M1) (md_bg M1) (md_nu M1) (md_wr M1))) ml_X8_111 (xk_cg (by rw [xw_up_u] <;> rfl) (c_X8_drops (n := m) (a := i - 1) (M := M1) (show (xw_up G1 21 (pM v (md_th M1) (nR te ho ow (xu h1 (fnd (like h1 r1 (i - 1)) (i - 1)) h) (xu r1 (fnd (like h1 r1 (i - 1)) (i - 1)) (r1 (i - 1))) (xu l1 (fnd (like h1 r1 (i - 1)) (i - 1)) ((l1 (fnd (like h1 r1 (i - 1)) (i - 1))) + (l1 (i - 1)))) (nI m) st av so ln) (md_pt M1) (md_re M1) (md_sd M1) (md_be M1) (md_pb M1) (md_ac M1) (md_od M1) (md_ad M1) (md_wy M1) (md_so M1) (md_rl M1) (md_io M1) (md_po M1) (md_sp M1) (md_rs M1) (md_st M1) (md_av M1) (md_ip M1) (md_tx M1) (md_tm M1) (md_ta M1) (md_td M1) (md_wo M1) (md_sq M1) (md_tk M1) (md_bg M1) (md_nu M1) (md_wr M1))) 21 = pM v (md_th M1) (nR te ho ow (xu h1 (fnd (like h1 r1 (i - 1)) (i - 1)) h) (xu r1 (fnd (like h1 r1 (i - 1)) (i - 1)) (r1 (i - 1))) (xu l1 (fnd (like h1 r1 (i - 1)) (i - 1)) ((l1 (fnd (like h1 r1 (i - 1)) (i - 1))) + (l1 (i - 1)))) (nI m) st av so ln) (md_pt M1) (md_re M1) (md_sd M1) (md_be M1) (md_pb M1) (md_ac M1) (md_od M1) (md_ad M1) (md_wy M1) (md_so M1) (md_rl M1) (md_io M1) (md_po M1) (md_sp M1) (md_rs M1) (md_st M1) (md_av M1) (md_ip M1) (md_tx M1) (md_tm M1) (md_ta M1) (md_td M1) (md_wo M1) (md_sq M1) (md_tk M1) (md_bg M1) (md_nu M1) (md_wr M1) from xw_up_s) (by omega) (by omega))) (xw_at xw_up_s rfl) rfl dX8_merge_128 ⟨Nat.le_of_ble_eq_true rfl, Nat.le_of_ble_eq_true rfl⟩ rfl (Nat.le_of_ble_eq_true rfl) rfl rfl ?_
          refine xj_iinc (i := 3) (x2 := nI (i - 1) - 1) (ls2 := [some (.ref (xw_ad v 21 0)), some (.int h), some (.int x), some (.int (nI (i - 1) - 1)), some (.int (nI (fnd (like h1 r1 (i - 1)) (i - 1)))), some (.int ((l1 (fnd (like h1 r1 (i - 1)) (i - 1))) + (l1 (i - 1))))]) hk dX8_merge_131 rfl (nI_decI _) (by decide) rfl rfl ?_
          refine xj_goto (tgt := 65) hk dX8_merge_134 (by decide) ?_
          refine xj.le (ls' := [some (.ref (xw_ad v 21 0)), some (.int h), some (.int x), some (.int (nI (i - 1) - 1)), none, none]) (by simp [xl_le] <;> rfl) ?_
          refine xj.eqG (G' := xw_up G1 21 (pM v (md_th M1) (nR te ho ow (shD (i - 1) (m - 1) h1) (shD (i - 1) (m - 1) r1) (shD (i - 1) (m - 1) (xu l1 (fnd (like h1 r1 (i - 1)) (i - 1)) (l1 (fnd (like h1 r1 (i - 1)) (i - 1)) + l1 (i - 1)))) (nI (m - 1)) st av so ln) (md_pt M1) (md_re M1) (md_sd M1) (md_be M1) (md_pb M1) (md_ac M1) (md_od M1) (md_ad M1) (md_wy M1) (md_so M1) (md_rl M1) (md_io M1) (md_po M1) (md_sp M1) (md_rs M1) (md_st M1) (md_av M1) (md_ip M1) (md_tx M1) (md_tm M1) (md_ta M1) (md_td M1) (md_wo M1) (md_sq M1) (md_tk M1) (md_bg M1) (md_nu M1) (md_wr M1))) (by rw [xu_eq (show h1 (fnd (like h1 r1 (i - 1)) (i - 1)) = h from hsp.1), xu_eq (show r1 (fnd (like h1 r1 (i - 1)) (i - 1)) = r1 (i - 1) from hsp.2)]) ?_
          refine xj.to (ls' := [some (.ref (xw_ad v 21 0)), some (.int h), some (.int x), some (.int (nI ((i - 1)) - 1)), none, none]) (by first | rfl | simp) (ih (i - 1) (m - 1) (shD (i - 1) (m - 1) h1) (shD (i - 1) (m - 1) r1) (shD (i - 1) (m - 1) (xu l1 (fnd (like h1 r1 (i - 1)) (i - 1)) (l1 (fnd (like h1 r1 (i - 1)) (i - 1)) + l1 (i - 1)))) (shD (i - 1) (m - 1) (xu lc (fnd (like h1 r1 (i - 1)) (i - 1)) (mn1 (lc (fnd (like h1 r1 (i - 1)) (i - 1)) + lc (i - 1))))) (xw_up G1 21 (pM v (md_th M1) (nR te ho ow (shD (i - 1) (m - 1) h1) (shD (i - 1) (m - 1) r1) (shD (i - 1) (m - 1) (xu l1 (fnd (like h1 r1 (i - 1)) (i - 1)) (l1 (fnd (like h1 r1 (i - 1)) (i - 1)) + l1 (i - 1)))) (nI (m - 1)) st av so ln) (md_pt M1) (md_re M1) (md_sd M1) (md_be M1) (md_pb M1) (md_ac M1) (md_od M1) (md_ad M1) (md_wy M1) (md_so M1) (md_rl M1) (md_io M1) (md_po M1) (md_sp M1) (md_rs M1) (md_st M1) (md_av M1) (md_ip M1) (md_tx M1) (md_tm M1) (md_ta M1) (md_td M1) (md_wo M1) (md_sq M1) (md_tk M1) (md_bg M1) (md_nu M1) (md_wr M1))) ((md_th M1, nR te ho ow (shD (i - 1) (m - 1) h1) (shD (i - 1) (m - 1) r1) (shD (i - 1) (m - 1) (xu l1 (fnd (like h1 r1 (i - 1)) (i - 1)) (l1 (fnd (like h1 r1 (i - 1)) (i - 1)) + l1 (i - 1)))) (nI (m - 1)) st av so ln, md_pt M1, md_re M1, md_sd M1, md_be M1, md_pb M1, md_ac M1, md_od M1, md_ad M1, md_wy M1, md_so M1, md_rl M1, md_io M1, md_po M1, md_sp M1, md_rs M1, md_st M1, md_av M1, md_ip M1, md_tx M1, md_tm M1, md_ta M1, md_td M1, md_wo M1, md_sq M1, md_tk M1, md_bg M1, md_nu M1, md_wr M1)) (by omega) (by omega) (by omega) ?_ (jI_s (by omega) hlt hj) xw_up_s hkM1 (fun g h => (xw_up_n h).trans (hfM1 g h)))
          rw [← hb]
          obtain ⟨i9, rfl⟩ : ∃ i9, i = i9 + 1 := ⟨i - 1, by omega⟩
          rw [jn_st, jnS_y (show jP h1 r1 h i9 = true from by simp only [jP]; rw [decide_eq_true (show h1 i9 = h from c75), decide_eq_true (show fnd (like h1 r1 i9) i9 < i9 from hlt)]; rfl)]
          rfl
        · refine xj_goto (tgt := 131) hk dX8_merge_95 (by decide) ?_
          refine xj_iinc (i := 3) (x2 := nI (i - 1) - 1) (ls2 := [some (.ref (xw_ad v 21 0)), some (.int h), some (.int x), some (.int (nI (i - 1) - 1)), some (.int (lkA h1 r1 (i - 1))), none]) hk dX8_merge_131 rfl (nI_decI _) (by decide) rfl rfl ?_
          refine xj_goto (tgt := 65) hk dX8_merge_134 (by decide) ?_
          refine xj.le (ls' := [some (.ref (xw_ad v 21 0)), some (.int h), some (.int x), some (.int (nI (i - 1) - 1)), none, none]) (by simp [xl_le] <;> rfl) ?_
          refine xj.to (ls' := [some (.ref (xw_ad v 21 0)), some (.int h), some (.int x), some (.int (nI ((i - 1)) - 1)), none, none]) (by first | rfl | simp) (ih (i - 1) m h1 r1 l1 lc G1 M1 (by omega) (by omega) hm30 ?_ hj hM1 hkM1 hfM1)
          rw [← hb]
          obtain ⟨i9, rfl⟩ : ∃ i9, i = i9 + 1 := ⟨i - 1, by omega⟩
          rw [jn_st, jnS_n (show jP h1 r1 h i9 = false from by simp only [jP]; rw [decide_eq_false (show ¬ fnd (like h1 r1 i9) i9 < i9 from (lkA_y (by omega)).mp c92), Bool.and_false])]
          rfl

set_option maxHeartbeats 1000000 in
set_option maxRecDepth 10000 in
theorem l_X8_merge_139 {v : xw_V} {κ : xk_K} {post : Option Value → xw_G → Prop} {z : Nat × Nat × Nat} {G : xw_G} {M : md_T} {te ho ow hs ra lo st av so : Nat → Int32} {ln : Int32} {n : Nat} {h x : Int32} (hk : xk_Ok v κ yX8_merge cX8_merge 6 (some .int) 3 68) (hz : xk_zf κ = z) (hM : G 21 = pM v (md_th M) (nR te ho ow hs ra lo (nI n) st av so ln) (md_pt M) (md_re M) (md_sd M) (md_be M) (md_pb M) (md_ac M) (md_od M) (md_ad M) (md_wy M) (md_so M) (md_rl M) (md_io M) (md_po M) (md_sp M) (md_rs M) (md_st M) (md_av M) (md_ip M) (md_tx M) (md_tm M) (md_ta M) (md_td M) (md_wo M) (md_sq M) (md_tk M) (md_bg M) (md_nu M) (md_wr M)) (hn30 : n ≤ 30) (kx : xj v κ post z (xw_up G 21 (pM v (md_th M) (nR te ho ow hs ra (cpN n (fun j => if lo j ≤ 1000 then lo j else 1000) lo) (nI n) st av so ln) (md_pt M) (md_re M) (md_sd M) (md_be M) (md_pb M) (md_ac M) (md_od M) (md_ad M) (md_wy M) (md_so M) (md_rl M) (md_io M) (md_po M) (md_sp M) (md_rs M) (md_st M) (md_av M) (md_ip M) (md_tx M) (md_tm M) (md_ta M) (md_td M) (md_wo M) (md_sq M) (md_tk M) (md_bg M) (md_nu M) (md_wr M))) 182 [some (.ref (xw_ad v 21 0)), some (.int h), some (.int x), some (.int (nI n)), none, none] []) : ∀ (m : Nat) (k : Nat), n - k < m → k ≤ n → xj v κ post z (xw_up G 21 (pM v (md_th M) (nR te ho ow hs ra (cpN k (fun j => if lo j ≤ 1000 then lo j else 1000) lo) (nI n) st av so ln) (md_pt M) (md_re M) (md_sd M) (md_be M) (md_pb M) (md_ac M) (md_od M) (md_ad M) (md_wy M) (md_so M) (md_rl M) (md_io M) (md_po M) (md_sp M) (md_rs M) (md_st M) (md_av M) (md_ip M) (md_tx M) (md_tm M) (md_ta M) (md_td M) (md_wo M) (md_sq M) (md_tk M) (md_bg M) (md_nu M) (md_wr M))) 139 [some (.ref (xw_ad v 21 0)), some (.int h), some (.int x), some (.int (nI k)), none, none] [] := by
  intro m
  induction m with
  | zero => intro k h; exact absurd h (Nat.not_lt_zero _)
  | succ m ih =>
    intro k hm hi
    refine xj_iload_n (i := 3) hk dX8_merge_139 rfl rfl ?_
    refine xj_aload_n (i := 0) hk dX8_merge_140 rfl rfl ?_
    refine xj_callV hk hz (fr1 := 0) (lo1 := 0) (r1 := some (.int (nI n))) (As := []) (st := [.int (nI k)]) (st2 := [.int (nI n), .int (nI k)]) (G1 := xw_up G 21 (pM v (md_th M) (nR te ho ow hs ra (cpN k (fun j => if lo j ≤ 1000 then lo j else 1000) lo) (nI n) st av so ln) (md_pt M) (md_re M) (md_sd M) (md_be M) (md_pb M) (md_ac M) (md_od M) (md_ad M) (md_wy M) (md_so M) (md_rl M) (md_io M) (md_po M) (md_sp M) (md_rs M) (md_st M) (md_av M) (md_ip M) (md_tx M) (md_tm M) (md_ta M) (md_td M) (md_wo M) (md_sq M) (md_tk M) (md_bg M) (md_nu M) (md_wr M))) ml_X8_73 (c_X8_many (M := M) (show (xw_up G 21 (pM v (md_th M) (nR te ho ow hs ra (cpN k (fun j => if lo j ≤ 1000 then lo j else 1000) lo) (nI n) st av so ln) (md_pt M) (md_re M) (md_sd M) (md_be M) (md_pb M) (md_ac M) (md_od M) (md_ad M) (md_wy M) (md_so M) (md_rl M) (md_io M) (md_po M) (md_sp M) (md_rs M) (md_st M) (md_av M) (md_ip M) (md_tx M) (md_tm M) (md_ta M) (md_td M) (md_wo M) (md_sq M) (md_tk M) (md_bg M) (md_nu M) (md_wr M))) 21 = pM v (md_th M) (nR te ho ow hs ra (cpN k (fun j => if lo j ≤ 1000 then lo j else 1000) lo) (nI n) st av so ln) (md_pt M) (md_re M) (md_sd M) (md_be M) (md_pb M) (md_ac M) (md_od M) (md_ad M) (md_wy M) (md_so M) (md_rl M) (md_io M) (md_po M) (md_sp M) (md_rs M) (md_st M) (md_av M) (md_ip M) (md_tx M) (md_tm M) (md_ta M) (md_td M) (md_wo M) (md_sq M) (md_tk M) (md_bg M) (md_nu M) (md_wr M) from xw_up_s)) (xw_at xw_up_s rfl) rfl dX8_merge_141 ⟨Nat.le_of_ble_eq_true rfl, Nat.le_of_ble_eq_true rfl⟩ rfl (Nat.le_of_ble_eq_true rfl) rfl rfl ?_
    refine xj_icmp_ge (tgt := 182) hk dX8_merge_144 (by decide) (fun c144 => ?_) (fun c144 => ?_)
    · have c144 : n ≤ k := (nI_leI (a := n) (b := k) (by omega) (by omega)).mp c144
      have e9 : k = n := by omega
      subst e9
      exact kx
    · have c144 : ¬ n ≤ k := fun q => c144 ((nI_leI (a := n) (b := k) (by omega) (by omega)).mpr q)
      refine xj_aload_n (i := 0) hk dX8_merge_147 rfl rfl ?_
      refine xj_iload_n (i := 3) hk dX8_merge_148 rfl rfl ?_
      refine xj_callV hk hz (fr1 := 0) (lo1 := 0) (r1 := some (.int ((cpN k (fun j => if lo j ≤ 1000 then lo j else 1000) lo) k))) (As := [.int (nI k)]) (st := []) (st2 := [.int ((cpN k (fun j => if lo j ≤ 1000 then lo j else 1000) lo) k)]) (G1 := xw_up G 21 (pM v (md_th M) (nR te ho ow hs ra (cpN k (fun j => if lo j ≤ 1000 then lo j else 1000) lo) (nI n) st av so ln) (md_pt M) (md_re M) (md_sd M) (md_be M) (md_pb M) (md_ac M) (md_od M) (md_ad M) (md_wy M) (md_so M) (md_rl M) (md_io M) (md_po M) (md_sp M) (md_rs M) (md_st M) (md_av M) (md_ip M) (md_tx M) (md_tm M) (md_ta M) (md_td M) (md_wo M) (md_sq M) (md_tk M) (md_bg M) (md_nu M) (md_wr M))) ml_X8_84 (c_X8_lotsOf (b := k) (M := M) (show (xw_up G 21 (pM v (md_th M) (nR te ho ow hs ra (cpN k (fun j => if lo j ≤ 1000 then lo j else 1000) lo) (nI n) st av so ln) (md_pt M) (md_re M) (md_sd M) (md_be M) (md_pb M) (md_ac M) (md_od M) (md_ad M) (md_wy M) (md_so M) (md_rl M) (md_io M) (md_po M) (md_sp M) (md_rs M) (md_st M) (md_av M) (md_ip M) (md_tx M) (md_tm M) (md_ta M) (md_td M) (md_wo M) (md_sq M) (md_tk M) (md_bg M) (md_nu M) (md_wr M))) 21 = pM v (md_th M) (nR te ho ow hs ra (cpN k (fun j => if lo j ≤ 1000 then lo j else 1000) lo) (nI n) st av so ln) (md_pt M) (md_re M) (md_sd M) (md_be M) (md_pb M) (md_ac M) (md_od M) (md_ad M) (md_wy M) (md_so M) (md_rl M) (md_io M) (md_po M) (md_sp M) (md_rs M) (md_st M) (md_av M) (md_ip M) (md_tx M) (md_tm M) (md_ta M) (md_td M) (md_wo M) (md_sq M) (md_tk M) (md_bg M) (md_nu M) (md_wr M) from xw_up_s) (by omega)) (xw_at xw_up_s rfl) rfl dX8_merge_149 ⟨Nat.le_of_ble_eq_true rfl, Nat.le_of_ble_eq_true rfl⟩ rfl (Nat.le_of_ble_eq_true rfl) rfl rfl ?_
      refine xj_sipush (x := 1000) hk dX8_merge_152 (by decide) ?_
      refine xj_icmp_le (tgt := 176) hk dX8_merge_155 (by decide) (fun c155 => ?_) (fun c155 => ?_)
      · refine xj_iinc (i := 3) (x2 := nI (k + 1)) (ls2 := [some (.ref (xw_ad v 21 0)), some (.int h), some (.int x), some (.int (nI (k + 1))), none, none]) hk dX8_merge_176 rfl (nI_1 k) (by decide) rfl rfl ?_
        refine xj_goto (tgt := 139) hk dX8_merge_179 (by decide) ?_
        refine xj.eqG (G' := xw_up G 21 (pM v (md_th M) (nR te ho ow hs ra (cpN ((k + 1)) (fun j => if lo j ≤ 1000 then lo j else 1000) lo) (nI n) st av so ln) (md_pt M) (md_re M) (md_sd M) (md_be M) (md_pb M) (md_ac M) (md_od M) (md_ad M) (md_wy M) (md_so M) (md_rl M) (md_io M) (md_po M) (md_sp M) (md_rs M) (md_st M) (md_av M) (md_ip M) (md_tx M) (md_tm M) (md_ta M) (md_td M) (md_wo M) (md_sq M) (md_tk M) (md_bg M) (md_nu M) (md_wr M))) (by rw [← cp_n (show (fun j => if lo j ≤ 1000 then lo j else 1000) k = lo k from by simp only []; rw [cp_at] at c155; rw [if_pos c155])]) (ih (k + 1) (by omega) (by omega))
      · refine xj_aload_n (i := 0) hk dX8_merge_158 rfl rfl ?_
        refine xj_iload_n (i := 3) hk dX8_merge_159 rfl rfl ?_
        refine xj_aload_n (i := 0) hk dX8_merge_160 rfl rfl ?_
        refine xj_iload_n (i := 3) hk dX8_merge_161 rfl rfl ?_
        refine xj_callV hk hz (fr1 := 0) (lo1 := 0) (r1 := some (.int (hs k))) (As := [.int (nI k)]) (st := [.int (nI k), .ref (xw_ad v 21 0)]) (st2 := [.int (hs k), .int (nI k), .ref (xw_ad v 21 0)]) (G1 := xw_up G 21 (pM v (md_th M) (nR te ho ow hs ra (cpN k (fun j => if lo j ≤ 1000 then lo j else 1000) lo) (nI n) st av so ln) (md_pt M) (md_re M) (md_sd M) (md_be M) (md_pb M) (md_ac M) (md_od M) (md_ad M) (md_wy M) (md_so M) (md_rl M) (md_io M) (md_po M) (md_sp M) (md_rs M) (md_st M) (md_av M) (md_ip M) (md_tx M) (md_tm M) (md_ta M) (md_td M) (md_wo M) (md_sq M) (md_tk M) (md_bg M) (md_nu M) (md_wr M))) ml_X8_81 (c_X8_houseOf (b := k) (M := M) (show (xw_up G 21 (pM v (md_th M) (nR te ho ow hs ra (cpN k (fun j => if lo j ≤ 1000 then lo j else 1000) lo) (nI n) st av so ln) (md_pt M) (md_re M) (md_sd M) (md_be M) (md_pb M) (md_ac M) (md_od M) (md_ad M) (md_wy M) (md_so M) (md_rl M) (md_io M) (md_po M) (md_sp M) (md_rs M) (md_st M) (md_av M) (md_ip M) (md_tx M) (md_tm M) (md_ta M) (md_td M) (md_wo M) (md_sq M) (md_tk M) (md_bg M) (md_nu M) (md_wr M))) 21 = pM v (md_th M) (nR te ho ow hs ra (cpN k (fun j => if lo j ≤ 1000 then lo j else 1000) lo) (nI n) st av so ln) (md_pt M) (md_re M) (md_sd M) (md_be M) (md_pb M) (md_ac M) (md_od M) (md_ad M) (md_wy M) (md_so M) (md_rl M) (md_io M) (md_po M) (md_sp M) (md_rs M) (md_st M) (md_av M) (md_ip M) (md_tx M) (md_tm M) (md_ta M) (md_td M) (md_wo M) (md_sq M) (md_tk M) (md_bg M) (md_nu M) (md_wr M) from xw_up_s) (by omega)) (xw_at xw_up_s rfl) rfl dX8_merge_162 ⟨Nat.le_of_ble_eq_true rfl, Nat.le_of_ble_eq_true rfl⟩ rfl (Nat.le_of_ble_eq_true rfl) rfl rfl ?_
        refine xj_aload_n (i := 0) hk dX8_merge_165 rfl rfl ?_
        refine xj_iload_n (i := 3) hk dX8_merge_166 rfl rfl ?_
        refine xj_callV hk hz (fr1 := 0) (lo1 := 0) (r1 := some (.int (ra k))) (As := [.int (nI k)]) (st := [.int (hs k), .int (nI k), .ref (xw_ad v 21 0)]) (st2 := [.int (ra k), .int (hs k), .int (nI k), .ref (xw_ad v 21 0)]) (G1 := xw_up G 21 (pM v (md_th M) (nR te ho ow hs ra (cpN k (fun j => if lo j ≤ 1000 then lo j else 1000) lo) (nI n) st av so ln) (md_pt M) (md_re M) (md_sd M) (md_be M) (md_pb M) (md_ac M) (md_od M) (md_ad M) (md_wy M) (md_so M) (md_rl M) (md_io M) (md_po M) (md_sp M) (md_rs M) (md_st M) (md_av M) (md_ip M) (md_tx M) (md_tm M) (md_ta M) (md_td M) (md_wo M) (md_sq M) (md_tk M) (md_bg M) (md_nu M) (md_wr M))) ml_X8_77 (c_X8_rateOf (b := k) (M := M) (show (xw_up G 21 (pM v (md_th M) (nR te ho ow hs ra (cpN k (fun j => if lo j ≤ 1000 then lo j else 1000) lo) (nI n) st av so ln) (md_pt M) (md_re M) (md_sd M) (md_be M) (md_pb M) (md_ac M) (md_od M) (md_ad M) (md_wy M) (md_so M) (md_rl M) (md_io M) (md_po M) (md_sp M) (md_rs M) (md_st M) (md_av M) (md_ip M) (md_tx M) (md_tm M) (md_ta M) (md_td M) (md_wo M) (md_sq M) (md_tk M) (md_bg M) (md_nu M) (md_wr M))) 21 = pM v (md_th M) (nR te ho ow hs ra (cpN k (fun j => if lo j ≤ 1000 then lo j else 1000) lo) (nI n) st av so ln) (md_pt M) (md_re M) (md_sd M) (md_be M) (md_pb M) (md_ac M) (md_od M) (md_ad M) (md_wy M) (md_so M) (md_rl M) (md_io M) (md_po M) (md_sp M) (md_rs M) (md_st M) (md_av M) (md_ip M) (md_tx M) (md_tm M) (md_ta M) (md_td M) (md_wo M) (md_sq M) (md_tk M) (md_bg M) (md_nu M) (md_wr M) from xw_up_s) (by omega)) (xw_at xw_up_s rfl) rfl dX8_merge_167 ⟨Nat.le_of_ble_eq_true rfl, Nat.le_of_ble_eq_true rfl⟩ rfl (Nat.le_of_ble_eq_true rfl) rfl rfl ?_
        refine xj_sipush (x := 1000) hk dX8_merge_170 (by decide) ?_
        refine xj_callV hk hz (fr1 := 0) (lo1 := 0) (r1 := none) (As := [.int (nI k), .int (hs k), .int (ra k), .int 1000]) (st := []) (st2 := []) (G1 := xw_up G 21 (pM v (md_th M) (nR te ho ow (xu hs k (hs k)) (xu ra k (ra k)) (xu (cpN k (fun j => if lo j ≤ 1000 then lo j else 1000) lo) k 1000) (nI n) st av so ln) (md_pt M) (md_re M) (md_sd M) (md_be M) (md_pb M) (md_ac M) (md_od M) (md_ad M) (md_wy M) (md_so M) (md_rl M) (md_io M) (md_po M) (md_sp M) (md_rs M) (md_st M) (md_av M) (md_ip M) (md_tx M) (md_tm M) (md_ta M) (md_td M) (md_wo M) (md_sq M) (md_tk M) (md_bg M) (md_nu M) (md_wr M))) ml_X8_87 (xk_cg (by rw [xw_up_u] <;> rfl) (c_X8_lays (b := k) (M := M) (show (xw_up G 21 (pM v (md_th M) (nR te ho ow hs ra (cpN k (fun j => if lo j ≤ 1000 then lo j else 1000) lo) (nI n) st av so ln) (md_pt M) (md_re M) (md_sd M) (md_be M) (md_pb M) (md_ac M) (md_od M) (md_ad M) (md_wy M) (md_so M) (md_rl M) (md_io M) (md_po M) (md_sp M) (md_rs M) (md_st M) (md_av M) (md_ip M) (md_tx M) (md_tm M) (md_ta M) (md_td M) (md_wo M) (md_sq M) (md_tk M) (md_bg M) (md_nu M) (md_wr M))) 21 = pM v (md_th M) (nR te ho ow hs ra (cpN k (fun j => if lo j ≤ 1000 then lo j else 1000) lo) (nI n) st av so ln) (md_pt M) (md_re M) (md_sd M) (md_be M) (md_pb M) (md_ac M) (md_od M) (md_ad M) (md_wy M) (md_so M) (md_rl M) (md_io M) (md_po M) (md_sp M) (md_rs M) (md_st M) (md_av M) (md_ip M) (md_tx M) (md_tm M) (md_ta M) (md_td M) (md_wo M) (md_sq M) (md_tk M) (md_bg M) (md_nu M) (md_wr M) from xw_up_s) (by omega) (hs k) (ra k) 1000)) (xw_at xw_up_s rfl) rfl dX8_merge_173 ⟨Nat.le_of_ble_eq_true rfl, Nat.le_of_ble_eq_true rfl⟩ rfl (Nat.le_of_ble_eq_true rfl) rfl rfl ?_
        refine xj_iinc (i := 3) (x2 := nI (k + 1)) (ls2 := [some (.ref (xw_ad v 21 0)), some (.int h), some (.int x), some (.int (nI (k + 1))), none, none]) hk dX8_merge_176 rfl (nI_1 k) (by decide) rfl rfl ?_
        refine xj_goto (tgt := 139) hk dX8_merge_179 (by decide) ?_
        refine xj.eqG (G' := xw_up G 21 (pM v (md_th M) (nR te ho ow hs ra (cpN ((k + 1)) (fun j => if lo j ≤ 1000 then lo j else 1000) lo) (nI n) st av so ln) (md_pt M) (md_re M) (md_sd M) (md_be M) (md_pb M) (md_ac M) (md_od M) (md_ad M) (md_wy M) (md_so M) (md_rl M) (md_io M) (md_po M) (md_sp M) (md_rs M) (md_st M) (md_av M) (md_ip M) (md_tx M) (md_tm M) (md_ta M) (md_td M) (md_wo M) (md_sq M) (md_tk M) (md_bg M) (md_nu M) (md_wr M))) (by rw [xu_id, xu_id, ← cp_s]; rw [cp_at] at c155; rw [if_neg c155]) (ih (k + 1) (by omega) (by omega))

theorem jI_e {m : Nat} {l1 lc : Nat → Int32} (h : jI m l1 lc) : ∀ j, j < m → cpN m (fun j => if l1 j ≤ 1000 then l1 j else 1000) l1 j = lc j := by
  intro j hj
  obtain ⟨c, hc, hs⟩ := h
  obtain ⟨a1, a2, a3⟩ := hc j hj
  have := nS_el (c := c) hj
  simp only [cpN, if_pos hj]
  rw [a1, a3]
  by_cases d : c j ≤ 1000
  · rw [if_pos (show nI (c j) ≤ (1000 : Int32) from (nI_leI (a := c j) (b := 1000) (by omega) (by decide)).mpr d), show min (c j) 1000 = c j by omega]
  · rw [if_neg (show ¬ nI (c j) ≤ (1000 : Int32) from fun q => d ((nI_leI (a := c j) (b := 1000) (by omega) (by decide)).mp q)), show min (c j) 1000 = 1000 by omega]; rfl
theorem cM_jn {hs ra lo : Nat → Int32} {h : Int32} {n : Nat} : n - (bd_jn h n (n, hs, ra, lo)).1 = cM hs ra h n := by
  have := jn_cnt (hs := hs) (ra := ra) (h := h) n (n, hs, ra, lo) (Nat.le_refl n) (fun _ _ => ⟨rfl, rfl⟩)
  have e : ((n, hs, ra, lo) : bd_T).1 = n := rfl
  omega
set_option maxHeartbeats 1000000 in
set_option maxRecDepth 10000 in
theorem c_X8_merge {v : xw_V} {G : xw_G} {M : md_T} {te ho ow hs ra lo st av so : Nat → Int32} {ln : Int32} {n a : Nat} (hM : G 21 = pM v (md_th M) (nR te ho ow hs ra lo (nI n) st av so ln) (md_pt M) (md_re M) (md_sd M) (md_be M) (md_pb M) (md_ac M) (md_od M) (md_ad M) (md_wy M) (md_so M) (md_rl M) (md_io M) (md_po M) (md_sp M) (md_rs M) (md_st M) (md_av M) (md_ip M) (md_tx M) (md_tm M) (md_ta M) (md_td M) (md_wo M) (md_sq M) (md_tk M) (md_bg M) (md_nu M) (md_wr M)) (hq : MV te ow hs ra lo n) (hac : md_ac M = nI a) (ha12 : a ≤ 12) (h : Int32) : xk_Con v yX8_merge cX8_merge 6 (some .int) 3 68 [.ref (xw_ad v 21 0), .int h] G (fun r9 G' => (isH h = true ∧ ¬ n - (bd_jn h n (n, hs, ra, lo)).1 = 0 ∧ ∃ (be1 : Nat → Int32) (pb1 : Nat → Int64) (l9 : Nat → Int32), KP a (nR te ho ow hs ra lo (nI n) st av so ln) (md_be M) (md_pt M) (md_pb M) be1 pb1 ∧ (∀ j, j < (bd_jn h n (n, hs, ra, lo)).1 → l9 j = (bd_jn h n (n, hs, ra, lo)).2.2.2 j) ∧ r9 = some (.int (nI (n - (bd_jn h n (n, hs, ra, lo)).1))) ∧ mAc v G G' (nR te ho ow ((bd_jn h n (n, hs, ra, lo)).2.1) ((bd_jn h n (n, hs, ra, lo)).2.2.1) l9 (nI (bd_jn h n (n, hs, ra, lo)).1) st av so ln) (md_pt M) be1 pb1 (nI (min a 11 + 1)) (md_ta M) (md_td M) (md_wo M)) ∨ ((isH h = false ∨ n - (bd_jn h n (n, hs, ra, lo)).1 = 0) ∧ r9 = some (.int (-1)) ∧ mQ v G G' (nR te ho ow hs ra lo (nI n) st av so ln) M)) := by
  refine xk_of (ls0 := [some (.ref (xw_ad v 21 0)), some (.int h), none, none, none, none]) (by decide) rfl (Nat.le_of_ble_eq_true rfl) ?_
  intro κ z hk hz
  have hn30 : n ≤ 30 := hq.1
  refine xj_iload_n (i := 1) hk dX8_merge_0 rfl rfl ?_
  refine xj_callS hk hz (fr1 := 1) (lo1 := 22) (r1 := some (.int (xb (mIn h 0 7)))) (As := [.int h]) (st := []) (st2 := [.int (xb (mIn h 0 7))]) (G1 := G) ml_X8_95 (c_X8_isHouse h) dX8_merge_1 ⟨Nat.le_of_ble_eq_true rfl, Nat.le_of_ble_eq_true rfl⟩ rfl (Nat.le_of_ble_eq_true rfl) rfl rfl ?_
  refine xj_ifb_ne (tgt := 9) hk dX8_merge_4 (by decide) (fun c4 => ?_) (fun c4 => ?_)
  · refine xj_iconst (x := 0) hk dX8_merge_9 (by decide) ?_
    refine xj_istore_n (i := 2) (ls2 := [some (.ref (xw_ad v 21 0)), some (.int h), some (.int 0), none, none, none]) hk dX8_merge_10 rfl (by decide) rfl rfl ?_
    refine xj_iconst (x := 0) hk dX8_merge_11 (by decide) ?_
    refine xj_istore_n (i := 3) (ls2 := [some (.ref (xw_ad v 21 0)), some (.int h), some (.int 0), some (.int 0), none, none]) hk dX8_merge_12 rfl (by decide) rfl rfl ?_
    refine xj.to (ls' := [some (.ref (xw_ad v 21 0)), some (.int h), some (.int (sm (fun j => if hs j = h then (if lkA hs ra j = -1 then 0 else 1) else 0) 0)), some (.int (nI 0)), none, none]) (by first | rfl | simp [sm]) ?_
    refine l_X8_merge_13 (M := M) hk hz (show G 21 = pM v (md_th M) (nR te ho ow hs ra lo (nI n) st av so ln) (md_pt M) (md_re M) (md_sd M) (md_be M) (md_pb M) (md_ac M) (md_od M) (md_ad M) (md_wy M) (md_so M) (md_rl M) (md_io M) (md_po M) (md_sp M) (md_rs M) (md_st M) (md_av M) (md_ip M) (md_tx M) (md_tm M) (md_ta M) (md_td M) (md_wo M) (md_sq M) (md_tk M) (md_bg M) (md_nu M) (md_wr M) from hM) hn30 h ?_ (n + 1) 0 (by omega) (by omega)
    refine xj.to (ls' := [some (.ref (xw_ad v 21 0)), some (.int h), some (.int (sm (fun j => if hs j = h then (if lkA hs ra j = -1 then 0 else 1) else 0) n)), some (.int (nI n)), none, none]) rfl ?_
    have hcm := cM_sm (hs := hs) (ra := ra) (h := h) hn30
    refine xj_iload_n (i := 2) hk dX8_merge_48 rfl rfl ?_
    refine xj_if_ne (tgt := 54) hk dX8_merge_49 (by decide) (fun c49 => ?_) (fun c49 => ?_)
    · have hc0 : ¬ cM hs ra h n = 0 := fun q => c49 (by rw [hcm.1, q]; rfl)
      refine xj_aload_n (i := 0) hk dX8_merge_54 rfl rfl ?_
      refine xj_callVE hk hz (fr1 := 0) (lo1 := 0) (As := []) (st := []) ml_X8_105 (c_X8_keeps (a := a) (M := (md_th M, nR te ho ow hs ra lo (nI n) st av so ln, md_pt M, md_re M, md_sd M, md_be M, md_pb M, md_ac M, md_od M, md_ad M, md_wy M, md_so M, md_rl M, md_io M, md_po M, md_sp M, md_rs M, md_st M, md_av M, md_ip M, md_tx M, md_tm M, md_ta M, md_td M, md_wo M, md_sq M, md_tk M, md_bg M, md_nu M, md_wr M)) (show G 21 = pM v (md_th M) (nR te ho ow hs ra lo (nI n) st av so ln) (md_pt M) (md_re M) (md_sd M) (md_be M) (md_pb M) (md_ac M) (md_od M) (md_ad M) (md_wy M) (md_so M) (md_rl M) (md_io M) (md_po M) (md_sp M) (md_rs M) (md_st M) (md_av M) (md_ip M) (md_tx M) (md_tm M) (md_ta M) (md_td M) (md_wo M) (md_sq M) (md_tk M) (md_bg M) (md_nu M) (md_wr M) from hM) hac ha12) (xw_at hM rfl) rfl dX8_merge_55 ⟨Nat.le_of_ble_eq_true rfl, Nat.le_of_ble_eq_true rfl⟩ rfl (Nat.le_of_ble_eq_true rfl) rfl ?_
      rintro _ _ ⟨rfl, be1, pb1, hKP, rfl⟩
      have hKP : KP a (nR te ho ow hs ra lo (nI n) st av so ln) (md_be M) (md_pt M) (md_pb M) be1 pb1 := hKP
      show xj v κ _ z (xw_up G 21 (pM v (md_th M) (nR te ho ow hs ra lo (nI n) st av so ln) (md_pt M) (md_re M) (md_sd M) be1 pb1 (nI (min a 11 + 1)) (md_od M) (md_ad M) (md_wy M) (md_so M) (md_rl M) (md_io M) (md_po M) (md_sp M) (md_rs M) (md_st M) (md_av M) (md_ip M) (md_tx M) (md_tm M) (md_ta M) (md_td M) (md_wo M) (md_sq M) (md_tk M) (md_bg M) (md_nu M) (md_wr M))) 58 _ []
      refine xj_aload_n (i := 0) hk dX8_merge_58 rfl rfl ?_
      refine xj_callV hk hz (fr1 := 0) (lo1 := 0) (r1 := some (.int (nI n))) (As := []) (st := []) (st2 := [.int (nI n)]) (G1 := xw_up G 21 (pM v (md_th M) (nR te ho ow hs ra lo (nI n) st av so ln) (md_pt M) (md_re M) (md_sd M) be1 pb1 (nI (min a 11 + 1)) (md_od M) (md_ad M) (md_wy M) (md_so M) (md_rl M) (md_io M) (md_po M) (md_sp M) (md_rs M) (md_st M) (md_av M) (md_ip M) (md_tx M) (md_tm M) (md_ta M) (md_td M) (md_wo M) (md_sq M) (md_tk M) (md_bg M) (md_nu M) (md_wr M))) ml_X8_73 (c_X8_many (M := (md_th M, nR te ho ow hs ra lo (nI n) st av so ln, md_pt M, md_re M, md_sd M, be1, pb1, nI (min a 11 + 1), md_od M, md_ad M, md_wy M, md_so M, md_rl M, md_io M, md_po M, md_sp M, md_rs M, md_st M, md_av M, md_ip M, md_tx M, md_tm M, md_ta M, md_td M, md_wo M, md_sq M, md_tk M, md_bg M, md_nu M, md_wr M)) (show (xw_up G 21 (pM v (md_th M) (nR te ho ow hs ra lo (nI n) st av so ln) (md_pt M) (md_re M) (md_sd M) be1 pb1 (nI (min a 11 + 1)) (md_od M) (md_ad M) (md_wy M) (md_so M) (md_rl M) (md_io M) (md_po M) (md_sp M) (md_rs M) (md_st M) (md_av M) (md_ip M) (md_tx M) (md_tm M) (md_ta M) (md_td M) (md_wo M) (md_sq M) (md_tk M) (md_bg M) (md_nu M) (md_wr M))) 21 = pM v (md_th M) (nR te ho ow hs ra lo (nI n) st av so ln) (md_pt M) (md_re M) (md_sd M) be1 pb1 (nI (min a 11 + 1)) (md_od M) (md_ad M) (md_wy M) (md_so M) (md_rl M) (md_io M) (md_po M) (md_sp M) (md_rs M) (md_st M) (md_av M) (md_ip M) (md_tx M) (md_tm M) (md_ta M) (md_td M) (md_wo M) (md_sq M) (md_tk M) (md_bg M) (md_nu M) (md_wr M) from xw_up_s)) (xw_at xw_up_s rfl) rfl dX8_merge_59 ⟨Nat.le_of_ble_eq_true rfl, Nat.le_of_ble_eq_true rfl⟩ rfl (Nat.le_of_ble_eq_true rfl) rfl rfl ?_
      refine xj_iconst (x := 1) hk dX8_merge_62 (by decide) ?_
      refine xj_isub hk dX8_merge_63 ?_
      refine xj.eqi (x' := nI n - 1) rfl ?_
      refine xj_istore_n (i := 3) (ls2 := [some (.ref (xw_ad v 21 0)), some (.int h), some (.int (sm (fun j => if hs j = h then (if lkA hs ra j = -1 then 0 else 1) else 0) n)), some (.int (nI n - 1)), none, none]) hk dX8_merge_64 rfl (by decide) rfl rfl ?_
      refine l_X8_merge_65 (G := xw_up G 21 (pM v (md_th M) (nR te ho ow hs ra lo (nI n) st av so ln) (md_pt M) (md_re M) (md_sd M) be1 pb1 (nI (min a 11 + 1)) (md_od M) (md_ad M) (md_wy M) (md_so M) (md_rl M) (md_io M) (md_po M) (md_sp M) (md_rs M) (md_st M) (md_av M) (md_ip M) (md_tx M) (md_tm M) (md_ta M) (md_td M) (md_wo M) (md_sq M) (md_tk M) (md_bg M) (md_nu M) (md_wr M))) (M := (md_th M, nR te ho ow hs ra lo (nI n) st av so ln, md_pt M, md_re M, md_sd M, be1, pb1, nI (min a 11 + 1), md_od M, md_ad M, md_wy M, md_so M, md_rl M, md_io M, md_po M, md_sp M, md_rs M, md_st M, md_av M, md_ip M, md_tx M, md_tm M, md_ta M, md_td M, md_wo M, md_sq M, md_tk M, md_bg M, md_nu M, md_wr M)) (n := n) (te := te) (ow := ow) (hs := hs) (ra := ra) (lo := lo) hk hz (fun m h1 r1 l1 lc G1 M1 hm30 hb hj hM1 hkM1 hfM1 => ?_) (n + 1) n n hs ra lo lo (xw_up G 21 (pM v (md_th M) (nR te ho ow hs ra lo (nI n) st av so ln) (md_pt M) (md_re M) (md_sd M) be1 pb1 (nI (min a 11 + 1)) (md_od M) (md_ad M) (md_wy M) (md_so M) (md_rl M) (md_io M) (md_po M) (md_sp M) (md_rs M) (md_st M) (md_av M) (md_ip M) (md_tx M) (md_tm M) (md_ta M) (md_td M) (md_wo M) (md_sq M) (md_tk M) (md_bg M) (md_nu M) (md_wr M))) ((md_th M, nR te ho ow hs ra lo (nI n) st av so ln, md_pt M, md_re M, md_sd M, be1, pb1, nI (min a 11 + 1), md_od M, md_ad M, md_wy M, md_so M, md_rl M, md_io M, md_po M, md_sp M, md_rs M, md_st M, md_av M, md_ip M, md_tx M, md_tm M, md_ta M, md_td M, md_wo M, md_sq M, md_tk M, md_bg M, md_nu M, md_wr M)) (by omega) (by omega) hn30 rfl (jI_0 hn30 (fun b hb => (hq.2.2.2.2 b hb).2)) xw_up_s (mK_r _) (fun _ _ => rfl)
      refine xj_iconst (x := 0) hk dX8_merge_137 (by decide) ?_
      refine xj_istore_n (i := 3) (ls2 := [some (.ref (xw_ad v 21 0)), some (.int h), some (.int (sm (fun j => if hs j = h then (if lkA hs ra j = -1 then 0 else 1) else 0) n)), some (.int 0), none, none]) hk dX8_merge_138 rfl (by decide) rfl rfl ?_
      refine xj.eqG (G' := xw_up G1 21 (pM v (md_th M1) (nR te ho ow h1 r1 (cpN 0 (fun j => if l1 j ≤ 1000 then l1 j else 1000) l1) (nI m) st av so ln) (md_pt M1) (md_re M1) (md_sd M1) (md_be M1) (md_pb M1) (md_ac M1) (md_od M1) (md_ad M1) (md_wy M1) (md_so M1) (md_rl M1) (md_io M1) (md_po M1) (md_sp M1) (md_rs M1) (md_st M1) (md_av M1) (md_ip M1) (md_tx M1) (md_tm M1) (md_ta M1) (md_td M1) (md_wo M1) (md_sq M1) (md_tk M1) (md_bg M1) (md_nu M1) (md_wr M1))) (by simp only [cp_0]; exact (xw_up_same hM1).symm) ?_
      refine l_X8_merge_139 (n := m) (M := M1) hk hz hM1 hm30 ?_ (m + 1) 0 (by omega) (by omega)
      refine xj_iload_n (i := 2) hk dX8_merge_182 rfl rfl ?_
      refine xj_ireturn hk hz dX8_merge_183 ?_
      refine Or.inl ⟨ih_tt c4, ?_, be1, pb1, cpN m (fun j => if l1 j ≤ 1000 then l1 j else 1000) l1, hKP, ?_, ?_, ?_⟩
      · rw [cM_jn]; exact hc0
      · rw [← hb]; exact jI_e hj
      · rw [cM_jn, ← hcm.1]
      · rw [← hb]
        refine ⟨⟨M1, xw_up_s, hkM1⟩, fun g h => (xw_up_n h).trans ((hfM1 g h).trans (xw_up_n h))⟩
    · refine xj_iconst (x := (-1)) hk dX8_merge_52 (by decide) ?_
      refine xj_ireturn hk hz dX8_merge_53 ?_
      refine Or.inr ⟨Or.inr ?_, rfl, ⟨⟨M, hM, rfl, rfl, rfl, rfl, rfl, rfl, rfl⟩, fun _ _ => rfl⟩⟩
      rw [cM_jn]
      rw [hcm.1] at c49
      exact (nI_eq (a := cM hs ra h n) (b := 0) (by omega) (by omega)).mp c49
  · refine xj_iconst (x := (-1)) hk dX8_merge_7 (by decide) ?_
    refine xj_ireturn hk hz dX8_merge_8 ?_
    exact Or.inr ⟨Or.inl (ih_f c4), rfl, ⟨⟨M, hM, rfl, rfl, rfl, rfl, rfl, rfl, rfl⟩, fun _ _ => rfl⟩⟩


theorem bid_lo {hs lo : Nat → Int32} {x : Int32} {n : Nat} (hn : n ≤ 30) (hl : ∀ b, b < n → 1 ≤ lo b ∧ lo b ≤ 1000) : (sm (fun j => if hs j = x then 1 else 0) n ≤ 0) ↔ (sm (sel hs x lo) n ≤ 0) := by
  have e1 : sm (fun j => if hs j = x then 1 else 0) n = nI (nS (fun j => if hs j = x then 1 else 0) n) := sm_nS (fun j hj => by split <;> rfl)
  obtain ⟨c, hc⟩ : ∃ c : Nat → Nat, ∀ j, j < n → lo j = nI (c j) ∧ 1 ≤ c j ∧ c j ≤ 1000 := ⟨fun j => xn (lo j), fun j hj => by
    obtain ⟨h1, h2⟩ := hl j hj
    have h0 : 0 ≤ lo j := Int32.le_trans (by decide) h1
    have a := xn_le (by decide) h1
    have b := xn_le h0 h2
    exact ⟨nI_xn h0, a, b⟩⟩
  have e2 : sm (sel hs x lo) n = nI (nS (fun j => if hs j = x then c j else 0) n) := sm_nS (fun j hj => by
    simp only [sel]
    split
    · exact (hc j hj).1
    · rfl)
  have b1 : nS (fun j => if hs j = x then 1 else 0) n ≤ nS (fun j => if hs j = x then c j else 0) n := nS_le (fun j hj => by
    split
    · exact (hc j hj).2.1
    · exact Nat.le_refl _)
  have b2 : nS (fun j => if hs j = x then c j else 0) n ≤ 1000 * nS (fun j => if hs j = x then 1 else 0) n := by
    rw [← nS_mul]
    refine nS_le (fun j hj => ?_)
    split
    · have := (hc j hj).2.2; omega
    · exact Nat.zero_le _
  have b3 : nS (fun j => if hs j = x then 1 else 0) n ≤ 1 * n := nS_bd (fun j _ => by split <;> omega)
  rw [e1, e2]
  generalize nS (fun j => if hs j = x then 1 else 0) n = p at *
  generalize nS (fun j => if hs j = x then c j else 0) n = q at *
  constructor
  · intro h
    have := (nI_leI (a := p) (b := 0) (by omega) (by omega)).mp h
    exact (nI_leI (a := q) (b := 0) (by omega) (by omega)).mpr (by omega)
  · intro h
    have := (nI_leI (a := q) (b := 0) (by omega) (by omega)).mp h
    exact (nI_leI (a := p) (b := 0) (by omega) (by omega)).mpr (by omega)
set_option maxHeartbeats 1000000 in
set_option maxRecDepth 10000 in
theorem l_X8_count_63 {v : xw_V} {κ : xk_K} {post : Option Value → xw_G → Prop} {z : Nat × Nat × Nat} {G : xw_G} {M : md_T} {te ho ow hs ra lo st av so : Nat → Int32} {ln : Int32} {n : Nat} (hk : xk_Ok v κ yX8_count cX8_count 4 (some .int) 4 89) (hz : xk_zf κ = z) (hM : G 21 = pM v (md_th M) (nR te ho ow hs ra lo (nI n) st av so ln) (md_pt M) (md_re M) (md_sd M) (md_be M) (md_pb M) (md_ac M) (md_od M) (md_ad M) (md_wy M) (md_so M) (md_rl M) (md_io M) (md_po M) (md_sp M) (md_rs M) (md_st M) (md_av M) (md_ip M) (md_tx M) (md_tm M) (md_ta M) (md_td M) (md_wo M) (md_sq M) (md_tk M) (md_bg M) (md_nu M) (md_wr M)) (hn30 : n ≤ 30) (w : Int32) (kx : xj v κ post z G 88 [some (.ref (xw_ad v 21 0)), some (.int w), some (.int (sm (fun j => if ra j = -1 then 1 else 0) n)), some (.int (nI n))] []) : ∀ (m : Nat) (k : Nat), n - k < m → k ≤ n → xj v κ post z G 63 [some (.ref (xw_ad v 21 0)), some (.int w), some (.int (sm (fun j => if ra j = -1 then 1 else 0) k)), some (.int (nI k))] [] := by
  intro m
  induction m with
  | zero => intro k h; exact absurd h (Nat.not_lt_zero _)
  | succ m ih =>
    intro k hm hi
    refine xj_iload_n (i := 3) hk dX8_count_63 rfl rfl ?_
    refine xj_aload_n (i := 0) hk dX8_count_64 rfl rfl ?_
    refine xj_callV hk hz (fr1 := 0) (lo1 := 0) (r1 := some (.int (nI n))) (As := []) (st := [.int (nI k)]) (st2 := [.int (nI n), .int (nI k)]) (G1 := G) ml_X8_73 (c_X8_many (M := M) (show G 21 = pM v (md_th M) (nR te ho ow hs ra lo (nI n) st av so ln) (md_pt M) (md_re M) (md_sd M) (md_be M) (md_pb M) (md_ac M) (md_od M) (md_ad M) (md_wy M) (md_so M) (md_rl M) (md_io M) (md_po M) (md_sp M) (md_rs M) (md_st M) (md_av M) (md_ip M) (md_tx M) (md_tm M) (md_ta M) (md_td M) (md_wo M) (md_sq M) (md_tk M) (md_bg M) (md_nu M) (md_wr M) from hM)) (xw_at hM rfl) rfl dX8_count_65 ⟨Nat.le_of_ble_eq_true rfl, Nat.le_of_ble_eq_true rfl⟩ rfl (Nat.le_of_ble_eq_true rfl) rfl rfl ?_
    refine xj_icmp_ge (tgt := 88) hk dX8_count_68 (by decide) (fun c68 => ?_) (fun c68 => ?_)
    · have c68 : n ≤ k := (nI_leI (a := n) (b := k) (by omega) (by omega)).mp c68
      have e9 : k = n := by omega
      subst e9
      exact kx
    · have c68 : ¬ n ≤ k := fun q => c68 ((nI_leI (a := n) (b := k) (by omega) (by omega)).mpr q)
      refine xj_aload_n (i := 0) hk dX8_count_71 rfl rfl ?_
      refine xj_iload_n (i := 3) hk dX8_count_72 rfl rfl ?_
      refine xj_callV hk hz (fr1 := 1) (lo1 := 21) (r1 := some (.int (xb (decide (ra k = -1))))) (As := [.int (nI k)]) (st := []) (st2 := [.int (xb (decide (ra k = -1)))]) (G1 := G) ml_X8_115 (c_X8_isPlain (b := k) (M := M) (show G 21 = pM v (md_th M) (nR te ho ow hs ra lo (nI n) st av so ln) (md_pt M) (md_re M) (md_sd M) (md_be M) (md_pb M) (md_ac M) (md_od M) (md_ad M) (md_wy M) (md_so M) (md_rl M) (md_io M) (md_po M) (md_sp M) (md_rs M) (md_st M) (md_av M) (md_ip M) (md_tx M) (md_tm M) (md_ta M) (md_td M) (md_wo M) (md_sq M) (md_tk M) (md_bg M) (md_nu M) (md_wr M) from hM) (by omega)) (xw_at hM rfl) rfl dX8_count_73 ⟨Nat.le_of_ble_eq_true rfl, Nat.le_of_ble_eq_true rfl⟩ rfl (Nat.le_of_ble_eq_true rfl) rfl rfl ?_
      refine xj_ifb_eq (tgt := 82) hk dX8_count_76 (by decide) (fun c76 => ?_) (fun c76 => ?_)
      · refine xj_iinc (i := 3) (x2 := nI (k + 1)) (ls2 := [some (.ref (xw_ad v 21 0)), some (.int w), some (.int (sm (fun j => if ra j = -1 then 1 else 0) k)), some (.int (nI (k + 1)))]) hk dX8_count_82 rfl (nI_1 k) (by decide) rfl rfl ?_
        refine xj_goto (tgt := 63) hk dX8_count_85 (by decide) ?_
        refine xj.to (ls' := [some (.ref (xw_ad v 21 0)), some (.int w), some (.int (sm (fun j => if ra j = -1 then 1 else 0) ((k + 1)))), some (.int (nI ((k + 1))))]) (by simp only [sm]; first | (rw [if_pos (of_decide_eq_true c76)]) | (rw [if_neg (of_decide_eq_false c76), Int32.add_zero])) (ih (k + 1) (by omega) (by omega))
      · refine xj_iinc (i := 2) (x2 := (sm (fun j => if ra j = -1 then 1 else 0) k) + 1) (ls2 := [some (.ref (xw_ad v 21 0)), some (.int w), some (.int ((sm (fun j => if ra j = -1 then 1 else 0) k) + 1)), some (.int (nI k))]) hk dX8_count_79 rfl rfl (by decide) rfl rfl ?_
        refine xj_iinc (i := 3) (x2 := nI (k + 1)) (ls2 := [some (.ref (xw_ad v 21 0)), some (.int w), some (.int ((sm (fun j => if ra j = -1 then 1 else 0) k) + 1)), some (.int (nI (k + 1)))]) hk dX8_count_82 rfl (nI_1 k) (by decide) rfl rfl ?_
        refine xj_goto (tgt := 63) hk dX8_count_85 (by decide) ?_
        refine xj.to (ls' := [some (.ref (xw_ad v 21 0)), some (.int w), some (.int (sm (fun j => if ra j = -1 then 1 else 0) ((k + 1)))), some (.int (nI ((k + 1))))]) (by simp only [sm]; first | (rw [if_pos (of_decide_eq_true c76)]) | (rw [if_neg (of_decide_eq_false c76), Int32.add_zero])) (ih (k + 1) (by omega) (by omega))

set_option maxHeartbeats 1000000 in
set_option maxRecDepth 10000 in
theorem l_X8_count_110 {v : xw_V} {κ : xk_K} {post : Option Value → xw_G → Prop} {z : Nat × Nat × Nat} {G : xw_G} {M : md_T} {te ho ow hs ra lo st av so : Nat → Int32} {ln : Int32} {n : Nat} (hk : xk_Ok v κ yX8_count cX8_count 4 (some .int) 4 89) (hz : xk_zf κ = z) (hM : G 21 = pM v (md_th M) (nR te ho ow hs ra lo (nI n) st av so ln) (md_pt M) (md_re M) (md_sd M) (md_be M) (md_pb M) (md_ac M) (md_od M) (md_ad M) (md_wy M) (md_so M) (md_rl M) (md_io M) (md_po M) (md_sp M) (md_rs M) (md_st M) (md_av M) (md_ip M) (md_tx M) (md_tm M) (md_ta M) (md_td M) (md_wo M) (md_sq M) (md_tk M) (md_bg M) (md_nu M) (md_wr M)) (hn30 : n ≤ 30) (w : Int32) (kx : xj v κ post z G 139 [some (.ref (xw_ad v 21 0)), some (.int w), some (.int (sm (fun j => if md_wy M j = w - 4 then 1 else 0) n)), some (.int (nI n))] []) : ∀ (m : Nat) (k : Nat), n - k < m → k ≤ n → xj v κ post z G 110 [some (.ref (xw_ad v 21 0)), some (.int w), some (.int (sm (fun j => if md_wy M j = w - 4 then 1 else 0) k)), some (.int (nI k))] [] := by
  intro m
  induction m with
  | zero => intro k h; exact absurd h (Nat.not_lt_zero _)
  | succ m ih =>
    intro k hm hi
    refine xj_iload_n (i := 3) hk dX8_count_110 rfl rfl ?_
    refine xj_aload_n (i := 0) hk dX8_count_111 rfl rfl ?_
    refine xj_callV hk hz (fr1 := 0) (lo1 := 0) (r1 := some (.int (nI n))) (As := []) (st := [.int (nI k)]) (st2 := [.int (nI n), .int (nI k)]) (G1 := G) ml_X8_73 (c_X8_many (M := M) (show G 21 = pM v (md_th M) (nR te ho ow hs ra lo (nI n) st av so ln) (md_pt M) (md_re M) (md_sd M) (md_be M) (md_pb M) (md_ac M) (md_od M) (md_ad M) (md_wy M) (md_so M) (md_rl M) (md_io M) (md_po M) (md_sp M) (md_rs M) (md_st M) (md_av M) (md_ip M) (md_tx M) (md_tm M) (md_ta M) (md_td M) (md_wo M) (md_sq M) (md_tk M) (md_bg M) (md_nu M) (md_wr M) from hM)) (xw_at hM rfl) rfl dX8_count_112 ⟨Nat.le_of_ble_eq_true rfl, Nat.le_of_ble_eq_true rfl⟩ rfl (Nat.le_of_ble_eq_true rfl) rfl rfl ?_
    refine xj_icmp_ge (tgt := 139) hk dX8_count_115 (by decide) (fun c115 => ?_) (fun c115 => ?_)
    · have c115 : n ≤ k := (nI_leI (a := n) (b := k) (by omega) (by omega)).mp c115
      have e9 : k = n := by omega
      subst e9
      exact kx
    · have c115 : ¬ n ≤ k := fun q => c115 ((nI_leI (a := n) (b := k) (by omega) (by omega)).mpr q)
      refine xj_aload_n (i := 0) hk dX8_count_118 rfl rfl ?_
      refine xj_getfield hk dX8_count_119 fl_X8_39 (xw_at hM rfl) rfl ?_
      refine xj_iload_n (i := 3) hk dX8_count_122 rfl rfl ?_
      refine xj_iaload (k := k) hk dX8_count_123 (xw_at hM rfl) (xi_n (by omega) (by decide)) ?_
      refine xj_iload_n (i := 1) hk dX8_count_124 rfl rfl ?_
      refine xj_iconst (x := 4) hk dX8_count_125 (by decide) ?_
      refine xj_isub hk dX8_count_126 ?_
      refine xj_icmp_ne (tgt := 133) hk dX8_count_127 (by decide) (fun c127 => ?_) (fun c127 => ?_)
      · refine xj_iinc (i := 3) (x2 := nI (k + 1)) (ls2 := [some (.ref (xw_ad v 21 0)), some (.int w), some (.int (sm (fun j => if md_wy M j = w - 4 then 1 else 0) k)), some (.int (nI (k + 1)))]) hk dX8_count_133 rfl (nI_1 k) (by decide) rfl rfl ?_
        refine xj_goto (tgt := 110) hk dX8_count_136 (by decide) ?_
        refine xj.to (ls' := [some (.ref (xw_ad v 21 0)), some (.int w), some (.int (sm (fun j => if md_wy M j = w - 4 then 1 else 0) ((k + 1)))), some (.int (nI ((k + 1))))]) (by simp [sm, *]) (ih (k + 1) (by omega) (by omega))
      · refine xj_iinc (i := 2) (x2 := (sm (fun j => if md_wy M j = w - 4 then 1 else 0) k) + 1) (ls2 := [some (.ref (xw_ad v 21 0)), some (.int w), some (.int ((sm (fun j => if md_wy M j = w - 4 then 1 else 0) k) + 1)), some (.int (nI k))]) hk dX8_count_130 rfl rfl (by decide) rfl rfl ?_
        refine xj_iinc (i := 3) (x2 := nI (k + 1)) (ls2 := [some (.ref (xw_ad v 21 0)), some (.int w), some (.int ((sm (fun j => if md_wy M j = w - 4 then 1 else 0) k) + 1)), some (.int (nI (k + 1)))]) hk dX8_count_133 rfl (nI_1 k) (by decide) rfl rfl ?_
        refine xj_goto (tgt := 110) hk dX8_count_136 (by decide) ?_
        refine xj.to (ls' := [some (.ref (xw_ad v 21 0)), some (.int w), some (.int (sm (fun j => if md_wy M j = w - 4 then 1 else 0) ((k + 1)))), some (.int (nI ((k + 1))))]) (by simp [sm, *]) (ih (k + 1) (by omega) (by omega))

set_option maxHeartbeats 1000000 in
set_option maxRecDepth 10000 in
theorem l_X8_count_143 {v : xw_V} {κ : xk_K} {post : Option Value → xw_G → Prop} {z : Nat × Nat × Nat} {G : xw_G} {M : md_T} {te ho ow hs ra lo st av so : Nat → Int32} {ln : Int32} {n : Nat} (hk : xk_Ok v κ yX8_count cX8_count 4 (some .int) 4 89) (hz : xk_zf κ = z) (hM : G 21 = pM v (md_th M) (nR te ho ow hs ra lo (nI n) st av so ln) (md_pt M) (md_re M) (md_sd M) (md_be M) (md_pb M) (md_ac M) (md_od M) (md_ad M) (md_wy M) (md_so M) (md_rl M) (md_io M) (md_po M) (md_sp M) (md_rs M) (md_st M) (md_av M) (md_ip M) (md_tx M) (md_tm M) (md_ta M) (md_td M) (md_wo M) (md_sq M) (md_tk M) (md_bg M) (md_nu M) (md_wr M)) (hn30 : n ≤ 30) (w : Int32) (kx : xj v κ post z G 166 [some (.ref (xw_ad v 21 0)), some (.int w), some (.int (sm (fun h => if sm (fun j => if hs j = nI h then 1 else 0) n ≤ 0 then 0 else 1) 8)), some (.int (nI 8))] []) : ∀ (m : Nat) (k : Nat), 8 - k < m → k ≤ 8 → xj v κ post z G 143 [some (.ref (xw_ad v 21 0)), some (.int w), some (.int (sm (fun h => if sm (fun j => if hs j = nI h then 1 else 0) n ≤ 0 then 0 else 1) k)), some (.int (nI k))] [] := by
  intro m
  induction m with
  | zero => intro k h; exact absurd h (Nat.not_lt_zero _)
  | succ m ih =>
    intro k hm hi
    refine xj_iload_n (i := 3) hk dX8_count_143 rfl rfl ?_
    refine xj_bipush (x := 8) hk dX8_count_144 (by decide) ?_
    refine xj_icmp_ge (tgt := 166) hk dX8_count_146 (by decide) (fun c146 => ?_) (fun c146 => ?_)
    · have c146 : 8 ≤ k := (nI_leI (a := 8) (b := k) (by omega) (by omega)).mp c146
      have e9 : k = 8 := by omega
      subst e9
      exact kx
    · have c146 : ¬ 8 ≤ k := fun q => c146 ((nI_leI (a := 8) (b := k) (by omega) (by omega)).mpr q)
      refine xj_aload_n (i := 0) hk dX8_count_149 rfl rfl ?_
      refine xj_iload_n (i := 3) hk dX8_count_150 rfl rfl ?_
      refine xj_callV hk hz (fr1 := 1) (lo1 := 21) (r1 := some (.int (sm (fun j => if hs j = nI k then 1 else 0) n))) (As := [.int (nI k)]) (st := []) (st2 := [.int (sm (fun j => if hs j = nI k then 1 else 0) n)]) (G1 := G) ml_X8_253 (c_X8_bids (n := n) (M := M) (show G 21 = pM v (md_th M) (nR te ho ow hs ra lo (nI n) st av so ln) (md_pt M) (md_re M) (md_sd M) (md_be M) (md_pb M) (md_ac M) (md_od M) (md_ad M) (md_wy M) (md_so M) (md_rl M) (md_io M) (md_po M) (md_sp M) (md_rs M) (md_st M) (md_av M) (md_ip M) (md_tx M) (md_tm M) (md_ta M) (md_td M) (md_wo M) (md_sq M) (md_tk M) (md_bg M) (md_nu M) (md_wr M) from hM) hn30 (nI k)) (xw_at hM rfl) rfl dX8_count_151 ⟨Nat.le_of_ble_eq_true rfl, Nat.le_of_ble_eq_true rfl⟩ rfl (Nat.le_of_ble_eq_true rfl) rfl rfl ?_
      refine xj_if_le (tgt := 160) hk dX8_count_154 (by decide) (fun c154 => ?_) (fun c154 => ?_)
      · refine xj_iinc (i := 3) (x2 := nI (k + 1)) (ls2 := [some (.ref (xw_ad v 21 0)), some (.int w), some (.int (sm (fun h => if sm (fun j => if hs j = nI h then 1 else 0) n ≤ 0 then 0 else 1) k)), some (.int (nI (k + 1)))]) hk dX8_count_160 rfl (nI_1 k) (by decide) rfl rfl ?_
        refine xj_goto (tgt := 143) hk dX8_count_163 (by decide) ?_
        refine xj.to (ls' := [some (.ref (xw_ad v 21 0)), some (.int w), some (.int (sm (fun h => if sm (fun j => if hs j = nI h then 1 else 0) n ≤ 0 then 0 else 1) ((k + 1)))), some (.int (nI ((k + 1))))]) (by rw [sm_s (k := k)]; first | (rw [if_pos c154, Int32.add_zero]) | (rw [if_neg c154])) (ih (k + 1) (by omega) (by omega))
      · refine xj_iinc (i := 2) (x2 := (sm (fun h => if sm (fun j => if hs j = nI h then 1 else 0) n ≤ 0 then 0 else 1) k) + 1) (ls2 := [some (.ref (xw_ad v 21 0)), some (.int w), some (.int ((sm (fun h => if sm (fun j => if hs j = nI h then 1 else 0) n ≤ 0 then 0 else 1) k) + 1)), some (.int (nI k))]) hk dX8_count_157 rfl rfl (by decide) rfl rfl ?_
        refine xj_iinc (i := 3) (x2 := nI (k + 1)) (ls2 := [some (.ref (xw_ad v 21 0)), some (.int w), some (.int ((sm (fun h => if sm (fun j => if hs j = nI h then 1 else 0) n ≤ 0 then 0 else 1) k) + 1)), some (.int (nI (k + 1)))]) hk dX8_count_160 rfl (nI_1 k) (by decide) rfl rfl ?_
        refine xj_goto (tgt := 143) hk dX8_count_163 (by decide) ?_
        refine xj.to (ls' := [some (.ref (xw_ad v 21 0)), some (.int w), some (.int (sm (fun h => if sm (fun j => if hs j = nI h then 1 else 0) n ≤ 0 then 0 else 1) ((k + 1)))), some (.int (nI ((k + 1))))]) (by rw [sm_s (k := k)]; first | (rw [if_pos c154, Int32.add_zero]) | (rw [if_neg c154])) (ih (k + 1) (by omega) (by omega))

set_option maxHeartbeats 1000000 in
set_option maxRecDepth 10000 in
theorem l_X8_count_170 {v : xw_V} {κ : xk_K} {post : Option Value → xw_G → Prop} {z : Nat × Nat × Nat} {G : xw_G} {M : md_T} {te ho ow hs ra lo st av so : Nat → Int32} {ln : Int32} {n : Nat} (hk : xk_Ok v κ yX8_count cX8_count 4 (some .int) 4 89) (hz : xk_zf κ = z) (hM : G 21 = pM v (md_th M) (nR te ho ow hs ra lo (nI n) st av so ln) (md_pt M) (md_re M) (md_sd M) (md_be M) (md_pb M) (md_ac M) (md_od M) (md_ad M) (md_wy M) (md_so M) (md_rl M) (md_io M) (md_po M) (md_sp M) (md_rs M) (md_st M) (md_av M) (md_ip M) (md_tx M) (md_tm M) (md_ta M) (md_td M) (md_wo M) (md_sq M) (md_tk M) (md_bg M) (md_nu M) (md_wr M)) (hn30 : n ≤ 30) (w : Int32) (kx : xj v κ post z G 193 [some (.ref (xw_ad v 21 0)), some (.int w), some (.int (sm (fun h => if ownd ow (nI h) ≤ 0 then 0 else 1) 8)), some (.int (nI 8))] []) : ∀ (m : Nat) (k : Nat), 8 - k < m → k ≤ 8 → xj v κ post z G 170 [some (.ref (xw_ad v 21 0)), some (.int w), some (.int (sm (fun h => if ownd ow (nI h) ≤ 0 then 0 else 1) k)), some (.int (nI k))] [] := by
  intro m
  induction m with
  | zero => intro k h; exact absurd h (Nat.not_lt_zero _)
  | succ m ih =>
    intro k hm hi
    refine xj_iload_n (i := 3) hk dX8_count_170 rfl rfl ?_
    refine xj_bipush (x := 8) hk dX8_count_171 (by decide) ?_
    refine xj_icmp_ge (tgt := 193) hk dX8_count_173 (by decide) (fun c173 => ?_) (fun c173 => ?_)
    · have c173 : 8 ≤ k := (nI_leI (a := 8) (b := k) (by omega) (by omega)).mp c173
      have e9 : k = 8 := by omega
      subst e9
      exact kx
    · have c173 : ¬ 8 ≤ k := fun q => c173 ((nI_leI (a := 8) (b := k) (by omega) (by omega)).mpr q)
      refine xj_aload_n (i := 0) hk dX8_count_176 rfl rfl ?_
      refine xj_iload_n (i := 3) hk dX8_count_177 rfl rfl ?_
      refine xj_callV hk hz (fr1 := 0) (lo1 := 0) (r1 := some (.int (ownd ow (nI k)))) (As := [.int (nI k)]) (st := []) (st2 := [.int (ownd ow (nI k))]) (G1 := G) ml_X8_192 (c_X8_ownedBy (M := M) (show G 21 = pM v (md_th M) (nR te ho ow hs ra lo (nI n) st av so ln) (md_pt M) (md_re M) (md_sd M) (md_be M) (md_pb M) (md_ac M) (md_od M) (md_ad M) (md_wy M) (md_so M) (md_rl M) (md_io M) (md_po M) (md_sp M) (md_rs M) (md_st M) (md_av M) (md_ip M) (md_tx M) (md_tm M) (md_ta M) (md_td M) (md_wo M) (md_sq M) (md_tk M) (md_bg M) (md_nu M) (md_wr M) from hM) (nI k)) (xw_at hM rfl) rfl dX8_count_178 ⟨Nat.le_of_ble_eq_true rfl, Nat.le_of_ble_eq_true rfl⟩ rfl (Nat.le_of_ble_eq_true rfl) rfl rfl ?_
      refine xj_if_le (tgt := 187) hk dX8_count_181 (by decide) (fun c181 => ?_) (fun c181 => ?_)
      · refine xj_iinc (i := 3) (x2 := nI (k + 1)) (ls2 := [some (.ref (xw_ad v 21 0)), some (.int w), some (.int (sm (fun h => if ownd ow (nI h) ≤ 0 then 0 else 1) k)), some (.int (nI (k + 1)))]) hk dX8_count_187 rfl (nI_1 k) (by decide) rfl rfl ?_
        refine xj_goto (tgt := 170) hk dX8_count_190 (by decide) ?_
        refine xj.to (ls' := [some (.ref (xw_ad v 21 0)), some (.int w), some (.int (sm (fun h => if ownd ow (nI h) ≤ 0 then 0 else 1) ((k + 1)))), some (.int (nI ((k + 1))))]) (by rw [sm_s (k := k)]; first | (rw [if_pos c181, Int32.add_zero]) | (rw [if_neg c181])) (ih (k + 1) (by omega) (by omega))
      · refine xj_iinc (i := 2) (x2 := (sm (fun h => if ownd ow (nI h) ≤ 0 then 0 else 1) k) + 1) (ls2 := [some (.ref (xw_ad v 21 0)), some (.int w), some (.int ((sm (fun h => if ownd ow (nI h) ≤ 0 then 0 else 1) k) + 1)), some (.int (nI k))]) hk dX8_count_184 rfl rfl (by decide) rfl rfl ?_
        refine xj_iinc (i := 3) (x2 := nI (k + 1)) (ls2 := [some (.ref (xw_ad v 21 0)), some (.int w), some (.int ((sm (fun h => if ownd ow (nI h) ≤ 0 then 0 else 1) k) + 1)), some (.int (nI (k + 1)))]) hk dX8_count_187 rfl (nI_1 k) (by decide) rfl rfl ?_
        refine xj_goto (tgt := 170) hk dX8_count_190 (by decide) ?_
        refine xj.to (ls' := [some (.ref (xw_ad v 21 0)), some (.int w), some (.int (sm (fun h => if ownd ow (nI h) ≤ 0 then 0 else 1) ((k + 1)))), some (.int (nI ((k + 1))))]) (by rw [sm_s (k := k)]; first | (rw [if_pos c181, Int32.add_zero]) | (rw [if_neg c181])) (ih (k + 1) (by omega) (by omega))

set_option maxHeartbeats 1000000 in
set_option maxRecDepth 10000 in
theorem c_X8_count {v : xw_V} {G : xw_G} {M : md_T} {te ho ow hs ra lo st av so : Nat → Int32}  {n r a l : Nat} (hM : G 21 = pM v (md_th M) (nR te ho ow hs ra lo (nI n) st av so (nI r)) (md_pt M) (md_re M) (md_sd M) (md_be M) (md_pb M) (md_ac M) (md_od M) (md_ad M) (md_wy M) (md_so M) (md_rl M) (md_io M) (md_po M) (md_sp M) (md_rs M) (md_st M) (md_av M) (md_ip M) (md_tx M) (md_tm M) (md_ta M) (md_td M) (md_wo M) (md_sq M) (md_tk M) (md_bg M) (md_nu M) (md_wr M)) (hq : MV te ow hs ra lo n) (hac : md_ac M = nI a) (htd : md_td M = nI l) (w : Int32) : xk_Con v yX8_count cX8_count 4 (some .int) 4 89 [.ref (xw_ad v 21 0), .int w] G (fun r9 G' => r9 = some (.int (q_count (mB te ho ow hs ra lo n) (kM te ho ow hs ra lo n) n r a l w)) ∧ mQ v G G' (nR te ho ow hs ra lo (nI n) st av so (nI r)) M) := by
  refine xk_of (ls0 := [some (.ref (xw_ad v 21 0)), some (.int w), none, none]) (by decide) rfl (Nat.le_of_ble_eq_true rfl) ?_
  intro κ z hk hz
  have hn30 : n ≤ 30 := hq.1
  refine xj_iconst (x := 0) hk dX8_count_0 (by decide) ?_
  refine xj_istore_n (i := 2) (ls2 := [some (.ref (xw_ad v 21 0)), some (.int w), some (.int 0), none]) hk dX8_count_1 rfl (by decide) rfl rfl ?_
  refine xj_aload_n (i := 0) hk dX8_count_2 rfl rfl ?_
  refine xj_callVE hk hz (fr1 := 3) (lo1 := 65) (As := []) (st := []) ml_X8_174 (c_sellsK (n := n) (M := M) (show G 21 = pM v (md_th M) (nR te ho ow hs ra lo (nI n) st av so (nI r)) (md_pt M) (md_re M) (md_sd M) (md_be M) (md_pb M) (md_ac M) (md_od M) (md_ad M) (md_wy M) (md_so M) (md_rl M) (md_io M) (md_po M) (md_sp M) (md_rs M) (md_st M) (md_av M) (md_ip M) (md_tx M) (md_tm M) (md_ta M) (md_td M) (md_wo M) (md_sq M) (md_tk M) (md_bg M) (md_nu M) (md_wr M) from hM) hq) (xw_at hM rfl) rfl dX8_count_3 ⟨Nat.le_of_ble_eq_true rfl, Nat.le_of_ble_eq_true rfl⟩ rfl (Nat.le_of_ble_eq_true rfl) rfl ?_
  rintro _ _ ⟨rfl, od, ad, wy, rl, so3, io3, hag, rfl⟩
  have hag : agS n (sl_w (kM te ho ow hs ra lo n) od ad wy so3) (kM te ho ow hs ra lo n) := hag
  show xj v κ _ z (xw_up G 21 (pM v (md_th M) (nR te ho ow hs ra lo (nI n) st av so (nI r)) (md_pt M) (md_re M) (md_sd M) (md_be M) (md_pb M) (md_ac M) od ad wy so3 rl io3 (sl_po (kM te ho ow hs ra lo n)) (sl_sp (kM te ho ow hs ra lo n)) (sl_rs (kM te ho ow hs ra lo n)) (sl_st (kM te ho ow hs ra lo n)) (sl_av (kM te ho ow hs ra lo n)) (sl_pt (kM te ho ow hs ra lo n)) (md_tx M) (md_tm M) (md_ta M) (md_td M) (md_wo M) (md_sq M) (md_tk M) (md_bg M) (md_nu M) (md_wr M))) 6 _ []
  refine xj_iload_n (i := 1) hk dX8_count_6 rfl rfl ?_
  by_cases s7_0 : w = 0
  · refine xj_swIn (tgt := 56) (off := 49) hk dX8_count_7 (by rw [s7_0]; decide) (by rw [s7_0]; decide) (by rw [s7_0]; decide) (by decide) ?_
    refine xj_aload_n (i := 0) hk dX8_count_56 rfl rfl ?_
    refine xj_callV hk hz (fr1 := 0) (lo1 := 0) (r1 := some (.int (nI n))) (As := []) (st := []) (st2 := [.int (nI n)]) (G1 := xw_up G 21 (pM v (md_th M) (nR te ho ow hs ra lo (nI n) st av so (nI r)) (md_pt M) (md_re M) (md_sd M) (md_be M) (md_pb M) (md_ac M) od ad wy so3 rl io3 (sl_po (kM te ho ow hs ra lo n)) (sl_sp (kM te ho ow hs ra lo n)) (sl_rs (kM te ho ow hs ra lo n)) (sl_st (kM te ho ow hs ra lo n)) (sl_av (kM te ho ow hs ra lo n)) (sl_pt (kM te ho ow hs ra lo n)) (md_tx M) (md_tm M) (md_ta M) (md_td M) (md_wo M) (md_sq M) (md_tk M) (md_bg M) (md_nu M) (md_wr M))) ml_X8_73 (c_X8_many (M := (md_th M, nR te ho ow hs ra lo (nI n) st av so (nI r), md_pt M, md_re M, md_sd M, md_be M, md_pb M, md_ac M, od, ad, wy, so3, rl, io3, sl_po (kM te ho ow hs ra lo n), sl_sp (kM te ho ow hs ra lo n), sl_rs (kM te ho ow hs ra lo n), sl_st (kM te ho ow hs ra lo n), sl_av (kM te ho ow hs ra lo n), sl_pt (kM te ho ow hs ra lo n), md_tx M, md_tm M, md_ta M, md_td M, md_wo M, md_sq M, md_tk M, md_bg M, md_nu M, md_wr M)) (show (xw_up G 21 (pM v (md_th M) (nR te ho ow hs ra lo (nI n) st av so (nI r)) (md_pt M) (md_re M) (md_sd M) (md_be M) (md_pb M) (md_ac M) od ad wy so3 rl io3 (sl_po (kM te ho ow hs ra lo n)) (sl_sp (kM te ho ow hs ra lo n)) (sl_rs (kM te ho ow hs ra lo n)) (sl_st (kM te ho ow hs ra lo n)) (sl_av (kM te ho ow hs ra lo n)) (sl_pt (kM te ho ow hs ra lo n)) (md_tx M) (md_tm M) (md_ta M) (md_td M) (md_wo M) (md_sq M) (md_tk M) (md_bg M) (md_nu M) (md_wr M))) 21 = pM v (md_th M) (nR te ho ow hs ra lo (nI n) st av so (nI r)) (md_pt M) (md_re M) (md_sd M) (md_be M) (md_pb M) (md_ac M) od ad wy so3 rl io3 (sl_po (kM te ho ow hs ra lo n)) (sl_sp (kM te ho ow hs ra lo n)) (sl_rs (kM te ho ow hs ra lo n)) (sl_st (kM te ho ow hs ra lo n)) (sl_av (kM te ho ow hs ra lo n)) (sl_pt (kM te ho ow hs ra lo n)) (md_tx M) (md_tm M) (md_ta M) (md_td M) (md_wo M) (md_sq M) (md_tk M) (md_bg M) (md_nu M) (md_wr M) from xw_up_s)) (xw_at xw_up_s rfl) rfl dX8_count_57 ⟨Nat.le_of_ble_eq_true rfl, Nat.le_of_ble_eq_true rfl⟩ rfl (Nat.le_of_ble_eq_true rfl) rfl rfl ?_
    refine xj_ireturn hk hz dX8_count_60 ?_
    refine ⟨?_, ⟨⟨(md_th M, nR te ho ow hs ra lo (nI n) st av so (nI r), md_pt M, md_re M, md_sd M, md_be M, md_pb M, md_ac M, od, ad, wy, so3, rl, io3, sl_po (kM te ho ow hs ra lo n), sl_sp (kM te ho ow hs ra lo n), sl_rs (kM te ho ow hs ra lo n), sl_st (kM te ho ow hs ra lo n), sl_av (kM te ho ow hs ra lo n), sl_pt (kM te ho ow hs ra lo n), md_tx M, md_tm M, md_ta M, md_td M, md_wo M, md_sq M, md_tk M, md_bg M, md_nu M, md_wr M), xw_up_s, rfl, rfl, rfl, rfl, rfl, rfl, rfl⟩, fun g h => xw_up_n h⟩⟩
    · rw [← q_count_ag (B := (mB te ho ow hs ra lo n)) (n := n) _ hag]
      simp only [q_count]
      first | (rw [s7_0]; rfl) | (rw [s7_1]; rfl) | (rw [s7_2]; rfl) | (rw [s7_3, hac]; rfl) | (rw [s7_4, htd]; rfl) | (rw [s7_5]; rfl) | (rw [s7_6]; rfl) | (rw [s7_7]; refine congrArg (fun q => some (Value.int q)) (sm_congr (fun j hj => ?_)); have e9 := bid_lo (hs := hs) (x := nI j) hn30 (fun b hb => (hq.2.2.2.2 b hb).2); show (if _ ≤ 0 then (0 : Int32) else 1) = (if sm (sel hs (nI j) lo) n ≤ 0 then 0 else 1); by_cases c : sm (sel hs (nI j) lo) n ≤ 0; rw [if_pos c, if_pos (e9.mpr c)]; rw [if_neg c, if_neg (fun q => c (e9.mp q))]) | (rw [s7_8]; rfl) | (rw [if_neg s7_0, if_neg s7_1, if_neg s7_2, if_neg s7_3, if_neg s7_4, if_neg s7_5, if_neg s7_6, if_neg s7_7, if_neg s7_8])
  by_cases s7_1 : w = 1
  · refine xj_swIn (tgt := 61) (off := 54) hk dX8_count_7 (by rw [s7_1]; decide) (by rw [s7_1]; decide) (by rw [s7_1]; decide) (by decide) ?_
    refine xj_iconst (x := 0) hk dX8_count_61 (by decide) ?_
    refine xj_istore_n (i := 3) (ls2 := [some (.ref (xw_ad v 21 0)), some (.int w), some (.int 0), some (.int 0)]) hk dX8_count_62 rfl (by decide) rfl rfl ?_
    refine xj.to (ls' := [some (.ref (xw_ad v 21 0)), some (.int w), some (.int (sm (fun j => if ra j = -1 then 1 else 0) 0)), some (.int (nI 0))]) (by first | rfl | simp [sm]) ?_
    refine l_X8_count_63 (M := (md_th M, nR te ho ow hs ra lo (nI n) st av so (nI r), md_pt M, md_re M, md_sd M, md_be M, md_pb M, md_ac M, od, ad, wy, so3, rl, io3, sl_po (kM te ho ow hs ra lo n), sl_sp (kM te ho ow hs ra lo n), sl_rs (kM te ho ow hs ra lo n), sl_st (kM te ho ow hs ra lo n), sl_av (kM te ho ow hs ra lo n), sl_pt (kM te ho ow hs ra lo n), md_tx M, md_tm M, md_ta M, md_td M, md_wo M, md_sq M, md_tk M, md_bg M, md_nu M, md_wr M)) hk hz (show (xw_up G 21 (pM v (md_th M) (nR te ho ow hs ra lo (nI n) st av so (nI r)) (md_pt M) (md_re M) (md_sd M) (md_be M) (md_pb M) (md_ac M) od ad wy so3 rl io3 (sl_po (kM te ho ow hs ra lo n)) (sl_sp (kM te ho ow hs ra lo n)) (sl_rs (kM te ho ow hs ra lo n)) (sl_st (kM te ho ow hs ra lo n)) (sl_av (kM te ho ow hs ra lo n)) (sl_pt (kM te ho ow hs ra lo n)) (md_tx M) (md_tm M) (md_ta M) (md_td M) (md_wo M) (md_sq M) (md_tk M) (md_bg M) (md_nu M) (md_wr M))) 21 = pM v (md_th M) (nR te ho ow hs ra lo (nI n) st av so (nI r)) (md_pt M) (md_re M) (md_sd M) (md_be M) (md_pb M) (md_ac M) od ad wy so3 rl io3 (sl_po (kM te ho ow hs ra lo n)) (sl_sp (kM te ho ow hs ra lo n)) (sl_rs (kM te ho ow hs ra lo n)) (sl_st (kM te ho ow hs ra lo n)) (sl_av (kM te ho ow hs ra lo n)) (sl_pt (kM te ho ow hs ra lo n)) (md_tx M) (md_tm M) (md_ta M) (md_td M) (md_wo M) (md_sq M) (md_tk M) (md_bg M) (md_nu M) (md_wr M) from xw_up_s) hn30 w ?_ (n + 1) 0 (by omega) (by omega)
    refine xj.to (ls' := [some (.ref (xw_ad v 21 0)), some (.int w), some (.int (sm (fun j => if ra j = -1 then 1 else 0) n)), some (.int (nI n))]) rfl ?_
    refine xj_iload_n (i := 2) hk dX8_count_88 rfl rfl ?_
    refine xj_ireturn hk hz dX8_count_89 ?_
    refine ⟨?_, ⟨⟨(md_th M, nR te ho ow hs ra lo (nI n) st av so (nI r), md_pt M, md_re M, md_sd M, md_be M, md_pb M, md_ac M, od, ad, wy, so3, rl, io3, sl_po (kM te ho ow hs ra lo n), sl_sp (kM te ho ow hs ra lo n), sl_rs (kM te ho ow hs ra lo n), sl_st (kM te ho ow hs ra lo n), sl_av (kM te ho ow hs ra lo n), sl_pt (kM te ho ow hs ra lo n), md_tx M, md_tm M, md_ta M, md_td M, md_wo M, md_sq M, md_tk M, md_bg M, md_nu M, md_wr M), xw_up_s, rfl, rfl, rfl, rfl, rfl, rfl, rfl⟩, fun g h => xw_up_n h⟩⟩
    · rw [← q_count_ag (B := (mB te ho ow hs ra lo n)) (n := n) _ hag]
      simp only [q_count]
      first | (rw [s7_0]; rfl) | (rw [s7_1]; rfl) | (rw [s7_2]; rfl) | (rw [s7_3, hac]; rfl) | (rw [s7_4, htd]; rfl) | (rw [s7_5]; rfl) | (rw [s7_6]; rfl) | (rw [s7_7]; refine congrArg (fun q => some (Value.int q)) (sm_congr (fun j hj => ?_)); have e9 := bid_lo (hs := hs) (x := nI j) hn30 (fun b hb => (hq.2.2.2.2 b hb).2); show (if _ ≤ 0 then (0 : Int32) else 1) = (if sm (sel hs (nI j) lo) n ≤ 0 then 0 else 1); by_cases c : sm (sel hs (nI j) lo) n ≤ 0; rw [if_pos c, if_pos (e9.mpr c)]; rw [if_neg c, if_neg (fun q => c (e9.mp q))]) | (rw [s7_8]; rfl) | (rw [if_neg s7_0, if_neg s7_1, if_neg s7_2, if_neg s7_3, if_neg s7_4, if_neg s7_5, if_neg s7_6, if_neg s7_7, if_neg s7_8])
  by_cases s7_2 : w = 2
  · refine xj_swIn (tgt := 90) (off := 83) hk dX8_count_7 (by rw [s7_2]; decide) (by rw [s7_2]; decide) (by rw [s7_2]; decide) (by decide) ?_
    refine xj_aload_n (i := 0) hk dX8_count_90 rfl rfl ?_
    refine xj_getfield hk dX8_count_91 fl_X8_13 (xw_at xw_up_s rfl) rfl ?_
    refine xj_bipush (x := 114) hk dX8_count_94 (by decide) ?_
    refine xj_iaload (k := 114) hk dX8_count_96 (xw_at xw_up_s rfl) (xi_d 114 139 (by decide)) ?_
    refine xj.eqi (x' := nI r) rR_ln ?_
    refine xj_ireturn hk hz dX8_count_97 ?_
    refine ⟨?_, ⟨⟨(md_th M, nR te ho ow hs ra lo (nI n) st av so (nI r), md_pt M, md_re M, md_sd M, md_be M, md_pb M, md_ac M, od, ad, wy, so3, rl, io3, sl_po (kM te ho ow hs ra lo n), sl_sp (kM te ho ow hs ra lo n), sl_rs (kM te ho ow hs ra lo n), sl_st (kM te ho ow hs ra lo n), sl_av (kM te ho ow hs ra lo n), sl_pt (kM te ho ow hs ra lo n), md_tx M, md_tm M, md_ta M, md_td M, md_wo M, md_sq M, md_tk M, md_bg M, md_nu M, md_wr M), xw_up_s, rfl, rfl, rfl, rfl, rfl, rfl, rfl⟩, fun g h => xw_up_n h⟩⟩
    · rw [← q_count_ag (B := (mB te ho ow hs ra lo n)) (n := n) _ hag]
      simp only [q_count]
      first | (rw [s7_0]; rfl) | (rw [s7_1]; rfl) | (rw [s7_2]; rfl) | (rw [s7_3, hac]; rfl) | (rw [s7_4, htd]; rfl) | (rw [s7_5]; rfl) | (rw [s7_6]; rfl) | (rw [s7_7]; refine congrArg (fun q => some (Value.int q)) (sm_congr (fun j hj => ?_)); have e9 := bid_lo (hs := hs) (x := nI j) hn30 (fun b hb => (hq.2.2.2.2 b hb).2); show (if _ ≤ 0 then (0 : Int32) else 1) = (if sm (sel hs (nI j) lo) n ≤ 0 then 0 else 1); by_cases c : sm (sel hs (nI j) lo) n ≤ 0; rw [if_pos c, if_pos (e9.mpr c)]; rw [if_neg c, if_neg (fun q => c (e9.mp q))]) | (rw [s7_8]; rfl) | (rw [if_neg s7_0, if_neg s7_1, if_neg s7_2, if_neg s7_3, if_neg s7_4, if_neg s7_5, if_neg s7_6, if_neg s7_7, if_neg s7_8])
  by_cases s7_3 : w = 3
  · refine xj_swIn (tgt := 98) (off := 91) hk dX8_count_7 (by rw [s7_3]; decide) (by rw [s7_3]; decide) (by rw [s7_3]; decide) (by decide) ?_
    refine xj_aload_n (i := 0) hk dX8_count_98 rfl rfl ?_
    refine xj_getfield hk dX8_count_99 fl_X8_66 (xw_at xw_up_s rfl) rfl ?_
    refine xj_ireturn hk hz dX8_count_102 ?_
    refine ⟨?_, ⟨⟨(md_th M, nR te ho ow hs ra lo (nI n) st av so (nI r), md_pt M, md_re M, md_sd M, md_be M, md_pb M, md_ac M, od, ad, wy, so3, rl, io3, sl_po (kM te ho ow hs ra lo n), sl_sp (kM te ho ow hs ra lo n), sl_rs (kM te ho ow hs ra lo n), sl_st (kM te ho ow hs ra lo n), sl_av (kM te ho ow hs ra lo n), sl_pt (kM te ho ow hs ra lo n), md_tx M, md_tm M, md_ta M, md_td M, md_wo M, md_sq M, md_tk M, md_bg M, md_nu M, md_wr M), xw_up_s, rfl, rfl, rfl, rfl, rfl, rfl, rfl⟩, fun g h => xw_up_n h⟩⟩
    · rw [← q_count_ag (B := (mB te ho ow hs ra lo n)) (n := n) _ hag]
      simp only [q_count]
      first | (rw [s7_0]; rfl) | (rw [s7_1]; rfl) | (rw [s7_2]; rfl) | (rw [s7_3, hac]; rfl) | (rw [s7_4, htd]; rfl) | (rw [s7_5]; rfl) | (rw [s7_6]; rfl) | (rw [s7_7]; refine congrArg (fun q => some (Value.int q)) (sm_congr (fun j hj => ?_)); have e9 := bid_lo (hs := hs) (x := nI j) hn30 (fun b hb => (hq.2.2.2.2 b hb).2); show (if _ ≤ 0 then (0 : Int32) else 1) = (if sm (sel hs (nI j) lo) n ≤ 0 then 0 else 1); by_cases c : sm (sel hs (nI j) lo) n ≤ 0; rw [if_pos c, if_pos (e9.mpr c)]; rw [if_neg c, if_neg (fun q => c (e9.mp q))]) | (rw [s7_8]; rfl) | (rw [if_neg s7_0, if_neg s7_1, if_neg s7_2, if_neg s7_3, if_neg s7_4, if_neg s7_5, if_neg s7_6, if_neg s7_7, if_neg s7_8])
  by_cases s7_4 : w = 4
  · refine xj_swIn (tgt := 103) (off := 96) hk dX8_count_7 (by rw [s7_4]; decide) (by rw [s7_4]; decide) (by rw [s7_4]; decide) (by decide) ?_
    refine xj_aload_n (i := 0) hk dX8_count_103 rfl rfl ?_
    refine xj_getfield hk dX8_count_104 fl_X8_250 (xw_at xw_up_s rfl) rfl ?_
    refine xj_ireturn hk hz dX8_count_107 ?_
    refine ⟨?_, ⟨⟨(md_th M, nR te ho ow hs ra lo (nI n) st av so (nI r), md_pt M, md_re M, md_sd M, md_be M, md_pb M, md_ac M, od, ad, wy, so3, rl, io3, sl_po (kM te ho ow hs ra lo n), sl_sp (kM te ho ow hs ra lo n), sl_rs (kM te ho ow hs ra lo n), sl_st (kM te ho ow hs ra lo n), sl_av (kM te ho ow hs ra lo n), sl_pt (kM te ho ow hs ra lo n), md_tx M, md_tm M, md_ta M, md_td M, md_wo M, md_sq M, md_tk M, md_bg M, md_nu M, md_wr M), xw_up_s, rfl, rfl, rfl, rfl, rfl, rfl, rfl⟩, fun g h => xw_up_n h⟩⟩
    · rw [← q_count_ag (B := (mB te ho ow hs ra lo n)) (n := n) _ hag]
      simp only [q_count]
      first | (rw [s7_0]; rfl) | (rw [s7_1]; rfl) | (rw [s7_2]; rfl) | (rw [s7_3, hac]; rfl) | (rw [s7_4, htd]; rfl) | (rw [s7_5]; rfl) | (rw [s7_6]; rfl) | (rw [s7_7]; refine congrArg (fun q => some (Value.int q)) (sm_congr (fun j hj => ?_)); have e9 := bid_lo (hs := hs) (x := nI j) hn30 (fun b hb => (hq.2.2.2.2 b hb).2); show (if _ ≤ 0 then (0 : Int32) else 1) = (if sm (sel hs (nI j) lo) n ≤ 0 then 0 else 1); by_cases c : sm (sel hs (nI j) lo) n ≤ 0; rw [if_pos c, if_pos (e9.mpr c)]; rw [if_neg c, if_neg (fun q => c (e9.mp q))]) | (rw [s7_8]; rfl) | (rw [if_neg s7_0, if_neg s7_1, if_neg s7_2, if_neg s7_3, if_neg s7_4, if_neg s7_5, if_neg s7_6, if_neg s7_7, if_neg s7_8])
  by_cases s7_5 : w = 5
  · refine xj_swIn (tgt := 108) (off := 101) hk dX8_count_7 (by rw [s7_5]; decide) (by rw [s7_5]; decide) (by rw [s7_5]; decide) (by decide) ?_
    refine xj_iconst (x := 0) hk dX8_count_108 (by decide) ?_
    refine xj_istore_n (i := 3) (ls2 := [some (.ref (xw_ad v 21 0)), some (.int w), some (.int 0), some (.int 0)]) hk dX8_count_109 rfl (by decide) rfl rfl ?_
    refine xj.to (ls' := [some (.ref (xw_ad v 21 0)), some (.int w), some (.int (sm (fun j => if wy j = w - 4 then 1 else 0) 0)), some (.int (nI 0))]) (by first | rfl | simp [sm]) ?_
    refine l_X8_count_110 (M := (md_th M, nR te ho ow hs ra lo (nI n) st av so (nI r), md_pt M, md_re M, md_sd M, md_be M, md_pb M, md_ac M, od, ad, wy, so3, rl, io3, sl_po (kM te ho ow hs ra lo n), sl_sp (kM te ho ow hs ra lo n), sl_rs (kM te ho ow hs ra lo n), sl_st (kM te ho ow hs ra lo n), sl_av (kM te ho ow hs ra lo n), sl_pt (kM te ho ow hs ra lo n), md_tx M, md_tm M, md_ta M, md_td M, md_wo M, md_sq M, md_tk M, md_bg M, md_nu M, md_wr M)) hk hz (show (xw_up G 21 (pM v (md_th M) (nR te ho ow hs ra lo (nI n) st av so (nI r)) (md_pt M) (md_re M) (md_sd M) (md_be M) (md_pb M) (md_ac M) od ad wy so3 rl io3 (sl_po (kM te ho ow hs ra lo n)) (sl_sp (kM te ho ow hs ra lo n)) (sl_rs (kM te ho ow hs ra lo n)) (sl_st (kM te ho ow hs ra lo n)) (sl_av (kM te ho ow hs ra lo n)) (sl_pt (kM te ho ow hs ra lo n)) (md_tx M) (md_tm M) (md_ta M) (md_td M) (md_wo M) (md_sq M) (md_tk M) (md_bg M) (md_nu M) (md_wr M))) 21 = pM v (md_th M) (nR te ho ow hs ra lo (nI n) st av so (nI r)) (md_pt M) (md_re M) (md_sd M) (md_be M) (md_pb M) (md_ac M) od ad wy so3 rl io3 (sl_po (kM te ho ow hs ra lo n)) (sl_sp (kM te ho ow hs ra lo n)) (sl_rs (kM te ho ow hs ra lo n)) (sl_st (kM te ho ow hs ra lo n)) (sl_av (kM te ho ow hs ra lo n)) (sl_pt (kM te ho ow hs ra lo n)) (md_tx M) (md_tm M) (md_ta M) (md_td M) (md_wo M) (md_sq M) (md_tk M) (md_bg M) (md_nu M) (md_wr M) from xw_up_s) hn30 w ?_ (n + 1) 0 (by omega) (by omega)
    refine xj.to (ls' := [some (.ref (xw_ad v 21 0)), some (.int w), some (.int (sm (fun j => if wy j = w - 4 then 1 else 0) n)), some (.int (nI n))]) rfl ?_
    refine xj_iload_n (i := 2) hk dX8_count_139 rfl rfl ?_
    refine xj_ireturn hk hz dX8_count_140 ?_
    refine ⟨?_, ⟨⟨(md_th M, nR te ho ow hs ra lo (nI n) st av so (nI r), md_pt M, md_re M, md_sd M, md_be M, md_pb M, md_ac M, od, ad, wy, so3, rl, io3, sl_po (kM te ho ow hs ra lo n), sl_sp (kM te ho ow hs ra lo n), sl_rs (kM te ho ow hs ra lo n), sl_st (kM te ho ow hs ra lo n), sl_av (kM te ho ow hs ra lo n), sl_pt (kM te ho ow hs ra lo n), md_tx M, md_tm M, md_ta M, md_td M, md_wo M, md_sq M, md_tk M, md_bg M, md_nu M, md_wr M), xw_up_s, rfl, rfl, rfl, rfl, rfl, rfl, rfl⟩, fun g h => xw_up_n h⟩⟩
    · rw [← q_count_ag (B := (mB te ho ow hs ra lo n)) (n := n) _ hag]
      simp only [q_count]
      first | (rw [s7_0]; rfl) | (rw [s7_1]; rfl) | (rw [s7_2]; rfl) | (rw [s7_3, hac]; rfl) | (rw [s7_4, htd]; rfl) | (rw [s7_5]; rfl) | (rw [s7_6]; rfl) | (rw [s7_7]; refine congrArg (fun q => some (Value.int q)) (sm_congr (fun j hj => ?_)); have e9 := bid_lo (hs := hs) (x := nI j) hn30 (fun b hb => (hq.2.2.2.2 b hb).2); show (if _ ≤ 0 then (0 : Int32) else 1) = (if sm (sel hs (nI j) lo) n ≤ 0 then 0 else 1); by_cases c : sm (sel hs (nI j) lo) n ≤ 0; rw [if_pos c, if_pos (e9.mpr c)]; rw [if_neg c, if_neg (fun q => c (e9.mp q))]) | (rw [s7_8]; rfl) | (rw [if_neg s7_0, if_neg s7_1, if_neg s7_2, if_neg s7_3, if_neg s7_4, if_neg s7_5, if_neg s7_6, if_neg s7_7, if_neg s7_8])
  by_cases s7_6 : w = 6
  · refine xj_swIn (tgt := 108) (off := 101) hk dX8_count_7 (by rw [s7_6]; decide) (by rw [s7_6]; decide) (by rw [s7_6]; decide) (by decide) ?_
    refine xj_iconst (x := 0) hk dX8_count_108 (by decide) ?_
    refine xj_istore_n (i := 3) (ls2 := [some (.ref (xw_ad v 21 0)), some (.int w), some (.int 0), some (.int 0)]) hk dX8_count_109 rfl (by decide) rfl rfl ?_
    refine xj.to (ls' := [some (.ref (xw_ad v 21 0)), some (.int w), some (.int (sm (fun j => if wy j = w - 4 then 1 else 0) 0)), some (.int (nI 0))]) (by first | rfl | simp [sm]) ?_
    refine l_X8_count_110 (M := (md_th M, nR te ho ow hs ra lo (nI n) st av so (nI r), md_pt M, md_re M, md_sd M, md_be M, md_pb M, md_ac M, od, ad, wy, so3, rl, io3, sl_po (kM te ho ow hs ra lo n), sl_sp (kM te ho ow hs ra lo n), sl_rs (kM te ho ow hs ra lo n), sl_st (kM te ho ow hs ra lo n), sl_av (kM te ho ow hs ra lo n), sl_pt (kM te ho ow hs ra lo n), md_tx M, md_tm M, md_ta M, md_td M, md_wo M, md_sq M, md_tk M, md_bg M, md_nu M, md_wr M)) hk hz (show (xw_up G 21 (pM v (md_th M) (nR te ho ow hs ra lo (nI n) st av so (nI r)) (md_pt M) (md_re M) (md_sd M) (md_be M) (md_pb M) (md_ac M) od ad wy so3 rl io3 (sl_po (kM te ho ow hs ra lo n)) (sl_sp (kM te ho ow hs ra lo n)) (sl_rs (kM te ho ow hs ra lo n)) (sl_st (kM te ho ow hs ra lo n)) (sl_av (kM te ho ow hs ra lo n)) (sl_pt (kM te ho ow hs ra lo n)) (md_tx M) (md_tm M) (md_ta M) (md_td M) (md_wo M) (md_sq M) (md_tk M) (md_bg M) (md_nu M) (md_wr M))) 21 = pM v (md_th M) (nR te ho ow hs ra lo (nI n) st av so (nI r)) (md_pt M) (md_re M) (md_sd M) (md_be M) (md_pb M) (md_ac M) od ad wy so3 rl io3 (sl_po (kM te ho ow hs ra lo n)) (sl_sp (kM te ho ow hs ra lo n)) (sl_rs (kM te ho ow hs ra lo n)) (sl_st (kM te ho ow hs ra lo n)) (sl_av (kM te ho ow hs ra lo n)) (sl_pt (kM te ho ow hs ra lo n)) (md_tx M) (md_tm M) (md_ta M) (md_td M) (md_wo M) (md_sq M) (md_tk M) (md_bg M) (md_nu M) (md_wr M) from xw_up_s) hn30 w ?_ (n + 1) 0 (by omega) (by omega)
    refine xj.to (ls' := [some (.ref (xw_ad v 21 0)), some (.int w), some (.int (sm (fun j => if wy j = w - 4 then 1 else 0) n)), some (.int (nI n))]) rfl ?_
    refine xj_iload_n (i := 2) hk dX8_count_139 rfl rfl ?_
    refine xj_ireturn hk hz dX8_count_140 ?_
    refine ⟨?_, ⟨⟨(md_th M, nR te ho ow hs ra lo (nI n) st av so (nI r), md_pt M, md_re M, md_sd M, md_be M, md_pb M, md_ac M, od, ad, wy, so3, rl, io3, sl_po (kM te ho ow hs ra lo n), sl_sp (kM te ho ow hs ra lo n), sl_rs (kM te ho ow hs ra lo n), sl_st (kM te ho ow hs ra lo n), sl_av (kM te ho ow hs ra lo n), sl_pt (kM te ho ow hs ra lo n), md_tx M, md_tm M, md_ta M, md_td M, md_wo M, md_sq M, md_tk M, md_bg M, md_nu M, md_wr M), xw_up_s, rfl, rfl, rfl, rfl, rfl, rfl, rfl⟩, fun g h => xw_up_n h⟩⟩
    · rw [← q_count_ag (B := (mB te ho ow hs ra lo n)) (n := n) _ hag]
      simp only [q_count]
      first | (rw [s7_0]; rfl) | (rw [s7_1]; rfl) | (rw [s7_2]; rfl) | (rw [s7_3, hac]; rfl) | (rw [s7_4, htd]; rfl) | (rw [s7_5]; rfl) | (rw [s7_6]; rfl) | (rw [s7_7]; refine congrArg (fun q => some (Value.int q)) (sm_congr (fun j hj => ?_)); have e9 := bid_lo (hs := hs) (x := nI j) hn30 (fun b hb => (hq.2.2.2.2 b hb).2); show (if _ ≤ 0 then (0 : Int32) else 1) = (if sm (sel hs (nI j) lo) n ≤ 0 then 0 else 1); by_cases c : sm (sel hs (nI j) lo) n ≤ 0; rw [if_pos c, if_pos (e9.mpr c)]; rw [if_neg c, if_neg (fun q => c (e9.mp q))]) | (rw [s7_8]; rfl) | (rw [if_neg s7_0, if_neg s7_1, if_neg s7_2, if_neg s7_3, if_neg s7_4, if_neg s7_5, if_neg s7_6, if_neg s7_7, if_neg s7_8])
  by_cases s7_7 : w = 7
  · refine xj_swIn (tgt := 141) (off := 134) hk dX8_count_7 (by rw [s7_7]; decide) (by rw [s7_7]; decide) (by rw [s7_7]; decide) (by decide) ?_
    refine xj_iconst (x := 0) hk dX8_count_141 (by decide) ?_
    refine xj_istore_n (i := 3) (ls2 := [some (.ref (xw_ad v 21 0)), some (.int w), some (.int 0), some (.int 0)]) hk dX8_count_142 rfl (by decide) rfl rfl ?_
    refine xj.to (ls' := [some (.ref (xw_ad v 21 0)), some (.int w), some (.int (sm (fun h => if sm (fun j => if hs j = nI h then 1 else 0) n ≤ 0 then 0 else 1) 0)), some (.int (nI 0))]) (by first | rfl | simp [sm]) ?_
    refine l_X8_count_143 (M := (md_th M, nR te ho ow hs ra lo (nI n) st av so (nI r), md_pt M, md_re M, md_sd M, md_be M, md_pb M, md_ac M, od, ad, wy, so3, rl, io3, sl_po (kM te ho ow hs ra lo n), sl_sp (kM te ho ow hs ra lo n), sl_rs (kM te ho ow hs ra lo n), sl_st (kM te ho ow hs ra lo n), sl_av (kM te ho ow hs ra lo n), sl_pt (kM te ho ow hs ra lo n), md_tx M, md_tm M, md_ta M, md_td M, md_wo M, md_sq M, md_tk M, md_bg M, md_nu M, md_wr M)) hk hz (show (xw_up G 21 (pM v (md_th M) (nR te ho ow hs ra lo (nI n) st av so (nI r)) (md_pt M) (md_re M) (md_sd M) (md_be M) (md_pb M) (md_ac M) od ad wy so3 rl io3 (sl_po (kM te ho ow hs ra lo n)) (sl_sp (kM te ho ow hs ra lo n)) (sl_rs (kM te ho ow hs ra lo n)) (sl_st (kM te ho ow hs ra lo n)) (sl_av (kM te ho ow hs ra lo n)) (sl_pt (kM te ho ow hs ra lo n)) (md_tx M) (md_tm M) (md_ta M) (md_td M) (md_wo M) (md_sq M) (md_tk M) (md_bg M) (md_nu M) (md_wr M))) 21 = pM v (md_th M) (nR te ho ow hs ra lo (nI n) st av so (nI r)) (md_pt M) (md_re M) (md_sd M) (md_be M) (md_pb M) (md_ac M) od ad wy so3 rl io3 (sl_po (kM te ho ow hs ra lo n)) (sl_sp (kM te ho ow hs ra lo n)) (sl_rs (kM te ho ow hs ra lo n)) (sl_st (kM te ho ow hs ra lo n)) (sl_av (kM te ho ow hs ra lo n)) (sl_pt (kM te ho ow hs ra lo n)) (md_tx M) (md_tm M) (md_ta M) (md_td M) (md_wo M) (md_sq M) (md_tk M) (md_bg M) (md_nu M) (md_wr M) from xw_up_s) hn30 w ?_ (8 + 1) 0 (by omega) (by omega)
    refine xj.to (ls' := [some (.ref (xw_ad v 21 0)), some (.int w), some (.int (sm (fun h => if sm (fun j => if hs j = nI h then 1 else 0) n ≤ 0 then 0 else 1) 8)), some (.int (nI 8))]) rfl ?_
    refine xj_iload_n (i := 2) hk dX8_count_166 rfl rfl ?_
    refine xj_ireturn hk hz dX8_count_167 ?_
    refine ⟨?_, ⟨⟨(md_th M, nR te ho ow hs ra lo (nI n) st av so (nI r), md_pt M, md_re M, md_sd M, md_be M, md_pb M, md_ac M, od, ad, wy, so3, rl, io3, sl_po (kM te ho ow hs ra lo n), sl_sp (kM te ho ow hs ra lo n), sl_rs (kM te ho ow hs ra lo n), sl_st (kM te ho ow hs ra lo n), sl_av (kM te ho ow hs ra lo n), sl_pt (kM te ho ow hs ra lo n), md_tx M, md_tm M, md_ta M, md_td M, md_wo M, md_sq M, md_tk M, md_bg M, md_nu M, md_wr M), xw_up_s, rfl, rfl, rfl, rfl, rfl, rfl, rfl⟩, fun g h => xw_up_n h⟩⟩
    · rw [← q_count_ag (B := (mB te ho ow hs ra lo n)) (n := n) _ hag]
      simp only [q_count]
      first | (rw [s7_0]; rfl) | (rw [s7_1]; rfl) | (rw [s7_2]; rfl) | (rw [s7_3, hac]; rfl) | (rw [s7_4, htd]; rfl) | (rw [s7_5]; rfl) | (rw [s7_6]; rfl) | (rw [s7_7]; refine congrArg (fun q => some (Value.int q)) (sm_congr (fun j hj => ?_)); have e9 := bid_lo (hs := hs) (x := nI j) hn30 (fun b hb => (hq.2.2.2.2 b hb).2); show (if _ ≤ 0 then (0 : Int32) else 1) = (if sm (sel hs (nI j) lo) n ≤ 0 then 0 else 1); by_cases c : sm (sel hs (nI j) lo) n ≤ 0; rw [if_pos c, if_pos (e9.mpr c)]; rw [if_neg c, if_neg (fun q => c (e9.mp q))]) | (rw [s7_8]; rfl) | (rw [if_neg s7_0, if_neg s7_1, if_neg s7_2, if_neg s7_3, if_neg s7_4, if_neg s7_5, if_neg s7_6, if_neg s7_7, if_neg s7_8])
  by_cases s7_8 : w = 8
  · refine xj_swIn (tgt := 168) (off := 161) hk dX8_count_7 (by rw [s7_8]; decide) (by rw [s7_8]; decide) (by rw [s7_8]; decide) (by decide) ?_
    refine xj_iconst (x := 0) hk dX8_count_168 (by decide) ?_
    refine xj_istore_n (i := 3) (ls2 := [some (.ref (xw_ad v 21 0)), some (.int w), some (.int 0), some (.int 0)]) hk dX8_count_169 rfl (by decide) rfl rfl ?_
    refine xj.to (ls' := [some (.ref (xw_ad v 21 0)), some (.int w), some (.int (sm (fun h => if ownd ow (nI h) ≤ 0 then 0 else 1) 0)), some (.int (nI 0))]) (by first | rfl | simp [sm]) ?_
    refine l_X8_count_170 (M := (md_th M, nR te ho ow hs ra lo (nI n) st av so (nI r), md_pt M, md_re M, md_sd M, md_be M, md_pb M, md_ac M, od, ad, wy, so3, rl, io3, sl_po (kM te ho ow hs ra lo n), sl_sp (kM te ho ow hs ra lo n), sl_rs (kM te ho ow hs ra lo n), sl_st (kM te ho ow hs ra lo n), sl_av (kM te ho ow hs ra lo n), sl_pt (kM te ho ow hs ra lo n), md_tx M, md_tm M, md_ta M, md_td M, md_wo M, md_sq M, md_tk M, md_bg M, md_nu M, md_wr M)) hk hz (show (xw_up G 21 (pM v (md_th M) (nR te ho ow hs ra lo (nI n) st av so (nI r)) (md_pt M) (md_re M) (md_sd M) (md_be M) (md_pb M) (md_ac M) od ad wy so3 rl io3 (sl_po (kM te ho ow hs ra lo n)) (sl_sp (kM te ho ow hs ra lo n)) (sl_rs (kM te ho ow hs ra lo n)) (sl_st (kM te ho ow hs ra lo n)) (sl_av (kM te ho ow hs ra lo n)) (sl_pt (kM te ho ow hs ra lo n)) (md_tx M) (md_tm M) (md_ta M) (md_td M) (md_wo M) (md_sq M) (md_tk M) (md_bg M) (md_nu M) (md_wr M))) 21 = pM v (md_th M) (nR te ho ow hs ra lo (nI n) st av so (nI r)) (md_pt M) (md_re M) (md_sd M) (md_be M) (md_pb M) (md_ac M) od ad wy so3 rl io3 (sl_po (kM te ho ow hs ra lo n)) (sl_sp (kM te ho ow hs ra lo n)) (sl_rs (kM te ho ow hs ra lo n)) (sl_st (kM te ho ow hs ra lo n)) (sl_av (kM te ho ow hs ra lo n)) (sl_pt (kM te ho ow hs ra lo n)) (md_tx M) (md_tm M) (md_ta M) (md_td M) (md_wo M) (md_sq M) (md_tk M) (md_bg M) (md_nu M) (md_wr M) from xw_up_s) hn30 w ?_ (8 + 1) 0 (by omega) (by omega)
    refine xj.to (ls' := [some (.ref (xw_ad v 21 0)), some (.int w), some (.int (sm (fun h => if ownd ow (nI h) ≤ 0 then 0 else 1) 8)), some (.int (nI 8))]) rfl ?_
    refine xj_iload_n (i := 2) hk dX8_count_193 rfl rfl ?_
    refine xj_ireturn hk hz dX8_count_194 ?_
    refine ⟨?_, ⟨⟨(md_th M, nR te ho ow hs ra lo (nI n) st av so (nI r), md_pt M, md_re M, md_sd M, md_be M, md_pb M, md_ac M, od, ad, wy, so3, rl, io3, sl_po (kM te ho ow hs ra lo n), sl_sp (kM te ho ow hs ra lo n), sl_rs (kM te ho ow hs ra lo n), sl_st (kM te ho ow hs ra lo n), sl_av (kM te ho ow hs ra lo n), sl_pt (kM te ho ow hs ra lo n), md_tx M, md_tm M, md_ta M, md_td M, md_wo M, md_sq M, md_tk M, md_bg M, md_nu M, md_wr M), xw_up_s, rfl, rfl, rfl, rfl, rfl, rfl, rfl⟩, fun g h => xw_up_n h⟩⟩
    · rw [← q_count_ag (B := (mB te ho ow hs ra lo n)) (n := n) _ hag]
      simp only [q_count]
      first | (rw [s7_0]; rfl) | (rw [s7_1]; rfl) | (rw [s7_2]; rfl) | (rw [s7_3, hac]; rfl) | (rw [s7_4, htd]; rfl) | (rw [s7_5]; rfl) | (rw [s7_6]; rfl) | (rw [s7_7]; refine congrArg (fun q => some (Value.int q)) (sm_congr (fun j hj => ?_)); have e9 := bid_lo (hs := hs) (x := nI j) hn30 (fun b hb => (hq.2.2.2.2 b hb).2); show (if _ ≤ 0 then (0 : Int32) else 1) = (if sm (sel hs (nI j) lo) n ≤ 0 then 0 else 1); by_cases c : sm (sel hs (nI j) lo) n ≤ 0; rw [if_pos c, if_pos (e9.mpr c)]; rw [if_neg c, if_neg (fun q => c (e9.mp q))]) | (rw [s7_8]; rfl) | (rw [if_neg s7_0, if_neg s7_1, if_neg s7_2, if_neg s7_3, if_neg s7_4, if_neg s7_5, if_neg s7_6, if_neg s7_7, if_neg s7_8])
  refine xj_swOut (tgt := 195) hk dX8_count_7 (sw_out9 s7_0 s7_1 s7_2 s7_3 s7_4 s7_5 s7_6 s7_7 s7_8) (by decide) ?_
  refine xj_iconst (x := (-1)) hk dX8_count_195 (by decide) ?_
  refine xj_ireturn hk hz dX8_count_196 ?_
  refine ⟨?_, ⟨⟨(md_th M, nR te ho ow hs ra lo (nI n) st av so (nI r), md_pt M, md_re M, md_sd M, md_be M, md_pb M, md_ac M, od, ad, wy, so3, rl, io3, sl_po (kM te ho ow hs ra lo n), sl_sp (kM te ho ow hs ra lo n), sl_rs (kM te ho ow hs ra lo n), sl_st (kM te ho ow hs ra lo n), sl_av (kM te ho ow hs ra lo n), sl_pt (kM te ho ow hs ra lo n), md_tx M, md_tm M, md_ta M, md_td M, md_wo M, md_sq M, md_tk M, md_bg M, md_nu M, md_wr M), xw_up_s, rfl, rfl, rfl, rfl, rfl, rfl, rfl⟩, fun g h => xw_up_n h⟩⟩
  · rw [← q_count_ag (B := (mB te ho ow hs ra lo n)) (n := n) _ hag]
    simp only [q_count]
    first | (rw [s7_0]; rfl) | (rw [s7_1]; rfl) | (rw [s7_2]; rfl) | (rw [s7_3, hac]; rfl) | (rw [s7_4, htd]; rfl) | (rw [s7_5]; rfl) | (rw [s7_6]; rfl) | (rw [s7_7]; refine congrArg (fun q => some (Value.int q)) (sm_congr (fun j hj => ?_)); have e9 := bid_lo (hs := hs) (x := nI j) hn30 (fun b hb => (hq.2.2.2.2 b hb).2); show (if _ ≤ 0 then (0 : Int32) else 1) = (if sm (sel hs (nI j) lo) n ≤ 0 then 0 else 1); by_cases c : sm (sel hs (nI j) lo) n ≤ 0; rw [if_pos c, if_pos (e9.mpr c)]; rw [if_neg c, if_neg (fun q => c (e9.mp q))]) | (rw [s7_8]; rfl) | (rw [if_neg s7_0, if_neg s7_1, if_neg s7_2, if_neg s7_3, if_neg s7_4, if_neg s7_5, if_neg s7_6, if_neg s7_7, if_neg s7_8])


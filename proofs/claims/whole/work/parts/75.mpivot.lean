def mPv (f : Nat → Int32) : Nat → Int32 × Int32
  | 0 => (-1, -2)
  | k + 1 => if ¬ (mPv f k).1 = -1 ∧ f k ≤ (mPv f k).2 then mPv f k else (nI k, f k)
theorem mPv_eq {f : Nat → Int32} (h : ∀ k, k < 8 → -2 ≤ f k) : ∀ k, k < 8 → mPv f (k + 1) = q_pv f (k + 1) ∧ ¬ (mPv f (k + 1)).1 = -1
  | 0, hk => by
    have e : mPv f (0 + 1) = (nI 0, f 0) := if_neg (fun q => q.1 rfl)
    have e2 : q_pv f (0 + 1) = if f 0 ≤ -2 then (0, -2) else (nI 0, f 0) := rfl
    rw [e, e2]
    refine ⟨?_, fun q => absurd (show nI 0 = (-1 : Int32) from q) (by decide)⟩
    by_cases c : f 0 ≤ -2
    · rw [if_pos c, Int32.le_antisymm c (h 0 hk)]; rfl
    · rw [if_neg c]
  | k + 1, hk => by
    obtain ⟨a, b⟩ := mPv_eq h k (by omega)
    have e : mPv f (k + 1 + 1) = if ¬ (mPv f (k + 1)).1 = -1 ∧ f (k + 1) ≤ (mPv f (k + 1)).2 then mPv f (k + 1) else (nI (k + 1), f (k + 1)) := rfl
    have e2 : q_pv f (k + 1 + 1) = if f (k + 1) ≤ (q_pv f (k + 1)).2 then q_pv f (k + 1) else (nI (k + 1), f (k + 1)) := rfl
    rw [e, e2, ← a]
    by_cases c : f (k + 1) ≤ (mPv f (k + 1)).2
    · rw [if_pos ⟨b, c⟩, if_pos c]; exact ⟨rfl, b⟩
    · rw [if_neg (fun q => c q.2), if_neg c]
      refine ⟨rfl, fun q => ?_⟩
      have q : nI (k + 1) = -1 := q
      have := nI_pos (n := k + 1) (by omega)
      rw [q] at this
      exact this (by decide)
set_option maxHeartbeats 1000000 in
set_option maxRecDepth 10000 in
theorem l_X8_pivot_25 {v : xw_V} {κ : xk_K} {post : Option Value → xw_G → Prop} {z : Nat × Nat × Nat} {G : xw_G} {M : md_T} {te ho ow hs ra lo st av so : Nat → Int32} {ln : Int32} {n k : Nat} {x y : Int32} {f0 : Nat → Int32} (hk : xk_Ok v κ yX8_pivot cX8_pivot 5 (some .int) 4 89) (hz : xk_zf κ = z)  (kx : ∀ (m : Nat) (h1 r1 l1 : Nat → Int32) (G1 : xw_G) (M1 : md_T), (m, h1, r1, l1) = bd_rmA (nI k) n (n, hs, ra, lo) → MV te ow h1 r1 l1 m → G1 21 = pM v (md_th M1) (nR te ho ow h1 r1 l1 (nI m) st av so ln) (md_pt M1) (md_re M1) (md_sd M1) (md_be M1) (md_pb M1) (md_ac M1) (md_od M1) (md_ad M1) (md_wy M1) (md_so M1) (md_rl M1) (md_io M1) (md_po M1) (md_sp M1) (md_rs M1) (md_st M1) (md_av M1) (md_ip M1) (md_tx M1) (md_tm M1) (md_ta M1) (md_td M1) (md_wo M1) (md_sq M1) (md_tk M1) (md_bg M1) (md_nu M1) (md_wr M1) → mK M M1 → (∀ g, g ≠ 21 → G1 g = G g) → md_sd M1 = cpN 139 (nR te ho ow hs ra lo (nI n) st av so ln) f0 → xj v κ post z G1 52 [some (.ref (xw_ad v 21 0)), some (.int x), some (.int y), some (.int (nI k)), none] []) : ∀ (m9 : Nat) (i : Nat) (m : Nat) (h1 : Nat → Int32) (r1 : Nat → Int32) (l1 : Nat → Int32) (G1 : xw_G) (M1 : md_T), i < m9 → i ≤ m → bd_rmA (nI k) i (m, h1, r1, l1) = bd_rmA (nI k) n (n, hs, ra, lo) → MV te ow h1 r1 l1 m → G1 21 = pM v (md_th M1) (nR te ho ow h1 r1 l1 (nI m) st av so ln) (md_pt M1) (md_re M1) (md_sd M1) (md_be M1) (md_pb M1) (md_ac M1) (md_od M1) (md_ad M1) (md_wy M1) (md_so M1) (md_rl M1) (md_io M1) (md_po M1) (md_sp M1) (md_rs M1) (md_st M1) (md_av M1) (md_ip M1) (md_tx M1) (md_tm M1) (md_ta M1) (md_td M1) (md_wo M1) (md_sq M1) (md_tk M1) (md_bg M1) (md_nu M1) (md_wr M1) → mK M M1 → (∀ g, g ≠ 21 → G1 g = G g) → md_sd M1 = cpN 139 (nR te ho ow hs ra lo (nI n) st av so ln) f0 → xj v κ post z G1 25 [some (.ref (xw_ad v 21 0)), some (.int x), some (.int y), some (.int (nI k)), some (.int (nI i - 1))] [] := by
  intro m9
  induction m9 with
  | zero => intro i m h1 r1 l1 G1 M1 h; exact absurd h (Nat.not_lt_zero _)
  | succ m9 ih =>
    intro i m h1 r1 l1 G1 M1 hm hi hb hv hM1 hkM1 hfM1 hsd
    refine xj_iload hk dX8_pivot_25 rfl ?_
    refine xj_if_lt (tgt := 52) hk dX8_pivot_27 (by decide) (fun c27 => ?_) (fun c27 => ?_)
    · have c27 : i = 0 := (nI_neg (i := i) (by have := hv.1; omega)).mp c27
      refine xj.le (ls' := [some (.ref (xw_ad v 21 0)), some (.int x), some (.int y), some (.int (nI k)), none]) (by simp [xl_le] <;> rfl) ?_
      have e9 : i = 0 := c27
      subst e9
      exact kx m h1 r1 l1 G1 M1 hb hv hM1 hkM1 hfM1 hsd
    · have c27 : ¬ i = 0 := fun q => c27 ((nI_neg (i := i) (by have := hv.1; omega)).mpr q)
      have hm30 : m ≤ 30 := hv.1
      refine xj.to (ls' := [some (.ref (xw_ad v 21 0)), some (.int x), some (.int y), some (.int (nI k)), some (.int (nI (i - 1)))]) (by rw [nI_m1 (i := i) (by omega)]) ?_
      refine xj_aload_n (i := 0) hk dX8_pivot_30 rfl rfl ?_
      refine xj_iload hk dX8_pivot_31 rfl ?_
      refine xj_callV hk hz (fr1 := 0) (lo1 := 0) (r1 := some (.int (h1 (i - 1)))) (As := [.int (nI (i - 1))]) (st := []) (st2 := [.int (h1 (i - 1))]) (G1 := G1) ml_X8_81 (c_X8_houseOf (b := i - 1) (M := M1) (show G1 21 = pM v (md_th M1) (nR te ho ow h1 r1 l1 (nI m) st av so ln) (md_pt M1) (md_re M1) (md_sd M1) (md_be M1) (md_pb M1) (md_ac M1) (md_od M1) (md_ad M1) (md_wy M1) (md_so M1) (md_rl M1) (md_io M1) (md_po M1) (md_sp M1) (md_rs M1) (md_st M1) (md_av M1) (md_ip M1) (md_tx M1) (md_tm M1) (md_ta M1) (md_td M1) (md_wo M1) (md_sq M1) (md_tk M1) (md_bg M1) (md_nu M1) (md_wr M1) from hM1) (by omega)) (xw_at hM1 rfl) rfl dX8_pivot_33 ⟨Nat.le_of_ble_eq_true rfl, Nat.le_of_ble_eq_true rfl⟩ rfl (Nat.le_of_ble_eq_true rfl) rfl rfl ?_
      refine xj_iload_n (i := 3) hk dX8_pivot_36 rfl rfl ?_
      refine xj_icmp_ne (tgt := 46) hk dX8_pivot_37 (by decide) (fun c37 => ?_) (fun c37 => ?_)
      · refine xj_iinc (i := 4) (x2 := nI (i - 1) - 1) (ls2 := [some (.ref (xw_ad v 21 0)), some (.int x), some (.int y), some (.int (nI k)), some (.int (nI (i - 1) - 1))]) hk dX8_pivot_46 rfl (nI_decI _) (by decide) rfl rfl ?_
        refine xj_goto (tgt := 25) hk dX8_pivot_49 (by decide) ?_
        refine xj.to (ls' := [some (.ref (xw_ad v 21 0)), some (.int x), some (.int y), some (.int (nI k)), some (.int (nI ((i - 1)) - 1))]) (by first | rfl | simp) (ih (i - 1) m h1 r1 l1 G1 M1 (by omega) (by omega) ?_ hv hM1 hkM1 hfM1 hsd)
        rw [← hb]
        obtain ⟨i9, rfl⟩ : ∃ i9, i = i9 + 1 := ⟨i - 1, by omega⟩
        show bd_rmA (nI k) i9 _ = bd_rmA (nI k) i9 (if h1 i9 = nI k then bd_rm (m, h1, r1, l1) i9 else (m, h1, r1, l1))
        rw [if_neg (show ¬ h1 i9 = nI k from c37)]
      · refine xj_aload_n (i := 0) hk dX8_pivot_40 rfl rfl ?_
        refine xj_iload hk dX8_pivot_41 rfl ?_
        refine xj_callV hk hz (fr1 := 2) (lo1 := 46) (r1 := none) (As := [.int (nI (i - 1))]) (st := []) (st2 := []) (G1 := xw_up G1 21 (pM v (md_th M1) (nR te ho ow (shD (i - 1) (m - 1) h1) (shD (i - 1) (m - 1) r1) (shD (i - 1) (m - 1) l1) (nI (m - 1)) st av so ln) (md_pt M1) (md_re M1) (md_sd M1) (md_be M1) (md_pb M1) (md_ac M1) (md_od M1) (md_ad M1) (md_wy M1) (md_so M1) (md_rl M1) (md_io M1) (md_po M1) (md_sp M1) (md_rs M1) (md_st M1) (md_av M1) (md_ip M1) (md_tx M1) (md_tm M1) (md_ta M1) (md_td M1) (md_wo M1) (md_sq M1) (md_tk M1) (md_bg M1) (md_nu M1) (md_wr M1))) ml_X8_111 (c_X8_drops (n := m) (a := i - 1) (M := M1) (show G1 21 = pM v (md_th M1) (nR te ho ow h1 r1 l1 (nI m) st av so ln) (md_pt M1) (md_re M1) (md_sd M1) (md_be M1) (md_pb M1) (md_ac M1) (md_od M1) (md_ad M1) (md_wy M1) (md_so M1) (md_rl M1) (md_io M1) (md_po M1) (md_sp M1) (md_rs M1) (md_st M1) (md_av M1) (md_ip M1) (md_tx M1) (md_tm M1) (md_ta M1) (md_td M1) (md_wo M1) (md_sq M1) (md_tk M1) (md_bg M1) (md_nu M1) (md_wr M1) from hM1) (by omega) (by omega)) (xw_at hM1 rfl) rfl dX8_pivot_43 ⟨Nat.le_of_ble_eq_true rfl, Nat.le_of_ble_eq_true rfl⟩ rfl (Nat.le_of_ble_eq_true rfl) rfl rfl ?_
        refine xj_iinc (i := 4) (x2 := nI (i - 1) - 1) (ls2 := [some (.ref (xw_ad v 21 0)), some (.int x), some (.int y), some (.int (nI k)), some (.int (nI (i - 1) - 1))]) hk dX8_pivot_46 rfl (nI_decI _) (by decide) rfl rfl ?_
        refine xj_goto (tgt := 25) hk dX8_pivot_49 (by decide) ?_
        refine xj.to (ls' := [some (.ref (xw_ad v 21 0)), some (.int x), some (.int y), some (.int (nI k)), some (.int (nI ((i - 1)) - 1))]) (by first | rfl | simp) (ih (i - 1) (m - 1) (shD (i - 1) (m - 1) h1) (shD (i - 1) (m - 1) r1) (shD (i - 1) (m - 1) l1) (xw_up G1 21 (pM v (md_th M1) (nR te ho ow (shD (i - 1) (m - 1) h1) (shD (i - 1) (m - 1) r1) (shD (i - 1) (m - 1) l1) (nI (m - 1)) st av so ln) (md_pt M1) (md_re M1) (md_sd M1) (md_be M1) (md_pb M1) (md_ac M1) (md_od M1) (md_ad M1) (md_wy M1) (md_so M1) (md_rl M1) (md_io M1) (md_po M1) (md_sp M1) (md_rs M1) (md_st M1) (md_av M1) (md_ip M1) (md_tx M1) (md_tm M1) (md_ta M1) (md_td M1) (md_wo M1) (md_sq M1) (md_tk M1) (md_bg M1) (md_nu M1) (md_wr M1))) ((md_th M1, nR te ho ow (shD (i - 1) (m - 1) h1) (shD (i - 1) (m - 1) r1) (shD (i - 1) (m - 1) l1) (nI (m - 1)) st av so ln, md_pt M1, md_re M1, md_sd M1, md_be M1, md_pb M1, md_ac M1, md_od M1, md_ad M1, md_wy M1, md_so M1, md_rl M1, md_io M1, md_po M1, md_sp M1, md_rs M1, md_st M1, md_av M1, md_ip M1, md_tx M1, md_tm M1, md_ta M1, md_td M1, md_wo M1, md_sq M1, md_tk M1, md_bg M1, md_nu M1, md_wr M1)) (by omega) (by omega) ?_ (MV_rm hv) xw_up_s hkM1 (fun g h => (xw_up_n h).trans (hfM1 g h)) hsd)
        rw [← hb]
        obtain ⟨i9, rfl⟩ : ∃ i9, i = i9 + 1 := ⟨i - 1, by omega⟩
        show bd_rmA (nI k) i9 _ = bd_rmA (nI k) i9 (if h1 i9 = nI k then bd_rm (m, h1, r1, l1) i9 else (m, h1, r1, l1))
        rw [if_pos (show h1 i9 = nI k from c37)]
        rfl

set_option maxHeartbeats 1000000 in
set_option maxRecDepth 10000 in
theorem l_X8_pivot_7 {v : xw_V} {κ : xk_K} {post : Option Value → xw_G → Prop} {z : Nat × Nat × Nat} {G : xw_G} {M : md_T} {te ho ow hs ra lo st av so : Nat → Int32} {ln : Int32} {n : Nat} (hk : xk_Ok v κ yX8_pivot cX8_pivot 5 (some .int) 4 89) (hz : xk_zf κ = z)  (hq : MV te ow hs ra lo n) (hn30 : n ≤ 30) (kx : ∀ (G1 : xw_G) (M1 : md_T), G1 21 = pM v (md_th M1) (nR te ho ow hs ra lo (nI n) st av so ln) (md_pt M1) (md_re M1) (md_sd M1) (md_be M1) (md_pb M1) (md_ac M1) (md_od M1) (md_ad M1) (md_wy M1) (md_so M1) (md_rl M1) (md_io M1) (md_po M1) (md_sp M1) (md_rs M1) (md_st M1) (md_av M1) (md_ip M1) (md_tx M1) (md_tm M1) (md_ta M1) (md_td M1) (md_wo M1) (md_sq M1) (md_tk M1) (md_bg M1) (md_nu M1) (md_wr M1) → mK M M1 → (∀ g, g ≠ 21 → G1 g = G g) → xj v κ post z G1 89 [some (.ref (xw_ad v 21 0)), some (.int ((mPv (pv_f (mB te ho ow hs ra lo n) n) 8).1)), some (.int ((mPv (pv_f (mB te ho ow hs ra lo n) n) 8).2)), some (.int (nI 8)), none] []) : ∀ (m : Nat) (k : Nat) (G1 : xw_G) (M1 : md_T), 8 - k < m → k ≤ 8 → G1 21 = pM v (md_th M1) (nR te ho ow hs ra lo (nI n) st av so ln) (md_pt M1) (md_re M1) (md_sd M1) (md_be M1) (md_pb M1) (md_ac M1) (md_od M1) (md_ad M1) (md_wy M1) (md_so M1) (md_rl M1) (md_io M1) (md_po M1) (md_sp M1) (md_rs M1) (md_st M1) (md_av M1) (md_ip M1) (md_tx M1) (md_tm M1) (md_ta M1) (md_td M1) (md_wo M1) (md_sq M1) (md_tk M1) (md_bg M1) (md_nu M1) (md_wr M1) → mK M M1 → (∀ g, g ≠ 21 → G1 g = G g) → xj v κ post z G1 7 [some (.ref (xw_ad v 21 0)), some (.int ((mPv (pv_f (mB te ho ow hs ra lo n) n) k).1)), some (.int ((mPv (pv_f (mB te ho ow hs ra lo n) n) k).2)), some (.int (nI k)), none] [] := by
  intro m
  induction m with
  | zero => intro k G1 M1 h; exact absurd h (Nat.not_lt_zero _)
  | succ m ih =>
    intro k G1 M1 hm hi hM1 hkM1 hfM1
    refine xj_iload_n (i := 3) hk dX8_pivot_7 rfl rfl ?_
    refine xj_bipush (x := 8) hk dX8_pivot_8 (by decide) ?_
    refine xj_icmp_ge (tgt := 89) hk dX8_pivot_10 (by decide) (fun c10 => ?_) (fun c10 => ?_)
    · have c10 : 8 ≤ k := (nI_leI (a := 8) (b := k) (by omega) (by omega)).mp c10
      have e9 : k = 8 := by omega
      subst e9
      exact kx G1 M1 hM1 hkM1 hfM1
    · have c10 : ¬ 8 ≤ k := fun q => c10 ((nI_leI (a := 8) (b := k) (by omega) (by omega)).mpr q)
      refine xj_aload_n (i := 0) hk dX8_pivot_13 rfl rfl ?_
      refine xj_callV hk hz (fr1 := 0) (lo1 := 0) (r1 := none) (As := []) (st := []) (st2 := []) (G1 := xw_up G1 21 (pM v (md_th M1) (nR te ho ow hs ra lo (nI n) st av so ln) (md_pt M1) (md_re M1) (cpN 139 (nR te ho ow hs ra lo (nI n) st av so ln) (md_sd M1)) (md_be M1) (md_pb M1) (md_ac M1) (md_od M1) (md_ad M1) (md_wy M1) (md_so M1) (md_rl M1) (md_io M1) (md_po M1) (md_sp M1) (md_rs M1) (md_st M1) (md_av M1) (md_ip M1) (md_tx M1) (md_tm M1) (md_ta M1) (md_td M1) (md_wo M1) (md_sq M1) (md_tk M1) (md_bg M1) (md_nu M1) (md_wr M1))) ml_X8_219 (c_X8_putsAside (M := M1) (show G1 21 = pM v (md_th M1) (nR te ho ow hs ra lo (nI n) st av so ln) (md_pt M1) (md_re M1) (md_sd M1) (md_be M1) (md_pb M1) (md_ac M1) (md_od M1) (md_ad M1) (md_wy M1) (md_so M1) (md_rl M1) (md_io M1) (md_po M1) (md_sp M1) (md_rs M1) (md_st M1) (md_av M1) (md_ip M1) (md_tx M1) (md_tm M1) (md_ta M1) (md_td M1) (md_wo M1) (md_sq M1) (md_tk M1) (md_bg M1) (md_nu M1) (md_wr M1) from hM1)) (xw_at hM1 rfl) rfl dX8_pivot_14 ⟨Nat.le_of_ble_eq_true rfl, Nat.le_of_ble_eq_true rfl⟩ rfl (Nat.le_of_ble_eq_true rfl) rfl rfl ?_
      refine xj_aload_n (i := 0) hk dX8_pivot_17 rfl rfl ?_
      refine xj_callV hk hz (fr1 := 0) (lo1 := 0) (r1 := some (.int (nI n))) (As := []) (st := []) (st2 := [.int (nI n)]) (G1 := xw_up G1 21 (pM v (md_th M1) (nR te ho ow hs ra lo (nI n) st av so ln) (md_pt M1) (md_re M1) (cpN 139 (nR te ho ow hs ra lo (nI n) st av so ln) (md_sd M1)) (md_be M1) (md_pb M1) (md_ac M1) (md_od M1) (md_ad M1) (md_wy M1) (md_so M1) (md_rl M1) (md_io M1) (md_po M1) (md_sp M1) (md_rs M1) (md_st M1) (md_av M1) (md_ip M1) (md_tx M1) (md_tm M1) (md_ta M1) (md_td M1) (md_wo M1) (md_sq M1) (md_tk M1) (md_bg M1) (md_nu M1) (md_wr M1))) ml_X8_73 (c_X8_many (M := (md_th M1, nR te ho ow hs ra lo (nI n) st av so ln, md_pt M1, md_re M1, cpN 139 (nR te ho ow hs ra lo (nI n) st av so ln) (md_sd M1), md_be M1, md_pb M1, md_ac M1, md_od M1, md_ad M1, md_wy M1, md_so M1, md_rl M1, md_io M1, md_po M1, md_sp M1, md_rs M1, md_st M1, md_av M1, md_ip M1, md_tx M1, md_tm M1, md_ta M1, md_td M1, md_wo M1, md_sq M1, md_tk M1, md_bg M1, md_nu M1, md_wr M1)) (show (xw_up G1 21 (pM v (md_th M1) (nR te ho ow hs ra lo (nI n) st av so ln) (md_pt M1) (md_re M1) (cpN 139 (nR te ho ow hs ra lo (nI n) st av so ln) (md_sd M1)) (md_be M1) (md_pb M1) (md_ac M1) (md_od M1) (md_ad M1) (md_wy M1) (md_so M1) (md_rl M1) (md_io M1) (md_po M1) (md_sp M1) (md_rs M1) (md_st M1) (md_av M1) (md_ip M1) (md_tx M1) (md_tm M1) (md_ta M1) (md_td M1) (md_wo M1) (md_sq M1) (md_tk M1) (md_bg M1) (md_nu M1) (md_wr M1))) 21 = pM v (md_th M1) (nR te ho ow hs ra lo (nI n) st av so ln) (md_pt M1) (md_re M1) (cpN 139 (nR te ho ow hs ra lo (nI n) st av so ln) (md_sd M1)) (md_be M1) (md_pb M1) (md_ac M1) (md_od M1) (md_ad M1) (md_wy M1) (md_so M1) (md_rl M1) (md_io M1) (md_po M1) (md_sp M1) (md_rs M1) (md_st M1) (md_av M1) (md_ip M1) (md_tx M1) (md_tm M1) (md_ta M1) (md_td M1) (md_wo M1) (md_sq M1) (md_tk M1) (md_bg M1) (md_nu M1) (md_wr M1) from xw_up_s)) (xw_at xw_up_s rfl) rfl dX8_pivot_18 ⟨Nat.le_of_ble_eq_true rfl, Nat.le_of_ble_eq_true rfl⟩ rfl (Nat.le_of_ble_eq_true rfl) rfl rfl ?_
      refine xj_iconst (x := 1) hk dX8_pivot_21 (by decide) ?_
      refine xj_isub hk dX8_pivot_22 ?_
      refine xj.eqi (x' := nI n - 1) rfl ?_
      refine xj_istore (i := 4) (ls2 := [some (.ref (xw_ad v 21 0)), some (.int ((mPv (pv_f (mB te ho ow hs ra lo n) n) k).1)), some (.int ((mPv (pv_f (mB te ho ow hs ra lo n) n) k).2)), some (.int (nI k)), some (.int (nI n - 1))]) hk dX8_pivot_23 (by decide) rfl rfl ?_
      refine l_X8_pivot_25 (M := M) (n := n) (te := te) (ow := ow) (hs := hs) (ra := ra) (lo := lo) hk hz (fun m h1 r1 l1 G2 M2 hb hv hM2 hkM2 hfM2 hsd => ?_) (n + 1) n n hs ra lo (xw_up G1 21 (pM v (md_th M1) (nR te ho ow hs ra lo (nI n) st av so ln) (md_pt M1) (md_re M1) (cpN 139 (nR te ho ow hs ra lo (nI n) st av so ln) (md_sd M1)) (md_be M1) (md_pb M1) (md_ac M1) (md_od M1) (md_ad M1) (md_wy M1) (md_so M1) (md_rl M1) (md_io M1) (md_po M1) (md_sp M1) (md_rs M1) (md_st M1) (md_av M1) (md_ip M1) (md_tx M1) (md_tm M1) (md_ta M1) (md_td M1) (md_wo M1) (md_sq M1) (md_tk M1) (md_bg M1) (md_nu M1) (md_wr M1))) ((md_th M1, nR te ho ow hs ra lo (nI n) st av so ln, md_pt M1, md_re M1, cpN 139 (nR te ho ow hs ra lo (nI n) st av so ln) (md_sd M1), md_be M1, md_pb M1, md_ac M1, md_od M1, md_ad M1, md_wy M1, md_so M1, md_rl M1, md_io M1, md_po M1, md_sp M1, md_rs M1, md_st M1, md_av M1, md_ip M1, md_tx M1, md_tm M1, md_ta M1, md_td M1, md_wo M1, md_sq M1, md_tk M1, md_bg M1, md_nu M1, md_wr M1)) (by omega) (by omega) rfl hq xw_up_s hkM1 (fun g h => (xw_up_n h).trans (hfM1 g h)) rfl
      refine xj_aload_n (i := 0) hk dX8_pivot_52 rfl rfl ?_
      refine xj_callVE hk hz (fr1 := 3) (lo1 := 65) (As := []) (st := []) ml_X8_174 (c_sellsK (n := m) (M := M2) (show G2 21 = pM v (md_th M2) (nR te ho ow h1 r1 l1 (nI m) st av so ln) (md_pt M2) (md_re M2) (md_sd M2) (md_be M2) (md_pb M2) (md_ac M2) (md_od M2) (md_ad M2) (md_wy M2) (md_so M2) (md_rl M2) (md_io M2) (md_po M2) (md_sp M2) (md_rs M2) (md_st M2) (md_av M2) (md_ip M2) (md_tx M2) (md_tm M2) (md_ta M2) (md_td M2) (md_wo M2) (md_sq M2) (md_tk M2) (md_bg M2) (md_nu M2) (md_wr M2) from hM2) hv) (xw_at hM2 rfl) rfl dX8_pivot_53 ⟨Nat.le_of_ble_eq_true rfl, Nat.le_of_ble_eq_true rfl⟩ rfl (Nat.le_of_ble_eq_true rfl) rfl ?_
      rintro _ _ ⟨rfl, od, ad, wy, rl, so3, io3, hag, rfl⟩
      have hag : agS m (sl_w (kM te ho ow h1 r1 l1 m) od ad wy so3) (kM te ho ow h1 r1 l1 m) := hag
      show xj v κ _ z (xw_up G2 21 (pM v (md_th M2) (nR te ho ow h1 r1 l1 (nI m) st av so ln) (md_pt M2) (md_re M2) (md_sd M2) (md_be M2) (md_pb M2) (md_ac M2) od ad wy so3 rl io3 (sl_po (kM te ho ow h1 r1 l1 m)) (sl_sp (kM te ho ow h1 r1 l1 m)) (sl_rs (kM te ho ow h1 r1 l1 m)) (sl_st (kM te ho ow h1 r1 l1 m)) (sl_av (kM te ho ow h1 r1 l1 m)) (sl_pt (kM te ho ow h1 r1 l1 m)) (md_tx M2) (md_tm M2) (md_ta M2) (md_td M2) (md_wo M2) (md_sq M2) (md_tk M2) (md_bg M2) (md_nu M2) (md_wr M2))) 56 _ []
      have hpv : sl_st (kM te ho ow h1 r1 l1 m) = pv_f (mB te ho ow hs ra lo n) n k := by show sl_st (kR (bk_wbd (mB te ho ow hs ra lo n) (m, h1, r1, l1)) ((m, h1, r1, l1) : bd_T).1) = _; rw [hb]; rfl
      refine xj_aload_n (i := 0) hk dX8_pivot_56 rfl rfl ?_
      refine xj_callV hk hz (fr1 := 0) (lo1 := 0) (r1 := none) (As := []) (st := []) (st2 := []) (G1 := xw_up G2 21 (pM v (md_th M2) (cpN 139 (md_sd M2) (nR te ho ow h1 r1 l1 (nI m) st av so ln)) (md_pt M2) (md_re M2) (md_sd M2) (md_be M2) (md_pb M2) (md_ac M2) od ad wy so3 rl io3 (sl_po (kM te ho ow h1 r1 l1 m)) (sl_sp (kM te ho ow h1 r1 l1 m)) (sl_rs (kM te ho ow h1 r1 l1 m)) (sl_st (kM te ho ow h1 r1 l1 m)) (sl_av (kM te ho ow h1 r1 l1 m)) (sl_pt (kM te ho ow h1 r1 l1 m)) (md_tx M2) (md_tm M2) (md_ta M2) (md_td M2) (md_wo M2) (md_sq M2) (md_tk M2) (md_bg M2) (md_nu M2) (md_wr M2))) ml_X8_222 (xk_cg (by rw [xw_up_u] <;> rfl) (c_X8_takesBack (M := (md_th M2, nR te ho ow h1 r1 l1 (nI m) st av so ln, md_pt M2, md_re M2, md_sd M2, md_be M2, md_pb M2, md_ac M2, od, ad, wy, so3, rl, io3, sl_po (kM te ho ow h1 r1 l1 m), sl_sp (kM te ho ow h1 r1 l1 m), sl_rs (kM te ho ow h1 r1 l1 m), sl_st (kM te ho ow h1 r1 l1 m), sl_av (kM te ho ow h1 r1 l1 m), sl_pt (kM te ho ow h1 r1 l1 m), md_tx M2, md_tm M2, md_ta M2, md_td M2, md_wo M2, md_sq M2, md_tk M2, md_bg M2, md_nu M2, md_wr M2)) (show (xw_up G2 21 (pM v (md_th M2) (nR te ho ow h1 r1 l1 (nI m) st av so ln) (md_pt M2) (md_re M2) (md_sd M2) (md_be M2) (md_pb M2) (md_ac M2) od ad wy so3 rl io3 (sl_po (kM te ho ow h1 r1 l1 m)) (sl_sp (kM te ho ow h1 r1 l1 m)) (sl_rs (kM te ho ow h1 r1 l1 m)) (sl_st (kM te ho ow h1 r1 l1 m)) (sl_av (kM te ho ow h1 r1 l1 m)) (sl_pt (kM te ho ow h1 r1 l1 m)) (md_tx M2) (md_tm M2) (md_ta M2) (md_td M2) (md_wo M2) (md_sq M2) (md_tk M2) (md_bg M2) (md_nu M2) (md_wr M2))) 21 = pM v (md_th M2) (nR te ho ow h1 r1 l1 (nI m) st av so ln) (md_pt M2) (md_re M2) (md_sd M2) (md_be M2) (md_pb M2) (md_ac M2) od ad wy so3 rl io3 (sl_po (kM te ho ow h1 r1 l1 m)) (sl_sp (kM te ho ow h1 r1 l1 m)) (sl_rs (kM te ho ow h1 r1 l1 m)) (sl_st (kM te ho ow h1 r1 l1 m)) (sl_av (kM te ho ow h1 r1 l1 m)) (sl_pt (kM te ho ow h1 r1 l1 m)) (md_tx M2) (md_tm M2) (md_ta M2) (md_td M2) (md_wo M2) (md_sq M2) (md_tk M2) (md_bg M2) (md_nu M2) (md_wr M2) from xw_up_s))) (xw_at xw_up_s rfl) rfl dX8_pivot_57 ⟨Nat.le_of_ble_eq_true rfl, Nat.le_of_ble_eq_true rfl⟩ rfl (Nat.le_of_ble_eq_true rfl) rfl rfl ?_
      refine xj.eqG (G' := xw_up G2 21 (pM v (md_th M2) (nR te ho ow hs ra lo (nI n) st av so ln) (md_pt M2) (md_re M2) (md_sd M2) (md_be M2) (md_pb M2) (md_ac M2) od ad wy so3 rl io3 (sl_po (kM te ho ow h1 r1 l1 m)) (sl_sp (kM te ho ow h1 r1 l1 m)) (sl_rs (kM te ho ow h1 r1 l1 m)) (sl_st (kM te ho ow h1 r1 l1 m)) (sl_av (kM te ho ow h1 r1 l1 m)) (sl_pt (kM te ho ow h1 r1 l1 m)) (md_tx M2) (md_tm M2) (md_ta M2) (md_td M2) (md_wo M2) (md_sq M2) (md_tk M2) (md_bg M2) (md_nu M2) (md_wr M2))) (by rw [hsd, cp139]) ?_
      refine xj_iload_n (i := 1) hk dX8_pivot_60 rfl rfl ?_
      refine xj_iconst (x := (-1)) hk dX8_pivot_61 (by decide) ?_
      refine xj_icmp_eq (tgt := 76) hk dX8_pivot_62 (by decide) (fun c62 => ?_) (fun c62 => ?_)
      · refine xj_iload_n (i := 3) hk dX8_pivot_76 rfl rfl ?_
        refine xj_istore_n (i := 1) (ls2 := [some (.ref (xw_ad v 21 0)), some (.int (nI k)), some (.int ((mPv (pv_f (mB te ho ow hs ra lo n) n) k).2)), some (.int (nI k)), none]) hk dX8_pivot_77 rfl (by decide) rfl rfl ?_
        refine xj_aload_n (i := 0) hk dX8_pivot_78 rfl rfl ?_
        refine xj_getfield hk dX8_pivot_79 fl_X8_153 (xw_at xw_up_s rfl) rfl ?_
        refine xj.eqi (x' := pv_f (mB te ho ow hs ra lo n) n k) hpv ?_
        refine xj_istore_n (i := 2) (ls2 := [some (.ref (xw_ad v 21 0)), some (.int (nI k)), some (.int (pv_f (mB te ho ow hs ra lo n) n k)), some (.int (nI k)), none]) hk dX8_pivot_82 rfl (by decide) rfl rfl ?_
        refine xj_iinc (i := 3) (x2 := nI (k + 1)) (ls2 := [some (.ref (xw_ad v 21 0)), some (.int (nI k)), some (.int (pv_f (mB te ho ow hs ra lo n) n k)), some (.int (nI (k + 1))), none]) hk dX8_pivot_83 rfl (nI_1 k) (by decide) rfl rfl ?_
        refine xj_goto (tgt := 7) hk dX8_pivot_86 (by decide) ?_
        refine xj.to (ls' := [some (.ref (xw_ad v 21 0)), some (.int ((mPv (pv_f (mB te ho ow hs ra lo n) n) ((k + 1))).1)), some (.int ((mPv (pv_f (mB te ho ow hs ra lo n) n) ((k + 1))).2)), some (.int (nI ((k + 1)))), none]) (by rw [show mPv (pv_f (mB te ho ow hs ra lo n) n) (k + 1) = if ¬ (mPv (pv_f (mB te ho ow hs ra lo n) n) k).1 = -1 ∧ pv_f (mB te ho ow hs ra lo n) n k ≤ (mPv (pv_f (mB te ho ow hs ra lo n) n) k).2 then mPv (pv_f (mB te ho ow hs ra lo n) n) k else (nI k, pv_f (mB te ho ow hs ra lo n) n k) from rfl]; rw [if_neg (fun q => q.1 c62)]) (ih (k + 1) (xw_up G2 21 (pM v (md_th M2) (nR te ho ow hs ra lo (nI n) st av so ln) (md_pt M2) (md_re M2) (md_sd M2) (md_be M2) (md_pb M2) (md_ac M2) od ad wy so3 rl io3 (sl_po (kM te ho ow h1 r1 l1 m)) (sl_sp (kM te ho ow h1 r1 l1 m)) (sl_rs (kM te ho ow h1 r1 l1 m)) (sl_st (kM te ho ow h1 r1 l1 m)) (sl_av (kM te ho ow h1 r1 l1 m)) (sl_pt (kM te ho ow h1 r1 l1 m)) (md_tx M2) (md_tm M2) (md_ta M2) (md_td M2) (md_wo M2) (md_sq M2) (md_tk M2) (md_bg M2) (md_nu M2) (md_wr M2))) ((md_th M2, nR te ho ow hs ra lo (nI n) st av so ln, md_pt M2, md_re M2, md_sd M2, md_be M2, md_pb M2, md_ac M2, od, ad, wy, so3, rl, io3, sl_po (kM te ho ow h1 r1 l1 m), sl_sp (kM te ho ow h1 r1 l1 m), sl_rs (kM te ho ow h1 r1 l1 m), sl_st (kM te ho ow h1 r1 l1 m), sl_av (kM te ho ow h1 r1 l1 m), sl_pt (kM te ho ow h1 r1 l1 m), md_tx M2, md_tm M2, md_ta M2, md_td M2, md_wo M2, md_sq M2, md_tk M2, md_bg M2, md_nu M2, md_wr M2)) (by omega) (by omega) xw_up_s hkM2 (fun g h => (xw_up_n h).trans (hfM2 g h)))
      · refine xj_aload_n (i := 0) hk dX8_pivot_65 rfl rfl ?_
        refine xj_getfield hk dX8_pivot_66 fl_X8_153 (xw_at xw_up_s rfl) rfl ?_
        refine xj.eqi (x' := pv_f (mB te ho ow hs ra lo n) n k) hpv ?_
        refine xj_iload_n (i := 2) hk dX8_pivot_69 rfl rfl ?_
        refine xj_icmp_gt (tgt := 76) hk dX8_pivot_70 (by decide) (fun c70 => ?_) (fun c70 => ?_)
        · refine xj_iload_n (i := 3) hk dX8_pivot_76 rfl rfl ?_
          refine xj_istore_n (i := 1) (ls2 := [some (.ref (xw_ad v 21 0)), some (.int (nI k)), some (.int ((mPv (pv_f (mB te ho ow hs ra lo n) n) k).2)), some (.int (nI k)), none]) hk dX8_pivot_77 rfl (by decide) rfl rfl ?_
          refine xj_aload_n (i := 0) hk dX8_pivot_78 rfl rfl ?_
          refine xj_getfield hk dX8_pivot_79 fl_X8_153 (xw_at xw_up_s rfl) rfl ?_
          refine xj.eqi (x' := pv_f (mB te ho ow hs ra lo n) n k) hpv ?_
          refine xj_istore_n (i := 2) (ls2 := [some (.ref (xw_ad v 21 0)), some (.int (nI k)), some (.int (pv_f (mB te ho ow hs ra lo n) n k)), some (.int (nI k)), none]) hk dX8_pivot_82 rfl (by decide) rfl rfl ?_
          refine xj_iinc (i := 3) (x2 := nI (k + 1)) (ls2 := [some (.ref (xw_ad v 21 0)), some (.int (nI k)), some (.int (pv_f (mB te ho ow hs ra lo n) n k)), some (.int (nI (k + 1))), none]) hk dX8_pivot_83 rfl (nI_1 k) (by decide) rfl rfl ?_
          refine xj_goto (tgt := 7) hk dX8_pivot_86 (by decide) ?_
          refine xj.to (ls' := [some (.ref (xw_ad v 21 0)), some (.int ((mPv (pv_f (mB te ho ow hs ra lo n) n) ((k + 1))).1)), some (.int ((mPv (pv_f (mB te ho ow hs ra lo n) n) ((k + 1))).2)), some (.int (nI ((k + 1)))), none]) (by rw [show mPv (pv_f (mB te ho ow hs ra lo n) n) (k + 1) = if ¬ (mPv (pv_f (mB te ho ow hs ra lo n) n) k).1 = -1 ∧ pv_f (mB te ho ow hs ra lo n) n k ≤ (mPv (pv_f (mB te ho ow hs ra lo n) n) k).2 then mPv (pv_f (mB te ho ow hs ra lo n) n) k else (nI k, pv_f (mB te ho ow hs ra lo n) n k) from rfl]; first | rw [if_neg (fun q => absurd c70 (Int32.not_lt.mpr q.2))] | rw [if_pos ⟨c62, Int32.not_lt.mp c70⟩]) (ih (k + 1) (xw_up G2 21 (pM v (md_th M2) (nR te ho ow hs ra lo (nI n) st av so ln) (md_pt M2) (md_re M2) (md_sd M2) (md_be M2) (md_pb M2) (md_ac M2) od ad wy so3 rl io3 (sl_po (kM te ho ow h1 r1 l1 m)) (sl_sp (kM te ho ow h1 r1 l1 m)) (sl_rs (kM te ho ow h1 r1 l1 m)) (sl_st (kM te ho ow h1 r1 l1 m)) (sl_av (kM te ho ow h1 r1 l1 m)) (sl_pt (kM te ho ow h1 r1 l1 m)) (md_tx M2) (md_tm M2) (md_ta M2) (md_td M2) (md_wo M2) (md_sq M2) (md_tk M2) (md_bg M2) (md_nu M2) (md_wr M2))) ((md_th M2, nR te ho ow hs ra lo (nI n) st av so ln, md_pt M2, md_re M2, md_sd M2, md_be M2, md_pb M2, md_ac M2, od, ad, wy, so3, rl, io3, sl_po (kM te ho ow h1 r1 l1 m), sl_sp (kM te ho ow h1 r1 l1 m), sl_rs (kM te ho ow h1 r1 l1 m), sl_st (kM te ho ow h1 r1 l1 m), sl_av (kM te ho ow h1 r1 l1 m), sl_pt (kM te ho ow h1 r1 l1 m), md_tx M2, md_tm M2, md_ta M2, md_td M2, md_wo M2, md_sq M2, md_tk M2, md_bg M2, md_nu M2, md_wr M2)) (by omega) (by omega) xw_up_s hkM2 (fun g h => (xw_up_n h).trans (hfM2 g h)))
        · refine xj_goto (tgt := 83) hk dX8_pivot_73 (by decide) ?_
          refine xj_iinc (i := 3) (x2 := nI (k + 1)) (ls2 := [some (.ref (xw_ad v 21 0)), some (.int ((mPv (pv_f (mB te ho ow hs ra lo n) n) k).1)), some (.int ((mPv (pv_f (mB te ho ow hs ra lo n) n) k).2)), some (.int (nI (k + 1))), none]) hk dX8_pivot_83 rfl (nI_1 k) (by decide) rfl rfl ?_
          refine xj_goto (tgt := 7) hk dX8_pivot_86 (by decide) ?_
          refine xj.to (ls' := [some (.ref (xw_ad v 21 0)), some (.int ((mPv (pv_f (mB te ho ow hs ra lo n) n) ((k + 1))).1)), some (.int ((mPv (pv_f (mB te ho ow hs ra lo n) n) ((k + 1))).2)), some (.int (nI ((k + 1)))), none]) (by rw [show mPv (pv_f (mB te ho ow hs ra lo n) n) (k + 1) = if ¬ (mPv (pv_f (mB te ho ow hs ra lo n) n) k).1 = -1 ∧ pv_f (mB te ho ow hs ra lo n) n k ≤ (mPv (pv_f (mB te ho ow hs ra lo n) n) k).2 then mPv (pv_f (mB te ho ow hs ra lo n) n) k else (nI k, pv_f (mB te ho ow hs ra lo n) n k) from rfl]; first | rw [if_neg (fun q => absurd c70 (Int32.not_lt.mpr q.2))] | rw [if_pos ⟨c62, Int32.not_lt.mp c70⟩]) (ih (k + 1) (xw_up G2 21 (pM v (md_th M2) (nR te ho ow hs ra lo (nI n) st av so ln) (md_pt M2) (md_re M2) (md_sd M2) (md_be M2) (md_pb M2) (md_ac M2) od ad wy so3 rl io3 (sl_po (kM te ho ow h1 r1 l1 m)) (sl_sp (kM te ho ow h1 r1 l1 m)) (sl_rs (kM te ho ow h1 r1 l1 m)) (sl_st (kM te ho ow h1 r1 l1 m)) (sl_av (kM te ho ow h1 r1 l1 m)) (sl_pt (kM te ho ow h1 r1 l1 m)) (md_tx M2) (md_tm M2) (md_ta M2) (md_td M2) (md_wo M2) (md_sq M2) (md_tk M2) (md_bg M2) (md_nu M2) (md_wr M2))) ((md_th M2, nR te ho ow hs ra lo (nI n) st av so ln, md_pt M2, md_re M2, md_sd M2, md_be M2, md_pb M2, md_ac M2, od, ad, wy, so3, rl, io3, sl_po (kM te ho ow h1 r1 l1 m), sl_sp (kM te ho ow h1 r1 l1 m), sl_rs (kM te ho ow h1 r1 l1 m), sl_st (kM te ho ow h1 r1 l1 m), sl_av (kM te ho ow h1 r1 l1 m), sl_pt (kM te ho ow h1 r1 l1 m), md_tx M2, md_tm M2, md_ta M2, md_td M2, md_wo M2, md_sq M2, md_tk M2, md_bg M2, md_nu M2, md_wr M2)) (by omega) (by omega) xw_up_s hkM2 (fun g h => (xw_up_n h).trans (hfM2 g h)))

theorem MV_rmA {te ow : Nat → Int32} {h : Int32} : ∀ (i : Nat) (t : bd_T), i ≤ t.1 → MV te ow t.2.1 t.2.2.1 t.2.2.2 t.1 → MV te ow (bd_rmA h i t).2.1 (bd_rmA h i t).2.2.1 (bd_rmA h i t).2.2.2 (bd_rmA h i t).1
  | 0, t, _, hq => hq
  | i + 1, t, hi, hq => by
    simp only [bd_rmA]
    by_cases c : t.2.1 i = h
    · rw [if_pos c]; exact MV_rmA i (bd_rm t i) (by simp only [bd_rm]; omega) (MV_rm hq)
    · rw [if_neg c]; exact MV_rmA i t (by omega) hq
theorem pv_ge {te ho ow hs ra lo : Nat → Int32} {n k : Nat} (hq : MV te ow hs ra lo n) : -2 ≤ pv_f (mB te ho ow hs ra lo n) n k := by
  have h := MV_rmA (h := nI k) n (n, hs, ra, lo) (Nat.le_refl n) hq
  have := kF_st (kMF (ho := ho) h)
  have e : pv_f (mB te ho ow hs ra lo n) n k = sl_st (kM te ho ow (bd_rmA (nI k) n (n, hs, ra, lo)).2.1 (bd_rmA (nI k) n (n, hs, ra, lo)).2.2.1 (bd_rmA (nI k) n (n, hs, ra, lo)).2.2.2 (bd_rmA (nI k) n (n, hs, ra, lo)).1) := rfl
  rw [e]
  rcases this with ⟨g, -⟩ | g
  · exact Int32.le_trans (by decide) g
  · rw [g]; exact Int32.le_rfl
set_option maxHeartbeats 1000000 in
set_option maxRecDepth 10000 in
theorem c_X8_pivot {v : xw_V} {G : xw_G} {M : md_T} {te ho ow hs ra lo st av so : Nat → Int32} {ln : Int32} {n : Nat} (hM : G 21 = pM v (md_th M) (nR te ho ow hs ra lo (nI n) st av so ln) (md_pt M) (md_re M) (md_sd M) (md_be M) (md_pb M) (md_ac M) (md_od M) (md_ad M) (md_wy M) (md_so M) (md_rl M) (md_io M) (md_po M) (md_sp M) (md_rs M) (md_st M) (md_av M) (md_ip M) (md_tx M) (md_tm M) (md_ta M) (md_td M) (md_wo M) (md_sq M) (md_tk M) (md_bg M) (md_nu M) (md_wr M)) (hq : MV te ow hs ra lo n) : xk_Con v yX8_pivot cX8_pivot 5 (some .int) 4 89 [.ref (xw_ad v 21 0)] G (fun r9 G' => r9 = some (.int (q_pivot (mB te ho ow hs ra lo n) n)) ∧ mQ v G G' (nR te ho ow hs ra lo (nI n) st av so ln) M) := by
  refine xk_of (ls0 := [some (.ref (xw_ad v 21 0)), none, none, none, none]) (by decide) rfl (Nat.le_of_ble_eq_true rfl) ?_
  intro κ z hk hz
  have hn30 : n ≤ 30 := hq.1
  refine xj_iconst (x := (-1)) hk dX8_pivot_0 (by decide) ?_
  refine xj_istore_n (i := 1) (ls2 := [some (.ref (xw_ad v 21 0)), some (.int ((-1))), none, none, none]) hk dX8_pivot_1 rfl (by decide) rfl rfl ?_
  refine xj_bipush (x := (-2)) hk dX8_pivot_2 (by decide) ?_
  refine xj_istore_n (i := 2) (ls2 := [some (.ref (xw_ad v 21 0)), some (.int ((-1))), some (.int ((-2))), none, none]) hk dX8_pivot_4 rfl (by decide) rfl rfl ?_
  refine xj_iconst (x := 0) hk dX8_pivot_5 (by decide) ?_
  refine xj_istore_n (i := 3) (ls2 := [some (.ref (xw_ad v 21 0)), some (.int ((-1))), some (.int ((-2))), some (.int 0), none]) hk dX8_pivot_6 rfl (by decide) rfl rfl ?_
  refine xj.to (ls' := [some (.ref (xw_ad v 21 0)), some (.int ((mPv (pv_f (mB te ho ow hs ra lo n) n) 0).1)), some (.int ((mPv (pv_f (mB te ho ow hs ra lo n) n) 0).2)), some (.int (nI 0)), none]) rfl ?_
  refine l_X8_pivot_7 hk hz hq hn30 (fun G1 M1 hM1 hkM1 hfM1 => ?_) (8 + 1) 0 G M (by omega) (by omega) hM (mK_r M) (fun _ _ => rfl)
  refine xj_iload_n (i := 1) hk dX8_pivot_89 rfl rfl ?_
  refine xj_ireturn hk hz dX8_pivot_90 ?_
  refine ⟨?_, ⟨⟨M1, hM1, hkM1⟩, hfM1⟩⟩
  · simp only [q_pivot]
    rw [(mPv_eq (f := (pv_f (mB te ho ow hs ra lo n) n)) (fun k _ => pv_ge hq) 7 (by omega)).1]


def mK (M M' : md_T) : Prop := md_pt M' = md_pt M ∧ md_be M' = md_be M ∧ md_pb M' = md_pb M ∧ md_ac M' = md_ac M ∧ md_ta M' = md_ta M ∧ md_td M' = md_td M ∧ md_wo M' = md_wo M
theorem mK_r (M : md_T) : mK M M := ⟨rfl, rfl, rfl, rfl, rfl, rfl, rfl⟩
theorem mK_t {M M1 M2 : md_T} (h : mK M M1) (g : mK M1 M2) : mK M M2 := ⟨g.1.trans h.1, g.2.1.trans h.2.1, g.2.2.1.trans h.2.2.1, g.2.2.2.1.trans h.2.2.2.1, g.2.2.2.2.1.trans h.2.2.2.2.1, g.2.2.2.2.2.1.trans h.2.2.2.2.2.1, g.2.2.2.2.2.2.trans h.2.2.2.2.2.2⟩
theorem xu_bk {α : Type} {f : Nat → α} {k : Nat} {x : α} : xu (xu f k x) k (f k) = f := by
  funext j
  by_cases q : j = k
  · subst q; rw [xu_s]
  · rw [xu_n q, xu_n q]
theorem vT_x {te : Nat → Int32} {i : Nat} {x : Int32} (hi : i < 7) (hv : vT te) (h : tfit te (nI i) x = true) : vT (xu te i x) := by
  obtain ⟨a, b, c, d, e, f⟩ := hv
  simp only [tfit] at h
  rw [if_neg (nI_pos (by omega)), if_neg (show ¬ (7 : Int32) ≤ nI i from fun q => absurd ((nI_leI (a := 7) (b := i) (by decide) (by omega)).mp q) (by omega)), xn_nI (by omega)] at h
  by_cases h1 : x < st_LEAST i
  · rw [if_pos h1] at h; cases h
  rw [if_neg h1] at h
  by_cases h2 : ¬ x ≤ st_MOST i
  · rw [if_pos h2] at h; cases h
  rw [if_neg h2] at h
  have h1 := Int32.not_lt.mp h1
  have h2 := Decidable.not_not.mp h2
  simp only [vT]
  match i, hi with
  | 0, _ => exact ⟨⟨by rw [xu_s]; exact h1, by rw [xu_s]; exact h2⟩, b, c, d, e, f⟩
  | 1, _ => exact ⟨a, ⟨by rw [xu_s]; exact h1, by rw [xu_s]; exact h2⟩, c, d, e, f⟩
  | 2, _ => exact ⟨a, b, ⟨by rw [xu_s]; exact h1, by rw [xu_s]; exact h2⟩, d, e, f⟩
  | 3, _ =>
    rw [if_pos (show nI 3 = (3 : Int32) from rfl)] at h
    refine ⟨a, b, c, ⟨by rw [xu_s]; exact h1, ?_, d.2.2⟩, e, f⟩
    rw [xu_s]
    have h : (!(decide (te 4 < x))) = true := h
    simp only [Bool.not_eq_true', decide_eq_false_iff_not] at h
    exact Int32.not_lt.mp h
  | 4, _ =>
    rw [if_neg (show ¬ nI 4 = (3 : Int32) from by decide), if_pos (show nI 4 = (4 : Int32) from rfl)] at h
    refine ⟨a, b, c, ⟨d.1, ?_, by rw [xu_s]; exact h2⟩, e, f⟩
    rw [xu_s]
    have h : (!(decide (x < te 3))) = true := h
    simp only [Bool.not_eq_true', decide_eq_false_iff_not] at h
    exact Int32.not_lt.mp h
  | 5, _ => exact ⟨a, b, c, d, ⟨by rw [xu_s]; exact h1, by rw [xu_s]; exact h2⟩, f⟩
  | 6, _ =>
    refine ⟨a, b, c, d, e, ?_⟩
    rw [xu_s]
    have h1 : (0 : Int32) ≤ x := h1
    have h2 : x ≤ (1 : Int32) := h2
    obtain ⟨y, hy, by1⟩ := te_nI (k := 1) (by decide) h1 h2
    match y, by1 with
    | 0, _ => exact Or.inl hy
    | 1, _ => exact Or.inr hy
  | i + 7, hi => exact absurd hi (by omega)
theorem MV_te {te ow hs ra lo : Nat → Int32} {n i : Nat} {x : Int32} (hi : i < 7) (hq : MV te ow hs ra lo n) (h : tfit te (nI i) x = true) : MV (xu te i x) ow hs ra lo n := ⟨hq.1, hq.2.1, hq.2.2.1, vT_x hi hq.2.2.2.1 h, hq.2.2.2.2⟩
set_option maxHeartbeats 1000000 in
set_option maxRecDepth 10000 in
theorem c_X8_toldBy {v : xw_V} {G : xw_G} {M : md_T} {te ho ow hs ra lo st av so : Nat → Int32} {ln : Int32} {n i : Nat} (hM : G 21 = pM v (md_th M) (nR te ho ow hs ra lo (nI n) st av so ln) (md_pt M) (md_re M) (md_sd M) (md_be M) (md_pb M) (md_ac M) (md_od M) (md_ad M) (md_wy M) (md_so M) (md_rl M) (md_io M) (md_po M) (md_sp M) (md_rs M) (md_st M) (md_av M) (md_ip M) (md_tx M) (md_tm M) (md_ta M) (md_td M) (md_wo M) (md_sq M) (md_tk M) (md_bg M) (md_nu M) (md_wr M)) (x w : Int32) (hi7 : i < 7) (hq2 : MV (xu te i x) ow hs ra lo n) (hw : mIn w 0 11 = true) : xk_Con v yX8_toldBy cX8_toldBy 6 (some .int) 5 113 [.ref (xw_ad v 21 0), .int (nI i), .int x, .int w] G (fun r9 G' => r9 = some (.int (fig (mB (xu te i x) ho ow hs ra lo n) (kM (xu te i x) ho ow hs ra lo n) n w)) ∧ mQ v G G' (nR te ho ow hs ra lo (nI n) st av so ln) M) := by
  refine xk_of (ls0 := [some (.ref (xw_ad v 21 0)), some (.int (nI i)), some (.int x), some (.int w), none, none]) (by decide) rfl (Nat.le_of_ble_eq_true rfl) ?_
  intro κ z hk hz
  refine xj_aload_n (i := 0) hk dX8_toldBy_0 rfl rfl ?_
  refine xj_getfield hk dX8_toldBy_1 fl_X8_13 (xw_at hM rfl) rfl ?_
  refine xj_iload_n (i := 1) hk dX8_toldBy_4 rfl rfl ?_
  refine xj_iaload (k := i) hk dX8_toldBy_5 (xw_at hM rfl) (xi_n (by omega) (by decide)) ?_
  refine xj.eqi (x' := te i) (rR_te (k := i) (by omega)) ?_
  refine xj_istore (i := 4) (ls2 := [some (.ref (xw_ad v 21 0)), some (.int (nI i)), some (.int x), some (.int w), some (.int (te i)), none]) hk dX8_toldBy_6 (by decide) rfl rfl ?_
  refine xj_aload_n (i := 0) hk dX8_toldBy_8 rfl rfl ?_
  refine xj_getfield hk dX8_toldBy_9 fl_X8_13 (xw_at hM rfl) rfl ?_
  refine xj_iload_n (i := 1) hk dX8_toldBy_12 rfl rfl ?_
  refine xj_iload_n (i := 2) hk dX8_toldBy_13 rfl rfl ?_
  refine xj_iastore (k := i) (G2 := xw_up G 21 (pM v (md_th M) (xu (nR te ho ow hs ra lo (nI n) st av so ln) i x) (md_pt M) (md_re M) (md_sd M) (md_be M) (md_pb M) (md_ac M) (md_od M) (md_ad M) (md_wy M) (md_so M) (md_rl M) (md_io M) (md_po M) (md_sp M) (md_rs M) (md_st M) (md_av M) (md_ip M) (md_tx M) (md_tm M) (md_ta M) (md_td M) (md_wo M) (md_sq M) (md_tk M) (md_bg M) (md_nu M) (md_wr M))) hk dX8_toldBy_14 (xw_at hM rfl) (xi_n (by omega) (by decide)) (xw_wr hM rfl) ?_
  refine xj.eqG (G' := xw_up G 21 (pM v (md_th M) (nR (xu te i x) ho ow hs ra lo (nI n) st av so ln) (md_pt M) (md_re M) (md_sd M) (md_be M) (md_pb M) (md_ac M) (md_od M) (md_ad M) (md_wy M) (md_so M) (md_rl M) (md_io M) (md_po M) (md_sp M) (md_rs M) (md_st M) (md_av M) (md_ip M) (md_tx M) (md_tm M) (md_ta M) (md_td M) (md_wo M) (md_sq M) (md_tk M) (md_bg M) (md_nu M) (md_wr M))) (by rw [wR_te (k := i) (by omega)]) ?_
  refine xj_aload_n (i := 0) hk dX8_toldBy_15 rfl rfl ?_
  refine xj_iload_n (i := 3) hk dX8_toldBy_16 rfl rfl ?_
  refine xj_callVE hk hz (fr1 := 4) (lo1 := 89) (As := [.int w]) (st := []) ml_X8_204 (c_X8_told (n := n) (M := M) (show (xw_up G 21 (pM v (md_th M) (nR (xu te i x) ho ow hs ra lo (nI n) st av so ln) (md_pt M) (md_re M) (md_sd M) (md_be M) (md_pb M) (md_ac M) (md_od M) (md_ad M) (md_wy M) (md_so M) (md_rl M) (md_io M) (md_po M) (md_sp M) (md_rs M) (md_st M) (md_av M) (md_ip M) (md_tx M) (md_tm M) (md_ta M) (md_td M) (md_wo M) (md_sq M) (md_tk M) (md_bg M) (md_nu M) (md_wr M))) 21 = pM v (md_th M) (nR (xu te i x) ho ow hs ra lo (nI n) st av so ln) (md_pt M) (md_re M) (md_sd M) (md_be M) (md_pb M) (md_ac M) (md_od M) (md_ad M) (md_wy M) (md_so M) (md_rl M) (md_io M) (md_po M) (md_sp M) (md_rs M) (md_st M) (md_av M) (md_ip M) (md_tx M) (md_tm M) (md_ta M) (md_td M) (md_wo M) (md_sq M) (md_tk M) (md_bg M) (md_nu M) (md_wr M) from xw_up_s) hq2 w hw) (xw_at xw_up_s rfl) rfl dX8_toldBy_17 ⟨Nat.le_of_ble_eq_true rfl, Nat.le_of_ble_eq_true rfl⟩ rfl (Nat.le_of_ble_eq_true rfl) rfl ?_
  rintro _ G_M1 ⟨rfl, ⟨M1, hM1, hkM1⟩, hfM1⟩
  have hM1 : G_M1 21 = pM v (md_th M1) (nR (xu te i x) ho ow hs ra lo (nI n) st av so ln) (md_pt M1) (md_re M1) (md_sd M1) (md_be M1) (md_pb M1) (md_ac M1) (md_od M1) (md_ad M1) (md_wy M1) (md_so M1) (md_rl M1) (md_io M1) (md_po M1) (md_sp M1) (md_rs M1) (md_st M1) (md_av M1) (md_ip M1) (md_tx M1) (md_tm M1) (md_ta M1) (md_td M1) (md_wo M1) (md_sq M1) (md_tk M1) (md_bg M1) (md_nu M1) (md_wr M1) := hM1
  have hkM1 : mK M M1 := hkM1
  have hfM1 : ∀ g, g ≠ 21 → G_M1 g = G g := fun g h => (hfM1 g h).trans (xw_up_n h)
  show xj v κ _ z G_M1 20 _ [.int (fig (mB (xu te i x) ho ow hs ra lo n) (kM (xu te i x) ho ow hs ra lo n) n w)]
  refine xj_istore (i := 5) (ls2 := [some (.ref (xw_ad v 21 0)), some (.int (nI i)), some (.int x), some (.int w), some (.int (te i)), some (.int (fig (mB (xu te i x) ho ow hs ra lo n) (kM (xu te i x) ho ow hs ra lo n) n w))]) hk dX8_toldBy_20 (by decide) rfl rfl ?_
  refine xj_aload_n (i := 0) hk dX8_toldBy_22 rfl rfl ?_
  refine xj_getfield hk dX8_toldBy_23 fl_X8_13 (xw_at hM1 rfl) rfl ?_
  refine xj_iload_n (i := 1) hk dX8_toldBy_26 rfl rfl ?_
  refine xj_iload hk dX8_toldBy_27 rfl ?_
  refine xj_iastore (k := i) (G2 := xw_up G_M1 21 (pM v (md_th M1) (xu (nR (xu te i x) ho ow hs ra lo (nI n) st av so ln) i (te i)) (md_pt M1) (md_re M1) (md_sd M1) (md_be M1) (md_pb M1) (md_ac M1) (md_od M1) (md_ad M1) (md_wy M1) (md_so M1) (md_rl M1) (md_io M1) (md_po M1) (md_sp M1) (md_rs M1) (md_st M1) (md_av M1) (md_ip M1) (md_tx M1) (md_tm M1) (md_ta M1) (md_td M1) (md_wo M1) (md_sq M1) (md_tk M1) (md_bg M1) (md_nu M1) (md_wr M1))) hk dX8_toldBy_29 (xw_at hM1 rfl) (xi_n (by omega) (by decide)) (xw_wr hM1 rfl) ?_
  refine xj.eqG (G' := xw_up G_M1 21 (pM v (md_th M1) (nR (xu (xu te i x) i (te i)) ho ow hs ra lo (nI n) st av so ln) (md_pt M1) (md_re M1) (md_sd M1) (md_be M1) (md_pb M1) (md_ac M1) (md_od M1) (md_ad M1) (md_wy M1) (md_so M1) (md_rl M1) (md_io M1) (md_po M1) (md_sp M1) (md_rs M1) (md_st M1) (md_av M1) (md_ip M1) (md_tx M1) (md_tm M1) (md_ta M1) (md_td M1) (md_wo M1) (md_sq M1) (md_tk M1) (md_bg M1) (md_nu M1) (md_wr M1))) (by rw [wR_te (k := i) (by omega)]) ?_
  refine xj.eqG (G' := xw_up G_M1 21 (pM v (md_th M1) (nR te ho ow hs ra lo (nI n) st av so ln) (md_pt M1) (md_re M1) (md_sd M1) (md_be M1) (md_pb M1) (md_ac M1) (md_od M1) (md_ad M1) (md_wy M1) (md_so M1) (md_rl M1) (md_io M1) (md_po M1) (md_sp M1) (md_rs M1) (md_st M1) (md_av M1) (md_ip M1) (md_tx M1) (md_tm M1) (md_ta M1) (md_td M1) (md_wo M1) (md_sq M1) (md_tk M1) (md_bg M1) (md_nu M1) (md_wr M1))) (by rw [xu_bk]) ?_
  refine xj_iload hk dX8_toldBy_30 rfl ?_
  refine xj_ireturn hk hz dX8_toldBy_32 ?_
  refine ⟨?_, ⟨⟨(md_th M1, nR te ho ow hs ra lo (nI n) st av so ln, md_pt M1, md_re M1, md_sd M1, md_be M1, md_pb M1, md_ac M1, md_od M1, md_ad M1, md_wy M1, md_so M1, md_rl M1, md_io M1, md_po M1, md_sp M1, md_rs M1, md_st M1, md_av M1, md_ip M1, md_tx M1, md_tm M1, md_ta M1, md_td M1, md_wo M1, md_sq M1, md_tk M1, md_bg M1, md_nu M1, md_wr M1), xw_up_s, hkM1⟩, fun g h => (xw_up_n h).trans (hfM1 g h)⟩⟩
  · rfl

theorem tf0 {te : Nat → Int32} {x : Int32} : tfit te 0 x = mIn x 1 2000 := by
  simp only [tfit, mIn]
  rw [if_neg (by decide), if_neg (by decide)]
  by_cases c : x < 1
  · rw [if_pos (show x < st_LEAST (xn 0) from c), decide_eq_true c]; rfl
  · rw [if_neg (show ¬ x < st_LEAST (xn 0) from c), decide_eq_false c]
    by_cases d : x ≤ 2000
    · rw [if_neg (show ¬ ¬ x ≤ st_MOST (xn 0) from fun q => q d), if_neg (by decide), if_neg (by decide), decide_eq_false (Int32.not_lt.mpr d)]; rfl
    · rw [if_pos (show ¬ x ≤ st_MOST (xn 0) from d), decide_eq_true (Int32.not_le.mp d)]; rfl
set_option maxHeartbeats 1000000 in
set_option maxRecDepth 10000 in
theorem c_X8_byOffer {v : xw_V} {G : xw_G} {M : md_T} {te ho ow hs ra lo st av so : Nat → Int32} {ln : Int32} {n : Nat} (hM : G 21 = pM v (md_th M) (nR te ho ow hs ra lo (nI n) st av so ln) (md_pt M) (md_re M) (md_sd M) (md_be M) (md_pb M) (md_ac M) (md_od M) (md_ad M) (md_wy M) (md_so M) (md_rl M) (md_io M) (md_po M) (md_sp M) (md_rs M) (md_st M) (md_av M) (md_ip M) (md_tx M) (md_tm M) (md_ta M) (md_td M) (md_wo M) (md_sq M) (md_tk M) (md_bg M) (md_nu M) (md_wr M)) (hq : MV te ow hs ra lo n) (x y : Int32) : xk_Con v yX8_byOffer cX8_byOffer 3 (some .int) 6 138 [.ref (xw_ad v 21 0), .int x, .int y] G (fun r9 G' => r9 = some (.int (q_figBy (mB te ho ow hs ra lo n) n 0 x y)) ∧ mQ v G G' (nR te ho ow hs ra lo (nI n) st av so ln) M) := by
  refine xk_of (ls0 := [some (.ref (xw_ad v 21 0)), some (.int x), some (.int y)]) (by decide) rfl (Nat.le_of_ble_eq_true rfl) ?_
  intro κ z hk hz
  refine xj_iload_n (i := 1) hk dX8_byOffer_0 rfl rfl ?_
  refine xj_iconst (x := 1) hk dX8_byOffer_1 (by decide) ?_
  refine xj_sipush (x := 2000) hk dX8_byOffer_2 (by decide) ?_
  refine xj_callS hk hz (fr1 := 0) (lo1 := 0) (r1 := some (.int (xb (mIn x 1 2000)))) (As := [.int x, .int 1, .int 2000]) (st := []) (st2 := [.int (xb (mIn x 1 2000))]) (G1 := G) ml_X8_69 (c_X8_in x 1 2000) dX8_byOffer_5 ⟨Nat.le_of_ble_eq_true rfl, Nat.le_of_ble_eq_true rfl⟩ rfl (Nat.le_of_ble_eq_true rfl) rfl rfl ?_
  refine xj_ifb_eq (tgt := 28) hk dX8_byOffer_8 (by decide) (fun c8 => ?_) (fun c8 => ?_)
  · refine xj_iconst (x := (-1)) hk dX8_byOffer_28 (by decide) ?_
    refine xj_ireturn hk hz dX8_byOffer_29 ?_
    refine ⟨?_, ⟨⟨M, hM, rfl, rfl, rfl, rfl, rfl, rfl, rfl⟩, fun _ _ => rfl⟩⟩
    · simp only [q_figBy]
      rw [show tfit (bk_te (mB te ho ow hs ra lo n)) 0 x = false from tf0.trans c8]
      rfl
  · refine xj_iload_n (i := 2) hk dX8_byOffer_11 rfl rfl ?_
    refine xj_callS hk hz (fr1 := 1) (lo1 := 22) (r1 := some (.int (xb (mIn y 0 11)))) (As := [.int y]) (st := []) (st2 := [.int (xb (mIn y 0 11))]) (G1 := G) ml_X8_201 (c_X8_isResult y) dX8_byOffer_12 ⟨Nat.le_of_ble_eq_true rfl, Nat.le_of_ble_eq_true rfl⟩ rfl (Nat.le_of_ble_eq_true rfl) rfl rfl ?_
    refine xj_ifb_eq (tgt := 28) hk dX8_byOffer_15 (by decide) (fun c15 => ?_) (fun c15 => ?_)
    · refine xj_iconst (x := (-1)) hk dX8_byOffer_28 (by decide) ?_
      refine xj_ireturn hk hz dX8_byOffer_29 ?_
      refine ⟨?_, ⟨⟨M, hM, rfl, rfl, rfl, rfl, rfl, rfl, rfl⟩, fun _ _ => rfl⟩⟩
      · obtain ⟨u0, u1, u2, u3, u4, u5, u6, u7, u8, u9, u10, u11⟩ := mOut11 c15
        simp [q_figBy, fig, u0, u1, u2, u3, u4, u5, u6, u7, u8, u9, u10, u11]
    · refine xj_aload_n (i := 0) hk dX8_byOffer_18 rfl rfl ?_
      refine xj_iconst (x := 0) hk dX8_byOffer_19 (by decide) ?_
      refine xj_iload_n (i := 1) hk dX8_byOffer_20 rfl rfl ?_
      refine xj_iload_n (i := 2) hk dX8_byOffer_21 rfl rfl ?_
      refine xj_callVE hk hz (fr1 := 5) (lo1 := 113) (As := [.int 0, .int x, .int y]) (st := []) ml_X8_212 (c_X8_toldBy (n := n) (i := 0) (M := M) (show G 21 = pM v (md_th M) (nR te ho ow hs ra lo (nI n) st av so ln) (md_pt M) (md_re M) (md_sd M) (md_be M) (md_pb M) (md_ac M) (md_od M) (md_ad M) (md_wy M) (md_so M) (md_rl M) (md_io M) (md_po M) (md_sp M) (md_rs M) (md_st M) (md_av M) (md_ip M) (md_tx M) (md_tm M) (md_ta M) (md_td M) (md_wo M) (md_sq M) (md_tk M) (md_bg M) (md_nu M) (md_wr M) from hM) x y (by omega) (MV_te (i := 0) (by omega) hq (tf0.trans c8)) c15) (xw_at hM rfl) rfl dX8_byOffer_22 ⟨Nat.le_of_ble_eq_true rfl, Nat.le_of_ble_eq_true rfl⟩ rfl (Nat.le_of_ble_eq_true rfl) rfl ?_
      rintro _ G_M1 ⟨rfl, ⟨M1, hM1, hkM1⟩, hfM1⟩
      have hM1 : G_M1 21 = pM v (md_th M1) (nR te ho ow hs ra lo (nI n) st av so ln) (md_pt M1) (md_re M1) (md_sd M1) (md_be M1) (md_pb M1) (md_ac M1) (md_od M1) (md_ad M1) (md_wy M1) (md_so M1) (md_rl M1) (md_io M1) (md_po M1) (md_sp M1) (md_rs M1) (md_st M1) (md_av M1) (md_ip M1) (md_tx M1) (md_tm M1) (md_ta M1) (md_td M1) (md_wo M1) (md_sq M1) (md_tk M1) (md_bg M1) (md_nu M1) (md_wr M1) := hM1
      have hkM1 : mK M M1 := hkM1
      have hfM1 : ∀ g, g ≠ 21 → G_M1 g = G g := fun g h => (hfM1 g h)
      show xj v κ _ z G_M1 25 _ [.int (fig (mB (xu te 0 x) ho ow hs ra lo n) (kM (xu te 0 x) ho ow hs ra lo n) n y)]
      refine xj_goto (tgt := 29) hk dX8_byOffer_25 (by decide) ?_
      refine xj_ireturn hk hz dX8_byOffer_29 ?_
      refine ⟨?_, ⟨⟨M1, hM1, hkM1⟩, hfM1⟩⟩
      · simp only [q_figBy]
        rw [show tfit (bk_te (mB te ho ow hs ra lo n)) 0 x = true from tf0.trans c8]
        rfl

theorem mayB_t {te : Nat → Int32} (hv : vT te) (w x : Int32) : mayB te w x = tfit te w x := by
  have d3 : te 4 ≤ 999 := hv.2.2.2.1.2.2
  have d4 : 0 ≤ te 3 := hv.2.2.2.1.1
  by_cases w0 : w = 0
  · subst w0
    simp only [mayB, tfit, mIn]
    rw [show st_LEAST (xn (0 : Int32)) = 1 from rfl, show st_MOST (xn (0 : Int32)) = 2000 from rfl]
    by_cases c : x < 1
    · simp [c]
    · by_cases d : x ≤ 2000
      · simp [c, d, Int32.not_lt.mpr d]
      · simp [c, d, Int32.not_le.mp d]
  by_cases w1 : w = 1
  · subst w1
    simp only [mayB, tfit, mIn]
    rw [show st_LEAST (xn (1 : Int32)) = 1 from rfl, show st_MOST (xn (1 : Int32)) = 100 from rfl]
    by_cases c : x < 1
    · simp [c]
    · by_cases d : x ≤ 100
      · simp [c, d, Int32.not_lt.mpr d]
      · simp [c, d, Int32.not_le.mp d]
  by_cases w2 : w = 2
  · subst w2
    simp only [mayB, tfit, mIn]
    rw [show st_LEAST (xn (2 : Int32)) = 0 from rfl, show st_MOST (xn (2 : Int32)) = 100 from rfl]
    by_cases c : x < 0
    · simp [c]
    · by_cases d : x ≤ 100
      · simp [c, d, Int32.not_lt.mpr d]
      · simp [c, d, Int32.not_le.mp d]
  by_cases w3 : w = 3
  · subst w3
    simp only [mayB, tfit, mIn]
    rw [show st_LEAST (xn (3 : Int32)) = 0 from rfl, show st_MOST (xn (3 : Int32)) = 999 from rfl]
    by_cases c : x < 0
    · simp [c]
    · by_cases d : te 4 < x
      · simp [c, d]
      · have e : x ≤ 999 := Int32.le_trans (Int32.not_lt.mp d) d3
        simp [c, d, e]
  by_cases w4 : w = 4
  · subst w4
    simp only [mayB, tfit, mIn]
    rw [show st_LEAST (xn (4 : Int32)) = 0 from rfl, show st_MOST (xn (4 : Int32)) = 999 from rfl]
    by_cases c : x < te 3
    · simp [c]
    · have e : ¬ x < 0 := Int32.not_lt.mpr (Int32.le_trans d4 (Int32.not_lt.mp c))
      by_cases d : x ≤ 999
      · simp [c, d, e, Int32.not_lt.mpr d]
      · simp [c, d, e, Int32.not_le.mp d]
  by_cases w5 : w = 5
  · subst w5
    simp only [mayB, tfit, mIn]
    rw [show st_LEAST (xn (5 : Int32)) = 1 from rfl, show st_MOST (xn (5 : Int32)) = 360 from rfl]
    by_cases c : x < 1
    · simp [c]
    · by_cases d : x ≤ 360
      · simp [c, d, Int32.not_lt.mpr d]
      · simp [c, d, Int32.not_le.mp d]
  by_cases w6 : w = 6
  · subst w6
    simp only [mayB, tfit, mIn]
    rw [show st_LEAST (xn (6 : Int32)) = 0 from rfl, show st_MOST (xn (6 : Int32)) = 1 from rfl]
    by_cases c : x < 0
    · simp [c]
    · by_cases d : x ≤ 1
      · simp [c, d, Int32.not_lt.mpr d]
      · simp [c, d, Int32.not_le.mp d]
  simp only [mayB, tfit]
  rw [if_neg w0, if_neg w1, if_neg w2, if_neg w3, if_neg w4, if_neg w5, if_neg w6]
  by_cases c : w < 0
  · rw [if_pos c]
  · rw [if_neg c]
    by_cases d : 7 ≤ w
    · rw [if_pos d]
    · exfalso
      obtain ⟨j, hj, rfl⟩ := nI_of c
      have : j < 7 := by
        rcases Nat.lt_or_ge j 7 with q | q
        · exact q
        · exact absurd ((nI_leI (a := 7) (b := j) (by decide) hj).mpr q) d
      match j, this with
      | 0, _ => exact w0 rfl
      | 1, _ => exact w1 rfl
      | 2, _ => exact w2 rfl
      | 3, _ => exact w3 rfl
      | 4, _ => exact w4 rfl
      | 5, _ => exact w5 rfl
      | 6, _ => exact w6 rfl
      | j + 7, h => exact absurd h (by omega)
theorem tfit_of {te : Nat → Int32} {w x : Int32} (h : tfit te w x = true) : ∃ i, i < 7 ∧ w = nI i := by
  simp only [tfit] at h
  by_cases c : w < 0
  · rw [if_pos c] at h; cases h
  · rw [if_neg c] at h
    by_cases d : 7 ≤ w
    · rw [if_pos d] at h; cases h
    · obtain ⟨j, hj, rfl⟩ := nI_of c
      refine ⟨j, ?_, rfl⟩
      rcases Nat.lt_or_ge j 7 with q | q
      · exact q
      · exact absurd ((nI_leI (a := 7) (b := j) (by decide) hj).mpr q) d
set_option maxHeartbeats 1000000 in
set_option maxRecDepth 10000 in
theorem c_X8_byTerm {v : xw_V} {G : xw_G} {M : md_T} {te ho ow hs ra lo st av so : Nat → Int32} {ln : Int32} {n : Nat} (hM : G 21 = pM v (md_th M) (nR te ho ow hs ra lo (nI n) st av so ln) (md_pt M) (md_re M) (md_sd M) (md_be M) (md_pb M) (md_ac M) (md_od M) (md_ad M) (md_wy M) (md_so M) (md_rl M) (md_io M) (md_po M) (md_sp M) (md_rs M) (md_st M) (md_av M) (md_ip M) (md_tx M) (md_tm M) (md_ta M) (md_td M) (md_wo M) (md_sq M) (md_tk M) (md_bg M) (md_nu M) (md_wr M)) (hq : MV te ow hs ra lo n) (w1 x y : Int32) : xk_Con v yX8_byTerm cX8_byTerm 4 (some .int) 6 138 [.ref (xw_ad v 21 0), .int w1, .int x, .int y] G (fun r9 G' => r9 = some (.int (q_figBy (mB te ho ow hs ra lo n) n w1 x y)) ∧ mQ v G G' (nR te ho ow hs ra lo (nI n) st av so ln) M) := by
  refine xk_of (ls0 := [some (.ref (xw_ad v 21 0)), some (.int w1), some (.int x), some (.int y)]) (by decide) rfl (Nat.le_of_ble_eq_true rfl) ?_
  intro κ z hk hz
  refine xj_aload_n (i := 0) hk dX8_byTerm_0 rfl rfl ?_
  refine xj_iload_n (i := 1) hk dX8_byTerm_1 rfl rfl ?_
  refine xj_iload_n (i := 2) hk dX8_byTerm_2 rfl rfl ?_
  refine xj_callV hk hz (fr1 := 1) (lo1 := 22) (r1 := some (.int (xb (mayB te w1 x)))) (As := [.int w1, .int x]) (st := []) (st2 := [.int (xb (mayB te w1 x))]) (G1 := G) ml_X8_122 (c_X8_mayBe (M := M) (show G 21 = pM v (md_th M) (nR te ho ow hs ra lo (nI n) st av so ln) (md_pt M) (md_re M) (md_sd M) (md_be M) (md_pb M) (md_ac M) (md_od M) (md_ad M) (md_wy M) (md_so M) (md_rl M) (md_io M) (md_po M) (md_sp M) (md_rs M) (md_st M) (md_av M) (md_ip M) (md_tx M) (md_tm M) (md_ta M) (md_td M) (md_wo M) (md_sq M) (md_tk M) (md_bg M) (md_nu M) (md_wr M) from hM) w1 x) (xw_at hM rfl) rfl dX8_byTerm_3 ⟨Nat.le_of_ble_eq_true rfl, Nat.le_of_ble_eq_true rfl⟩ rfl (Nat.le_of_ble_eq_true rfl) rfl rfl ?_
  refine xj_ifb_eq (tgt := 26) hk dX8_byTerm_6 (by decide) (fun c6 => ?_) (fun c6 => ?_)
  · refine xj_iconst (x := (-1)) hk dX8_byTerm_26 (by decide) ?_
    refine xj_ireturn hk hz dX8_byTerm_27 ?_
    refine ⟨?_, ⟨⟨M, hM, rfl, rfl, rfl, rfl, rfl, rfl, rfl⟩, fun _ _ => rfl⟩⟩
    · simp only [q_figBy]
      rw [show tfit (bk_te (mB te ho ow hs ra lo n)) w1 x = false from (mayB_t hq.2.2.2.1 w1 x).symm.trans c6]
      rfl
  · refine xj_iload_n (i := 3) hk dX8_byTerm_9 rfl rfl ?_
    refine xj_callS hk hz (fr1 := 1) (lo1 := 22) (r1 := some (.int (xb (mIn y 0 11)))) (As := [.int y]) (st := []) (st2 := [.int (xb (mIn y 0 11))]) (G1 := G) ml_X8_201 (c_X8_isResult y) dX8_byTerm_10 ⟨Nat.le_of_ble_eq_true rfl, Nat.le_of_ble_eq_true rfl⟩ rfl (Nat.le_of_ble_eq_true rfl) rfl rfl ?_
    refine xj_ifb_eq (tgt := 26) hk dX8_byTerm_13 (by decide) (fun c13 => ?_) (fun c13 => ?_)
    · refine xj_iconst (x := (-1)) hk dX8_byTerm_26 (by decide) ?_
      refine xj_ireturn hk hz dX8_byTerm_27 ?_
      refine ⟨?_, ⟨⟨M, hM, rfl, rfl, rfl, rfl, rfl, rfl, rfl⟩, fun _ _ => rfl⟩⟩
      · obtain ⟨u0, u1, u2, u3, u4, u5, u6, u7, u8, u9, u10, u11⟩ := mOut11 c13
        simp [q_figBy, fig, u0, u1, u2, u3, u4, u5, u6, u7, u8, u9, u10, u11]
    · have c6 : tfit te w1 x = true := (mayB_t hq.2.2.2.1 w1 x).symm.trans c6
      obtain ⟨i, hi7, rfl⟩ := tfit_of c6
      refine xj_aload_n (i := 0) hk dX8_byTerm_16 rfl rfl ?_
      refine xj_iload_n (i := 1) hk dX8_byTerm_17 rfl rfl ?_
      refine xj_iload_n (i := 2) hk dX8_byTerm_18 rfl rfl ?_
      refine xj_iload_n (i := 3) hk dX8_byTerm_19 rfl rfl ?_
      refine xj_callVE hk hz (fr1 := 5) (lo1 := 113) (As := [.int (nI i), .int x, .int y]) (st := []) ml_X8_212 (c_X8_toldBy (n := n) (i := i) (M := M) (show G 21 = pM v (md_th M) (nR te ho ow hs ra lo (nI n) st av so ln) (md_pt M) (md_re M) (md_sd M) (md_be M) (md_pb M) (md_ac M) (md_od M) (md_ad M) (md_wy M) (md_so M) (md_rl M) (md_io M) (md_po M) (md_sp M) (md_rs M) (md_st M) (md_av M) (md_ip M) (md_tx M) (md_tm M) (md_ta M) (md_td M) (md_wo M) (md_sq M) (md_tk M) (md_bg M) (md_nu M) (md_wr M) from hM) x y (by omega) (MV_te hi7 hq c6) c13) (xw_at hM rfl) rfl dX8_byTerm_20 ⟨Nat.le_of_ble_eq_true rfl, Nat.le_of_ble_eq_true rfl⟩ rfl (Nat.le_of_ble_eq_true rfl) rfl ?_
      rintro _ G_M1 ⟨rfl, ⟨M1, hM1, hkM1⟩, hfM1⟩
      have hM1 : G_M1 21 = pM v (md_th M1) (nR te ho ow hs ra lo (nI n) st av so ln) (md_pt M1) (md_re M1) (md_sd M1) (md_be M1) (md_pb M1) (md_ac M1) (md_od M1) (md_ad M1) (md_wy M1) (md_so M1) (md_rl M1) (md_io M1) (md_po M1) (md_sp M1) (md_rs M1) (md_st M1) (md_av M1) (md_ip M1) (md_tx M1) (md_tm M1) (md_ta M1) (md_td M1) (md_wo M1) (md_sq M1) (md_tk M1) (md_bg M1) (md_nu M1) (md_wr M1) := hM1
      have hkM1 : mK M M1 := hkM1
      have hfM1 : ∀ g, g ≠ 21 → G_M1 g = G g := fun g h => (hfM1 g h)
      show xj v κ _ z G_M1 23 _ [.int (fig (mB (xu te i x) ho ow hs ra lo n) (kM (xu te i x) ho ow hs ra lo n) n y)]
      refine xj_goto (tgt := 27) hk dX8_byTerm_23 (by decide) ?_
      refine xj_ireturn hk hz dX8_byTerm_27 ?_
      refine ⟨?_, ⟨⟨M1, hM1, hkM1⟩, hfM1⟩⟩
      · simp only [q_figBy]
        rw [show tfit (bk_te (mB te ho ow hs ra lo n)) (nI i) x = true from c6, xn_nI (by omega)]
        rfl


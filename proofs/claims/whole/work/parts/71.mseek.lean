theorem mIn_r {a b j : Nat} (h1 : a ≤ j) (h2 : j ≤ b) (hb : b < 2 ^ 31) : mIn (nI j) (nI a) (nI b) = true := by
  simp only [mIn, Bool.and_eq_true, Bool.not_eq_true', decide_eq_false_iff_not]
  exact ⟨fun q => absurd ((nI_ltI (a := j) (b := a) (by omega) (by omega)).mp q) (by omega), fun q => absurd ((nI_ltI (a := b) (b := j) (by omega) (by omega)).mp q) (by omega)⟩
theorem tf1 {te : Nat → Int32} (hv : vT te) {x : Int32} : tfit te 1 x = mIn x 1 100 := (mayB_t hv 1 x).symm
theorem tf2 {te : Nat → Int32} (hv : vT te) {x : Int32} : tfit te 2 x = mIn x 0 100 := (mayB_t hv 2 x).symm
theorem tf6 {te : Nat → Int32} (hv : vT te) {x : Int32} : tfit te 6 x = mIn x 0 1 := (mayB_t hv 6 x).symm
theorem MV_ra {te ow hs ra lo : Nat → Int32} {n j : Nat} {x : Int32} (hq : MV te ow hs ra lo n) (h : mIn x 0 999 = true) : MV te ow hs (xu ra j x) lo n := by
  refine ⟨hq.1, hq.2.1, hq.2.2.1, hq.2.2.2.1, fun b hb => ?_⟩
  have := hq.2.2.2.2 b hb
  by_cases c : b = j
  · subst c
    rw [xu_s]
    simp only [mIn, Bool.and_eq_true, Bool.not_eq_true', decide_eq_false_iff_not] at h
    exact ⟨⟨Int32.le_trans (by decide) (Int32.not_lt.mp h.1), Int32.not_lt.mp h.2⟩, this.2⟩
  · rw [xu_n c]; exact this
theorem MV_lo {te ow hs ra lo : Nat → Int32} {n j : Nat} {x : Int32} (hq : MV te ow hs ra lo n) (h : mIn x 1 1000 = true) : MV te ow hs ra (xu lo j x) n := by
  refine ⟨hq.1, hq.2.1, hq.2.2.1, hq.2.2.2.1, fun b hb => ?_⟩
  have := hq.2.2.2.2 b hb
  by_cases c : b = j
  · subst c
    rw [xu_s]
    simp only [mIn, Bool.and_eq_true, Bool.not_eq_true', decide_eq_false_iff_not] at h
    exact ⟨this.1, Int32.not_lt.mp h.1, Int32.not_lt.mp h.2⟩
  · rw [xu_n c]; exact this
set_option maxHeartbeats 1000000 in
set_option maxRecDepth 10000 in
theorem l_X8_offerFor {v : xw_V} {κ : xk_K} {post : Option Value → xw_G → Prop} {z : Nat × Nat × Nat} {G : xw_G} {M : md_T} {te ho ow hs ra lo st av so : Nat → Int32} {ln : Int32} {n : Nat} (hk : xk_Ok v κ yX8_offerFor cX8_offerFor 3 (some .int) 6 138) (hz : xk_zf κ = z)  (hq : MV te ow hs ra lo n) (hn30 : n ≤ 30) (r1 : Int32) (kx : ∀ (G1 : xw_G) (M1 : md_T), G1 21 = pM v (md_th M1) (nR te ho ow hs ra lo (nI n) st av so ln) (md_pt M1) (md_re M1) (md_sd M1) (md_be M1) (md_pb M1) (md_ac M1) (md_od M1) (md_ad M1) (md_wy M1) (md_so M1) (md_rl M1) (md_io M1) (md_po M1) (md_sp M1) (md_rs M1) (md_st M1) (md_av M1) (md_ip M1) (md_tx M1) (md_tm M1) (md_ta M1) (md_td M1) (md_wo M1) (md_sq M1) (md_tk M1) (md_bg M1) (md_nu M1) (md_wr M1) → mK M M1 → (∀ g, g ≠ 21 → G1 g = G g) → fnd (p_offer (mB te ho ow hs ra lo n) n r1) 2000 = 2000 → xj v κ post z G1 37 [some (.ref (xw_ad v 21 0)), some (.int r1), some (.int (nI (2000 + 1)))] []) (kr : ∀ (i : Nat) (G1 : xw_G) (M1 : md_T), G1 21 = pM v (md_th M1) (nR te ho ow hs ra lo (nI n) st av so ln) (md_pt M1) (md_re M1) (md_sd M1) (md_be M1) (md_pb M1) (md_ac M1) (md_od M1) (md_ad M1) (md_wy M1) (md_so M1) (md_rl M1) (md_io M1) (md_po M1) (md_sp M1) (md_rs M1) (md_st M1) (md_av M1) (md_ip M1) (md_tx M1) (md_tm M1) (md_ta M1) (md_td M1) (md_wo M1) (md_sq M1) (md_tk M1) (md_bg M1) (md_nu M1) (md_wr M1) → mK M M1 → (∀ g, g ≠ 21 → G1 g = G g) → i < 2000 → fnd (p_offer (mB te ho ow hs ra lo n) n r1) 2000 = i → xj v κ post z G1 29 [some (.ref (xw_ad v 21 0)), some (.int r1), some (.int (nI (i + 1)))] []) : ∀ (m : Nat) (i : Nat) (G1 : xw_G) (M1 : md_T), 2000 - i < m → i ≤ 2000 → fnd (p_offer (mB te ho ow hs ra lo n) n r1) i = i → G1 21 = pM v (md_th M1) (nR te ho ow hs ra lo (nI n) st av so ln) (md_pt M1) (md_re M1) (md_sd M1) (md_be M1) (md_pb M1) (md_ac M1) (md_od M1) (md_ad M1) (md_wy M1) (md_so M1) (md_rl M1) (md_io M1) (md_po M1) (md_sp M1) (md_rs M1) (md_st M1) (md_av M1) (md_ip M1) (md_tx M1) (md_tm M1) (md_ta M1) (md_td M1) (md_wo M1) (md_sq M1) (md_tk M1) (md_bg M1) (md_nu M1) (md_wr M1) → mK M M1 → (∀ g, g ≠ 21 → G1 g = G g) → xj v κ post z G1 11 [some (.ref (xw_ad v 21 0)), some (.int r1), some (.int (nI (i + 1)))] [] := by
  intro m
  induction m with
  | zero => intro i G1 M1 h; exact absurd h (Nat.not_lt_zero _)
  | succ m ih =>
    intro i G1 M1 hm hi hf hM1 hkM1 hfM1
    refine xj_iload_n (i := 2) hk dX8_offerFor_11 rfl rfl ?_
    refine xj_sipush (x := 2000) hk dX8_offerFor_12 (by decide) ?_
    refine xj_icmp_gt (tgt := 37) hk dX8_offerFor_15 (by decide) (fun c15 => ?_) (fun c15 => ?_)
    · have c15 : 2000 < i + 1 := (nI_ltI (a := 2000) (b := i + 1) (by omega) (by omega)).mp c15
      have e9 : i = 2000 := by omega
      subst e9
      exact kx G1 M1 hM1 hkM1 hfM1 hf
    · have c15 : ¬ 2000 < i + 1 := fun q => c15 ((nI_ltI (a := 2000) (b := i + 1) (by omega) (by omega)).mpr q)
      refine xj_aload_n (i := 0) hk dX8_offerFor_18 rfl rfl ?_
      refine xj_iconst (x := 0) hk dX8_offerFor_19 (by decide) ?_
      refine xj_iload_n (i := 2) hk dX8_offerFor_20 rfl rfl ?_
      refine xj_iconst (x := 0) hk dX8_offerFor_21 (by decide) ?_
      refine xj_callVE hk hz (fr1 := 5) (lo1 := 113) (As := [.int 0, .int (nI (i + 1)), .int 0]) (st := []) ml_X8_212 (c_X8_toldBy (n := n) (i := 0) (M := M1) (show G1 21 = pM v (md_th M1) (nR te ho ow hs ra lo (nI n) st av so ln) (md_pt M1) (md_re M1) (md_sd M1) (md_be M1) (md_pb M1) (md_ac M1) (md_od M1) (md_ad M1) (md_wy M1) (md_so M1) (md_rl M1) (md_io M1) (md_po M1) (md_sp M1) (md_rs M1) (md_st M1) (md_av M1) (md_ip M1) (md_tx M1) (md_tm M1) (md_ta M1) (md_td M1) (md_wo M1) (md_sq M1) (md_tk M1) (md_bg M1) (md_nu M1) (md_wr M1) from hM1) (nI (i + 1)) 0 (by omega) (MV_te (i := 0) (by omega) hq (tf0.trans (mIn_r (a := 1) (b := 2000) (j := i + 1) (by omega) (by omega) (by decide)))) rfl) (xw_at hM1 rfl) rfl dX8_offerFor_22 ⟨Nat.le_of_ble_eq_true rfl, Nat.le_of_ble_eq_true rfl⟩ rfl (Nat.le_of_ble_eq_true rfl) rfl ?_
      rintro _ G_M2 ⟨rfl, ⟨M2, hM2, hkM2⟩, hfM2⟩
      have hM2 : G_M2 21 = pM v (md_th M2) (nR te ho ow hs ra lo (nI n) st av so ln) (md_pt M2) (md_re M2) (md_sd M2) (md_be M2) (md_pb M2) (md_ac M2) (md_od M2) (md_ad M2) (md_wy M2) (md_so M2) (md_rl M2) (md_io M2) (md_po M2) (md_sp M2) (md_rs M2) (md_st M2) (md_av M2) (md_ip M2) (md_tx M2) (md_tm M2) (md_ta M2) (md_td M2) (md_wo M2) (md_sq M2) (md_tk M2) (md_bg M2) (md_nu M2) (md_wr M2) := hM2
      have hkM2 : mK M M2 := mK_t hkM1 hkM2
      have hfM2 : ∀ g, g ≠ 21 → G_M2 g = G g := fun g h => (hfM2 g h).trans (hfM1 g h)
      show xj v κ _ z G_M2 25 _ [.int (fig (mB (xu te 0 (nI (i + 1))) ho ow hs ra lo n) (kM (xu te 0 (nI (i + 1))) ho ow hs ra lo n) n 0)]
      refine xj.eqi (x' := sl_st (kM (xu te 0 (nI (i + 1))) ho ow hs ra lo n)) rfl ?_
      refine xj_iload_n (i := 1) hk dX8_offerFor_25 rfl rfl ?_
      refine xj_icmp_lt (tgt := 31) hk dX8_offerFor_26 (by decide) (fun c26 => ?_) (fun c26 => ?_)
      · refine xj_iinc (i := 2) (x2 := nI (i + 1 + 1)) (ls2 := [some (.ref (xw_ad v 21 0)), some (.int r1), some (.int (nI (i + 1 + 1)))]) hk dX8_offerFor_31 rfl (nI_1 (i + 1)) (by decide) rfl rfl ?_
        refine xj_goto (tgt := 11) hk dX8_offerFor_34 (by decide) ?_
        refine xj.to (ls' := [some (.ref (xw_ad v 21 0)), some (.int r1), some (.int (nI ((i + 1) + 1)))]) (by first | rfl | simp) (ih (i + 1) G_M2 M2 (by omega) (by omega) (fnd_no hf (show (p_offer (mB te ho ow hs ra lo n) n r1) i = false from by show (!(decide (sl_st (kM (xu te 0 (nI (i + 1))) ho ow hs ra lo n) < r1))) = false; rw [decide_eq_true c26]; rfl)) hM2 hkM2 hfM2)
      · exact kr i G_M2 M2 hM2 hkM2 hfM2 (by omega) (fnd_at hf (show (p_offer (mB te ho ow hs ra lo n) n r1) i = true from by show (!(decide (sl_st (kM (xu te 0 (nI (i + 1))) ho ow hs ra lo n) < r1))) = true; rw [decide_eq_false c26]; rfl) _ (by omega))

set_option maxHeartbeats 1000000 in
set_option maxRecDepth 10000 in
theorem c_X8_offerFor {v : xw_V} {G : xw_G} {M : md_T} {te ho ow hs ra lo st av so : Nat → Int32} {ln : Int32} {n : Nat} (hM : G 21 = pM v (md_th M) (nR te ho ow hs ra lo (nI n) st av so ln) (md_pt M) (md_re M) (md_sd M) (md_be M) (md_pb M) (md_ac M) (md_od M) (md_ad M) (md_wy M) (md_so M) (md_rl M) (md_io M) (md_po M) (md_sp M) (md_rs M) (md_st M) (md_av M) (md_ip M) (md_tx M) (md_tm M) (md_ta M) (md_td M) (md_wo M) (md_sq M) (md_tk M) (md_bg M) (md_nu M) (md_wr M)) (hq : MV te ow hs ra lo n) (r1 : Int32) : xk_Con v yX8_offerFor cX8_offerFor 3 (some .int) 6 138 [.ref (xw_ad v 21 0), .int r1] G (fun r9 G' => r9 = some (.int (q_offer (mB te ho ow hs ra lo n) n r1)) ∧ mQ v G G' (nR te ho ow hs ra lo (nI n) st av so ln) M) := by
  refine xk_of (ls0 := [some (.ref (xw_ad v 21 0)), some (.int r1), none]) (by decide) rfl (Nat.le_of_ble_eq_true rfl) ?_
  intro κ z hk hz
  have hn30 : n ≤ 30 := hq.1
  refine xj_iload_n (i := 1) hk dX8_offerFor_0 rfl rfl ?_
  refine xj_callS hk hz (fr1 := 1) (lo1 := 22) (r1 := some (.int (xb (mIn r1 0 999)))) (As := [.int r1]) (st := []) (st2 := [.int (xb (mIn r1 0 999))]) (G1 := G) ml_X8_99 (c_X8_isRate r1) dX8_offerFor_1 ⟨Nat.le_of_ble_eq_true rfl, Nat.le_of_ble_eq_true rfl⟩ rfl (Nat.le_of_ble_eq_true rfl) rfl rfl ?_
  refine xj_ifb_ne (tgt := 9) hk dX8_offerFor_4 (by decide) (fun c4 => ?_) (fun c4 => ?_)
  · refine xj_iconst (x := 1) hk dX8_offerFor_9 (by decide) ?_
    refine xj_istore_n (i := 2) (ls2 := [some (.ref (xw_ad v 21 0)), some (.int r1), some (.int 1)]) hk dX8_offerFor_10 rfl (by decide) rfl rfl ?_
    refine xj.to (ls' := [some (.ref (xw_ad v 21 0)), some (.int r1), some (.int (nI (0 + 1)))]) rfl ?_
    refine l_X8_offerFor hk hz hq hn30 r1 (fun G1 M1 hM1 hkM1 hfM1 hx => ?_) (fun i G1 M1 hM1 hkM1 hfM1 hi hx => ?_) (2000 + 1) 0 G M (by omega) (by omega) rfl hM (mK_r M) (fun _ _ => rfl)
    · refine xj_bipush (x := (-2)) hk dX8_offerFor_37 (by decide) ?_
      refine xj_ireturn hk hz dX8_offerFor_39 ?_
      refine ⟨?_, ⟨⟨M1, hM1, hkM1⟩, hfM1⟩⟩
      · simp only [q_offer]; rw [if_pos (show isR r1 = true from c4), if_neg (by rw [hx]; exact Nat.lt_irrefl _)]
    · refine xj_iload_n (i := 2) hk dX8_offerFor_29 rfl rfl ?_
      refine xj_ireturn hk hz dX8_offerFor_30 ?_
      refine ⟨?_, ⟨⟨M1, hM1, hkM1⟩, hfM1⟩⟩
      · simp only [q_offer]; rw [if_pos (show isR r1 = true from c4), if_pos (by rw [hx]; exact hi), hx]
  · refine xj_iconst (x := (-1)) hk dX8_offerFor_7 (by decide) ?_
    refine xj_ireturn hk hz dX8_offerFor_8 ?_
    refine ⟨?_, ⟨⟨M, hM, rfl, rfl, rfl, rfl, rfl, rfl, rfl⟩, fun _ _ => rfl⟩⟩
    · simp [q_offer, show isR r1 = false from c4]

set_option maxHeartbeats 1000000 in
set_option maxRecDepth 10000 in
theorem l_X8_shareFor {v : xw_V} {κ : xk_K} {post : Option Value → xw_G → Prop} {z : Nat × Nat × Nat} {G : xw_G} {M : md_T} {te ho ow hs ra lo st av so : Nat → Int32} {ln : Int32} {n : Nat} (hk : xk_Ok v κ yX8_shareFor cX8_shareFor 3 (some .int) 6 138) (hz : xk_zf κ = z)  (hq : MV te ow hs ra lo n) (hn30 : n ≤ 30) (y : Int32) (kx : ∀ (G1 : xw_G) (M1 : md_T), G1 21 = pM v (md_th M1) (nR te ho ow hs ra lo (nI n) st av so ln) (md_pt M1) (md_re M1) (md_sd M1) (md_be M1) (md_pb M1) (md_ac M1) (md_od M1) (md_ad M1) (md_wy M1) (md_so M1) (md_rl M1) (md_io M1) (md_po M1) (md_sp M1) (md_rs M1) (md_st M1) (md_av M1) (md_ip M1) (md_tx M1) (md_tm M1) (md_ta M1) (md_td M1) (md_wo M1) (md_sq M1) (md_tk M1) (md_bg M1) (md_nu M1) (md_wr M1) → mK M M1 → (∀ g, g ≠ 21 → G1 g = G g) → fnd (p_share (mB te ho ow hs ra lo n) n y) 101 = 101 → xj v κ post z G1 34 [some (.ref (xw_ad v 21 0)), some (.int y), some (.int (nI 101))] []) (kr : ∀ (i : Nat) (G1 : xw_G) (M1 : md_T), G1 21 = pM v (md_th M1) (nR te ho ow hs ra lo (nI n) st av so ln) (md_pt M1) (md_re M1) (md_sd M1) (md_be M1) (md_pb M1) (md_ac M1) (md_od M1) (md_ad M1) (md_wy M1) (md_so M1) (md_rl M1) (md_io M1) (md_po M1) (md_sp M1) (md_rs M1) (md_st M1) (md_av M1) (md_ip M1) (md_tx M1) (md_tm M1) (md_ta M1) (md_td M1) (md_wo M1) (md_sq M1) (md_tk M1) (md_bg M1) (md_nu M1) (md_wr M1) → mK M M1 → (∀ g, g ≠ 21 → G1 g = G g) → i < 101 → fnd (p_share (mB te ho ow hs ra lo n) n y) 101 = i → xj v κ post z G1 26 [some (.ref (xw_ad v 21 0)), some (.int y), some (.int (nI i))] []) : ∀ (m : Nat) (i : Nat) (G1 : xw_G) (M1 : md_T), 101 - i < m → i ≤ 101 → fnd (p_share (mB te ho ow hs ra lo n) n y) i = i → G1 21 = pM v (md_th M1) (nR te ho ow hs ra lo (nI n) st av so ln) (md_pt M1) (md_re M1) (md_sd M1) (md_be M1) (md_pb M1) (md_ac M1) (md_od M1) (md_ad M1) (md_wy M1) (md_so M1) (md_rl M1) (md_io M1) (md_po M1) (md_sp M1) (md_rs M1) (md_st M1) (md_av M1) (md_ip M1) (md_tx M1) (md_tm M1) (md_ta M1) (md_td M1) (md_wo M1) (md_sq M1) (md_tk M1) (md_bg M1) (md_nu M1) (md_wr M1) → mK M M1 → (∀ g, g ≠ 21 → G1 g = G g) → xj v κ post z G1 9 [some (.ref (xw_ad v 21 0)), some (.int y), some (.int (nI i))] [] := by
  intro m
  induction m with
  | zero => intro i G1 M1 h; exact absurd h (Nat.not_lt_zero _)
  | succ m ih =>
    intro i G1 M1 hm hi hf hM1 hkM1 hfM1
    refine xj_iload_n (i := 2) hk dX8_shareFor_9 rfl rfl ?_
    refine xj_bipush (x := 100) hk dX8_shareFor_10 (by decide) ?_
    refine xj_icmp_gt (tgt := 34) hk dX8_shareFor_12 (by decide) (fun c12 => ?_) (fun c12 => ?_)
    · have c12 : 100 < i := (nI_ltI (a := 100) (b := i) (by omega) (by omega)).mp c12
      have e9 : i = 101 := by omega
      subst e9
      exact kx G1 M1 hM1 hkM1 hfM1 hf
    · have c12 : ¬ 100 < i := fun q => c12 ((nI_ltI (a := 100) (b := i) (by omega) (by omega)).mpr q)
      refine xj_aload_n (i := 0) hk dX8_shareFor_15 rfl rfl ?_
      refine xj_iconst (x := 2) hk dX8_shareFor_16 (by decide) ?_
      refine xj_iload_n (i := 2) hk dX8_shareFor_17 rfl rfl ?_
      refine xj_iconst (x := 4) hk dX8_shareFor_18 (by decide) ?_
      refine xj_callVE hk hz (fr1 := 5) (lo1 := 113) (As := [.int 2, .int (nI i), .int 4]) (st := []) ml_X8_212 (c_X8_toldBy (n := n) (i := 2) (M := M1) (show G1 21 = pM v (md_th M1) (nR te ho ow hs ra lo (nI n) st av so ln) (md_pt M1) (md_re M1) (md_sd M1) (md_be M1) (md_pb M1) (md_ac M1) (md_od M1) (md_ad M1) (md_wy M1) (md_so M1) (md_rl M1) (md_io M1) (md_po M1) (md_sp M1) (md_rs M1) (md_st M1) (md_av M1) (md_ip M1) (md_tx M1) (md_tm M1) (md_ta M1) (md_td M1) (md_wo M1) (md_sq M1) (md_tk M1) (md_bg M1) (md_nu M1) (md_wr M1) from hM1) (nI i) 4 (by omega) (MV_te (i := 2) (by omega) hq ((tf2 hq.2.2.2.1).trans (mIn_r (a := 0) (b := 100) (j := i) (by omega) (by omega) (by decide)))) rfl) (xw_at hM1 rfl) rfl dX8_shareFor_19 ⟨Nat.le_of_ble_eq_true rfl, Nat.le_of_ble_eq_true rfl⟩ rfl (Nat.le_of_ble_eq_true rfl) rfl ?_
      rintro _ G_M2 ⟨rfl, ⟨M2, hM2, hkM2⟩, hfM2⟩
      have hM2 : G_M2 21 = pM v (md_th M2) (nR te ho ow hs ra lo (nI n) st av so ln) (md_pt M2) (md_re M2) (md_sd M2) (md_be M2) (md_pb M2) (md_ac M2) (md_od M2) (md_ad M2) (md_wy M2) (md_so M2) (md_rl M2) (md_io M2) (md_po M2) (md_sp M2) (md_rs M2) (md_st M2) (md_av M2) (md_ip M2) (md_tx M2) (md_tm M2) (md_ta M2) (md_td M2) (md_wo M2) (md_sq M2) (md_tk M2) (md_bg M2) (md_nu M2) (md_wr M2) := hM2
      have hkM2 : mK M M2 := mK_t hkM1 hkM2
      have hfM2 : ∀ g, g ≠ 21 → G_M2 g = G g := fun g h => (hfM2 g h).trans (hfM1 g h)
      show xj v κ _ z G_M2 22 _ [.int (fig (mB (xu te 2 (nI i)) ho ow hs ra lo n) (kM (xu te 2 (nI i)) ho ow hs ra lo n) n 4)]
      refine xj.eqi (x' := sl_sp (kM (xu te 2 (nI i)) ho ow hs ra lo n)) rfl ?_
      refine xj_iload_n (i := 1) hk dX8_shareFor_22 rfl rfl ?_
      refine xj_icmp_lt (tgt := 28) hk dX8_shareFor_23 (by decide) (fun c23 => ?_) (fun c23 => ?_)
      · refine xj_iinc (i := 2) (x2 := nI (i + 1)) (ls2 := [some (.ref (xw_ad v 21 0)), some (.int y), some (.int (nI (i + 1)))]) hk dX8_shareFor_28 rfl (nI_1 i) (by decide) rfl rfl ?_
        refine xj_goto (tgt := 9) hk dX8_shareFor_31 (by decide) ?_
        refine xj.to (ls' := [some (.ref (xw_ad v 21 0)), some (.int y), some (.int (nI (i + 1)))]) (by first | rfl | simp) (ih (i + 1) G_M2 M2 (by omega) (by omega) (fnd_no hf (show (p_share (mB te ho ow hs ra lo n) n y) i = false from by show (!(decide (sl_sp (kM (xu te 2 (nI i)) ho ow hs ra lo n) < y))) = false; rw [decide_eq_true c23]; rfl)) hM2 hkM2 hfM2)
      · exact kr i G_M2 M2 hM2 hkM2 hfM2 (by omega) (fnd_at hf (show (p_share (mB te ho ow hs ra lo n) n y) i = true from by show (!(decide (sl_sp (kM (xu te 2 (nI i)) ho ow hs ra lo n) < y))) = true; rw [decide_eq_false c23]; rfl) _ (by omega))

set_option maxHeartbeats 1000000 in
set_option maxRecDepth 10000 in
theorem c_X8_shareFor {v : xw_V} {G : xw_G} {M : md_T} {te ho ow hs ra lo st av so : Nat → Int32} {ln : Int32} {n : Nat} (hM : G 21 = pM v (md_th M) (nR te ho ow hs ra lo (nI n) st av so ln) (md_pt M) (md_re M) (md_sd M) (md_be M) (md_pb M) (md_ac M) (md_od M) (md_ad M) (md_wy M) (md_so M) (md_rl M) (md_io M) (md_po M) (md_sp M) (md_rs M) (md_st M) (md_av M) (md_ip M) (md_tx M) (md_tm M) (md_ta M) (md_td M) (md_wo M) (md_sq M) (md_tk M) (md_bg M) (md_nu M) (md_wr M)) (hq : MV te ow hs ra lo n) (y : Int32) : xk_Con v yX8_shareFor cX8_shareFor 3 (some .int) 6 138 [.ref (xw_ad v 21 0), .int y] G (fun r9 G' => r9 = some (.int (q_share (mB te ho ow hs ra lo n) n y)) ∧ mQ v G G' (nR te ho ow hs ra lo (nI n) st av so ln) M) := by
  refine xk_of (ls0 := [some (.ref (xw_ad v 21 0)), some (.int y), none]) (by decide) rfl (Nat.le_of_ble_eq_true rfl) ?_
  intro κ z hk hz
  have hn30 : n ≤ 30 := hq.1
  refine xj_iload_n (i := 1) hk dX8_shareFor_0 rfl rfl ?_
  refine xj_iconst (x := 1) hk dX8_shareFor_1 (by decide) ?_
  refine xj_icmp_ge (tgt := 7) hk dX8_shareFor_2 (by decide) (fun c2 => ?_) (fun c2 => ?_)
  · refine xj_iconst (x := 0) hk dX8_shareFor_7 (by decide) ?_
    refine xj_istore_n (i := 2) (ls2 := [some (.ref (xw_ad v 21 0)), some (.int y), some (.int 0)]) hk dX8_shareFor_8 rfl (by decide) rfl rfl ?_
    refine xj.to (ls' := [some (.ref (xw_ad v 21 0)), some (.int y), some (.int (nI 0))]) rfl ?_
    refine l_X8_shareFor hk hz hq hn30 y (fun G1 M1 hM1 hkM1 hfM1 hx => ?_) (fun i G1 M1 hM1 hkM1 hfM1 hi hx => ?_) (101 + 1) 0 G M (by omega) (by omega) rfl hM (mK_r M) (fun _ _ => rfl)
    · refine xj_bipush (x := (-2)) hk dX8_shareFor_34 (by decide) ?_
      refine xj_ireturn hk hz dX8_shareFor_36 ?_
      refine ⟨?_, ⟨⟨M1, hM1, hkM1⟩, hfM1⟩⟩
      · simp only [q_share]; rw [if_pos c2, if_neg (by rw [hx]; exact Nat.lt_irrefl _)]
    · refine xj_iload_n (i := 2) hk dX8_shareFor_26 rfl rfl ?_
      refine xj_ireturn hk hz dX8_shareFor_27 ?_
      refine ⟨?_, ⟨⟨M1, hM1, hkM1⟩, hfM1⟩⟩
      · simp only [q_share]; rw [if_pos c2, if_pos (by rw [hx]; exact hi), hx]
  · refine xj_iconst (x := (-1)) hk dX8_shareFor_5 (by decide) ?_
    refine xj_ireturn hk hz dX8_shareFor_6 ?_
    refine ⟨?_, ⟨⟨M, hM, rfl, rfl, rfl, rfl, rfl, rfl, rfl⟩, fun _ _ => rfl⟩⟩
    · simp [q_share, c2]


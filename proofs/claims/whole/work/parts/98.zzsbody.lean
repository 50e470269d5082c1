theorem okO_Z : okO slZ := ⟨0, fun _ => 0, Nat.zero_le 30, rfl, fun j hj => absurd hj (Nat.not_lt_zero j), fun j hj => absurd hj (Nat.not_lt_zero j), fun a b _ hb => absurd hb (Nat.not_lt_zero b)⟩
theorem okB_0 : okB bk0 0 0 := by
  obtain ⟨h1, h2, h3, h4, h5, h6, h7, h8⟩ := bkBeg_ok bkZ
  exact ⟨h1, h2, h3, h4, h8, Nat.zero_le 8⟩
theorem VB_0 : VB TE0 (fun _ => 0) (cpN 8 nI (fun _ => 0)) (fun _ => 0) (fun _ => 0) (fun _ => 0) 0 0 := by
  obtain ⟨h1, h2, h3, h4, h5, h6, h7, h8⟩ := mB0_ok
  exact ⟨⟨h2, h3, h4, h5, h6⟩, h7, Nat.zero_le 8⟩
theorem LI_start {v : xw_V} {G : xw_G} (g0 : G 0 = pc_X v) (g1 : G 1 = pc_B v 1 bk0) (g2 : G 2 = pc_S v 2 1 slZ) (g3 : G 3 = pc_B v 3 bk0) (g4 : G 4 = pc_S v 4 3 slZ) (g5 : G 5 = pP v 0 0) (gK : ∀ j, j < 12 → G (6 + j) = pc_B v (6 + j) bk0) (g18 : G 18 = pc_T v (fun _ => 0, 0)) (g19 : G 19 = pc_R v (0, 0, 0)) (g20 : G 20 = pc_W (0, 0, 0)) (g21 : G 21 = pM v 0 (nR TE0 (fun _ => 0) (cpN 8 nI (fun _ => 0)) (fun _ => 0) (fun _ => 0) (fun _ => 0) 0 (fun _ => 0) (fun _ => 0) (fun _ => 0) 0) ((fun _ => 0)) ((fun _ => 0)) ((fun _ => 0)) ((fun _ => 0)) ((fun _ => 0)) 0 ((fun _ => 0)) ((fun _ => 0)) ((fun _ => 0)) ((fun _ => 0)) ((fun _ => 0)) ((fun _ => 0)) 0 0 0 0 0 0 ((fun _ => 0)) 0 ((fun _ => 0)) 0 (wlv 68) 0 0 0 0 0) : LI v G :=
  ⟨bk0, 0, 0, 0, 0, 0, fun _ => bk0, (fun _ => 0, 0), (0, nR TE0 (fun _ => 0) (cpN 8 nI (fun _ => 0)) (fun _ => 0) (fun _ => 0) (fun _ => 0) 0 (fun _ => 0) (fun _ => 0) (fun _ => 0) 0, fun _ => 0, fun _ => 0, fun _ => 0, fun _ => 0, fun _ => 0, 0, fun _ => 0, fun _ => 0, fun _ => 0, fun _ => 0, fun _ => 0, fun _ => 0, 0, 0, 0, 0, 0, 0, fun _ => 0, 0, fun _ => 0, 0, wlv 68, 0, 0, 0, 0, 0), TE0, fun _ => 0, cpN 8 nI (fun _ => 0), fun _ => 0, fun _ => 0, fun _ => 0, fun _ => 0, fun _ => 0, fun _ => 0,
   ⟨okB_0, by omega, by omega, fun j _ => ⟨0, 0, okB_0⟩, Nat.zero_le 700, rfl, slZ, bk0, slZ, (0, 0, 0), (0, 0, 0), okO_Z, okO_Z, g0, g1, g2, g3, g4, g5, gK, g18, g19, g20⟩,
   g21, beg_eqB bkZ, fun k hk => absurd hk (Nat.not_lt_zero k), VB_0, PB_0, rfl, ⟨rfl, rfl, fun _ => Int32.le_refl 0, wlv_ok⟩⟩
set_option maxHeartbeats 1000000 in
set_option maxRecDepth 10000 in
theorem law_body {v : xw_V} {κ : xk_K} {post : Option Value → xw_G → Prop} {nm : String} {b L : Nat} {xs : Nat → Int32} (hk : xk_Ok v κ (yLw nm) cL_law 4 (some .boolean) 11 235) (hz : xk_zf κ = (207, 207, 7858)) (hX : va_X b L xs (xk_s κ) (xk_s κ).heap) (hb : b < (xk_s κ).heap.size) (hbb : ¬ xk_b κ ≤ b) (hL : L ≤ 3072) (hpost : ∀ G', post (some (.int 1)) G') : xj v κ post (0, 0, 0) (fun _ => []) 0 [some (.ref b), none, none, none] [] := by
  refine xj_new2 (ci := 7) (g := 0) (i := 0) (p := []) hk dL_law_0 rfl cl_L_7 mn_X7 tyX7 tyX7_ok df_X7 (by decide) rfl rfl rfl (xk_fit hz (Nat.le_of_ble_eq_true rfl) (Nat.le_of_ble_eq_true rfl)) ?_
  intro G1 hn1 hf1
  have h1 : G1 0 = [xw_eo 7 [.null, .null, .null, .null, .null, .null, .null, .null]] := hn1
  have e1 : ∀ q, q ≠ 0 → G1 q = [] := fun q h => hf1 q h
  refine xj_dup hk dL_law_3 rfl ?_
  refine xj_callIZ (fr1 := 4) (lo1 := 81) (As := []) (st := [.ref (xw_ad v 0 0)]) (mc := 190) (ms := 3305) hk ml_L_9 (i_X7 h1 (fun q a _ => e1 q (by omega))) (xk_fit hz (Nat.le_of_ble_eq_true rfl) (Nat.le_of_ble_eq_true rfl)) rfl dL_law_4 ⟨Nat.le_of_ble_eq_true rfl, Nat.le_of_ble_eq_true rfl⟩ (Nat.le_of_ble_eq_true rfl) rfl ?_
  rintro _ G2 ⟨rfl, g0, g1, g2, g3, g4, g5, gK, g18, g19, g20, gf⟩
  refine xj_astore_n (i := 1) (ls2 := [some (.ref b), some (.ref (xw_ad v 0 0)), none, none]) hk dL_law_7 rfl (by decide) rfl rfl ?_
  have h21 : G2 21 = [] := (gf 21 (Nat.le_refl 21)).trans (e1 21 (by decide))
  refine xj_new2 (ci := 8) (g := 21) (i := 0) (p := []) hk dL_law_8 rfl cl_L_10 mn_X8 tyX8 tyX8_ok df_X8 (by decide) h21 rfl rfl (xk_fit hz (Nat.le_of_ble_eq_true rfl) (Nat.le_of_ble_eq_true rfl)) ?_
  intro G3 hn3 hf3
  have h3 : G3 21 = [xw_eo 8 [.int 0, .null, .null, .null, .null, .null, .null, .int 0, .null, .null, .null, .null, .null, .null, .int 0, .int 0, .int 0, .int 0, .int 0, .int 0, .null, .int 0, .null, .int 0, .null, .int 0, .int 0, .int 0, .int 0, .int 0]] := hn3
  refine xj_dup hk dL_law_11 rfl ?_
  refine xj_callIZ (fr1 := 1) (lo1 := 21) (As := []) (st := [.ref (xw_ad v 21 0)]) (mc := 15) (ms := 4515) hk ml_L_12 (i_X8 h3) (xk_fit hz (Nat.le_of_ble_eq_true rfl) (Nat.le_of_ble_eq_true rfl)) rfl dL_law_12 ⟨Nat.le_of_ble_eq_true rfl, Nat.le_of_ble_eq_true rfl⟩ (Nat.le_of_ble_eq_true rfl) rfl ?_
  rintro _ G4 ⟨rfl, h4, hf4⟩
  refine xj_astore_n (i := 2) (ls2 := [some (.ref b), some (.ref (xw_ad v 0 0)), some (.ref (xw_ad v 21 0)), none]) hk dL_law_15 rfl (by decide) rfl rfl ?_
  refine xj_iconst (x := 0) hk dL_law_16 (by decide) ?_
  refine xj_istore_n (i := 3) (ls2 := [some (.ref b), some (.ref (xw_ad v 0 0)), some (.ref (xw_ad v 21 0)), some (.int (nI 0))]) hk dL_law_17 rfl (by decide) rfl rfl ?_
  have hfr : ∀ q, q ≠ 21 → G4 q = G2 q := fun q h => (hf4 q h).trans (hf3 q h)
  refine l_law (z := (207, 207, 7858)) hk hz hX hb hbb hL hpost (L + 1) 0 G4 (by omega) (by omega) ?_
  exact LI_start ((hfr 0 (by decide)).trans g0) ((hfr 1 (by decide)).trans g1) ((hfr 2 (by decide)).trans g2) ((hfr 3 (by decide)).trans g3) ((hfr 4 (by decide)).trans g4) ((hfr 5 (by decide)).trans g5) (fun j hj => (hfr (6 + j) (by omega)).trans (gK j hj)) ((hfr 18 (by decide)).trans g18) ((hfr 19 (by decide)).trans g19) ((hfr 20 (by decide)).trans g20) h4

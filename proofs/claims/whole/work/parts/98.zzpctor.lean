theorem off_s : ∀ i, i < 12 → xw_off (6 + i) + 12 = xw_off (6 + (i + 1)) := by decide
def kp (v : xw_V) (i : Nat) : Nat → Option Nat := fun j => if j < i then some (xw_ad v (6 + j) 0) else none
theorem kp_s {v : xw_V} {i : Nat} : xu (kp v i) i (some (xw_ad v (6 + i) 0)) = kp v (i + 1) := by
  funext j
  by_cases c : j = i
  · subst c; rw [xu_s]; simp [kp]
  · rw [xu_n c]
    simp only [kp]
    by_cases d : j < i
    · rw [if_pos d, if_pos (by omega)]
    · rw [if_neg d, if_neg (by omega)]
set_option maxHeartbeats 1000000 in
set_option maxRecDepth 10000 in
theorem l_X2 {v : xw_V} {κ : xk_K} {G : xw_G} (hk : xk_Ok v κ yX2_init cX2_init 2 none 3 60) (hz : xk_zf κ = (42 + 145, 145, 1908)) : ∀ (m i : Nat) (G1 : xw_G), 12 - i < m → i ≤ 12 → G1 5 = [xw_eo 2 [.ref (xw_ad v 5 1), .int 0, .int 0], xw_eq v 12 (kp v i)] → (∀ j, j < i → G1 (6 + j) = pc_B v (6 + j) bk0) → (∀ j, i ≤ j → j < 12 → G1 (6 + j) = []) → (∀ q, q ≠ 5 → (q < 6 ∨ 17 < q) → G1 q = G q) → xj v κ (fun r G9 => r = none ∧ G9 5 = pP v 0 0 ∧ (∀ j, j < 12 → G9 (6 + j) = pc_B v (6 + j) bk0) ∧ ∀ q, q ≠ 5 → (q < 6 ∨ 17 < q) → G9 q = G q) (xw_off (6 + i), 1 + 12 * i, 12 + 158 * i) G1 25 [some (.ref (xw_ad v 5 0)), some (.int (nI i))] [] := by
  intro m
  induction m with
  | zero => intro i G1 h; exact absurd h (Nat.not_lt_zero _)
  | succ m ih =>
    intro i G1 hm hi h5 hB h0 hF
    refine xj_iload_n (i := 1) hk dX2_init_25 rfl rfl ?_
    refine xj_bipush (x := 12) hk dX2_init_26 (by decide) ?_
    refine xj_icmp_ge (tgt := 50) hk dX2_init_28 (by decide) (fun c => ?_) (fun c => ?_)
    · have e : i = 12 := by have := (nI_leI (a := 12) (b := i) (by omega) (by omega)).mp c; omega
      subst e
      refine xj_return hk (show xk_zf κ = (xw_off (6 + 12), 1 + 12 * 12, 12 + 158 * 12) from hz) dX2_init_50 ?_
      exact ⟨rfl, h5, hB, hF⟩
    · have hi12 : i < 12 := by
        rcases Nat.lt_or_ge i 12 with q | q
        · exact q
        · exact absurd ((nI_leI (a := 12) (b := i) (by omega) (by omega)).mpr q) c
      refine xj_aload_n (i := 0) hk dX2_init_31 rfl rfl ?_
      refine xj_getfield hk dX2_init_32 fl_X2_11 (xw_at h5 rfl) rfl ?_
      refine xj_iload_n (i := 1) hk dX2_init_35 rfl rfl ?_
      refine xj_new2 (ci := 0) (g := 6 + i) (i := 0) hk dX2_init_36 rfl cl_X2_9 mn_X0 tyX0 tyX0_ok df_X0 (by omega) (h0 i (Nat.le_refl i) hi12) rfl rfl (xk_fit hz (show 1 + 12 * i + 1 ≤ 145 by omega) (show 12 + 158 * i + 8 ≤ 1908 by omega)) ?_
      intro G2 hn2 hf2
      have h2 : G2 (6 + i) = [xw_eo 0 [.null, .null, .null, .null, .null, .null, .null, .int 0]] := hn2
      refine xj_dup hk dX2_init_39 rfl ?_
      refine xj_callIZ (fr1 := 2) (lo1 := 40) (As := []) (st := [.ref (xw_ad v (6 + i) 0), .int (nI i), .ref (xw_ad v 5 1)]) (mc := 11) (ms := 150) hk ml_X2_24 (i_X0 (by omega) h2) (xk_fit hz (show 1 + 12 * i + 1 + 11 ≤ 145 by omega) (show 12 + 158 * i + 8 + 150 ≤ 1908 by omega)) rfl dX2_init_40 ⟨Nat.le_of_ble_eq_true rfl, Nat.le_of_ble_eq_true rfl⟩ (Nat.le_of_ble_eq_true rfl) rfl ?_
      rintro _ G3 ⟨rfl, h3, hf3⟩
      have h35 : G3 5 = [xw_eo 2 [.ref (xw_ad v 5 1), .int 0, .int 0], xw_eq v 12 (kp v i)] := (hf3 5 (by omega)).trans ((hf2 5 (by omega)).trans h5)
      refine xj_aast2 (g := 5) (i := 1) (k := i) (g1 := 6 + i) (i1 := 0) hk dX2_init_43 h35 rfl (xw_at h3 rfl) (xi_n (by omega) (by decide)) ?_
      intro G4 h4 hf4
      rw [kp_s] at h4
      refine xj_iinc (i := 1) (x2 := nI (i + 1)) (ls2 := [some (.ref (xw_ad v 5 0)), some (.int (nI (i + 1)))]) hk dX2_init_44 rfl (nI_1 i) (by decide) rfl rfl ?_
      refine xj_goto (tgt := 25) hk dX2_init_47 (by decide) ?_
      refine xj.zz (z' := (xw_off (6 + (i + 1)), 1 + 12 * (i + 1), 12 + 158 * (i + 1))) (by rw [← off_s i hi12]; exact Prod.ext rfl (Prod.ext (show 1 + 12 * i + 1 + 11 = 1 + 12 * (i + 1) by omega) (show 12 + 158 * i + 8 + 150 = 12 + 158 * (i + 1) by omega))) ?_
      refine ih (i + 1) G4 (by omega) (by omega) h4 (fun j hj => ?_) (fun j hj hj2 => ?_) (fun q a1 a2 => ?_)
      · rw [hf4 _ (by omega)]
        by_cases q : j = i
        · subst q; exact h3
        · rw [hf3 _ (by omega), hf2 _ (by omega)]; exact hB j (by omega)
      · rw [hf4 _ (by omega), hf3 _ (by omega), hf2 _ (by omega)]; exact h0 j (by omega) hj2
      · rw [hf4 q a1, hf3 q (by omega), hf2 q (by omega)]; exact hF q a1 a2
set_option maxHeartbeats 1000000 in
set_option maxRecDepth 10000 in
theorem i_X2 {v : xw_V} {G : xw_G}  (hp : G 5 = [xw_eo 2 [.null, .int 0, .int 0]]) (h0 : ∀ j, j < 12 → G (6 + j) = []) : xk_ConZ v yX2_init cX2_init 2 none 3 60 [.ref (xw_ad v 5 0)] 42 145 1908 G (fun r G9 => r = none ∧ G9 5 = pP v 0 0 ∧ (∀ j, j < 12 → G9 (6 + j) = pc_B v (6 + j) bk0) ∧ ∀ q, q ≠ 5 → (q < 6 ∨ 17 < q) → G9 q = G q) := by
  refine xk_ofZ (ls0 := [some (.ref (xw_ad v 5 0)), none]) (by decide) rfl (Nat.le_of_ble_eq_true rfl) ?_
  intro κ hk hz
  refine xj_aload_n (i := 0) hk dX2_init_0 rfl rfl ?_
  refine xj_objinit hk dX2_init_1 oi_X2_3 oi_2.1 oi_2.2 (Nat.le_of_ble_eq_true rfl) (Nat.le_of_ble_eq_true rfl) ?_
  refine xj_aload_n (i := 0) hk dX2_init_4 rfl rfl ?_
  refine xj_bipush (x := 12) hk dX2_init_5 (by decide) ?_
  refine xj_newq2 (g := 5) (i := 1) (N := 12) hk dX2_init_7 cl_X2_9 (by rfl) (Nat.le_of_ble_eq_true rfl) (by decide) hp rfl rfl (xk_fit hz (Nat.le_of_ble_eq_true rfl) (Nat.le_of_ble_eq_true rfl)) ?_
  intro G1 hn1 hf1
  have h5_1 : G1 5 = [xw_eo 2 [.null, .int 0, .int 0], xw_eq v 12 (fun _ => none)] := hn1
  have hF1 : ∀ q, q ≠ 5 → G1 q = G q := fun q a0 => (hf1 q a0)
  refine xj_putf2 (g := 5) (i := 0) hk dX2_init_10 fl_X2_11 rfl rfl fg_X2_11 rfl rfl h5_1 rfl (Nat.le_of_ble_eq_true rfl) ?_
  intro G2 hn2 hf2
  have h5_2 : G2 5 = [xw_eo 2 [.ref (xw_ad v 5 1), .int 0, .int 0], xw_eq v 12 (fun _ => none)] := hn2
  have hF2 : ∀ q, q ≠ 5 → G2 q = G q := fun q a0 => (hf2 q a0).trans (hF1 q a0)
  refine xj_aload_n (i := 0) hk dX2_init_13 rfl rfl ?_
  refine xj_iconst (x := 0) hk dX2_init_14 (by decide) ?_
  refine xj_putn2 (g := 5) (i := 0) hk dX2_init_15 fl_X2_17 rfl rfl h5_2 rfl (Nat.le_of_ble_eq_true rfl) ?_
  intro G3 hn3 hf3
  have h5_3 : G3 5 = [xw_eo 2 [.ref (xw_ad v 5 1), .int 0, .int 0], xw_eq v 12 (fun _ => none)] := hn3
  have hF3 : ∀ q, q ≠ 5 → G3 q = G q := fun q a0 => (hf3 q a0).trans (hF2 q a0)
  refine xj_aload_n (i := 0) hk dX2_init_18 rfl rfl ?_
  refine xj_iconst (x := 0) hk dX2_init_19 (by decide) ?_
  refine xj_putn2 (g := 5) (i := 0) hk dX2_init_20 fl_X2_21 rfl rfl h5_3 rfl (Nat.le_of_ble_eq_true rfl) ?_
  intro G4 hn4 hf4
  have h5_4 : G4 5 = [xw_eo 2 [.ref (xw_ad v 5 1), .int 0, .int 0], xw_eq v 12 (fun _ => none)] := hn4
  have hF4 : ∀ q, q ≠ 5 → G4 q = G q := fun q a0 => (hf4 q a0).trans (hF3 q a0)
  refine xj_iconst (x := 0) hk dX2_init_23 (by decide) ?_
  refine xj_istore_n (i := 1) (ls2 := [some (.ref (xw_ad v 5 0)), some (.int (nI 0))]) hk dX2_init_24 rfl (by decide) rfl rfl ?_
  refine l_X2 hk hz (12 + 1) 0 G4 (by omega) (by omega) h5_4 (fun j hj => absurd hj (Nat.not_lt_zero j)) (fun j _ hj => ?_) (fun q a1 _ => hF4 q a1)
  rw [hF4 (6 + j) (by omega)]; exact h0 j hj
set_option maxHeartbeats 1000000 in
set_option maxRecDepth 10000 in
theorem i_X7 {v : xw_V} {G : xw_G}  (hp : G 0 = [xw_eo 7 [.null, .null, .null, .null, .null, .null, .null, .null]]) (e0 : ∀ q, 0 < q → q < 21 → G q = []) : xk_ConZ v yX7_init cX7_init 1 none 4 81 [.ref (xw_ad v 0 0)] 1 190 3305 G (fun r G9 => r = none ∧ G9 0 = pc_X v ∧ G9 1 = pc_B v 1 bk0 ∧ G9 2 = pc_S v 2 1 slZ ∧ G9 3 = pc_B v 3 bk0 ∧ G9 4 = pc_S v 4 3 slZ ∧ G9 5 = pP v 0 0 ∧ (∀ j, j < 12 → G9 (6 + j) = pc_B v (6 + j) bk0) ∧ G9 18 = pc_T v (fun _ => 0, 0) ∧ G9 19 = pc_R v (0, 0, 0) ∧ G9 20 = pc_W (0, 0, 0) ∧ ∀ q, 21 ≤ q → G9 q = G q) := by
  refine xk_ofZ (ls0 := [some (.ref (xw_ad v 0 0))]) (by decide) rfl (Nat.le_of_ble_eq_true rfl) ?_
  intro κ hk hz
  have hK_0 : ∀ j, j < 12 → G (6 + j) = [] := fun j hj => e0 (6 + j) (by omega) (by omega)
  refine xj_aload_n (i := 0) hk dX7_init_0 rfl rfl ?_
  refine xj_objinit hk dX7_init_1 oi_X7_1 oi_2.1 oi_2.2 (Nat.le_of_ble_eq_true rfl) (Nat.le_of_ble_eq_true rfl) ?_
  refine xj_aload_n (i := 0) hk dX7_init_4 rfl rfl ?_
  refine xj_new2 (ci := 0) (g := 1) (i := 0) hk dX7_init_5 rfl cl_X7_7 mn_X0 tyX0 tyX0_ok df_X0 (by decide) (e0 1 (by decide) (by decide)) rfl rfl (xk_fit hz (Nat.le_of_ble_eq_true rfl) (Nat.le_of_ble_eq_true rfl)) ?_
  intro G1 hn1 hf1
  have h1_1 : G1 1 = [xw_eo 0 [.null, .null, .null, .null, .null, .null, .null, .int 0]] := hn1
  have h0_1 : G1 0 = [xw_eo 7 [.null, .null, .null, .null, .null, .null, .null, .null]] := (hf1 0 (by decide)).trans hp
  have h2_1 : G1 2 = [] := (hf1 2 (by decide)).trans (e0 2 (by decide) (by decide))
  have h3_1 : G1 3 = [] := (hf1 3 (by decide)).trans (e0 3 (by decide) (by decide))
  have h4_1 : G1 4 = [] := (hf1 4 (by decide)).trans (e0 4 (by decide) (by decide))
  have h5_1 : G1 5 = [] := (hf1 5 (by decide)).trans (e0 5 (by decide) (by decide))
  have h18_1 : G1 18 = [] := (hf1 18 (by decide)).trans (e0 18 (by decide) (by decide))
  have h19_1 : G1 19 = [] := (hf1 19 (by decide)).trans (e0 19 (by decide) (by decide))
  have h20_1 : G1 20 = [] := (hf1 20 (by decide)).trans (e0 20 (by decide) (by decide))
  have hK_1 : ∀ j, j < 12 → G1 (6 + j) = [] := fun j hj => (hf1 (6 + j) (by omega)).trans (hK_0 j hj)
  have hF1 : ∀ q, 21 ≤ q → G1 q = G q := fun q h9 => (hf1 q (by omega)).trans ((fun _ _ => rfl) q h9)
  refine xj_dup hk dX7_init_8 rfl ?_
  refine xj_callIZ (fr1 := 2) (lo1 := 40) (As := []) (st := [.ref (xw_ad v 1 0), .ref (xw_ad v 0 0)]) (mc := 11) (ms := 150) hk ml_X7_9 (i_X0 (by decide) h1_1) (xk_fit hz (Nat.le_of_ble_eq_true rfl) (Nat.le_of_ble_eq_true rfl)) rfl dX7_init_9 ⟨Nat.le_of_ble_eq_true rfl, Nat.le_of_ble_eq_true rfl⟩ (Nat.le_of_ble_eq_true rfl) rfl ?_
  rintro _ G2 ⟨rfl, hn2, hf2⟩
  have h1_2 : G2 1 = pc_B v 1 bk0 := hn2
  have h0_2 : G2 0 = [xw_eo 7 [.null, .null, .null, .null, .null, .null, .null, .null]] := (hf2 0 (by decide)).trans h0_1
  have h2_2 : G2 2 = [] := (hf2 2 (by decide)).trans h2_1
  have h3_2 : G2 3 = [] := (hf2 3 (by decide)).trans h3_1
  have h4_2 : G2 4 = [] := (hf2 4 (by decide)).trans h4_1
  have h5_2 : G2 5 = [] := (hf2 5 (by decide)).trans h5_1
  have h18_2 : G2 18 = [] := (hf2 18 (by decide)).trans h18_1
  have h19_2 : G2 19 = [] := (hf2 19 (by decide)).trans h19_1
  have h20_2 : G2 20 = [] := (hf2 20 (by decide)).trans h20_1
  have hK_2 : ∀ j, j < 12 → G2 (6 + j) = [] := fun j hj => (hf2 (6 + j) (by omega)).trans (hK_1 j hj)
  have hF2 : ∀ q, 21 ≤ q → G2 q = G q := fun q h9 => (hf2 q (by omega)).trans (hF1 q h9)
  refine xj_putf2 (g := 0) (i := 0) hk dX7_init_12 fl_X7_10 rfl rfl fg_X7_10 rfl rfl h0_2 rfl (Nat.le_of_ble_eq_true rfl) ?_
  intro G3 hn3 hf3
  have h0_3 : G3 0 = [xw_eo 7 [.ref (xw_ad v 1 0), .null, .null, .null, .null, .null, .null, .null]] := hn3
  have h1_3 : G3 1 = pc_B v 1 bk0 := (hf3 1 (by decide)).trans h1_2
  have h2_3 : G3 2 = [] := (hf3 2 (by decide)).trans h2_2
  have h3_3 : G3 3 = [] := (hf3 3 (by decide)).trans h3_2
  have h4_3 : G3 4 = [] := (hf3 4 (by decide)).trans h4_2
  have h5_3 : G3 5 = [] := (hf3 5 (by decide)).trans h5_2
  have h18_3 : G3 18 = [] := (hf3 18 (by decide)).trans h18_2
  have h19_3 : G3 19 = [] := (hf3 19 (by decide)).trans h19_2
  have h20_3 : G3 20 = [] := (hf3 20 (by decide)).trans h20_2
  have hK_3 : ∀ j, j < 12 → G3 (6 + j) = [] := fun j hj => (hf3 (6 + j) (by omega)).trans (hK_2 j hj)
  have hF3 : ∀ q, 21 ≤ q → G3 q = G q := fun q h9 => (hf3 q (by omega)).trans (hF2 q h9)
  refine xj_aload_n (i := 0) hk dX7_init_15 rfl rfl ?_
  refine xj_new2 (ci := 4) (g := 2) (i := 0) hk dX7_init_16 rfl cl_X7_16 mn_X4 tyX4 tyX4_ok df_X4 (by decide) h2_3 rfl rfl (xk_fit hz (Nat.le_of_ble_eq_true rfl) (Nat.le_of_ble_eq_true rfl)) ?_
  intro G4 hn4 hf4
  have h2_4 : G4 2 = [xw_eo 4 [.null, .null, .null, .null, .null, .null, .null, .null, .int 0, .int 0, .int 0, .int 0, .int 0, .int 0, .int 0, .int 0, .int 0, .int 0]] := hn4
  have h0_4 : G4 0 = [xw_eo 7 [.ref (xw_ad v 1 0), .null, .null, .null, .null, .null, .null, .null]] := (hf4 0 (by decide)).trans h0_3
  have h1_4 : G4 1 = pc_B v 1 bk0 := (hf4 1 (by decide)).trans h1_3
  have h3_4 : G4 3 = [] := (hf4 3 (by decide)).trans h3_3
  have h4_4 : G4 4 = [] := (hf4 4 (by decide)).trans h4_3
  have h5_4 : G4 5 = [] := (hf4 5 (by decide)).trans h5_3
  have h18_4 : G4 18 = [] := (hf4 18 (by decide)).trans h18_3
  have h19_4 : G4 19 = [] := (hf4 19 (by decide)).trans h19_3
  have h20_4 : G4 20 = [] := (hf4 20 (by decide)).trans h20_3
  have hK_4 : ∀ j, j < 12 → G4 (6 + j) = [] := fun j hj => (hf4 (6 + j) (by omega)).trans (hK_3 j hj)
  have hF4 : ∀ q, 21 ≤ q → G4 q = G q := fun q h9 => (hf4 q (by omega)).trans (hF3 q h9)
  refine xj_dup hk dX7_init_19 rfl ?_
  refine xj_aload_n (i := 0) hk dX7_init_20 rfl rfl ?_
  refine xj_getfield hk dX7_init_21 fl_X7_10 (xw_at h0_4 rfl) rfl ?_
  refine xj_callIZ (fr1 := 1) (lo1 := 20) (As := [.ref (xw_ad v 1 0)]) (st := [.ref (xw_ad v 2 0), .ref (xw_ad v 0 0)]) (mc := 7) (ms := 166) hk ml_X7_18 (i_X4 (b := 1) (by decide) h2_4) (xk_fit hz (Nat.le_of_ble_eq_true rfl) (Nat.le_of_ble_eq_true rfl)) rfl dX7_init_24 ⟨Nat.le_of_ble_eq_true rfl, Nat.le_of_ble_eq_true rfl⟩ (Nat.le_of_ble_eq_true rfl) rfl ?_
  rintro _ G5 ⟨rfl, hn5, hf5⟩
  have h2_5 : G5 2 = pc_S v 2 1 slZ := hn5
  have h0_5 : G5 0 = [xw_eo 7 [.ref (xw_ad v 1 0), .null, .null, .null, .null, .null, .null, .null]] := (hf5 0 (by decide)).trans h0_4
  have h1_5 : G5 1 = pc_B v 1 bk0 := (hf5 1 (by decide)).trans h1_4
  have h3_5 : G5 3 = [] := (hf5 3 (by decide)).trans h3_4
  have h4_5 : G5 4 = [] := (hf5 4 (by decide)).trans h4_4
  have h5_5 : G5 5 = [] := (hf5 5 (by decide)).trans h5_4
  have h18_5 : G5 18 = [] := (hf5 18 (by decide)).trans h18_4
  have h19_5 : G5 19 = [] := (hf5 19 (by decide)).trans h19_4
  have h20_5 : G5 20 = [] := (hf5 20 (by decide)).trans h20_4
  have hK_5 : ∀ j, j < 12 → G5 (6 + j) = [] := fun j hj => (hf5 (6 + j) (by omega)).trans (hK_4 j hj)
  have hF5 : ∀ q, 21 ≤ q → G5 q = G q := fun q h9 => (hf5 q (by omega)).trans (hF4 q h9)
  refine xj_putf2 (g := 0) (i := 0) hk dX7_init_27 fl_X7_21 rfl rfl fg_X7_21 rfl rfl h0_5 rfl (Nat.le_of_ble_eq_true rfl) ?_
  intro G6 hn6 hf6
  have h0_6 : G6 0 = [xw_eo 7 [.ref (xw_ad v 1 0), .ref (xw_ad v 2 0), .null, .null, .null, .null, .null, .null]] := hn6
  have h1_6 : G6 1 = pc_B v 1 bk0 := (hf6 1 (by decide)).trans h1_5
  have h2_6 : G6 2 = pc_S v 2 1 slZ := (hf6 2 (by decide)).trans h2_5
  have h3_6 : G6 3 = [] := (hf6 3 (by decide)).trans h3_5
  have h4_6 : G6 4 = [] := (hf6 4 (by decide)).trans h4_5
  have h5_6 : G6 5 = [] := (hf6 5 (by decide)).trans h5_5
  have h18_6 : G6 18 = [] := (hf6 18 (by decide)).trans h18_5
  have h19_6 : G6 19 = [] := (hf6 19 (by decide)).trans h19_5
  have h20_6 : G6 20 = [] := (hf6 20 (by decide)).trans h20_5
  have hK_6 : ∀ j, j < 12 → G6 (6 + j) = [] := fun j hj => (hf6 (6 + j) (by omega)).trans (hK_5 j hj)
  have hF6 : ∀ q, 21 ≤ q → G6 q = G q := fun q h9 => (hf6 q (by omega)).trans (hF5 q h9)
  refine xj_aload_n (i := 0) hk dX7_init_30 rfl rfl ?_
  refine xj_new2 (ci := 0) (g := 3) (i := 0) hk dX7_init_31 rfl cl_X7_7 mn_X0 tyX0 tyX0_ok df_X0 (by decide) h3_6 rfl rfl (xk_fit hz (Nat.le_of_ble_eq_true rfl) (Nat.le_of_ble_eq_true rfl)) ?_
  intro G7 hn7 hf7
  have h3_7 : G7 3 = [xw_eo 0 [.null, .null, .null, .null, .null, .null, .null, .int 0]] := hn7
  have h0_7 : G7 0 = [xw_eo 7 [.ref (xw_ad v 1 0), .ref (xw_ad v 2 0), .null, .null, .null, .null, .null, .null]] := (hf7 0 (by decide)).trans h0_6
  have h1_7 : G7 1 = pc_B v 1 bk0 := (hf7 1 (by decide)).trans h1_6
  have h2_7 : G7 2 = pc_S v 2 1 slZ := (hf7 2 (by decide)).trans h2_6
  have h4_7 : G7 4 = [] := (hf7 4 (by decide)).trans h4_6
  have h5_7 : G7 5 = [] := (hf7 5 (by decide)).trans h5_6
  have h18_7 : G7 18 = [] := (hf7 18 (by decide)).trans h18_6
  have h19_7 : G7 19 = [] := (hf7 19 (by decide)).trans h19_6
  have h20_7 : G7 20 = [] := (hf7 20 (by decide)).trans h20_6
  have hK_7 : ∀ j, j < 12 → G7 (6 + j) = [] := fun j hj => (hf7 (6 + j) (by omega)).trans (hK_6 j hj)
  have hF7 : ∀ q, 21 ≤ q → G7 q = G q := fun q h9 => (hf7 q (by omega)).trans (hF6 q h9)
  refine xj_dup hk dX7_init_34 rfl ?_
  refine xj_callIZ (fr1 := 2) (lo1 := 40) (As := []) (st := [.ref (xw_ad v 3 0), .ref (xw_ad v 0 0)]) (mc := 11) (ms := 150) hk ml_X7_9 (i_X0 (by decide) h3_7) (xk_fit hz (Nat.le_of_ble_eq_true rfl) (Nat.le_of_ble_eq_true rfl)) rfl dX7_init_35 ⟨Nat.le_of_ble_eq_true rfl, Nat.le_of_ble_eq_true rfl⟩ (Nat.le_of_ble_eq_true rfl) rfl ?_
  rintro _ G8 ⟨rfl, hn8, hf8⟩
  have h3_8 : G8 3 = pc_B v 3 bk0 := hn8
  have h0_8 : G8 0 = [xw_eo 7 [.ref (xw_ad v 1 0), .ref (xw_ad v 2 0), .null, .null, .null, .null, .null, .null]] := (hf8 0 (by decide)).trans h0_7
  have h1_8 : G8 1 = pc_B v 1 bk0 := (hf8 1 (by decide)).trans h1_7
  have h2_8 : G8 2 = pc_S v 2 1 slZ := (hf8 2 (by decide)).trans h2_7
  have h4_8 : G8 4 = [] := (hf8 4 (by decide)).trans h4_7
  have h5_8 : G8 5 = [] := (hf8 5 (by decide)).trans h5_7
  have h18_8 : G8 18 = [] := (hf8 18 (by decide)).trans h18_7
  have h19_8 : G8 19 = [] := (hf8 19 (by decide)).trans h19_7
  have h20_8 : G8 20 = [] := (hf8 20 (by decide)).trans h20_7
  have hK_8 : ∀ j, j < 12 → G8 (6 + j) = [] := fun j hj => (hf8 (6 + j) (by omega)).trans (hK_7 j hj)
  have hF8 : ∀ q, 21 ≤ q → G8 q = G q := fun q h9 => (hf8 q (by omega)).trans (hF7 q h9)
  refine xj_putf2 (g := 0) (i := 0) hk dX7_init_38 fl_X7_25 rfl rfl fg_X7_25 rfl rfl h0_8 rfl (Nat.le_of_ble_eq_true rfl) ?_
  intro G9 hn9 hf9
  have h0_9 : G9 0 = [xw_eo 7 [.ref (xw_ad v 1 0), .ref (xw_ad v 2 0), .ref (xw_ad v 3 0), .null, .null, .null, .null, .null]] := hn9
  have h1_9 : G9 1 = pc_B v 1 bk0 := (hf9 1 (by decide)).trans h1_8
  have h2_9 : G9 2 = pc_S v 2 1 slZ := (hf9 2 (by decide)).trans h2_8
  have h3_9 : G9 3 = pc_B v 3 bk0 := (hf9 3 (by decide)).trans h3_8
  have h4_9 : G9 4 = [] := (hf9 4 (by decide)).trans h4_8
  have h5_9 : G9 5 = [] := (hf9 5 (by decide)).trans h5_8
  have h18_9 : G9 18 = [] := (hf9 18 (by decide)).trans h18_8
  have h19_9 : G9 19 = [] := (hf9 19 (by decide)).trans h19_8
  have h20_9 : G9 20 = [] := (hf9 20 (by decide)).trans h20_8
  have hK_9 : ∀ j, j < 12 → G9 (6 + j) = [] := fun j hj => (hf9 (6 + j) (by omega)).trans (hK_8 j hj)
  have hF9 : ∀ q, 21 ≤ q → G9 q = G q := fun q h9 => (hf9 q (by omega)).trans (hF8 q h9)
  refine xj_aload_n (i := 0) hk dX7_init_41 rfl rfl ?_
  refine xj_new2 (ci := 4) (g := 4) (i := 0) hk dX7_init_42 rfl cl_X7_16 mn_X4 tyX4 tyX4_ok df_X4 (by decide) h4_9 rfl rfl (xk_fit hz (Nat.le_of_ble_eq_true rfl) (Nat.le_of_ble_eq_true rfl)) ?_
  intro G10 hn10 hf10
  have h4_10 : G10 4 = [xw_eo 4 [.null, .null, .null, .null, .null, .null, .null, .null, .int 0, .int 0, .int 0, .int 0, .int 0, .int 0, .int 0, .int 0, .int 0, .int 0]] := hn10
  have h0_10 : G10 0 = [xw_eo 7 [.ref (xw_ad v 1 0), .ref (xw_ad v 2 0), .ref (xw_ad v 3 0), .null, .null, .null, .null, .null]] := (hf10 0 (by decide)).trans h0_9
  have h1_10 : G10 1 = pc_B v 1 bk0 := (hf10 1 (by decide)).trans h1_9
  have h2_10 : G10 2 = pc_S v 2 1 slZ := (hf10 2 (by decide)).trans h2_9
  have h3_10 : G10 3 = pc_B v 3 bk0 := (hf10 3 (by decide)).trans h3_9
  have h5_10 : G10 5 = [] := (hf10 5 (by decide)).trans h5_9
  have h18_10 : G10 18 = [] := (hf10 18 (by decide)).trans h18_9
  have h19_10 : G10 19 = [] := (hf10 19 (by decide)).trans h19_9
  have h20_10 : G10 20 = [] := (hf10 20 (by decide)).trans h20_9
  have hK_10 : ∀ j, j < 12 → G10 (6 + j) = [] := fun j hj => (hf10 (6 + j) (by omega)).trans (hK_9 j hj)
  have hF10 : ∀ q, 21 ≤ q → G10 q = G q := fun q h9 => (hf10 q (by omega)).trans (hF9 q h9)
  refine xj_dup hk dX7_init_45 rfl ?_
  refine xj_aload_n (i := 0) hk dX7_init_46 rfl rfl ?_
  refine xj_getfield hk dX7_init_47 fl_X7_25 (xw_at h0_10 rfl) rfl ?_
  refine xj_callIZ (fr1 := 1) (lo1 := 20) (As := [.ref (xw_ad v 3 0)]) (st := [.ref (xw_ad v 4 0), .ref (xw_ad v 0 0)]) (mc := 7) (ms := 166) hk ml_X7_18 (i_X4 (b := 3) (by decide) h4_10) (xk_fit hz (Nat.le_of_ble_eq_true rfl) (Nat.le_of_ble_eq_true rfl)) rfl dX7_init_50 ⟨Nat.le_of_ble_eq_true rfl, Nat.le_of_ble_eq_true rfl⟩ (Nat.le_of_ble_eq_true rfl) rfl ?_
  rintro _ G11 ⟨rfl, hn11, hf11⟩
  have h4_11 : G11 4 = pc_S v 4 3 slZ := hn11
  have h0_11 : G11 0 = [xw_eo 7 [.ref (xw_ad v 1 0), .ref (xw_ad v 2 0), .ref (xw_ad v 3 0), .null, .null, .null, .null, .null]] := (hf11 0 (by decide)).trans h0_10
  have h1_11 : G11 1 = pc_B v 1 bk0 := (hf11 1 (by decide)).trans h1_10
  have h2_11 : G11 2 = pc_S v 2 1 slZ := (hf11 2 (by decide)).trans h2_10
  have h3_11 : G11 3 = pc_B v 3 bk0 := (hf11 3 (by decide)).trans h3_10
  have h5_11 : G11 5 = [] := (hf11 5 (by decide)).trans h5_10
  have h18_11 : G11 18 = [] := (hf11 18 (by decide)).trans h18_10
  have h19_11 : G11 19 = [] := (hf11 19 (by decide)).trans h19_10
  have h20_11 : G11 20 = [] := (hf11 20 (by decide)).trans h20_10
  have hK_11 : ∀ j, j < 12 → G11 (6 + j) = [] := fun j hj => (hf11 (6 + j) (by omega)).trans (hK_10 j hj)
  have hF11 : ∀ q, 21 ≤ q → G11 q = G q := fun q h9 => (hf11 q (by omega)).trans (hF10 q h9)
  refine xj_putf2 (g := 0) (i := 0) hk dX7_init_53 fl_X7_28 rfl rfl fg_X7_28 rfl rfl h0_11 rfl (Nat.le_of_ble_eq_true rfl) ?_
  intro G12 hn12 hf12
  have h0_12 : G12 0 = [xw_eo 7 [.ref (xw_ad v 1 0), .ref (xw_ad v 2 0), .ref (xw_ad v 3 0), .ref (xw_ad v 4 0), .null, .null, .null, .null]] := hn12
  have h1_12 : G12 1 = pc_B v 1 bk0 := (hf12 1 (by decide)).trans h1_11
  have h2_12 : G12 2 = pc_S v 2 1 slZ := (hf12 2 (by decide)).trans h2_11
  have h3_12 : G12 3 = pc_B v 3 bk0 := (hf12 3 (by decide)).trans h3_11
  have h4_12 : G12 4 = pc_S v 4 3 slZ := (hf12 4 (by decide)).trans h4_11
  have h5_12 : G12 5 = [] := (hf12 5 (by decide)).trans h5_11
  have h18_12 : G12 18 = [] := (hf12 18 (by decide)).trans h18_11
  have h19_12 : G12 19 = [] := (hf12 19 (by decide)).trans h19_11
  have h20_12 : G12 20 = [] := (hf12 20 (by decide)).trans h20_11
  have hK_12 : ∀ j, j < 12 → G12 (6 + j) = [] := fun j hj => (hf12 (6 + j) (by omega)).trans (hK_11 j hj)
  have hF12 : ∀ q, 21 ≤ q → G12 q = G q := fun q h9 => (hf12 q (by omega)).trans (hF11 q h9)
  refine xj_aload_n (i := 0) hk dX7_init_56 rfl rfl ?_
  refine xj_new2 (ci := 2) (g := 5) (i := 0) hk dX7_init_57 rfl cl_X7_31 mn_X2 tyX2 tyX2_ok df_X2 (by decide) h5_12 rfl rfl (xk_fit hz (Nat.le_of_ble_eq_true rfl) (Nat.le_of_ble_eq_true rfl)) ?_
  intro G13 hn13 hf13
  have h5_13 : G13 5 = [xw_eo 2 [.null, .int 0, .int 0]] := hn13
  have h0_13 : G13 0 = [xw_eo 7 [.ref (xw_ad v 1 0), .ref (xw_ad v 2 0), .ref (xw_ad v 3 0), .ref (xw_ad v 4 0), .null, .null, .null, .null]] := (hf13 0 (by decide)).trans h0_12
  have h1_13 : G13 1 = pc_B v 1 bk0 := (hf13 1 (by decide)).trans h1_12
  have h2_13 : G13 2 = pc_S v 2 1 slZ := (hf13 2 (by decide)).trans h2_12
  have h3_13 : G13 3 = pc_B v 3 bk0 := (hf13 3 (by decide)).trans h3_12
  have h4_13 : G13 4 = pc_S v 4 3 slZ := (hf13 4 (by decide)).trans h4_12
  have h18_13 : G13 18 = [] := (hf13 18 (by decide)).trans h18_12
  have h19_13 : G13 19 = [] := (hf13 19 (by decide)).trans h19_12
  have h20_13 : G13 20 = [] := (hf13 20 (by decide)).trans h20_12
  have hK_13 : ∀ j, j < 12 → G13 (6 + j) = [] := fun j hj => (hf13 (6 + j) (by omega)).trans (hK_12 j hj)
  have hF13 : ∀ q, 21 ≤ q → G13 q = G q := fun q h9 => (hf13 q (by omega)).trans (hF12 q h9)
  refine xj_dup hk dX7_init_60 rfl ?_
  refine xj_callIZ (fr1 := 3) (lo1 := 60) (As := []) (st := [.ref (xw_ad v 5 0), .ref (xw_ad v 0 0)]) (mc := 145) (ms := 1908) hk ml_X7_33 (i_X2 h5_13 hK_13) (xk_fit hz (Nat.le_of_ble_eq_true rfl) (Nat.le_of_ble_eq_true rfl)) rfl dX7_init_61 ⟨Nat.le_of_ble_eq_true rfl, Nat.le_of_ble_eq_true rfl⟩ (Nat.le_of_ble_eq_true rfl) rfl ?_
  rintro _ G14 ⟨rfl, hn14, hk14, hf14⟩
  have h0_14 : G14 0 = [xw_eo 7 [.ref (xw_ad v 1 0), .ref (xw_ad v 2 0), .ref (xw_ad v 3 0), .ref (xw_ad v 4 0), .null, .null, .null, .null]] := (hf14 0 (by decide) (by decide)).trans h0_13
  have h1_14 : G14 1 = pc_B v 1 bk0 := (hf14 1 (by decide) (by decide)).trans h1_13
  have h2_14 : G14 2 = pc_S v 2 1 slZ := (hf14 2 (by decide) (by decide)).trans h2_13
  have h3_14 : G14 3 = pc_B v 3 bk0 := (hf14 3 (by decide) (by decide)).trans h3_13
  have h4_14 : G14 4 = pc_S v 4 3 slZ := (hf14 4 (by decide) (by decide)).trans h4_13
  have h18_14 : G14 18 = [] := (hf14 18 (by decide) (by decide)).trans h18_13
  have h19_14 : G14 19 = [] := (hf14 19 (by decide) (by decide)).trans h19_13
  have h20_14 : G14 20 = [] := (hf14 20 (by decide) (by decide)).trans h20_13
  have hF14 : ∀ q, 21 ≤ q → G14 q = G q := fun q h9 => (hf14 q (by omega) (by omega)).trans (hF13 q h9)
  refine xj_putf2 (g := 0) (i := 0) hk dX7_init_64 fl_X7_34 rfl rfl fg_X7_34 rfl rfl h0_14 rfl (Nat.le_of_ble_eq_true rfl) ?_
  intro G15 hn15 hf15
  have h0_15 : G15 0 = [xw_eo 7 [.ref (xw_ad v 1 0), .ref (xw_ad v 2 0), .ref (xw_ad v 3 0), .ref (xw_ad v 4 0), .ref (xw_ad v 5 0), .null, .null, .null]] := hn15
  have h1_15 : G15 1 = pc_B v 1 bk0 := (hf15 1 (by decide)).trans h1_14
  have h2_15 : G15 2 = pc_S v 2 1 slZ := (hf15 2 (by decide)).trans h2_14
  have h3_15 : G15 3 = pc_B v 3 bk0 := (hf15 3 (by decide)).trans h3_14
  have h4_15 : G15 4 = pc_S v 4 3 slZ := (hf15 4 (by decide)).trans h4_14
  have h5_15 : G15 5 = pP v 0 0 := (hf15 5 (by decide)).trans hn14
  have h18_15 : G15 18 = [] := (hf15 18 (by decide)).trans h18_14
  have h19_15 : G15 19 = [] := (hf15 19 (by decide)).trans h19_14
  have h20_15 : G15 20 = [] := (hf15 20 (by decide)).trans h20_14
  have hK_15 : ∀ j, j < 12 → G15 (6 + j) = pc_B v (6 + j) bk0 := fun j hj => (hf15 (6 + j) (by omega)).trans (hk14 j hj)
  have hF15 : ∀ q, 21 ≤ q → G15 q = G q := fun q h9 => (hf15 q (by omega)).trans (hF14 q h9)
  refine xj_aload_n (i := 0) hk dX7_init_67 rfl rfl ?_
  refine xj_new2 (ci := 6) (g := 18) (i := 0) hk dX7_init_68 rfl cl_X7_38 mn_X6 tyX6 tyX6_ok df_X6 (by decide) h18_15 rfl rfl (xk_fit hz (Nat.le_of_ble_eq_true rfl) (Nat.le_of_ble_eq_true rfl)) ?_
  intro G16 hn16 hf16
  have h18_16 : G16 18 = [xw_eo 6 [.null, .int 0]] := hn16
  have h0_16 : G16 0 = [xw_eo 7 [.ref (xw_ad v 1 0), .ref (xw_ad v 2 0), .ref (xw_ad v 3 0), .ref (xw_ad v 4 0), .ref (xw_ad v 5 0), .null, .null, .null]] := (hf16 0 (by decide)).trans h0_15
  have h1_16 : G16 1 = pc_B v 1 bk0 := (hf16 1 (by decide)).trans h1_15
  have h2_16 : G16 2 = pc_S v 2 1 slZ := (hf16 2 (by decide)).trans h2_15
  have h3_16 : G16 3 = pc_B v 3 bk0 := (hf16 3 (by decide)).trans h3_15
  have h4_16 : G16 4 = pc_S v 4 3 slZ := (hf16 4 (by decide)).trans h4_15
  have h5_16 : G16 5 = pP v 0 0 := (hf16 5 (by decide)).trans h5_15
  have h19_16 : G16 19 = [] := (hf16 19 (by decide)).trans h19_15
  have h20_16 : G16 20 = [] := (hf16 20 (by decide)).trans h20_15
  have hK_16 : ∀ j, j < 12 → G16 (6 + j) = pc_B v (6 + j) bk0 := fun j hj => (hf16 (6 + j) (by omega)).trans (hK_15 j hj)
  have hF16 : ∀ q, 21 ≤ q → G16 q = G q := fun q h9 => (hf16 q (by omega)).trans (hF15 q h9)
  refine xj_dup hk dX7_init_71 rfl ?_
  refine xj_callIZ (fr1 := 1) (lo1 := 20) (As := []) (st := [.ref (xw_ad v 18 0), .ref (xw_ad v 0 0)]) (mc := 1) (ms := 700) hk ml_X7_40 (i_X6 h18_16) (xk_fit hz (Nat.le_of_ble_eq_true rfl) (Nat.le_of_ble_eq_true rfl)) rfl dX7_init_72 ⟨Nat.le_of_ble_eq_true rfl, Nat.le_of_ble_eq_true rfl⟩ (Nat.le_of_ble_eq_true rfl) rfl ?_
  rintro _ G17 ⟨rfl, hn17, hf17⟩
  have h18_17 : G17 18 = pc_T v (fun _ => 0, 0) := hn17
  have h0_17 : G17 0 = [xw_eo 7 [.ref (xw_ad v 1 0), .ref (xw_ad v 2 0), .ref (xw_ad v 3 0), .ref (xw_ad v 4 0), .ref (xw_ad v 5 0), .null, .null, .null]] := (hf17 0 (by decide)).trans h0_16
  have h1_17 : G17 1 = pc_B v 1 bk0 := (hf17 1 (by decide)).trans h1_16
  have h2_17 : G17 2 = pc_S v 2 1 slZ := (hf17 2 (by decide)).trans h2_16
  have h3_17 : G17 3 = pc_B v 3 bk0 := (hf17 3 (by decide)).trans h3_16
  have h4_17 : G17 4 = pc_S v 4 3 slZ := (hf17 4 (by decide)).trans h4_16
  have h5_17 : G17 5 = pP v 0 0 := (hf17 5 (by decide)).trans h5_16
  have h19_17 : G17 19 = [] := (hf17 19 (by decide)).trans h19_16
  have h20_17 : G17 20 = [] := (hf17 20 (by decide)).trans h20_16
  have hK_17 : ∀ j, j < 12 → G17 (6 + j) = pc_B v (6 + j) bk0 := fun j hj => (hf17 (6 + j) (by omega)).trans (hK_16 j hj)
  have hF17 : ∀ q, 21 ≤ q → G17 q = G q := fun q h9 => (hf17 q (by omega)).trans (hF16 q h9)
  refine xj_putf2 (g := 0) (i := 0) hk dX7_init_75 fl_X7_41 rfl rfl fg_X7_41 rfl rfl h0_17 rfl (Nat.le_of_ble_eq_true rfl) ?_
  intro G18 hn18 hf18
  have h0_18 : G18 0 = [xw_eo 7 [.ref (xw_ad v 1 0), .ref (xw_ad v 2 0), .ref (xw_ad v 3 0), .ref (xw_ad v 4 0), .ref (xw_ad v 5 0), .ref (xw_ad v 18 0), .null, .null]] := hn18
  have h1_18 : G18 1 = pc_B v 1 bk0 := (hf18 1 (by decide)).trans h1_17
  have h2_18 : G18 2 = pc_S v 2 1 slZ := (hf18 2 (by decide)).trans h2_17
  have h3_18 : G18 3 = pc_B v 3 bk0 := (hf18 3 (by decide)).trans h3_17
  have h4_18 : G18 4 = pc_S v 4 3 slZ := (hf18 4 (by decide)).trans h4_17
  have h5_18 : G18 5 = pP v 0 0 := (hf18 5 (by decide)).trans h5_17
  have h18_18 : G18 18 = pc_T v (fun _ => 0, 0) := (hf18 18 (by decide)).trans h18_17
  have h19_18 : G18 19 = [] := (hf18 19 (by decide)).trans h19_17
  have h20_18 : G18 20 = [] := (hf18 20 (by decide)).trans h20_17
  have hK_18 : ∀ j, j < 12 → G18 (6 + j) = pc_B v (6 + j) bk0 := fun j hj => (hf18 (6 + j) (by omega)).trans (hK_17 j hj)
  have hF18 : ∀ q, 21 ≤ q → G18 q = G q := fun q h9 => (hf18 q (by omega)).trans (hF17 q h9)
  refine xj_aload_n (i := 0) hk dX7_init_78 rfl rfl ?_
  refine xj_new2 (ci := 3) (g := 19) (i := 0) hk dX7_init_79 rfl cl_X7_45 mn_X3 tyX3 tyX3_ok df_X3 (by decide) h19_18 rfl rfl (xk_fit hz (Nat.le_of_ble_eq_true rfl) (Nat.le_of_ble_eq_true rfl)) ?_
  intro G19 hn19 hf19
  have h19_19 : G19 19 = [xw_eo 3 [.null, .null, .int 0, .int 0, .int 0]] := hn19
  have h0_19 : G19 0 = [xw_eo 7 [.ref (xw_ad v 1 0), .ref (xw_ad v 2 0), .ref (xw_ad v 3 0), .ref (xw_ad v 4 0), .ref (xw_ad v 5 0), .ref (xw_ad v 18 0), .null, .null]] := (hf19 0 (by decide)).trans h0_18
  have h1_19 : G19 1 = pc_B v 1 bk0 := (hf19 1 (by decide)).trans h1_18
  have h2_19 : G19 2 = pc_S v 2 1 slZ := (hf19 2 (by decide)).trans h2_18
  have h3_19 : G19 3 = pc_B v 3 bk0 := (hf19 3 (by decide)).trans h3_18
  have h4_19 : G19 4 = pc_S v 4 3 slZ := (hf19 4 (by decide)).trans h4_18
  have h5_19 : G19 5 = pP v 0 0 := (hf19 5 (by decide)).trans h5_18
  have h18_19 : G19 18 = pc_T v (fun _ => 0, 0) := (hf19 18 (by decide)).trans h18_18
  have h20_19 : G19 20 = [] := (hf19 20 (by decide)).trans h20_18
  have hK_19 : ∀ j, j < 12 → G19 (6 + j) = pc_B v (6 + j) bk0 := fun j hj => (hf19 (6 + j) (by omega)).trans (hK_18 j hj)
  have hF19 : ∀ q, 21 ≤ q → G19 q = G q := fun q h9 => (hf19 q (by omega)).trans (hF18 q h9)
  refine xj_dup hk dX7_init_82 rfl ?_
  refine xj_aload_n (i := 0) hk dX7_init_83 rfl rfl ?_
  refine xj_getfield hk dX7_init_84 fl_X7_41 (xw_at h0_19 rfl) rfl ?_
  refine xj_aload_n (i := 0) hk dX7_init_87 rfl rfl ?_
  refine xj_getfield hk dX7_init_88 fl_X7_25 (xw_at h0_19 rfl) rfl ?_
  refine xj_callIZ (fr1 := 1) (lo1 := 20) (As := [.ref (xw_ad v 18 0), .ref (xw_ad v 3 0)]) (st := [.ref (xw_ad v 19 0), .ref (xw_ad v 0 0)]) (mc := 0) (ms := 0) hk ml_X7_47 (i_X3 h19_19) (xk_fit hz (Nat.le_of_ble_eq_true rfl) (Nat.le_of_ble_eq_true rfl)) rfl dX7_init_91 ⟨Nat.le_of_ble_eq_true rfl, Nat.le_of_ble_eq_true rfl⟩ (Nat.le_of_ble_eq_true rfl) rfl ?_
  rintro _ G20 ⟨rfl, hn20, hf20⟩
  have h19_20 : G20 19 = pc_R v (0, 0, 0) := hn20
  have h0_20 : G20 0 = [xw_eo 7 [.ref (xw_ad v 1 0), .ref (xw_ad v 2 0), .ref (xw_ad v 3 0), .ref (xw_ad v 4 0), .ref (xw_ad v 5 0), .ref (xw_ad v 18 0), .null, .null]] := (hf20 0 (by decide)).trans h0_19
  have h1_20 : G20 1 = pc_B v 1 bk0 := (hf20 1 (by decide)).trans h1_19
  have h2_20 : G20 2 = pc_S v 2 1 slZ := (hf20 2 (by decide)).trans h2_19
  have h3_20 : G20 3 = pc_B v 3 bk0 := (hf20 3 (by decide)).trans h3_19
  have h4_20 : G20 4 = pc_S v 4 3 slZ := (hf20 4 (by decide)).trans h4_19
  have h5_20 : G20 5 = pP v 0 0 := (hf20 5 (by decide)).trans h5_19
  have h18_20 : G20 18 = pc_T v (fun _ => 0, 0) := (hf20 18 (by decide)).trans h18_19
  have h20_20 : G20 20 = [] := (hf20 20 (by decide)).trans h20_19
  have hK_20 : ∀ j, j < 12 → G20 (6 + j) = pc_B v (6 + j) bk0 := fun j hj => (hf20 (6 + j) (by omega)).trans (hK_19 j hj)
  have hF20 : ∀ q, 21 ≤ q → G20 q = G q := fun q h9 => (hf20 q (by omega)).trans (hF19 q h9)
  refine xj_putf2 (g := 0) (i := 0) hk dX7_init_94 fl_X7_50 rfl rfl fg_X7_50 rfl rfl h0_20 rfl (Nat.le_of_ble_eq_true rfl) ?_
  intro G21 hn21 hf21
  have h0_21 : G21 0 = [xw_eo 7 [.ref (xw_ad v 1 0), .ref (xw_ad v 2 0), .ref (xw_ad v 3 0), .ref (xw_ad v 4 0), .ref (xw_ad v 5 0), .ref (xw_ad v 18 0), .ref (xw_ad v 19 0), .null]] := hn21
  have h1_21 : G21 1 = pc_B v 1 bk0 := (hf21 1 (by decide)).trans h1_20
  have h2_21 : G21 2 = pc_S v 2 1 slZ := (hf21 2 (by decide)).trans h2_20
  have h3_21 : G21 3 = pc_B v 3 bk0 := (hf21 3 (by decide)).trans h3_20
  have h4_21 : G21 4 = pc_S v 4 3 slZ := (hf21 4 (by decide)).trans h4_20
  have h5_21 : G21 5 = pP v 0 0 := (hf21 5 (by decide)).trans h5_20
  have h18_21 : G21 18 = pc_T v (fun _ => 0, 0) := (hf21 18 (by decide)).trans h18_20
  have h19_21 : G21 19 = pc_R v (0, 0, 0) := (hf21 19 (by decide)).trans h19_20
  have h20_21 : G21 20 = [] := (hf21 20 (by decide)).trans h20_20
  have hK_21 : ∀ j, j < 12 → G21 (6 + j) = pc_B v (6 + j) bk0 := fun j hj => (hf21 (6 + j) (by omega)).trans (hK_20 j hj)
  have hF21 : ∀ q, 21 ≤ q → G21 q = G q := fun q h9 => (hf21 q (by omega)).trans (hF20 q h9)
  refine xj_aload_n (i := 0) hk dX7_init_97 rfl rfl ?_
  refine xj_new2 (ci := 5) (g := 20) (i := 0) hk dX7_init_98 rfl cl_X7_54 mn_X5 tyX5 tyX5_ok df_X5 (by decide) h20_21 rfl rfl (xk_fit hz (Nat.le_of_ble_eq_true rfl) (Nat.le_of_ble_eq_true rfl)) ?_
  intro G22 hn22 hf22
  have h20_22 : G22 20 = [xw_eo 5 [.int 0, .int 0, .int 0]] := hn22
  have h0_22 : G22 0 = [xw_eo 7 [.ref (xw_ad v 1 0), .ref (xw_ad v 2 0), .ref (xw_ad v 3 0), .ref (xw_ad v 4 0), .ref (xw_ad v 5 0), .ref (xw_ad v 18 0), .ref (xw_ad v 19 0), .null]] := (hf22 0 (by decide)).trans h0_21
  have h1_22 : G22 1 = pc_B v 1 bk0 := (hf22 1 (by decide)).trans h1_21
  have h2_22 : G22 2 = pc_S v 2 1 slZ := (hf22 2 (by decide)).trans h2_21
  have h3_22 : G22 3 = pc_B v 3 bk0 := (hf22 3 (by decide)).trans h3_21
  have h4_22 : G22 4 = pc_S v 4 3 slZ := (hf22 4 (by decide)).trans h4_21
  have h5_22 : G22 5 = pP v 0 0 := (hf22 5 (by decide)).trans h5_21
  have h18_22 : G22 18 = pc_T v (fun _ => 0, 0) := (hf22 18 (by decide)).trans h18_21
  have h19_22 : G22 19 = pc_R v (0, 0, 0) := (hf22 19 (by decide)).trans h19_21
  have hK_22 : ∀ j, j < 12 → G22 (6 + j) = pc_B v (6 + j) bk0 := fun j hj => (hf22 (6 + j) (by omega)).trans (hK_21 j hj)
  have hF22 : ∀ q, 21 ≤ q → G22 q = G q := fun q h9 => (hf22 q (by omega)).trans (hF21 q h9)
  refine xj_dup hk dX7_init_101 rfl ?_
  refine xj_callIZ (fr1 := 1) (lo1 := 20) (As := []) (st := [.ref (xw_ad v 20 0), .ref (xw_ad v 0 0)]) (mc := 0) (ms := 0) hk ml_X7_56 (i_X5 h20_22) (xk_fit hz (Nat.le_of_ble_eq_true rfl) (Nat.le_of_ble_eq_true rfl)) rfl dX7_init_102 ⟨Nat.le_of_ble_eq_true rfl, Nat.le_of_ble_eq_true rfl⟩ (Nat.le_of_ble_eq_true rfl) rfl ?_
  rintro _ G23 ⟨rfl, hn23, hf23⟩
  have h20_23 : G23 20 = pc_W (0, 0, 0) := hn23
  have h0_23 : G23 0 = [xw_eo 7 [.ref (xw_ad v 1 0), .ref (xw_ad v 2 0), .ref (xw_ad v 3 0), .ref (xw_ad v 4 0), .ref (xw_ad v 5 0), .ref (xw_ad v 18 0), .ref (xw_ad v 19 0), .null]] := (hf23 0 (by decide)).trans h0_22
  have h1_23 : G23 1 = pc_B v 1 bk0 := (hf23 1 (by decide)).trans h1_22
  have h2_23 : G23 2 = pc_S v 2 1 slZ := (hf23 2 (by decide)).trans h2_22
  have h3_23 : G23 3 = pc_B v 3 bk0 := (hf23 3 (by decide)).trans h3_22
  have h4_23 : G23 4 = pc_S v 4 3 slZ := (hf23 4 (by decide)).trans h4_22
  have h5_23 : G23 5 = pP v 0 0 := (hf23 5 (by decide)).trans h5_22
  have h18_23 : G23 18 = pc_T v (fun _ => 0, 0) := (hf23 18 (by decide)).trans h18_22
  have h19_23 : G23 19 = pc_R v (0, 0, 0) := (hf23 19 (by decide)).trans h19_22
  have hK_23 : ∀ j, j < 12 → G23 (6 + j) = pc_B v (6 + j) bk0 := fun j hj => (hf23 (6 + j) (by omega)).trans (hK_22 j hj)
  have hF23 : ∀ q, 21 ≤ q → G23 q = G q := fun q h9 => (hf23 q (by omega)).trans (hF22 q h9)
  refine xj_putf2 (g := 0) (i := 0) hk dX7_init_105 fl_X7_57 rfl rfl fg_X7_57 rfl rfl h0_23 rfl (Nat.le_of_ble_eq_true rfl) ?_
  intro G24 hn24 hf24
  have h0_24 : G24 0 = [xw_eo 7 [.ref (xw_ad v 1 0), .ref (xw_ad v 2 0), .ref (xw_ad v 3 0), .ref (xw_ad v 4 0), .ref (xw_ad v 5 0), .ref (xw_ad v 18 0), .ref (xw_ad v 19 0), .ref (xw_ad v 20 0)]] := hn24
  have h1_24 : G24 1 = pc_B v 1 bk0 := (hf24 1 (by decide)).trans h1_23
  have h2_24 : G24 2 = pc_S v 2 1 slZ := (hf24 2 (by decide)).trans h2_23
  have h3_24 : G24 3 = pc_B v 3 bk0 := (hf24 3 (by decide)).trans h3_23
  have h4_24 : G24 4 = pc_S v 4 3 slZ := (hf24 4 (by decide)).trans h4_23
  have h5_24 : G24 5 = pP v 0 0 := (hf24 5 (by decide)).trans h5_23
  have h18_24 : G24 18 = pc_T v (fun _ => 0, 0) := (hf24 18 (by decide)).trans h18_23
  have h19_24 : G24 19 = pc_R v (0, 0, 0) := (hf24 19 (by decide)).trans h19_23
  have h20_24 : G24 20 = pc_W (0, 0, 0) := (hf24 20 (by decide)).trans h20_23
  have hK_24 : ∀ j, j < 12 → G24 (6 + j) = pc_B v (6 + j) bk0 := fun j hj => (hf24 (6 + j) (by omega)).trans (hK_23 j hj)
  have hF24 : ∀ q, 21 ≤ q → G24 q = G q := fun q h9 => (hf24 q (by omega)).trans (hF23 q h9)
  refine xj_return hk hz dX7_init_108 ?_
  exact ⟨rfl, h0_24, h1_24, h2_24, h3_24, h4_24, h5_24, hK_24, h18_24, h19_24, h20_24, hF24⟩

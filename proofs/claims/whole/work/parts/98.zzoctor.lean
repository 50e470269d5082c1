set_option maxHeartbeats 1000000 in
set_option maxRecDepth 10000 in
theorem i_X1 {v : xw_V} {G : xw_G} {g : Nat} {c0 c1 c2 c3 c4 c5 c6 : va_E} (hg : g < 22) (hp : G g = [c0, c1, c2, c3, c4, c5, c6, xw_eo 1 [.null, .null, .null, .null, .int 0]]) : xk_ConZ v yX1_init cX1_init 1 none 1 20 [.ref (xw_ad v g 7)] (xw_off g + 8) 4 32 G (fun r G9 => r = none ∧ G9 g = [c0, c1, c2, c3, c4, c5, c6, xw_eo 1 [.ref (xw_ad v g 8), .ref (xw_ad v g 9), .ref (xw_ad v g 10), .ref (xw_ad v g 11), .int 0], xw_ei v 8 (fun _ => 0), xw_ei v 8 (fun _ => 0), xw_ei v 8 (fun _ => 0), xw_el v 8 (fun _ => 0)] ∧ ∀ q, q ≠ g → G9 q = G q) := by
  refine xk_ofZ (ls0 := [some (.ref (xw_ad v g 7))]) (by decide) rfl (Nat.le_of_ble_eq_true rfl) ?_
  intro κ hk hz
  refine xj_aload_n (i := 0) hk dX1_init_0 rfl rfl ?_
  refine xj_objinit hk dX1_init_1 oi_X1_3 oi_2.1 oi_2.2 (Nat.le_of_ble_eq_true rfl) (Nat.le_of_ble_eq_true rfl) ?_
  refine xj_aload_n (i := 0) hk dX1_init_4 rfl rfl ?_
  refine xj_bipush (x := 8) hk dX1_init_5 (by decide) ?_
  refine xj_newi2 (g := g) (i := 8) (N := 8) hk dX1_init_7 (by rfl) (Nat.le_of_ble_eq_true rfl) hg hp rfl rfl (xk_fit hz (Nat.le_of_ble_eq_true rfl) (Nat.le_of_ble_eq_true rfl)) ?_
  intro G1 hn1 hf1
  have hg_1 : G1 g = [c0, c1, c2, c3, c4, c5, c6, xw_eo 1 [.null, .null, .null, .null, .int 0], xw_ei v 8 (fun _ => 0)] := hn1
  have hF1 : ∀ q, q ≠ g → G1 q = G q := fun q a0 => (hf1 q a0)
  refine xj_putf2 (g := g) (i := 7) hk dX1_init_9 fl_X1_9 rfl rfl fg_X1_9 rfl rfl hg_1 rfl (Nat.le_of_ble_eq_true rfl) ?_
  intro G2 hn2 hf2
  have hg_2 : G2 g = [c0, c1, c2, c3, c4, c5, c6, xw_eo 1 [.ref (xw_ad v g 8), .null, .null, .null, .int 0], xw_ei v 8 (fun _ => 0)] := hn2
  have hF2 : ∀ q, q ≠ g → G2 q = G q := fun q a0 => (hf2 q a0).trans (hF1 q a0)
  refine xj_aload_n (i := 0) hk dX1_init_12 rfl rfl ?_
  refine xj_bipush (x := 8) hk dX1_init_13 (by decide) ?_
  refine xj_newi2 (g := g) (i := 9) (N := 8) hk dX1_init_15 (by rfl) (Nat.le_of_ble_eq_true rfl) hg hg_2 rfl rfl (xk_fit hz (Nat.le_of_ble_eq_true rfl) (Nat.le_of_ble_eq_true rfl)) ?_
  intro G3 hn3 hf3
  have hg_3 : G3 g = [c0, c1, c2, c3, c4, c5, c6, xw_eo 1 [.ref (xw_ad v g 8), .null, .null, .null, .int 0], xw_ei v 8 (fun _ => 0), xw_ei v 8 (fun _ => 0)] := hn3
  have hF3 : ∀ q, q ≠ g → G3 q = G q := fun q a0 => (hf3 q a0).trans (hF2 q a0)
  refine xj_putf2 (g := g) (i := 7) hk dX1_init_17 fl_X1_15 rfl rfl fg_X1_15 rfl rfl hg_3 rfl (Nat.le_of_ble_eq_true rfl) ?_
  intro G4 hn4 hf4
  have hg_4 : G4 g = [c0, c1, c2, c3, c4, c5, c6, xw_eo 1 [.ref (xw_ad v g 8), .ref (xw_ad v g 9), .null, .null, .int 0], xw_ei v 8 (fun _ => 0), xw_ei v 8 (fun _ => 0)] := hn4
  have hF4 : ∀ q, q ≠ g → G4 q = G q := fun q a0 => (hf4 q a0).trans (hF3 q a0)
  refine xj_aload_n (i := 0) hk dX1_init_20 rfl rfl ?_
  refine xj_bipush (x := 8) hk dX1_init_21 (by decide) ?_
  refine xj_newi2 (g := g) (i := 10) (N := 8) hk dX1_init_23 (by rfl) (Nat.le_of_ble_eq_true rfl) hg hg_4 rfl rfl (xk_fit hz (Nat.le_of_ble_eq_true rfl) (Nat.le_of_ble_eq_true rfl)) ?_
  intro G5 hn5 hf5
  have hg_5 : G5 g = [c0, c1, c2, c3, c4, c5, c6, xw_eo 1 [.ref (xw_ad v g 8), .ref (xw_ad v g 9), .null, .null, .int 0], xw_ei v 8 (fun _ => 0), xw_ei v 8 (fun _ => 0), xw_ei v 8 (fun _ => 0)] := hn5
  have hF5 : ∀ q, q ≠ g → G5 q = G q := fun q a0 => (hf5 q a0).trans (hF4 q a0)
  refine xj_putf2 (g := g) (i := 7) hk dX1_init_25 fl_X1_18 rfl rfl fg_X1_18 rfl rfl hg_5 rfl (Nat.le_of_ble_eq_true rfl) ?_
  intro G6 hn6 hf6
  have hg_6 : G6 g = [c0, c1, c2, c3, c4, c5, c6, xw_eo 1 [.ref (xw_ad v g 8), .ref (xw_ad v g 9), .ref (xw_ad v g 10), .null, .int 0], xw_ei v 8 (fun _ => 0), xw_ei v 8 (fun _ => 0), xw_ei v 8 (fun _ => 0)] := hn6
  have hF6 : ∀ q, q ≠ g → G6 q = G q := fun q a0 => (hf6 q a0).trans (hF5 q a0)
  refine xj_aload_n (i := 0) hk dX1_init_28 rfl rfl ?_
  refine xj_bipush (x := 8) hk dX1_init_29 (by decide) ?_
  refine xj_newl2 (g := g) (i := 11) (N := 8) hk dX1_init_31 (by rfl) (Nat.le_of_ble_eq_true rfl) hg hg_6 rfl rfl (xk_fit hz (Nat.le_of_ble_eq_true rfl) (Nat.le_of_ble_eq_true rfl)) ?_
  intro G7 hn7 hf7
  have hg_7 : G7 g = [c0, c1, c2, c3, c4, c5, c6, xw_eo 1 [.ref (xw_ad v g 8), .ref (xw_ad v g 9), .ref (xw_ad v g 10), .null, .int 0], xw_ei v 8 (fun _ => 0), xw_ei v 8 (fun _ => 0), xw_ei v 8 (fun _ => 0), xw_el v 8 (fun _ => 0)] := hn7
  have hF7 : ∀ q, q ≠ g → G7 q = G q := fun q a0 => (hf7 q a0).trans (hF6 q a0)
  refine xj_putf2 (g := g) (i := 7) hk dX1_init_33 fl_X1_21 rfl rfl fg_X1_21 rfl rfl hg_7 rfl (Nat.le_of_ble_eq_true rfl) ?_
  intro G8 hn8 hf8
  have hg_8 : G8 g = [c0, c1, c2, c3, c4, c5, c6, xw_eo 1 [.ref (xw_ad v g 8), .ref (xw_ad v g 9), .ref (xw_ad v g 10), .ref (xw_ad v g 11), .int 0], xw_ei v 8 (fun _ => 0), xw_ei v 8 (fun _ => 0), xw_ei v 8 (fun _ => 0), xw_el v 8 (fun _ => 0)] := hn8
  have hF8 : ∀ q, q ≠ g → G8 q = G q := fun q a0 => (hf8 q a0).trans (hF7 q a0)
  refine xj_aload_n (i := 0) hk dX1_init_36 rfl rfl ?_
  refine xj_iconst (x := 0) hk dX1_init_37 (by decide) ?_
  refine xj_putn2 (g := g) (i := 7) hk dX1_init_38 fl_X1_25 rfl rfl hg_8 rfl (Nat.le_of_ble_eq_true rfl) ?_
  intro G9 hn9 hf9
  have hg_9 : G9 g = [c0, c1, c2, c3, c4, c5, c6, xw_eo 1 [.ref (xw_ad v g 8), .ref (xw_ad v g 9), .ref (xw_ad v g 10), .ref (xw_ad v g 11), .int 0], xw_ei v 8 (fun _ => 0), xw_ei v 8 (fun _ => 0), xw_ei v 8 (fun _ => 0), xw_el v 8 (fun _ => 0)] := hn9
  have hF9 : ∀ q, q ≠ g → G9 q = G q := fun q a0 => (hf9 q a0).trans (hF8 q a0)
  refine xj_return hk hz dX1_init_41 ?_
  exact ⟨rfl, hg_9, hF9⟩
def bkZ : bk_T := (fun _ => 0, fun _ => 0, fun _ => 0, fun _ => 0, fun _ => 0, fun _ => 0, 0, fun _ => 0, fun _ => 0, fun _ => 0, fun _ => 0, 0)
def bk0 : bk_T := bkBeg bkZ
set_option maxHeartbeats 1000000 in
set_option maxRecDepth 10000 in
theorem i_X0 {v : xw_V} {G : xw_G} {g : Nat} (hg : g < 22) (hp : G g = [xw_eo 0 [.null, .null, .null, .null, .null, .null, .null, .int 0]]) : xk_ConZ v yX0_init cX0_init 1 none 2 40 [.ref (xw_ad v g 0)] (xw_off g + 1) 11 150 G (fun r G9 => r = none ∧ G9 g = pc_B v g bk0 ∧ ∀ q, q ≠ g → G9 q = G q) := by
  refine xk_ofZ (ls0 := [some (.ref (xw_ad v g 0))]) (by decide) rfl (Nat.le_of_ble_eq_true rfl) ?_
  intro κ hk hz
  refine xj_aload_n (i := 0) hk dX0_init_0 rfl rfl ?_
  refine xj_objinit hk dX0_init_1 oi_X0_3 oi_2.1 oi_2.2 (Nat.le_of_ble_eq_true rfl) (Nat.le_of_ble_eq_true rfl) ?_
  refine xj_aload_n (i := 0) hk dX0_init_4 rfl rfl ?_
  refine xj_bipush (x := 7) hk dX0_init_5 (by decide) ?_
  refine xj_newi2 (g := g) (i := 1) (N := 7) hk dX0_init_7 (by rfl) (Nat.le_of_ble_eq_true rfl) hg hp rfl rfl (xk_fit hz (Nat.le_of_ble_eq_true rfl) (Nat.le_of_ble_eq_true rfl)) ?_
  intro G1 hn1 hf1
  have hg_1 : G1 g = [xw_eo 0 [.null, .null, .null, .null, .null, .null, .null, .int 0], xw_ei v 7 (fun _ => 0)] := hn1
  have hF1 : ∀ q, q ≠ g → G1 q = G q := fun q a0 => (hf1 q a0)
  refine xj_putf2 (g := g) (i := 0) hk dX0_init_9 fl_X0_9 rfl rfl fg_X0_9 rfl rfl hg_1 rfl (Nat.le_of_ble_eq_true rfl) ?_
  intro G2 hn2 hf2
  have hg_2 : G2 g = [xw_eo 0 [.ref (xw_ad v g 1), .null, .null, .null, .null, .null, .null, .int 0], xw_ei v 7 (fun _ => 0)] := hn2
  have hF2 : ∀ q, q ≠ g → G2 q = G q := fun q a0 => (hf2 q a0).trans (hF1 q a0)
  refine xj_aload_n (i := 0) hk dX0_init_12 rfl rfl ?_
  refine xj_bipush (x := 8) hk dX0_init_13 (by decide) ?_
  refine xj_newi2 (g := g) (i := 2) (N := 8) hk dX0_init_15 (by rfl) (Nat.le_of_ble_eq_true rfl) hg hg_2 rfl rfl (xk_fit hz (Nat.le_of_ble_eq_true rfl) (Nat.le_of_ble_eq_true rfl)) ?_
  intro G3 hn3 hf3
  have hg_3 : G3 g = [xw_eo 0 [.ref (xw_ad v g 1), .null, .null, .null, .null, .null, .null, .int 0], xw_ei v 7 (fun _ => 0), xw_ei v 8 (fun _ => 0)] := hn3
  have hF3 : ∀ q, q ≠ g → G3 q = G q := fun q a0 => (hf3 q a0).trans (hF2 q a0)
  refine xj_putf2 (g := g) (i := 0) hk dX0_init_17 fl_X0_15 rfl rfl fg_X0_15 rfl rfl hg_3 rfl (Nat.le_of_ble_eq_true rfl) ?_
  intro G4 hn4 hf4
  have hg_4 : G4 g = [xw_eo 0 [.ref (xw_ad v g 1), .ref (xw_ad v g 2), .null, .null, .null, .null, .null, .int 0], xw_ei v 7 (fun _ => 0), xw_ei v 8 (fun _ => 0)] := hn4
  have hF4 : ∀ q, q ≠ g → G4 q = G q := fun q a0 => (hf4 q a0).trans (hF3 q a0)
  refine xj_aload_n (i := 0) hk dX0_init_20 rfl rfl ?_
  refine xj_bipush (x := 8) hk dX0_init_21 (by decide) ?_
  refine xj_newi2 (g := g) (i := 3) (N := 8) hk dX0_init_23 (by rfl) (Nat.le_of_ble_eq_true rfl) hg hg_4 rfl rfl (xk_fit hz (Nat.le_of_ble_eq_true rfl) (Nat.le_of_ble_eq_true rfl)) ?_
  intro G5 hn5 hf5
  have hg_5 : G5 g = [xw_eo 0 [.ref (xw_ad v g 1), .ref (xw_ad v g 2), .null, .null, .null, .null, .null, .int 0], xw_ei v 7 (fun _ => 0), xw_ei v 8 (fun _ => 0), xw_ei v 8 (fun _ => 0)] := hn5
  have hF5 : ∀ q, q ≠ g → G5 q = G q := fun q a0 => (hf5 q a0).trans (hF4 q a0)
  refine xj_putf2 (g := g) (i := 0) hk dX0_init_25 fl_X0_18 rfl rfl fg_X0_18 rfl rfl hg_5 rfl (Nat.le_of_ble_eq_true rfl) ?_
  intro G6 hn6 hf6
  have hg_6 : G6 g = [xw_eo 0 [.ref (xw_ad v g 1), .ref (xw_ad v g 2), .ref (xw_ad v g 3), .null, .null, .null, .null, .int 0], xw_ei v 7 (fun _ => 0), xw_ei v 8 (fun _ => 0), xw_ei v 8 (fun _ => 0)] := hn6
  have hF6 : ∀ q, q ≠ g → G6 q = G q := fun q a0 => (hf6 q a0).trans (hF5 q a0)
  refine xj_aload_n (i := 0) hk dX0_init_28 rfl rfl ?_
  refine xj_bipush (x := 30) hk dX0_init_29 (by decide) ?_
  refine xj_newi2 (g := g) (i := 4) (N := 30) hk dX0_init_31 (by rfl) (Nat.le_of_ble_eq_true rfl) hg hg_6 rfl rfl (xk_fit hz (Nat.le_of_ble_eq_true rfl) (Nat.le_of_ble_eq_true rfl)) ?_
  intro G7 hn7 hf7
  have hg_7 : G7 g = [xw_eo 0 [.ref (xw_ad v g 1), .ref (xw_ad v g 2), .ref (xw_ad v g 3), .null, .null, .null, .null, .int 0], xw_ei v 7 (fun _ => 0), xw_ei v 8 (fun _ => 0), xw_ei v 8 (fun _ => 0), xw_ei v 30 (fun _ => 0)] := hn7
  have hF7 : ∀ q, q ≠ g → G7 q = G q := fun q a0 => (hf7 q a0).trans (hF6 q a0)
  refine xj_putf2 (g := g) (i := 0) hk dX0_init_33 fl_X0_21 rfl rfl fg_X0_21 rfl rfl hg_7 rfl (Nat.le_of_ble_eq_true rfl) ?_
  intro G8 hn8 hf8
  have hg_8 : G8 g = [xw_eo 0 [.ref (xw_ad v g 1), .ref (xw_ad v g 2), .ref (xw_ad v g 3), .ref (xw_ad v g 4), .null, .null, .null, .int 0], xw_ei v 7 (fun _ => 0), xw_ei v 8 (fun _ => 0), xw_ei v 8 (fun _ => 0), xw_ei v 30 (fun _ => 0)] := hn8
  have hF8 : ∀ q, q ≠ g → G8 q = G q := fun q a0 => (hf8 q a0).trans (hF7 q a0)
  refine xj_aload_n (i := 0) hk dX0_init_36 rfl rfl ?_
  refine xj_bipush (x := 30) hk dX0_init_37 (by decide) ?_
  refine xj_newi2 (g := g) (i := 5) (N := 30) hk dX0_init_39 (by rfl) (Nat.le_of_ble_eq_true rfl) hg hg_8 rfl rfl (xk_fit hz (Nat.le_of_ble_eq_true rfl) (Nat.le_of_ble_eq_true rfl)) ?_
  intro G9 hn9 hf9
  have hg_9 : G9 g = [xw_eo 0 [.ref (xw_ad v g 1), .ref (xw_ad v g 2), .ref (xw_ad v g 3), .ref (xw_ad v g 4), .null, .null, .null, .int 0], xw_ei v 7 (fun _ => 0), xw_ei v 8 (fun _ => 0), xw_ei v 8 (fun _ => 0), xw_ei v 30 (fun _ => 0), xw_ei v 30 (fun _ => 0)] := hn9
  have hF9 : ∀ q, q ≠ g → G9 q = G q := fun q a0 => (hf9 q a0).trans (hF8 q a0)
  refine xj_putf2 (g := g) (i := 0) hk dX0_init_41 fl_X0_24 rfl rfl fg_X0_24 rfl rfl hg_9 rfl (Nat.le_of_ble_eq_true rfl) ?_
  intro G10 hn10 hf10
  have hg_10 : G10 g = [xw_eo 0 [.ref (xw_ad v g 1), .ref (xw_ad v g 2), .ref (xw_ad v g 3), .ref (xw_ad v g 4), .ref (xw_ad v g 5), .null, .null, .int 0], xw_ei v 7 (fun _ => 0), xw_ei v 8 (fun _ => 0), xw_ei v 8 (fun _ => 0), xw_ei v 30 (fun _ => 0), xw_ei v 30 (fun _ => 0)] := hn10
  have hF10 : ∀ q, q ≠ g → G10 q = G q := fun q a0 => (hf10 q a0).trans (hF9 q a0)
  refine xj_aload_n (i := 0) hk dX0_init_44 rfl rfl ?_
  refine xj_bipush (x := 30) hk dX0_init_45 (by decide) ?_
  refine xj_newi2 (g := g) (i := 6) (N := 30) hk dX0_init_47 (by rfl) (Nat.le_of_ble_eq_true rfl) hg hg_10 rfl rfl (xk_fit hz (Nat.le_of_ble_eq_true rfl) (Nat.le_of_ble_eq_true rfl)) ?_
  intro G11 hn11 hf11
  have hg_11 : G11 g = [xw_eo 0 [.ref (xw_ad v g 1), .ref (xw_ad v g 2), .ref (xw_ad v g 3), .ref (xw_ad v g 4), .ref (xw_ad v g 5), .null, .null, .int 0], xw_ei v 7 (fun _ => 0), xw_ei v 8 (fun _ => 0), xw_ei v 8 (fun _ => 0), xw_ei v 30 (fun _ => 0), xw_ei v 30 (fun _ => 0), xw_ei v 30 (fun _ => 0)] := hn11
  have hF11 : ∀ q, q ≠ g → G11 q = G q := fun q a0 => (hf11 q a0).trans (hF10 q a0)
  refine xj_putf2 (g := g) (i := 0) hk dX0_init_49 fl_X0_27 rfl rfl fg_X0_27 rfl rfl hg_11 rfl (Nat.le_of_ble_eq_true rfl) ?_
  intro G12 hn12 hf12
  have hg_12 : G12 g = [xw_eo 0 [.ref (xw_ad v g 1), .ref (xw_ad v g 2), .ref (xw_ad v g 3), .ref (xw_ad v g 4), .ref (xw_ad v g 5), .ref (xw_ad v g 6), .null, .int 0], xw_ei v 7 (fun _ => 0), xw_ei v 8 (fun _ => 0), xw_ei v 8 (fun _ => 0), xw_ei v 30 (fun _ => 0), xw_ei v 30 (fun _ => 0), xw_ei v 30 (fun _ => 0)] := hn12
  have hF12 : ∀ q, q ≠ g → G12 q = G q := fun q a0 => (hf12 q a0).trans (hF11 q a0)
  refine xj_aload_n (i := 0) hk dX0_init_52 rfl rfl ?_
  refine xj_new2 (ci := 1) (g := g) (i := 7) hk dX0_init_53 rfl cl_X0_30 mn_X1 tyX1 tyX1_ok df_X1 hg hg_12 rfl rfl (xk_fit hz (Nat.le_of_ble_eq_true rfl) (Nat.le_of_ble_eq_true rfl)) ?_
  intro G13 hn13 hf13
  have hg_13 : G13 g = [xw_eo 0 [.ref (xw_ad v g 1), .ref (xw_ad v g 2), .ref (xw_ad v g 3), .ref (xw_ad v g 4), .ref (xw_ad v g 5), .ref (xw_ad v g 6), .null, .int 0], xw_ei v 7 (fun _ => 0), xw_ei v 8 (fun _ => 0), xw_ei v 8 (fun _ => 0), xw_ei v 30 (fun _ => 0), xw_ei v 30 (fun _ => 0), xw_ei v 30 (fun _ => 0), xw_eo 1 [.null, .null, .null, .null, .int 0]] := hn13
  have hF13 : ∀ q, q ≠ g → G13 q = G q := fun q a0 => (hf13 q a0).trans (hF12 q a0)
  refine xj_dup hk dX0_init_56 rfl ?_
  refine xj_callIZ (fr1 := 1) (lo1 := 20) (As := []) (st := [.ref (xw_ad v g 7), .ref (xw_ad v g 0)]) (mc := 4) (ms := 32) hk ml_X0_32 (i_X1 hg hg_13) (xk_fit hz (Nat.le_of_ble_eq_true rfl) (Nat.le_of_ble_eq_true rfl)) rfl dX0_init_57 ⟨Nat.le_of_ble_eq_true rfl, Nat.le_of_ble_eq_true rfl⟩ (Nat.le_of_ble_eq_true rfl) rfl ?_
  rintro _ G14 ⟨rfl, hn14, hf14⟩
  have hg_14 : G14 g = [xw_eo 0 [.ref (xw_ad v g 1), .ref (xw_ad v g 2), .ref (xw_ad v g 3), .ref (xw_ad v g 4), .ref (xw_ad v g 5), .ref (xw_ad v g 6), .null, .int 0], xw_ei v 7 (fun _ => 0), xw_ei v 8 (fun _ => 0), xw_ei v 8 (fun _ => 0), xw_ei v 30 (fun _ => 0), xw_ei v 30 (fun _ => 0), xw_ei v 30 (fun _ => 0), xw_eo 1 [.ref (xw_ad v g 8), .ref (xw_ad v g 9), .ref (xw_ad v g 10), .ref (xw_ad v g 11), .int 0], xw_ei v 8 (fun _ => 0), xw_ei v 8 (fun _ => 0), xw_ei v 8 (fun _ => 0), xw_el v 8 (fun _ => 0)] := hn14
  have hF14 : ∀ q, q ≠ g → G14 q = G q := fun q a0 => (hf14 q a0).trans (hF13 q a0)
  refine xj_putf2 (g := g) (i := 0) hk dX0_init_60 fl_X0_33 rfl rfl fg_X0_33 rfl rfl hg_14 rfl (Nat.le_of_ble_eq_true rfl) ?_
  intro G15 hn15 hf15
  have hg_15 : G15 g = [xw_eo 0 [.ref (xw_ad v g 1), .ref (xw_ad v g 2), .ref (xw_ad v g 3), .ref (xw_ad v g 4), .ref (xw_ad v g 5), .ref (xw_ad v g 6), .ref (xw_ad v g 7), .int 0], xw_ei v 7 (fun _ => 0), xw_ei v 8 (fun _ => 0), xw_ei v 8 (fun _ => 0), xw_ei v 30 (fun _ => 0), xw_ei v 30 (fun _ => 0), xw_ei v 30 (fun _ => 0), xw_eo 1 [.ref (xw_ad v g 8), .ref (xw_ad v g 9), .ref (xw_ad v g 10), .ref (xw_ad v g 11), .int 0], xw_ei v 8 (fun _ => 0), xw_ei v 8 (fun _ => 0), xw_ei v 8 (fun _ => 0), xw_el v 8 (fun _ => 0)] := hn15
  have hF15 : ∀ q, q ≠ g → G15 q = G q := fun q a0 => (hf15 q a0).trans (hF14 q a0)
  refine xj_aload_n (i := 0) hk dX0_init_63 rfl rfl ?_
  refine xj_iconst (x := 0) hk dX0_init_64 (by decide) ?_
  refine xj_putn2 (g := g) (i := 0) hk dX0_init_65 fl_X0_37 rfl rfl hg_15 rfl (Nat.le_of_ble_eq_true rfl) ?_
  intro G16 hn16 hf16
  have hg_16 : G16 g = [xw_eo 0 [.ref (xw_ad v g 1), .ref (xw_ad v g 2), .ref (xw_ad v g 3), .ref (xw_ad v g 4), .ref (xw_ad v g 5), .ref (xw_ad v g 6), .ref (xw_ad v g 7), .int 0], xw_ei v 7 (fun _ => 0), xw_ei v 8 (fun _ => 0), xw_ei v 8 (fun _ => 0), xw_ei v 30 (fun _ => 0), xw_ei v 30 (fun _ => 0), xw_ei v 30 (fun _ => 0), xw_eo 1 [.ref (xw_ad v g 8), .ref (xw_ad v g 9), .ref (xw_ad v g 10), .ref (xw_ad v g 11), .int 0], xw_ei v 8 (fun _ => 0), xw_ei v 8 (fun _ => 0), xw_ei v 8 (fun _ => 0), xw_el v 8 (fun _ => 0)] := hn16
  have hF16 : ∀ q, q ≠ g → G16 q = G q := fun q a0 => (hf16 q a0).trans (hF15 q a0)
  have hb9 : G16 g = pc_B v g bkZ := hg_16
  refine xj_aload_n (i := 0) hk dX0_init_68 rfl rfl ?_
  refine xj_callVZ (fr1 := 0) (lo1 := 0) (As := []) (st := []) (mc := 0) (ms := 0) hk ml_X0_41 (c_X0_begin hb9 _) (xk_fit hz (Nat.le_of_ble_eq_true rfl) (Nat.le_of_ble_eq_true rfl)) rfl dX0_init_69 ⟨Nat.le_of_ble_eq_true rfl, Nat.le_of_ble_eq_true rfl⟩ (xk_recv hk (xw_at hb9 rfl) rfl) (Nat.le_of_ble_eq_true rfl) rfl ?_
  rintro _ _ ⟨rfl, rfl⟩
  refine xj_return hk hz dX0_init_72 ?_
  exact ⟨rfl, xw_up_s, fun q h => (xw_up_n h).trans (hF16 q h)⟩
def slZ : sl_T := (fun _ => 0, fun _ => 0, fun _ => 0, fun _ => 0, fun _ => 0, fun _ => 0, fun _ => 0, 0, 0, 0, 0, 0, 0, 0, 0, 0, 0)
set_option maxHeartbeats 1000000 in
set_option maxRecDepth 10000 in
theorem i_X4 {v : xw_V} {G : xw_G} {g b : Nat} (hg : g < 22) (hp : G g = [xw_eo 4 [.null, .null, .null, .null, .null, .null, .null, .null, .int 0, .int 0, .int 0, .int 0, .int 0, .int 0, .int 0, .int 0, .int 0, .int 0]]) : xk_ConZ v yX4_init cX4_init 2 none 1 20 [.ref (xw_ad v g 0), .ref (xw_ad v b 0)] (xw_off g + 1) 7 166 G (fun r G9 => r = none ∧ G9 g = pc_S v g b slZ ∧ ∀ q, q ≠ g → G9 q = G q) := by
  refine xk_ofZ (ls0 := [some (.ref (xw_ad v g 0)), some (.ref (xw_ad v b 0))]) (by decide) rfl (Nat.le_of_ble_eq_true rfl) ?_
  intro κ hk hz
  refine xj_aload_n (i := 0) hk dX4_init_0 rfl rfl ?_
  refine xj_objinit hk dX4_init_1 oi_X4_3 oi_2.1 oi_2.2 (Nat.le_of_ble_eq_true rfl) (Nat.le_of_ble_eq_true rfl) ?_
  refine xj_aload_n (i := 0) hk dX4_init_4 rfl rfl ?_
  refine xj_bipush (x := 30) hk dX4_init_5 (by decide) ?_
  refine xj_newi2 (g := g) (i := 1) (N := 30) hk dX4_init_7 (by rfl) (Nat.le_of_ble_eq_true rfl) hg hp rfl rfl (xk_fit hz (Nat.le_of_ble_eq_true rfl) (Nat.le_of_ble_eq_true rfl)) ?_
  intro G1 hn1 hf1
  have hg_1 : G1 g = [xw_eo 4 [.null, .null, .null, .null, .null, .null, .null, .null, .int 0, .int 0, .int 0, .int 0, .int 0, .int 0, .int 0, .int 0, .int 0, .int 0], xw_ei v 30 (fun _ => 0)] := hn1
  have hF1 : ∀ q, q ≠ g → G1 q = G q := fun q a0 => (hf1 q a0)
  refine xj_putf2 (g := g) (i := 0) hk dX4_init_9 fl_X4_9 rfl rfl fg_X4_9 rfl rfl hg_1 rfl (Nat.le_of_ble_eq_true rfl) ?_
  intro G2 hn2 hf2
  have hg_2 : G2 g = [xw_eo 4 [.null, .ref (xw_ad v g 1), .null, .null, .null, .null, .null, .null, .int 0, .int 0, .int 0, .int 0, .int 0, .int 0, .int 0, .int 0, .int 0, .int 0], xw_ei v 30 (fun _ => 0)] := hn2
  have hF2 : ∀ q, q ≠ g → G2 q = G q := fun q a0 => (hf2 q a0).trans (hF1 q a0)
  refine xj_aload_n (i := 0) hk dX4_init_12 rfl rfl ?_
  refine xj_bipush (x := 30) hk dX4_init_13 (by decide) ?_
  refine xj_newi2 (g := g) (i := 2) (N := 30) hk dX4_init_15 (by rfl) (Nat.le_of_ble_eq_true rfl) hg hg_2 rfl rfl (xk_fit hz (Nat.le_of_ble_eq_true rfl) (Nat.le_of_ble_eq_true rfl)) ?_
  intro G3 hn3 hf3
  have hg_3 : G3 g = [xw_eo 4 [.null, .ref (xw_ad v g 1), .null, .null, .null, .null, .null, .null, .int 0, .int 0, .int 0, .int 0, .int 0, .int 0, .int 0, .int 0, .int 0, .int 0], xw_ei v 30 (fun _ => 0), xw_ei v 30 (fun _ => 0)] := hn3
  have hF3 : ∀ q, q ≠ g → G3 q = G q := fun q a0 => (hf3 q a0).trans (hF2 q a0)
  refine xj_putf2 (g := g) (i := 0) hk dX4_init_17 fl_X4_15 rfl rfl fg_X4_15 rfl rfl hg_3 rfl (Nat.le_of_ble_eq_true rfl) ?_
  intro G4 hn4 hf4
  have hg_4 : G4 g = [xw_eo 4 [.null, .ref (xw_ad v g 1), .ref (xw_ad v g 2), .null, .null, .null, .null, .null, .int 0, .int 0, .int 0, .int 0, .int 0, .int 0, .int 0, .int 0, .int 0, .int 0], xw_ei v 30 (fun _ => 0), xw_ei v 30 (fun _ => 0)] := hn4
  have hF4 : ∀ q, q ≠ g → G4 q = G q := fun q a0 => (hf4 q a0).trans (hF3 q a0)
  refine xj_aload_n (i := 0) hk dX4_init_20 rfl rfl ?_
  refine xj_bipush (x := 30) hk dX4_init_21 (by decide) ?_
  refine xj_newi2 (g := g) (i := 3) (N := 30) hk dX4_init_23 (by rfl) (Nat.le_of_ble_eq_true rfl) hg hg_4 rfl rfl (xk_fit hz (Nat.le_of_ble_eq_true rfl) (Nat.le_of_ble_eq_true rfl)) ?_
  intro G5 hn5 hf5
  have hg_5 : G5 g = [xw_eo 4 [.null, .ref (xw_ad v g 1), .ref (xw_ad v g 2), .null, .null, .null, .null, .null, .int 0, .int 0, .int 0, .int 0, .int 0, .int 0, .int 0, .int 0, .int 0, .int 0], xw_ei v 30 (fun _ => 0), xw_ei v 30 (fun _ => 0), xw_ei v 30 (fun _ => 0)] := hn5
  have hF5 : ∀ q, q ≠ g → G5 q = G q := fun q a0 => (hf5 q a0).trans (hF4 q a0)
  refine xj_putf2 (g := g) (i := 0) hk dX4_init_25 fl_X4_18 rfl rfl fg_X4_18 rfl rfl hg_5 rfl (Nat.le_of_ble_eq_true rfl) ?_
  intro G6 hn6 hf6
  have hg_6 : G6 g = [xw_eo 4 [.null, .ref (xw_ad v g 1), .ref (xw_ad v g 2), .ref (xw_ad v g 3), .null, .null, .null, .null, .int 0, .int 0, .int 0, .int 0, .int 0, .int 0, .int 0, .int 0, .int 0, .int 0], xw_ei v 30 (fun _ => 0), xw_ei v 30 (fun _ => 0), xw_ei v 30 (fun _ => 0)] := hn6
  have hF6 : ∀ q, q ≠ g → G6 q = G q := fun q a0 => (hf6 q a0).trans (hF5 q a0)
  refine xj_aload_n (i := 0) hk dX4_init_28 rfl rfl ?_
  refine xj_bipush (x := 30) hk dX4_init_29 (by decide) ?_
  refine xj_newi2 (g := g) (i := 4) (N := 30) hk dX4_init_31 (by rfl) (Nat.le_of_ble_eq_true rfl) hg hg_6 rfl rfl (xk_fit hz (Nat.le_of_ble_eq_true rfl) (Nat.le_of_ble_eq_true rfl)) ?_
  intro G7 hn7 hf7
  have hg_7 : G7 g = [xw_eo 4 [.null, .ref (xw_ad v g 1), .ref (xw_ad v g 2), .ref (xw_ad v g 3), .null, .null, .null, .null, .int 0, .int 0, .int 0, .int 0, .int 0, .int 0, .int 0, .int 0, .int 0, .int 0], xw_ei v 30 (fun _ => 0), xw_ei v 30 (fun _ => 0), xw_ei v 30 (fun _ => 0), xw_ei v 30 (fun _ => 0)] := hn7
  have hF7 : ∀ q, q ≠ g → G7 q = G q := fun q a0 => (hf7 q a0).trans (hF6 q a0)
  refine xj_putf2 (g := g) (i := 0) hk dX4_init_33 fl_X4_21 rfl rfl fg_X4_21 rfl rfl hg_7 rfl (Nat.le_of_ble_eq_true rfl) ?_
  intro G8 hn8 hf8
  have hg_8 : G8 g = [xw_eo 4 [.null, .ref (xw_ad v g 1), .ref (xw_ad v g 2), .ref (xw_ad v g 3), .ref (xw_ad v g 4), .null, .null, .null, .int 0, .int 0, .int 0, .int 0, .int 0, .int 0, .int 0, .int 0, .int 0, .int 0], xw_ei v 30 (fun _ => 0), xw_ei v 30 (fun _ => 0), xw_ei v 30 (fun _ => 0), xw_ei v 30 (fun _ => 0)] := hn8
  have hF8 : ∀ q, q ≠ g → G8 q = G q := fun q a0 => (hf8 q a0).trans (hF7 q a0)
  refine xj_aload_n (i := 0) hk dX4_init_36 rfl rfl ?_
  refine xj_bipush (x := 30) hk dX4_init_37 (by decide) ?_
  refine xj_newi2 (g := g) (i := 5) (N := 30) hk dX4_init_39 (by rfl) (Nat.le_of_ble_eq_true rfl) hg hg_8 rfl rfl (xk_fit hz (Nat.le_of_ble_eq_true rfl) (Nat.le_of_ble_eq_true rfl)) ?_
  intro G9 hn9 hf9
  have hg_9 : G9 g = [xw_eo 4 [.null, .ref (xw_ad v g 1), .ref (xw_ad v g 2), .ref (xw_ad v g 3), .ref (xw_ad v g 4), .null, .null, .null, .int 0, .int 0, .int 0, .int 0, .int 0, .int 0, .int 0, .int 0, .int 0, .int 0], xw_ei v 30 (fun _ => 0), xw_ei v 30 (fun _ => 0), xw_ei v 30 (fun _ => 0), xw_ei v 30 (fun _ => 0), xw_ei v 30 (fun _ => 0)] := hn9
  have hF9 : ∀ q, q ≠ g → G9 q = G q := fun q a0 => (hf9 q a0).trans (hF8 q a0)
  refine xj_putf2 (g := g) (i := 0) hk dX4_init_41 fl_X4_24 rfl rfl fg_X4_24 rfl rfl hg_9 rfl (Nat.le_of_ble_eq_true rfl) ?_
  intro G10 hn10 hf10
  have hg_10 : G10 g = [xw_eo 4 [.null, .ref (xw_ad v g 1), .ref (xw_ad v g 2), .ref (xw_ad v g 3), .ref (xw_ad v g 4), .ref (xw_ad v g 5), .null, .null, .int 0, .int 0, .int 0, .int 0, .int 0, .int 0, .int 0, .int 0, .int 0, .int 0], xw_ei v 30 (fun _ => 0), xw_ei v 30 (fun _ => 0), xw_ei v 30 (fun _ => 0), xw_ei v 30 (fun _ => 0), xw_ei v 30 (fun _ => 0)] := hn10
  have hF10 : ∀ q, q ≠ g → G10 q = G q := fun q a0 => (hf10 q a0).trans (hF9 q a0)
  refine xj_aload_n (i := 0) hk dX4_init_44 rfl rfl ?_
  refine xj_bipush (x := 8) hk dX4_init_45 (by decide) ?_
  refine xj_newi2 (g := g) (i := 6) (N := 8) hk dX4_init_47 (by rfl) (Nat.le_of_ble_eq_true rfl) hg hg_10 rfl rfl (xk_fit hz (Nat.le_of_ble_eq_true rfl) (Nat.le_of_ble_eq_true rfl)) ?_
  intro G11 hn11 hf11
  have hg_11 : G11 g = [xw_eo 4 [.null, .ref (xw_ad v g 1), .ref (xw_ad v g 2), .ref (xw_ad v g 3), .ref (xw_ad v g 4), .ref (xw_ad v g 5), .null, .null, .int 0, .int 0, .int 0, .int 0, .int 0, .int 0, .int 0, .int 0, .int 0, .int 0], xw_ei v 30 (fun _ => 0), xw_ei v 30 (fun _ => 0), xw_ei v 30 (fun _ => 0), xw_ei v 30 (fun _ => 0), xw_ei v 30 (fun _ => 0), xw_ei v 8 (fun _ => 0)] := hn11
  have hF11 : ∀ q, q ≠ g → G11 q = G q := fun q a0 => (hf11 q a0).trans (hF10 q a0)
  refine xj_putf2 (g := g) (i := 0) hk dX4_init_49 fl_X4_27 rfl rfl fg_X4_27 rfl rfl hg_11 rfl (Nat.le_of_ble_eq_true rfl) ?_
  intro G12 hn12 hf12
  have hg_12 : G12 g = [xw_eo 4 [.null, .ref (xw_ad v g 1), .ref (xw_ad v g 2), .ref (xw_ad v g 3), .ref (xw_ad v g 4), .ref (xw_ad v g 5), .ref (xw_ad v g 6), .null, .int 0, .int 0, .int 0, .int 0, .int 0, .int 0, .int 0, .int 0, .int 0, .int 0], xw_ei v 30 (fun _ => 0), xw_ei v 30 (fun _ => 0), xw_ei v 30 (fun _ => 0), xw_ei v 30 (fun _ => 0), xw_ei v 30 (fun _ => 0), xw_ei v 8 (fun _ => 0)] := hn12
  have hF12 : ∀ q, q ≠ g → G12 q = G q := fun q a0 => (hf12 q a0).trans (hF11 q a0)
  refine xj_aload_n (i := 0) hk dX4_init_52 rfl rfl ?_
  refine xj_bipush (x := 8) hk dX4_init_53 (by decide) ?_
  refine xj_newi2 (g := g) (i := 7) (N := 8) hk dX4_init_55 (by rfl) (Nat.le_of_ble_eq_true rfl) hg hg_12 rfl rfl (xk_fit hz (Nat.le_of_ble_eq_true rfl) (Nat.le_of_ble_eq_true rfl)) ?_
  intro G13 hn13 hf13
  have hg_13 : G13 g = [xw_eo 4 [.null, .ref (xw_ad v g 1), .ref (xw_ad v g 2), .ref (xw_ad v g 3), .ref (xw_ad v g 4), .ref (xw_ad v g 5), .ref (xw_ad v g 6), .null, .int 0, .int 0, .int 0, .int 0, .int 0, .int 0, .int 0, .int 0, .int 0, .int 0], xw_ei v 30 (fun _ => 0), xw_ei v 30 (fun _ => 0), xw_ei v 30 (fun _ => 0), xw_ei v 30 (fun _ => 0), xw_ei v 30 (fun _ => 0), xw_ei v 8 (fun _ => 0), xw_ei v 8 (fun _ => 0)] := hn13
  have hF13 : ∀ q, q ≠ g → G13 q = G q := fun q a0 => (hf13 q a0).trans (hF12 q a0)
  refine xj_putf2 (g := g) (i := 0) hk dX4_init_57 fl_X4_30 rfl rfl fg_X4_30 rfl rfl hg_13 rfl (Nat.le_of_ble_eq_true rfl) ?_
  intro G14 hn14 hf14
  have hg_14 : G14 g = [xw_eo 4 [.null, .ref (xw_ad v g 1), .ref (xw_ad v g 2), .ref (xw_ad v g 3), .ref (xw_ad v g 4), .ref (xw_ad v g 5), .ref (xw_ad v g 6), .ref (xw_ad v g 7), .int 0, .int 0, .int 0, .int 0, .int 0, .int 0, .int 0, .int 0, .int 0, .int 0], xw_ei v 30 (fun _ => 0), xw_ei v 30 (fun _ => 0), xw_ei v 30 (fun _ => 0), xw_ei v 30 (fun _ => 0), xw_ei v 30 (fun _ => 0), xw_ei v 8 (fun _ => 0), xw_ei v 8 (fun _ => 0)] := hn14
  have hF14 : ∀ q, q ≠ g → G14 q = G q := fun q a0 => (hf14 q a0).trans (hF13 q a0)
  refine xj_aload_n (i := 0) hk dX4_init_60 rfl rfl ?_
  refine xj_iconst (x := 0) hk dX4_init_61 (by decide) ?_
  refine xj_putn2 (g := g) (i := 0) hk dX4_init_62 fl_X4_33 rfl rfl hg_14 rfl (Nat.le_of_ble_eq_true rfl) ?_
  intro G15 hn15 hf15
  have hg_15 : G15 g = [xw_eo 4 [.null, .ref (xw_ad v g 1), .ref (xw_ad v g 2), .ref (xw_ad v g 3), .ref (xw_ad v g 4), .ref (xw_ad v g 5), .ref (xw_ad v g 6), .ref (xw_ad v g 7), .int 0, .int 0, .int 0, .int 0, .int 0, .int 0, .int 0, .int 0, .int 0, .int 0], xw_ei v 30 (fun _ => 0), xw_ei v 30 (fun _ => 0), xw_ei v 30 (fun _ => 0), xw_ei v 30 (fun _ => 0), xw_ei v 30 (fun _ => 0), xw_ei v 8 (fun _ => 0), xw_ei v 8 (fun _ => 0)] := hn15
  have hF15 : ∀ q, q ≠ g → G15 q = G q := fun q a0 => (hf15 q a0).trans (hF14 q a0)
  refine xj_aload_n (i := 0) hk dX4_init_65 rfl rfl ?_
  refine xj_aload_n (i := 1) hk dX4_init_66 rfl rfl ?_
  refine xj_putf2 (g := g) (i := 0) hk dX4_init_67 fl_X4_37 rfl rfl fg_X4_37 rfl rfl hg_15 rfl (Nat.le_of_ble_eq_true rfl) ?_
  intro G16 hn16 hf16
  have hg_16 : G16 g = [xw_eo 4 [.ref (xw_ad v b 0), .ref (xw_ad v g 1), .ref (xw_ad v g 2), .ref (xw_ad v g 3), .ref (xw_ad v g 4), .ref (xw_ad v g 5), .ref (xw_ad v g 6), .ref (xw_ad v g 7), .int 0, .int 0, .int 0, .int 0, .int 0, .int 0, .int 0, .int 0, .int 0, .int 0], xw_ei v 30 (fun _ => 0), xw_ei v 30 (fun _ => 0), xw_ei v 30 (fun _ => 0), xw_ei v 30 (fun _ => 0), xw_ei v 30 (fun _ => 0), xw_ei v 8 (fun _ => 0), xw_ei v 8 (fun _ => 0)] := hn16
  have hF16 : ∀ q, q ≠ g → G16 q = G q := fun q a0 => (hf16 q a0).trans (hF15 q a0)
  refine xj_return hk hz dX4_init_70 ?_
  exact ⟨rfl, hg_16, hF16⟩
set_option maxHeartbeats 1000000 in
set_option maxRecDepth 10000 in
theorem i_X6 {v : xw_V} {G : xw_G}  (hp : G 18 = [xw_eo 6 [.null, .int 0]]) : xk_ConZ v yX6_init cX6_init 1 none 1 20 [.ref (xw_ad v 18 0)] 188 1 700 G (fun r G9 => r = none ∧ G9 18 = pc_T v (fun _ => 0, 0) ∧ ∀ q, q ≠ 18 → G9 q = G q) := by
  refine xk_ofZ (ls0 := [some (.ref (xw_ad v 18 0))]) (by decide) rfl (Nat.le_of_ble_eq_true rfl) ?_
  intro κ hk hz
  refine xj_aload_n (i := 0) hk dX6_init_0 rfl rfl ?_
  refine xj_objinit hk dX6_init_1 oi_X6_3 oi_2.1 oi_2.2 (Nat.le_of_ble_eq_true rfl) (Nat.le_of_ble_eq_true rfl) ?_
  refine xj_aload_n (i := 0) hk dX6_init_4 rfl rfl ?_
  refine xj_sipush (x := 700) hk dX6_init_5 (by decide) ?_
  refine xj_newi2 (g := 18) (i := 1) (N := 700) hk dX6_init_8 (by rfl) (Nat.le_of_ble_eq_true rfl) (by decide) hp rfl rfl (xk_fit hz (Nat.le_of_ble_eq_true rfl) (Nat.le_of_ble_eq_true rfl)) ?_
  intro G1 hn1 hf1
  have h18_1 : G1 18 = [xw_eo 6 [.null, .int 0], xw_ei v 700 (fun _ => 0)] := hn1
  have hF1 : ∀ q, q ≠ 18 → G1 q = G q := fun q a0 => (hf1 q a0)
  refine xj_putf2 (g := 18) (i := 0) hk dX6_init_10 fl_X6_9 rfl rfl fg_X6_9 rfl rfl h18_1 rfl (Nat.le_of_ble_eq_true rfl) ?_
  intro G2 hn2 hf2
  have h18_2 : G2 18 = [xw_eo 6 [.ref (xw_ad v 18 1), .int 0], xw_ei v 700 (fun _ => 0)] := hn2
  have hF2 : ∀ q, q ≠ 18 → G2 q = G q := fun q a0 => (hf2 q a0).trans (hF1 q a0)
  refine xj_aload_n (i := 0) hk dX6_init_13 rfl rfl ?_
  refine xj_iconst (x := 0) hk dX6_init_14 (by decide) ?_
  refine xj_putn2 (g := 18) (i := 0) hk dX6_init_15 fl_X6_15 rfl rfl h18_2 rfl (Nat.le_of_ble_eq_true rfl) ?_
  intro G3 hn3 hf3
  have h18_3 : G3 18 = [xw_eo 6 [.ref (xw_ad v 18 1), .int 0], xw_ei v 700 (fun _ => 0)] := hn3
  have hF3 : ∀ q, q ≠ 18 → G3 q = G q := fun q a0 => (hf3 q a0).trans (hF2 q a0)
  refine xj_return hk hz dX6_init_18 ?_
  exact ⟨rfl, h18_3, hF3⟩
set_option maxHeartbeats 1000000 in
set_option maxRecDepth 10000 in
theorem i_X3 {v : xw_V} {G : xw_G} {zi : Nat} (hp : G 19 = [xw_eo 3 [.null, .null, .int 0, .int 0, .int 0]]) : xk_ConZ v yX3_init cX3_init 3 none 1 20 [.ref (xw_ad v 19 0), .ref (xw_ad v 18 0), .ref (xw_ad v 3 0)] zi 0 0 G (fun r G9 => r = none ∧ G9 19 = pc_R v (0, 0, 0) ∧ ∀ q, q ≠ 19 → G9 q = G q) := by
  refine xk_ofZ (ls0 := [some (.ref (xw_ad v 19 0)), some (.ref (xw_ad v 18 0)), some (.ref (xw_ad v 3 0))]) (by decide) rfl (Nat.le_of_ble_eq_true rfl) ?_
  intro κ hk hz
  refine xj_aload_n (i := 0) hk dX3_init_0 rfl rfl ?_
  refine xj_objinit hk dX3_init_1 oi_X3_3 oi_2.1 oi_2.2 (Nat.le_of_ble_eq_true rfl) (Nat.le_of_ble_eq_true rfl) ?_
  refine xj_aload_n (i := 0) hk dX3_init_4 rfl rfl ?_
  refine xj_aload_n (i := 1) hk dX3_init_5 rfl rfl ?_
  refine xj_putf2 (g := 19) (i := 0) hk dX3_init_6 fl_X3_9 rfl rfl fg_X3_9 rfl rfl hp rfl (Nat.le_of_ble_eq_true rfl) ?_
  intro G1 hn1 hf1
  have h19_1 : G1 19 = [xw_eo 3 [.ref (xw_ad v 18 0), .null, .int 0, .int 0, .int 0]] := hn1
  have hF1 : ∀ q, q ≠ 19 → G1 q = G q := fun q a0 => (hf1 q a0)
  refine xj_aload_n (i := 0) hk dX3_init_9 rfl rfl ?_
  refine xj_aload_n (i := 2) hk dX3_init_10 rfl rfl ?_
  refine xj_putf2 (g := 19) (i := 0) hk dX3_init_11 fl_X3_15 rfl rfl fg_X3_15 rfl rfl h19_1 rfl (Nat.le_of_ble_eq_true rfl) ?_
  intro G2 hn2 hf2
  have h19_2 : G2 19 = [xw_eo 3 [.ref (xw_ad v 18 0), .ref (xw_ad v 3 0), .int 0, .int 0, .int 0]] := hn2
  have hF2 : ∀ q, q ≠ 19 → G2 q = G q := fun q a0 => (hf2 q a0).trans (hF1 q a0)
  refine xj_return hk hz dX3_init_14 ?_
  exact ⟨rfl, h19_2, hF2⟩
set_option maxHeartbeats 1000000 in
set_option maxRecDepth 10000 in
theorem i_X5 {v : xw_V} {G : xw_G} {zi : Nat} (hp : G 20 = [xw_eo 5 [.int 0, .int 0, .int 0]]) : xk_ConZ v yX5_init cX5_init 1 none 1 20 [.ref (xw_ad v 20 0)] zi 0 0 G (fun r G9 => r = none ∧ G9 20 = pc_W (0, 0, 0) ∧ ∀ q, q ≠ 20 → G9 q = G q) := by
  refine xk_ofZ (ls0 := [some (.ref (xw_ad v 20 0))]) (by decide) rfl (Nat.le_of_ble_eq_true rfl) ?_
  intro κ hk hz
  refine xj_aload_n (i := 0) hk dX5_init_0 rfl rfl ?_
  refine xj_objinit hk dX5_init_1 oi_X5_3 oi_2.1 oi_2.2 (Nat.le_of_ble_eq_true rfl) (Nat.le_of_ble_eq_true rfl) ?_
  refine xj_return hk hz dX5_init_4 ?_
  exact ⟨rfl, hp, fun _ _ => rfl⟩

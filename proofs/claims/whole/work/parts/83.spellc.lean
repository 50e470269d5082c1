set_option maxHeartbeats 1000000 in
set_option maxRecDepth 10000 in
theorem c_X5_writeTerms {v : xw_V} {G : xw_G} {W : List Int32} {x : Int32} {B : bk_T} {n : Nat} (g1 : G 1 = pc_B v 1 B) (g20 : G 20 = pW  x (nI (W).length) (gtW (W) x)) (hl : W.length < 1000) (hv : vN (bk_te B) (bk_ho B) (bk_ow B) (bk_hs B) (bk_ra B) (bk_lo B) n) : xk_Con v yX5_writeTerms cX5_writeTerms 2 none 6 128 [.ref (xw_ad v 20 0), .ref (xw_ad v 1 0)] G (xk_ret none (xw_up G 20 (pW  x (nI (W ++ tT (bk_te B)).length) (gtW (W ++ tT (bk_te B)) x)))) := by
  refine xk_of (ls0 := [some (.ref (xw_ad v 20 0)), some (.ref (xw_ad v 1 0))]) (by decide) rfl (Nat.le_of_ble_eq_true rfl) ?_
  intro κ z hk hz
  have ht0 := (hv.1 0 (by omega)).2
  have hd0 := dg_len (xn (bk_te B 0))
  have ht1 := (hv.1 1 (by omega)).2
  have hd1 := dg_len (xn (bk_te B 1))
  have ht2 := (hv.1 2 (by omega)).2
  have hd2 := dg_len (xn (bk_te B 2))
  have ht3 := (hv.1 3 (by omega)).2
  have hd3 := dg_len (xn (bk_te B 3))
  have ht4 := (hv.1 4 (by omega)).2
  have hd4 := dg_len (xn (bk_te B 4))
  have ht5 := (hv.1 5 (by omega)).2
  have hd5 := dg_len (xn (bk_te B 5))
  have hs13 : S13.2.2.2.2.length < 100 := (xs_all S13 S13_in).1
  have hs14 : S14.2.2.2.2.length < 100 := (xs_all S14 S14_in).1
  have hs15 : S15.2.2.2.2.length < 100 := (xs_all S15 S15_in).1
  have hs16 : S16.2.2.2.2.length < 100 := (xs_all S16 S16_in).1
  have hs17 : S17.2.2.2.2.length < 100 := (xs_all S17 S17_in).1
  have hs18 : S18.2.2.2.2.length < 100 := (xs_all S18 S18_in).1
  have hs19 : S19.2.2.2.2.length < 100 := (xs_all S19 S19_in).1
  have hs20 : S20.2.2.2.2.length < 100 := (xs_all S20 S20_in).1
  refine xj_aload_n (i := 0) hk dX5_writeTerms_0 rfl rfl ?_
  refine xj_ldcS hk (q := S13) S13_in rfl dX5_writeTerms_1 ?_
  refine xj_callV hk hz (fr1 := 5) (lo1 := 106) (r1 := none) (As := [.ref (xw_ad v (40 + S13.1) 0)]) (st := []) (st2 := []) (G1 := xw_up G 20 (pW  x (nI (W ++ S13.2.2.2.2).length) (gtW (W ++ S13.2.2.2.2) x))) ml_X5_60 (c_X5_writeSigns (W := W) (q := S13) (show G 20 = pW  x (nI (W).length) (gtW (W) x) from g20) S13_in (by first | omega | (simp only [List.length_append, List.length_cons, List.length_nil]; omega))) (xw_at g20 rfl) rfl dX5_writeTerms_3 ⟨Nat.le_of_ble_eq_true rfl, Nat.le_of_ble_eq_true rfl⟩ rfl (Nat.le_of_ble_eq_true rfl) rfl rfl ?_
  refine xj_aload_n (i := 0) hk dX5_writeTerms_6 rfl rfl ?_
  refine xj_aload_n (i := 1) hk dX5_writeTerms_7 rfl rfl ?_
  refine xj_getfield hk dX5_writeTerms_8 fl_X5_64 (xw_at (show (xw_up G 20 (pW  x (nI (W ++ S13.2.2.2.2).length) (gtW (W ++ S13.2.2.2.2) x))) 1 = pc_B v 1 B from by rw [xw_up_n (by decide), g1]) rfl) rfl ?_
  refine xj_iconst (x := 0) hk dX5_writeTerms_11 (by decide) ?_
  refine xj_iaload (k := 0) hk dX5_writeTerms_12 (xw_at (show (xw_up G 20 (pW  x (nI (W ++ S13.2.2.2.2).length) (gtW (W ++ S13.2.2.2.2) x))) 1 = pc_B v 1 B from by rw [xw_up_n (by decide), g1]) rfl) (xi_d 0 7 (by decide)) ?_
  refine xj.eqi (x' := nI (xn (bk_te B 0))) (hv.1 0 (by omega)).1 ?_
  refine xj_callV hk hz (fr1 := 1) (lo1 := 21) (r1 := none) (As := [.int (nI (xn (bk_te B 0)))]) (st := []) (st2 := []) (G1 := xw_up G 20 (pW  x (nI (W ++ S13.2.2.2.2 ++ dg (xn (bk_te B 0))).length) (gtW (W ++ S13.2.2.2.2 ++ dg (xn (bk_te B 0))) x))) ml_X5_67 (xk_cg (by rw [xw_up_u] <;> rfl) (c_X5_writeNumber (W := W ++ S13.2.2.2.2) (m := xn (bk_te B 0)) (show (xw_up G 20 (pW  x (nI (W ++ S13.2.2.2.2).length) (gtW (W ++ S13.2.2.2.2) x))) 20 = pW  x (nI (W ++ S13.2.2.2.2).length) (gtW (W ++ S13.2.2.2.2) x) from xw_up_s) (by first | omega | (simp only [List.length_append, List.length_cons, List.length_nil]; omega)) (by omega))) (xw_at xw_up_s rfl) rfl dX5_writeTerms_13 ⟨Nat.le_of_ble_eq_true rfl, Nat.le_of_ble_eq_true rfl⟩ rfl (Nat.le_of_ble_eq_true rfl) rfl rfl ?_
  refine xj_aload_n (i := 0) hk dX5_writeTerms_16 rfl rfl ?_
  refine xj_ldcS hk (q := S14) S14_in rfl dX5_writeTerms_17 ?_
  refine xj_callV hk hz (fr1 := 5) (lo1 := 106) (r1 := none) (As := [.ref (xw_ad v (40 + S14.1) 0)]) (st := []) (st2 := []) (G1 := xw_up G 20 (pW  x (nI (W ++ S13.2.2.2.2 ++ dg (xn (bk_te B 0)) ++ S14.2.2.2.2).length) (gtW (W ++ S13.2.2.2.2 ++ dg (xn (bk_te B 0)) ++ S14.2.2.2.2) x))) ml_X5_60 (xk_cg (by rw [xw_up_u] <;> rfl) (c_X5_writeSigns (W := W ++ S13.2.2.2.2 ++ dg (xn (bk_te B 0))) (q := S14) (show (xw_up G 20 (pW  x (nI (W ++ S13.2.2.2.2 ++ dg (xn (bk_te B 0))).length) (gtW (W ++ S13.2.2.2.2 ++ dg (xn (bk_te B 0))) x))) 20 = pW  x (nI (W ++ S13.2.2.2.2 ++ dg (xn (bk_te B 0))).length) (gtW (W ++ S13.2.2.2.2 ++ dg (xn (bk_te B 0))) x) from xw_up_s) S14_in (by first | omega | (simp only [List.length_append, List.length_cons, List.length_nil]; omega)))) (xw_at xw_up_s rfl) rfl dX5_writeTerms_19 ⟨Nat.le_of_ble_eq_true rfl, Nat.le_of_ble_eq_true rfl⟩ rfl (Nat.le_of_ble_eq_true rfl) rfl rfl ?_
  refine xj_aload_n (i := 0) hk dX5_writeTerms_22 rfl rfl ?_
  refine xj_aload_n (i := 1) hk dX5_writeTerms_23 rfl rfl ?_
  refine xj_getfield hk dX5_writeTerms_24 fl_X5_64 (xw_at (show (xw_up G 20 (pW  x (nI (W ++ S13.2.2.2.2 ++ dg (xn (bk_te B 0)) ++ S14.2.2.2.2).length) (gtW (W ++ S13.2.2.2.2 ++ dg (xn (bk_te B 0)) ++ S14.2.2.2.2) x))) 1 = pc_B v 1 B from by rw [xw_up_n (by decide), g1]) rfl) rfl ?_
  refine xj_iconst (x := 1) hk dX5_writeTerms_27 (by decide) ?_
  refine xj_iaload (k := 1) hk dX5_writeTerms_28 (xw_at (show (xw_up G 20 (pW  x (nI (W ++ S13.2.2.2.2 ++ dg (xn (bk_te B 0)) ++ S14.2.2.2.2).length) (gtW (W ++ S13.2.2.2.2 ++ dg (xn (bk_te B 0)) ++ S14.2.2.2.2) x))) 1 = pc_B v 1 B from by rw [xw_up_n (by decide), g1]) rfl) (xi_d 1 7 (by decide)) ?_
  refine xj.eqi (x' := nI (xn (bk_te B 1))) (hv.1 1 (by omega)).1 ?_
  refine xj_callV hk hz (fr1 := 1) (lo1 := 21) (r1 := none) (As := [.int (nI (xn (bk_te B 1)))]) (st := []) (st2 := []) (G1 := xw_up G 20 (pW  x (nI (W ++ S13.2.2.2.2 ++ dg (xn (bk_te B 0)) ++ S14.2.2.2.2 ++ dg (xn (bk_te B 1))).length) (gtW (W ++ S13.2.2.2.2 ++ dg (xn (bk_te B 0)) ++ S14.2.2.2.2 ++ dg (xn (bk_te B 1))) x))) ml_X5_67 (xk_cg (by rw [xw_up_u] <;> rfl) (c_X5_writeNumber (W := W ++ S13.2.2.2.2 ++ dg (xn (bk_te B 0)) ++ S14.2.2.2.2) (m := xn (bk_te B 1)) (show (xw_up G 20 (pW  x (nI (W ++ S13.2.2.2.2 ++ dg (xn (bk_te B 0)) ++ S14.2.2.2.2).length) (gtW (W ++ S13.2.2.2.2 ++ dg (xn (bk_te B 0)) ++ S14.2.2.2.2) x))) 20 = pW  x (nI (W ++ S13.2.2.2.2 ++ dg (xn (bk_te B 0)) ++ S14.2.2.2.2).length) (gtW (W ++ S13.2.2.2.2 ++ dg (xn (bk_te B 0)) ++ S14.2.2.2.2) x) from xw_up_s) (by first | omega | (simp only [List.length_append, List.length_cons, List.length_nil]; omega)) (by omega))) (xw_at xw_up_s rfl) rfl dX5_writeTerms_29 ⟨Nat.le_of_ble_eq_true rfl, Nat.le_of_ble_eq_true rfl⟩ rfl (Nat.le_of_ble_eq_true rfl) rfl rfl ?_
  refine xj_aload_n (i := 0) hk dX5_writeTerms_32 rfl rfl ?_
  refine xj_ldcS hk (q := S15) S15_in rfl dX5_writeTerms_33 ?_
  refine xj_callV hk hz (fr1 := 5) (lo1 := 106) (r1 := none) (As := [.ref (xw_ad v (40 + S15.1) 0)]) (st := []) (st2 := []) (G1 := xw_up G 20 (pW  x (nI (W ++ S13.2.2.2.2 ++ dg (xn (bk_te B 0)) ++ S14.2.2.2.2 ++ dg (xn (bk_te B 1)) ++ S15.2.2.2.2).length) (gtW (W ++ S13.2.2.2.2 ++ dg (xn (bk_te B 0)) ++ S14.2.2.2.2 ++ dg (xn (bk_te B 1)) ++ S15.2.2.2.2) x))) ml_X5_60 (xk_cg (by rw [xw_up_u] <;> rfl) (c_X5_writeSigns (W := W ++ S13.2.2.2.2 ++ dg (xn (bk_te B 0)) ++ S14.2.2.2.2 ++ dg (xn (bk_te B 1))) (q := S15) (show (xw_up G 20 (pW  x (nI (W ++ S13.2.2.2.2 ++ dg (xn (bk_te B 0)) ++ S14.2.2.2.2 ++ dg (xn (bk_te B 1))).length) (gtW (W ++ S13.2.2.2.2 ++ dg (xn (bk_te B 0)) ++ S14.2.2.2.2 ++ dg (xn (bk_te B 1))) x))) 20 = pW  x (nI (W ++ S13.2.2.2.2 ++ dg (xn (bk_te B 0)) ++ S14.2.2.2.2 ++ dg (xn (bk_te B 1))).length) (gtW (W ++ S13.2.2.2.2 ++ dg (xn (bk_te B 0)) ++ S14.2.2.2.2 ++ dg (xn (bk_te B 1))) x) from xw_up_s) S15_in (by first | omega | (simp only [List.length_append, List.length_cons, List.length_nil]; omega)))) (xw_at xw_up_s rfl) rfl dX5_writeTerms_35 ⟨Nat.le_of_ble_eq_true rfl, Nat.le_of_ble_eq_true rfl⟩ rfl (Nat.le_of_ble_eq_true rfl) rfl rfl ?_
  refine xj_aload_n (i := 0) hk dX5_writeTerms_38 rfl rfl ?_
  refine xj_aload_n (i := 1) hk dX5_writeTerms_39 rfl rfl ?_
  refine xj_getfield hk dX5_writeTerms_40 fl_X5_64 (xw_at (show (xw_up G 20 (pW  x (nI (W ++ S13.2.2.2.2 ++ dg (xn (bk_te B 0)) ++ S14.2.2.2.2 ++ dg (xn (bk_te B 1)) ++ S15.2.2.2.2).length) (gtW (W ++ S13.2.2.2.2 ++ dg (xn (bk_te B 0)) ++ S14.2.2.2.2 ++ dg (xn (bk_te B 1)) ++ S15.2.2.2.2) x))) 1 = pc_B v 1 B from by rw [xw_up_n (by decide), g1]) rfl) rfl ?_
  refine xj_iconst (x := 2) hk dX5_writeTerms_43 (by decide) ?_
  refine xj_iaload (k := 2) hk dX5_writeTerms_44 (xw_at (show (xw_up G 20 (pW  x (nI (W ++ S13.2.2.2.2 ++ dg (xn (bk_te B 0)) ++ S14.2.2.2.2 ++ dg (xn (bk_te B 1)) ++ S15.2.2.2.2).length) (gtW (W ++ S13.2.2.2.2 ++ dg (xn (bk_te B 0)) ++ S14.2.2.2.2 ++ dg (xn (bk_te B 1)) ++ S15.2.2.2.2) x))) 1 = pc_B v 1 B from by rw [xw_up_n (by decide), g1]) rfl) (xi_d 2 7 (by decide)) ?_
  refine xj.eqi (x' := nI (xn (bk_te B 2))) (hv.1 2 (by omega)).1 ?_
  refine xj_callV hk hz (fr1 := 1) (lo1 := 21) (r1 := none) (As := [.int (nI (xn (bk_te B 2)))]) (st := []) (st2 := []) (G1 := xw_up G 20 (pW  x (nI (W ++ S13.2.2.2.2 ++ dg (xn (bk_te B 0)) ++ S14.2.2.2.2 ++ dg (xn (bk_te B 1)) ++ S15.2.2.2.2 ++ dg (xn (bk_te B 2))).length) (gtW (W ++ S13.2.2.2.2 ++ dg (xn (bk_te B 0)) ++ S14.2.2.2.2 ++ dg (xn (bk_te B 1)) ++ S15.2.2.2.2 ++ dg (xn (bk_te B 2))) x))) ml_X5_67 (xk_cg (by rw [xw_up_u] <;> rfl) (c_X5_writeNumber (W := W ++ S13.2.2.2.2 ++ dg (xn (bk_te B 0)) ++ S14.2.2.2.2 ++ dg (xn (bk_te B 1)) ++ S15.2.2.2.2) (m := xn (bk_te B 2)) (show (xw_up G 20 (pW  x (nI (W ++ S13.2.2.2.2 ++ dg (xn (bk_te B 0)) ++ S14.2.2.2.2 ++ dg (xn (bk_te B 1)) ++ S15.2.2.2.2).length) (gtW (W ++ S13.2.2.2.2 ++ dg (xn (bk_te B 0)) ++ S14.2.2.2.2 ++ dg (xn (bk_te B 1)) ++ S15.2.2.2.2) x))) 20 = pW  x (nI (W ++ S13.2.2.2.2 ++ dg (xn (bk_te B 0)) ++ S14.2.2.2.2 ++ dg (xn (bk_te B 1)) ++ S15.2.2.2.2).length) (gtW (W ++ S13.2.2.2.2 ++ dg (xn (bk_te B 0)) ++ S14.2.2.2.2 ++ dg (xn (bk_te B 1)) ++ S15.2.2.2.2) x) from xw_up_s) (by first | omega | (simp only [List.length_append, List.length_cons, List.length_nil]; omega)) (by omega))) (xw_at xw_up_s rfl) rfl dX5_writeTerms_45 ⟨Nat.le_of_ble_eq_true rfl, Nat.le_of_ble_eq_true rfl⟩ rfl (Nat.le_of_ble_eq_true rfl) rfl rfl ?_
  refine xj_aload_n (i := 0) hk dX5_writeTerms_48 rfl rfl ?_
  refine xj_ldcS hk (q := S16) S16_in rfl dX5_writeTerms_49 ?_
  refine xj_callV hk hz (fr1 := 5) (lo1 := 106) (r1 := none) (As := [.ref (xw_ad v (40 + S16.1) 0)]) (st := []) (st2 := []) (G1 := xw_up G 20 (pW  x (nI (W ++ S13.2.2.2.2 ++ dg (xn (bk_te B 0)) ++ S14.2.2.2.2 ++ dg (xn (bk_te B 1)) ++ S15.2.2.2.2 ++ dg (xn (bk_te B 2)) ++ S16.2.2.2.2).length) (gtW (W ++ S13.2.2.2.2 ++ dg (xn (bk_te B 0)) ++ S14.2.2.2.2 ++ dg (xn (bk_te B 1)) ++ S15.2.2.2.2 ++ dg (xn (bk_te B 2)) ++ S16.2.2.2.2) x))) ml_X5_60 (xk_cg (by rw [xw_up_u] <;> rfl) (c_X5_writeSigns (W := W ++ S13.2.2.2.2 ++ dg (xn (bk_te B 0)) ++ S14.2.2.2.2 ++ dg (xn (bk_te B 1)) ++ S15.2.2.2.2 ++ dg (xn (bk_te B 2))) (q := S16) (show (xw_up G 20 (pW  x (nI (W ++ S13.2.2.2.2 ++ dg (xn (bk_te B 0)) ++ S14.2.2.2.2 ++ dg (xn (bk_te B 1)) ++ S15.2.2.2.2 ++ dg (xn (bk_te B 2))).length) (gtW (W ++ S13.2.2.2.2 ++ dg (xn (bk_te B 0)) ++ S14.2.2.2.2 ++ dg (xn (bk_te B 1)) ++ S15.2.2.2.2 ++ dg (xn (bk_te B 2))) x))) 20 = pW  x (nI (W ++ S13.2.2.2.2 ++ dg (xn (bk_te B 0)) ++ S14.2.2.2.2 ++ dg (xn (bk_te B 1)) ++ S15.2.2.2.2 ++ dg (xn (bk_te B 2))).length) (gtW (W ++ S13.2.2.2.2 ++ dg (xn (bk_te B 0)) ++ S14.2.2.2.2 ++ dg (xn (bk_te B 1)) ++ S15.2.2.2.2 ++ dg (xn (bk_te B 2))) x) from xw_up_s) S16_in (by first | omega | (simp only [List.length_append, List.length_cons, List.length_nil]; omega)))) (xw_at xw_up_s rfl) rfl dX5_writeTerms_51 ⟨Nat.le_of_ble_eq_true rfl, Nat.le_of_ble_eq_true rfl⟩ rfl (Nat.le_of_ble_eq_true rfl) rfl rfl ?_
  refine xj_aload_n (i := 0) hk dX5_writeTerms_54 rfl rfl ?_
  refine xj_aload_n (i := 1) hk dX5_writeTerms_55 rfl rfl ?_
  refine xj_getfield hk dX5_writeTerms_56 fl_X5_64 (xw_at (show (xw_up G 20 (pW  x (nI (W ++ S13.2.2.2.2 ++ dg (xn (bk_te B 0)) ++ S14.2.2.2.2 ++ dg (xn (bk_te B 1)) ++ S15.2.2.2.2 ++ dg (xn (bk_te B 2)) ++ S16.2.2.2.2).length) (gtW (W ++ S13.2.2.2.2 ++ dg (xn (bk_te B 0)) ++ S14.2.2.2.2 ++ dg (xn (bk_te B 1)) ++ S15.2.2.2.2 ++ dg (xn (bk_te B 2)) ++ S16.2.2.2.2) x))) 1 = pc_B v 1 B from by rw [xw_up_n (by decide), g1]) rfl) rfl ?_
  refine xj_iconst (x := 3) hk dX5_writeTerms_59 (by decide) ?_
  refine xj_iaload (k := 3) hk dX5_writeTerms_60 (xw_at (show (xw_up G 20 (pW  x (nI (W ++ S13.2.2.2.2 ++ dg (xn (bk_te B 0)) ++ S14.2.2.2.2 ++ dg (xn (bk_te B 1)) ++ S15.2.2.2.2 ++ dg (xn (bk_te B 2)) ++ S16.2.2.2.2).length) (gtW (W ++ S13.2.2.2.2 ++ dg (xn (bk_te B 0)) ++ S14.2.2.2.2 ++ dg (xn (bk_te B 1)) ++ S15.2.2.2.2 ++ dg (xn (bk_te B 2)) ++ S16.2.2.2.2) x))) 1 = pc_B v 1 B from by rw [xw_up_n (by decide), g1]) rfl) (xi_d 3 7 (by decide)) ?_
  refine xj.eqi (x' := nI (xn (bk_te B 3))) (hv.1 3 (by omega)).1 ?_
  refine xj_callV hk hz (fr1 := 1) (lo1 := 21) (r1 := none) (As := [.int (nI (xn (bk_te B 3)))]) (st := []) (st2 := []) (G1 := xw_up G 20 (pW  x (nI (W ++ S13.2.2.2.2 ++ dg (xn (bk_te B 0)) ++ S14.2.2.2.2 ++ dg (xn (bk_te B 1)) ++ S15.2.2.2.2 ++ dg (xn (bk_te B 2)) ++ S16.2.2.2.2 ++ dg (xn (bk_te B 3))).length) (gtW (W ++ S13.2.2.2.2 ++ dg (xn (bk_te B 0)) ++ S14.2.2.2.2 ++ dg (xn (bk_te B 1)) ++ S15.2.2.2.2 ++ dg (xn (bk_te B 2)) ++ S16.2.2.2.2 ++ dg (xn (bk_te B 3))) x))) ml_X5_67 (xk_cg (by rw [xw_up_u] <;> rfl) (c_X5_writeNumber (W := W ++ S13.2.2.2.2 ++ dg (xn (bk_te B 0)) ++ S14.2.2.2.2 ++ dg (xn (bk_te B 1)) ++ S15.2.2.2.2 ++ dg (xn (bk_te B 2)) ++ S16.2.2.2.2) (m := xn (bk_te B 3)) (show (xw_up G 20 (pW  x (nI (W ++ S13.2.2.2.2 ++ dg (xn (bk_te B 0)) ++ S14.2.2.2.2 ++ dg (xn (bk_te B 1)) ++ S15.2.2.2.2 ++ dg (xn (bk_te B 2)) ++ S16.2.2.2.2).length) (gtW (W ++ S13.2.2.2.2 ++ dg (xn (bk_te B 0)) ++ S14.2.2.2.2 ++ dg (xn (bk_te B 1)) ++ S15.2.2.2.2 ++ dg (xn (bk_te B 2)) ++ S16.2.2.2.2) x))) 20 = pW  x (nI (W ++ S13.2.2.2.2 ++ dg (xn (bk_te B 0)) ++ S14.2.2.2.2 ++ dg (xn (bk_te B 1)) ++ S15.2.2.2.2 ++ dg (xn (bk_te B 2)) ++ S16.2.2.2.2).length) (gtW (W ++ S13.2.2.2.2 ++ dg (xn (bk_te B 0)) ++ S14.2.2.2.2 ++ dg (xn (bk_te B 1)) ++ S15.2.2.2.2 ++ dg (xn (bk_te B 2)) ++ S16.2.2.2.2) x) from xw_up_s) (by first | omega | (simp only [List.length_append, List.length_cons, List.length_nil]; omega)) (by omega))) (xw_at xw_up_s rfl) rfl dX5_writeTerms_61 ⟨Nat.le_of_ble_eq_true rfl, Nat.le_of_ble_eq_true rfl⟩ rfl (Nat.le_of_ble_eq_true rfl) rfl rfl ?_
  refine xj_aload_n (i := 0) hk dX5_writeTerms_64 rfl rfl ?_
  refine xj_ldcS hk (q := S17) S17_in rfl dX5_writeTerms_65 ?_
  refine xj_callV hk hz (fr1 := 5) (lo1 := 106) (r1 := none) (As := [.ref (xw_ad v (40 + S17.1) 0)]) (st := []) (st2 := []) (G1 := xw_up G 20 (pW  x (nI (W ++ S13.2.2.2.2 ++ dg (xn (bk_te B 0)) ++ S14.2.2.2.2 ++ dg (xn (bk_te B 1)) ++ S15.2.2.2.2 ++ dg (xn (bk_te B 2)) ++ S16.2.2.2.2 ++ dg (xn (bk_te B 3)) ++ S17.2.2.2.2).length) (gtW (W ++ S13.2.2.2.2 ++ dg (xn (bk_te B 0)) ++ S14.2.2.2.2 ++ dg (xn (bk_te B 1)) ++ S15.2.2.2.2 ++ dg (xn (bk_te B 2)) ++ S16.2.2.2.2 ++ dg (xn (bk_te B 3)) ++ S17.2.2.2.2) x))) ml_X5_60 (xk_cg (by rw [xw_up_u] <;> rfl) (c_X5_writeSigns (W := W ++ S13.2.2.2.2 ++ dg (xn (bk_te B 0)) ++ S14.2.2.2.2 ++ dg (xn (bk_te B 1)) ++ S15.2.2.2.2 ++ dg (xn (bk_te B 2)) ++ S16.2.2.2.2 ++ dg (xn (bk_te B 3))) (q := S17) (show (xw_up G 20 (pW  x (nI (W ++ S13.2.2.2.2 ++ dg (xn (bk_te B 0)) ++ S14.2.2.2.2 ++ dg (xn (bk_te B 1)) ++ S15.2.2.2.2 ++ dg (xn (bk_te B 2)) ++ S16.2.2.2.2 ++ dg (xn (bk_te B 3))).length) (gtW (W ++ S13.2.2.2.2 ++ dg (xn (bk_te B 0)) ++ S14.2.2.2.2 ++ dg (xn (bk_te B 1)) ++ S15.2.2.2.2 ++ dg (xn (bk_te B 2)) ++ S16.2.2.2.2 ++ dg (xn (bk_te B 3))) x))) 20 = pW  x (nI (W ++ S13.2.2.2.2 ++ dg (xn (bk_te B 0)) ++ S14.2.2.2.2 ++ dg (xn (bk_te B 1)) ++ S15.2.2.2.2 ++ dg (xn (bk_te B 2)) ++ S16.2.2.2.2 ++ dg (xn (bk_te B 3))).length) (gtW (W ++ S13.2.2.2.2 ++ dg (xn (bk_te B 0)) ++ S14.2.2.2.2 ++ dg (xn (bk_te B 1)) ++ S15.2.2.2.2 ++ dg (xn (bk_te B 2)) ++ S16.2.2.2.2 ++ dg (xn (bk_te B 3))) x) from xw_up_s) S17_in (by first | omega | (simp only [List.length_append, List.length_cons, List.length_nil]; omega)))) (xw_at xw_up_s rfl) rfl dX5_writeTerms_67 ⟨Nat.le_of_ble_eq_true rfl, Nat.le_of_ble_eq_true rfl⟩ rfl (Nat.le_of_ble_eq_true rfl) rfl rfl ?_
  refine xj_aload_n (i := 0) hk dX5_writeTerms_70 rfl rfl ?_
  refine xj_aload_n (i := 1) hk dX5_writeTerms_71 rfl rfl ?_
  refine xj_getfield hk dX5_writeTerms_72 fl_X5_64 (xw_at (show (xw_up G 20 (pW  x (nI (W ++ S13.2.2.2.2 ++ dg (xn (bk_te B 0)) ++ S14.2.2.2.2 ++ dg (xn (bk_te B 1)) ++ S15.2.2.2.2 ++ dg (xn (bk_te B 2)) ++ S16.2.2.2.2 ++ dg (xn (bk_te B 3)) ++ S17.2.2.2.2).length) (gtW (W ++ S13.2.2.2.2 ++ dg (xn (bk_te B 0)) ++ S14.2.2.2.2 ++ dg (xn (bk_te B 1)) ++ S15.2.2.2.2 ++ dg (xn (bk_te B 2)) ++ S16.2.2.2.2 ++ dg (xn (bk_te B 3)) ++ S17.2.2.2.2) x))) 1 = pc_B v 1 B from by rw [xw_up_n (by decide), g1]) rfl) rfl ?_
  refine xj_iconst (x := 4) hk dX5_writeTerms_75 (by decide) ?_
  refine xj_iaload (k := 4) hk dX5_writeTerms_76 (xw_at (show (xw_up G 20 (pW  x (nI (W ++ S13.2.2.2.2 ++ dg (xn (bk_te B 0)) ++ S14.2.2.2.2 ++ dg (xn (bk_te B 1)) ++ S15.2.2.2.2 ++ dg (xn (bk_te B 2)) ++ S16.2.2.2.2 ++ dg (xn (bk_te B 3)) ++ S17.2.2.2.2).length) (gtW (W ++ S13.2.2.2.2 ++ dg (xn (bk_te B 0)) ++ S14.2.2.2.2 ++ dg (xn (bk_te B 1)) ++ S15.2.2.2.2 ++ dg (xn (bk_te B 2)) ++ S16.2.2.2.2 ++ dg (xn (bk_te B 3)) ++ S17.2.2.2.2) x))) 1 = pc_B v 1 B from by rw [xw_up_n (by decide), g1]) rfl) (xi_d 4 7 (by decide)) ?_
  refine xj.eqi (x' := nI (xn (bk_te B 4))) (hv.1 4 (by omega)).1 ?_
  refine xj_callV hk hz (fr1 := 1) (lo1 := 21) (r1 := none) (As := [.int (nI (xn (bk_te B 4)))]) (st := []) (st2 := []) (G1 := xw_up G 20 (pW  x (nI (W ++ S13.2.2.2.2 ++ dg (xn (bk_te B 0)) ++ S14.2.2.2.2 ++ dg (xn (bk_te B 1)) ++ S15.2.2.2.2 ++ dg (xn (bk_te B 2)) ++ S16.2.2.2.2 ++ dg (xn (bk_te B 3)) ++ S17.2.2.2.2 ++ dg (xn (bk_te B 4))).length) (gtW (W ++ S13.2.2.2.2 ++ dg (xn (bk_te B 0)) ++ S14.2.2.2.2 ++ dg (xn (bk_te B 1)) ++ S15.2.2.2.2 ++ dg (xn (bk_te B 2)) ++ S16.2.2.2.2 ++ dg (xn (bk_te B 3)) ++ S17.2.2.2.2 ++ dg (xn (bk_te B 4))) x))) ml_X5_67 (xk_cg (by rw [xw_up_u] <;> rfl) (c_X5_writeNumber (W := W ++ S13.2.2.2.2 ++ dg (xn (bk_te B 0)) ++ S14.2.2.2.2 ++ dg (xn (bk_te B 1)) ++ S15.2.2.2.2 ++ dg (xn (bk_te B 2)) ++ S16.2.2.2.2 ++ dg (xn (bk_te B 3)) ++ S17.2.2.2.2) (m := xn (bk_te B 4)) (show (xw_up G 20 (pW  x (nI (W ++ S13.2.2.2.2 ++ dg (xn (bk_te B 0)) ++ S14.2.2.2.2 ++ dg (xn (bk_te B 1)) ++ S15.2.2.2.2 ++ dg (xn (bk_te B 2)) ++ S16.2.2.2.2 ++ dg (xn (bk_te B 3)) ++ S17.2.2.2.2).length) (gtW (W ++ S13.2.2.2.2 ++ dg (xn (bk_te B 0)) ++ S14.2.2.2.2 ++ dg (xn (bk_te B 1)) ++ S15.2.2.2.2 ++ dg (xn (bk_te B 2)) ++ S16.2.2.2.2 ++ dg (xn (bk_te B 3)) ++ S17.2.2.2.2) x))) 20 = pW  x (nI (W ++ S13.2.2.2.2 ++ dg (xn (bk_te B 0)) ++ S14.2.2.2.2 ++ dg (xn (bk_te B 1)) ++ S15.2.2.2.2 ++ dg (xn (bk_te B 2)) ++ S16.2.2.2.2 ++ dg (xn (bk_te B 3)) ++ S17.2.2.2.2).length) (gtW (W ++ S13.2.2.2.2 ++ dg (xn (bk_te B 0)) ++ S14.2.2.2.2 ++ dg (xn (bk_te B 1)) ++ S15.2.2.2.2 ++ dg (xn (bk_te B 2)) ++ S16.2.2.2.2 ++ dg (xn (bk_te B 3)) ++ S17.2.2.2.2) x) from xw_up_s) (by first | omega | (simp only [List.length_append, List.length_cons, List.length_nil]; omega)) (by omega))) (xw_at xw_up_s rfl) rfl dX5_writeTerms_77 ⟨Nat.le_of_ble_eq_true rfl, Nat.le_of_ble_eq_true rfl⟩ rfl (Nat.le_of_ble_eq_true rfl) rfl rfl ?_
  refine xj_aload_n (i := 0) hk dX5_writeTerms_80 rfl rfl ?_
  refine xj_ldcS hk (q := S18) S18_in rfl dX5_writeTerms_81 ?_
  refine xj_callV hk hz (fr1 := 5) (lo1 := 106) (r1 := none) (As := [.ref (xw_ad v (40 + S18.1) 0)]) (st := []) (st2 := []) (G1 := xw_up G 20 (pW  x (nI (W ++ S13.2.2.2.2 ++ dg (xn (bk_te B 0)) ++ S14.2.2.2.2 ++ dg (xn (bk_te B 1)) ++ S15.2.2.2.2 ++ dg (xn (bk_te B 2)) ++ S16.2.2.2.2 ++ dg (xn (bk_te B 3)) ++ S17.2.2.2.2 ++ dg (xn (bk_te B 4)) ++ S18.2.2.2.2).length) (gtW (W ++ S13.2.2.2.2 ++ dg (xn (bk_te B 0)) ++ S14.2.2.2.2 ++ dg (xn (bk_te B 1)) ++ S15.2.2.2.2 ++ dg (xn (bk_te B 2)) ++ S16.2.2.2.2 ++ dg (xn (bk_te B 3)) ++ S17.2.2.2.2 ++ dg (xn (bk_te B 4)) ++ S18.2.2.2.2) x))) ml_X5_60 (xk_cg (by rw [xw_up_u] <;> rfl) (c_X5_writeSigns (W := W ++ S13.2.2.2.2 ++ dg (xn (bk_te B 0)) ++ S14.2.2.2.2 ++ dg (xn (bk_te B 1)) ++ S15.2.2.2.2 ++ dg (xn (bk_te B 2)) ++ S16.2.2.2.2 ++ dg (xn (bk_te B 3)) ++ S17.2.2.2.2 ++ dg (xn (bk_te B 4))) (q := S18) (show (xw_up G 20 (pW  x (nI (W ++ S13.2.2.2.2 ++ dg (xn (bk_te B 0)) ++ S14.2.2.2.2 ++ dg (xn (bk_te B 1)) ++ S15.2.2.2.2 ++ dg (xn (bk_te B 2)) ++ S16.2.2.2.2 ++ dg (xn (bk_te B 3)) ++ S17.2.2.2.2 ++ dg (xn (bk_te B 4))).length) (gtW (W ++ S13.2.2.2.2 ++ dg (xn (bk_te B 0)) ++ S14.2.2.2.2 ++ dg (xn (bk_te B 1)) ++ S15.2.2.2.2 ++ dg (xn (bk_te B 2)) ++ S16.2.2.2.2 ++ dg (xn (bk_te B 3)) ++ S17.2.2.2.2 ++ dg (xn (bk_te B 4))) x))) 20 = pW  x (nI (W ++ S13.2.2.2.2 ++ dg (xn (bk_te B 0)) ++ S14.2.2.2.2 ++ dg (xn (bk_te B 1)) ++ S15.2.2.2.2 ++ dg (xn (bk_te B 2)) ++ S16.2.2.2.2 ++ dg (xn (bk_te B 3)) ++ S17.2.2.2.2 ++ dg (xn (bk_te B 4))).length) (gtW (W ++ S13.2.2.2.2 ++ dg (xn (bk_te B 0)) ++ S14.2.2.2.2 ++ dg (xn (bk_te B 1)) ++ S15.2.2.2.2 ++ dg (xn (bk_te B 2)) ++ S16.2.2.2.2 ++ dg (xn (bk_te B 3)) ++ S17.2.2.2.2 ++ dg (xn (bk_te B 4))) x) from xw_up_s) S18_in (by first | omega | (simp only [List.length_append, List.length_cons, List.length_nil]; omega)))) (xw_at xw_up_s rfl) rfl dX5_writeTerms_83 ⟨Nat.le_of_ble_eq_true rfl, Nat.le_of_ble_eq_true rfl⟩ rfl (Nat.le_of_ble_eq_true rfl) rfl rfl ?_
  refine xj_aload_n (i := 0) hk dX5_writeTerms_86 rfl rfl ?_
  refine xj_aload_n (i := 1) hk dX5_writeTerms_87 rfl rfl ?_
  refine xj_getfield hk dX5_writeTerms_88 fl_X5_64 (xw_at (show (xw_up G 20 (pW  x (nI (W ++ S13.2.2.2.2 ++ dg (xn (bk_te B 0)) ++ S14.2.2.2.2 ++ dg (xn (bk_te B 1)) ++ S15.2.2.2.2 ++ dg (xn (bk_te B 2)) ++ S16.2.2.2.2 ++ dg (xn (bk_te B 3)) ++ S17.2.2.2.2 ++ dg (xn (bk_te B 4)) ++ S18.2.2.2.2).length) (gtW (W ++ S13.2.2.2.2 ++ dg (xn (bk_te B 0)) ++ S14.2.2.2.2 ++ dg (xn (bk_te B 1)) ++ S15.2.2.2.2 ++ dg (xn (bk_te B 2)) ++ S16.2.2.2.2 ++ dg (xn (bk_te B 3)) ++ S17.2.2.2.2 ++ dg (xn (bk_te B 4)) ++ S18.2.2.2.2) x))) 1 = pc_B v 1 B from by rw [xw_up_n (by decide), g1]) rfl) rfl ?_
  refine xj_iconst (x := 5) hk dX5_writeTerms_91 (by decide) ?_
  refine xj_iaload (k := 5) hk dX5_writeTerms_92 (xw_at (show (xw_up G 20 (pW  x (nI (W ++ S13.2.2.2.2 ++ dg (xn (bk_te B 0)) ++ S14.2.2.2.2 ++ dg (xn (bk_te B 1)) ++ S15.2.2.2.2 ++ dg (xn (bk_te B 2)) ++ S16.2.2.2.2 ++ dg (xn (bk_te B 3)) ++ S17.2.2.2.2 ++ dg (xn (bk_te B 4)) ++ S18.2.2.2.2).length) (gtW (W ++ S13.2.2.2.2 ++ dg (xn (bk_te B 0)) ++ S14.2.2.2.2 ++ dg (xn (bk_te B 1)) ++ S15.2.2.2.2 ++ dg (xn (bk_te B 2)) ++ S16.2.2.2.2 ++ dg (xn (bk_te B 3)) ++ S17.2.2.2.2 ++ dg (xn (bk_te B 4)) ++ S18.2.2.2.2) x))) 1 = pc_B v 1 B from by rw [xw_up_n (by decide), g1]) rfl) (xi_d 5 7 (by decide)) ?_
  refine xj.eqi (x' := nI (xn (bk_te B 5))) (hv.1 5 (by omega)).1 ?_
  refine xj_callV hk hz (fr1 := 1) (lo1 := 21) (r1 := none) (As := [.int (nI (xn (bk_te B 5)))]) (st := []) (st2 := []) (G1 := xw_up G 20 (pW  x (nI (W ++ S13.2.2.2.2 ++ dg (xn (bk_te B 0)) ++ S14.2.2.2.2 ++ dg (xn (bk_te B 1)) ++ S15.2.2.2.2 ++ dg (xn (bk_te B 2)) ++ S16.2.2.2.2 ++ dg (xn (bk_te B 3)) ++ S17.2.2.2.2 ++ dg (xn (bk_te B 4)) ++ S18.2.2.2.2 ++ dg (xn (bk_te B 5))).length) (gtW (W ++ S13.2.2.2.2 ++ dg (xn (bk_te B 0)) ++ S14.2.2.2.2 ++ dg (xn (bk_te B 1)) ++ S15.2.2.2.2 ++ dg (xn (bk_te B 2)) ++ S16.2.2.2.2 ++ dg (xn (bk_te B 3)) ++ S17.2.2.2.2 ++ dg (xn (bk_te B 4)) ++ S18.2.2.2.2 ++ dg (xn (bk_te B 5))) x))) ml_X5_67 (xk_cg (by rw [xw_up_u] <;> rfl) (c_X5_writeNumber (W := W ++ S13.2.2.2.2 ++ dg (xn (bk_te B 0)) ++ S14.2.2.2.2 ++ dg (xn (bk_te B 1)) ++ S15.2.2.2.2 ++ dg (xn (bk_te B 2)) ++ S16.2.2.2.2 ++ dg (xn (bk_te B 3)) ++ S17.2.2.2.2 ++ dg (xn (bk_te B 4)) ++ S18.2.2.2.2) (m := xn (bk_te B 5)) (show (xw_up G 20 (pW  x (nI (W ++ S13.2.2.2.2 ++ dg (xn (bk_te B 0)) ++ S14.2.2.2.2 ++ dg (xn (bk_te B 1)) ++ S15.2.2.2.2 ++ dg (xn (bk_te B 2)) ++ S16.2.2.2.2 ++ dg (xn (bk_te B 3)) ++ S17.2.2.2.2 ++ dg (xn (bk_te B 4)) ++ S18.2.2.2.2).length) (gtW (W ++ S13.2.2.2.2 ++ dg (xn (bk_te B 0)) ++ S14.2.2.2.2 ++ dg (xn (bk_te B 1)) ++ S15.2.2.2.2 ++ dg (xn (bk_te B 2)) ++ S16.2.2.2.2 ++ dg (xn (bk_te B 3)) ++ S17.2.2.2.2 ++ dg (xn (bk_te B 4)) ++ S18.2.2.2.2) x))) 20 = pW  x (nI (W ++ S13.2.2.2.2 ++ dg (xn (bk_te B 0)) ++ S14.2.2.2.2 ++ dg (xn (bk_te B 1)) ++ S15.2.2.2.2 ++ dg (xn (bk_te B 2)) ++ S16.2.2.2.2 ++ dg (xn (bk_te B 3)) ++ S17.2.2.2.2 ++ dg (xn (bk_te B 4)) ++ S18.2.2.2.2).length) (gtW (W ++ S13.2.2.2.2 ++ dg (xn (bk_te B 0)) ++ S14.2.2.2.2 ++ dg (xn (bk_te B 1)) ++ S15.2.2.2.2 ++ dg (xn (bk_te B 2)) ++ S16.2.2.2.2 ++ dg (xn (bk_te B 3)) ++ S17.2.2.2.2 ++ dg (xn (bk_te B 4)) ++ S18.2.2.2.2) x) from xw_up_s) (by first | omega | (simp only [List.length_append, List.length_cons, List.length_nil]; omega)) (by omega))) (xw_at xw_up_s rfl) rfl dX5_writeTerms_93 ⟨Nat.le_of_ble_eq_true rfl, Nat.le_of_ble_eq_true rfl⟩ rfl (Nat.le_of_ble_eq_true rfl) rfl rfl ?_
  refine xj_aload_n (i := 0) hk dX5_writeTerms_96 rfl rfl ?_
  refine xj_aload_n (i := 1) hk dX5_writeTerms_97 rfl rfl ?_
  refine xj_getfield hk dX5_writeTerms_98 fl_X5_64 (xw_at (show (xw_up G 20 (pW  x (nI (W ++ S13.2.2.2.2 ++ dg (xn (bk_te B 0)) ++ S14.2.2.2.2 ++ dg (xn (bk_te B 1)) ++ S15.2.2.2.2 ++ dg (xn (bk_te B 2)) ++ S16.2.2.2.2 ++ dg (xn (bk_te B 3)) ++ S17.2.2.2.2 ++ dg (xn (bk_te B 4)) ++ S18.2.2.2.2 ++ dg (xn (bk_te B 5))).length) (gtW (W ++ S13.2.2.2.2 ++ dg (xn (bk_te B 0)) ++ S14.2.2.2.2 ++ dg (xn (bk_te B 1)) ++ S15.2.2.2.2 ++ dg (xn (bk_te B 2)) ++ S16.2.2.2.2 ++ dg (xn (bk_te B 3)) ++ S17.2.2.2.2 ++ dg (xn (bk_te B 4)) ++ S18.2.2.2.2 ++ dg (xn (bk_te B 5))) x))) 1 = pc_B v 1 B from by rw [xw_up_n (by decide), g1]) rfl) rfl ?_
  refine xj_bipush (x := 6) hk dX5_writeTerms_101 (by decide) ?_
  refine xj_iaload (k := 6) hk dX5_writeTerms_103 (xw_at (show (xw_up G 20 (pW  x (nI (W ++ S13.2.2.2.2 ++ dg (xn (bk_te B 0)) ++ S14.2.2.2.2 ++ dg (xn (bk_te B 1)) ++ S15.2.2.2.2 ++ dg (xn (bk_te B 2)) ++ S16.2.2.2.2 ++ dg (xn (bk_te B 3)) ++ S17.2.2.2.2 ++ dg (xn (bk_te B 4)) ++ S18.2.2.2.2 ++ dg (xn (bk_te B 5))).length) (gtW (W ++ S13.2.2.2.2 ++ dg (xn (bk_te B 0)) ++ S14.2.2.2.2 ++ dg (xn (bk_te B 1)) ++ S15.2.2.2.2 ++ dg (xn (bk_te B 2)) ++ S16.2.2.2.2 ++ dg (xn (bk_te B 3)) ++ S17.2.2.2.2 ++ dg (xn (bk_te B 4)) ++ S18.2.2.2.2 ++ dg (xn (bk_te B 5))) x))) 1 = pc_B v 1 B from by rw [xw_up_n (by decide), g1]) rfl) (xi_d 6 7 (by decide)) ?_
  refine xj_iconst (x := 1) hk dX5_writeTerms_104 (by decide) ?_
  refine xj_icmp_ne (tgt := 113) hk dX5_writeTerms_105 (by decide) (fun c105 => ?_) (fun c105 => ?_)
  · refine xj_ldcS hk (q := S20) S20_in rfl dX5_writeTerms_113 ?_
    refine xj_callV hk hz (fr1 := 5) (lo1 := 106) (r1 := none) (As := [.ref (xw_ad v (40 + S20.1) 0)]) (st := []) (st2 := []) (G1 := xw_up G 20 (pW  x (nI (W ++ S13.2.2.2.2 ++ dg (xn (bk_te B 0)) ++ S14.2.2.2.2 ++ dg (xn (bk_te B 1)) ++ S15.2.2.2.2 ++ dg (xn (bk_te B 2)) ++ S16.2.2.2.2 ++ dg (xn (bk_te B 3)) ++ S17.2.2.2.2 ++ dg (xn (bk_te B 4)) ++ S18.2.2.2.2 ++ dg (xn (bk_te B 5)) ++ S20.2.2.2.2).length) (gtW (W ++ S13.2.2.2.2 ++ dg (xn (bk_te B 0)) ++ S14.2.2.2.2 ++ dg (xn (bk_te B 1)) ++ S15.2.2.2.2 ++ dg (xn (bk_te B 2)) ++ S16.2.2.2.2 ++ dg (xn (bk_te B 3)) ++ S17.2.2.2.2 ++ dg (xn (bk_te B 4)) ++ S18.2.2.2.2 ++ dg (xn (bk_te B 5)) ++ S20.2.2.2.2) x))) ml_X5_60 (xk_cg (by rw [xw_up_u] <;> rfl) (c_X5_writeSigns (W := W ++ S13.2.2.2.2 ++ dg (xn (bk_te B 0)) ++ S14.2.2.2.2 ++ dg (xn (bk_te B 1)) ++ S15.2.2.2.2 ++ dg (xn (bk_te B 2)) ++ S16.2.2.2.2 ++ dg (xn (bk_te B 3)) ++ S17.2.2.2.2 ++ dg (xn (bk_te B 4)) ++ S18.2.2.2.2 ++ dg (xn (bk_te B 5))) (q := S20) (show (xw_up G 20 (pW  x (nI (W ++ S13.2.2.2.2 ++ dg (xn (bk_te B 0)) ++ S14.2.2.2.2 ++ dg (xn (bk_te B 1)) ++ S15.2.2.2.2 ++ dg (xn (bk_te B 2)) ++ S16.2.2.2.2 ++ dg (xn (bk_te B 3)) ++ S17.2.2.2.2 ++ dg (xn (bk_te B 4)) ++ S18.2.2.2.2 ++ dg (xn (bk_te B 5))).length) (gtW (W ++ S13.2.2.2.2 ++ dg (xn (bk_te B 0)) ++ S14.2.2.2.2 ++ dg (xn (bk_te B 1)) ++ S15.2.2.2.2 ++ dg (xn (bk_te B 2)) ++ S16.2.2.2.2 ++ dg (xn (bk_te B 3)) ++ S17.2.2.2.2 ++ dg (xn (bk_te B 4)) ++ S18.2.2.2.2 ++ dg (xn (bk_te B 5))) x))) 20 = pW  x (nI (W ++ S13.2.2.2.2 ++ dg (xn (bk_te B 0)) ++ S14.2.2.2.2 ++ dg (xn (bk_te B 1)) ++ S15.2.2.2.2 ++ dg (xn (bk_te B 2)) ++ S16.2.2.2.2 ++ dg (xn (bk_te B 3)) ++ S17.2.2.2.2 ++ dg (xn (bk_te B 4)) ++ S18.2.2.2.2 ++ dg (xn (bk_te B 5))).length) (gtW (W ++ S13.2.2.2.2 ++ dg (xn (bk_te B 0)) ++ S14.2.2.2.2 ++ dg (xn (bk_te B 1)) ++ S15.2.2.2.2 ++ dg (xn (bk_te B 2)) ++ S16.2.2.2.2 ++ dg (xn (bk_te B 3)) ++ S17.2.2.2.2 ++ dg (xn (bk_te B 4)) ++ S18.2.2.2.2 ++ dg (xn (bk_te B 5))) x) from xw_up_s) S20_in (by first | omega | (simp only [List.length_append, List.length_cons, List.length_nil]; omega)))) (xw_at xw_up_s rfl) rfl dX5_writeTerms_115 ⟨Nat.le_of_ble_eq_true rfl, Nat.le_of_ble_eq_true rfl⟩ rfl (Nat.le_of_ble_eq_true rfl) rfl rfl ?_
    refine xj_return hk hz dX5_writeTerms_118 ?_
    refine ⟨rfl, ?_⟩
    simp only [tT]
    first | (rw [if_pos c105]; simp only [List.append_assoc, sx0, sx1, sx2, sx3, sx4, sx5, sx6, sx7, sx8, sx9, sx10, sx11, sx12, sx13, sx14, sx15, sx16, sx17, sx18, sx19, sx20, sx21, sx22, sx23, sx24, sx25, sx26, sx27]) | (rw [if_neg c105]; simp only [List.append_assoc, sx0, sx1, sx2, sx3, sx4, sx5, sx6, sx7, sx8, sx9, sx10, sx11, sx12, sx13, sx14, sx15, sx16, sx17, sx18, sx19, sx20, sx21, sx22, sx23, sx24, sx25, sx26, sx27])
  · refine xj_ldcS hk (q := S19) S19_in rfl dX5_writeTerms_108 ?_
    refine xj_goto (tgt := 115) hk dX5_writeTerms_110 (by decide) ?_
    refine xj_callV hk hz (fr1 := 5) (lo1 := 106) (r1 := none) (As := [.ref (xw_ad v (40 + S19.1) 0)]) (st := []) (st2 := []) (G1 := xw_up G 20 (pW  x (nI (W ++ S13.2.2.2.2 ++ dg (xn (bk_te B 0)) ++ S14.2.2.2.2 ++ dg (xn (bk_te B 1)) ++ S15.2.2.2.2 ++ dg (xn (bk_te B 2)) ++ S16.2.2.2.2 ++ dg (xn (bk_te B 3)) ++ S17.2.2.2.2 ++ dg (xn (bk_te B 4)) ++ S18.2.2.2.2 ++ dg (xn (bk_te B 5)) ++ S19.2.2.2.2).length) (gtW (W ++ S13.2.2.2.2 ++ dg (xn (bk_te B 0)) ++ S14.2.2.2.2 ++ dg (xn (bk_te B 1)) ++ S15.2.2.2.2 ++ dg (xn (bk_te B 2)) ++ S16.2.2.2.2 ++ dg (xn (bk_te B 3)) ++ S17.2.2.2.2 ++ dg (xn (bk_te B 4)) ++ S18.2.2.2.2 ++ dg (xn (bk_te B 5)) ++ S19.2.2.2.2) x))) ml_X5_60 (xk_cg (by rw [xw_up_u] <;> rfl) (c_X5_writeSigns (W := W ++ S13.2.2.2.2 ++ dg (xn (bk_te B 0)) ++ S14.2.2.2.2 ++ dg (xn (bk_te B 1)) ++ S15.2.2.2.2 ++ dg (xn (bk_te B 2)) ++ S16.2.2.2.2 ++ dg (xn (bk_te B 3)) ++ S17.2.2.2.2 ++ dg (xn (bk_te B 4)) ++ S18.2.2.2.2 ++ dg (xn (bk_te B 5))) (q := S19) (show (xw_up G 20 (pW  x (nI (W ++ S13.2.2.2.2 ++ dg (xn (bk_te B 0)) ++ S14.2.2.2.2 ++ dg (xn (bk_te B 1)) ++ S15.2.2.2.2 ++ dg (xn (bk_te B 2)) ++ S16.2.2.2.2 ++ dg (xn (bk_te B 3)) ++ S17.2.2.2.2 ++ dg (xn (bk_te B 4)) ++ S18.2.2.2.2 ++ dg (xn (bk_te B 5))).length) (gtW (W ++ S13.2.2.2.2 ++ dg (xn (bk_te B 0)) ++ S14.2.2.2.2 ++ dg (xn (bk_te B 1)) ++ S15.2.2.2.2 ++ dg (xn (bk_te B 2)) ++ S16.2.2.2.2 ++ dg (xn (bk_te B 3)) ++ S17.2.2.2.2 ++ dg (xn (bk_te B 4)) ++ S18.2.2.2.2 ++ dg (xn (bk_te B 5))) x))) 20 = pW  x (nI (W ++ S13.2.2.2.2 ++ dg (xn (bk_te B 0)) ++ S14.2.2.2.2 ++ dg (xn (bk_te B 1)) ++ S15.2.2.2.2 ++ dg (xn (bk_te B 2)) ++ S16.2.2.2.2 ++ dg (xn (bk_te B 3)) ++ S17.2.2.2.2 ++ dg (xn (bk_te B 4)) ++ S18.2.2.2.2 ++ dg (xn (bk_te B 5))).length) (gtW (W ++ S13.2.2.2.2 ++ dg (xn (bk_te B 0)) ++ S14.2.2.2.2 ++ dg (xn (bk_te B 1)) ++ S15.2.2.2.2 ++ dg (xn (bk_te B 2)) ++ S16.2.2.2.2 ++ dg (xn (bk_te B 3)) ++ S17.2.2.2.2 ++ dg (xn (bk_te B 4)) ++ S18.2.2.2.2 ++ dg (xn (bk_te B 5))) x) from xw_up_s) S19_in (by first | omega | (simp only [List.length_append, List.length_cons, List.length_nil]; omega)))) (xw_at xw_up_s rfl) rfl dX5_writeTerms_115 ⟨Nat.le_of_ble_eq_true rfl, Nat.le_of_ble_eq_true rfl⟩ rfl (Nat.le_of_ble_eq_true rfl) rfl rfl ?_
    refine xj_return hk hz dX5_writeTerms_118 ?_
    refine ⟨rfl, ?_⟩
    simp only [tT]
    first | (rw [if_pos c105]; simp only [List.append_assoc, sx0, sx1, sx2, sx3, sx4, sx5, sx6, sx7, sx8, sx9, sx10, sx11, sx12, sx13, sx14, sx15, sx16, sx17, sx18, sx19, sx20, sx21, sx22, sx23, sx24, sx25, sx26, sx27]) | (rw [if_neg c105]; simp only [List.append_assoc, sx0, sx1, sx2, sx3, sx4, sx5, sx6, sx7, sx8, sx9, sx10, sx11, sx12, sx13, sx14, sx15, sx16, sx17, sx18, sx19, sx20, sx21, sx22, sx23, sx24, sx25, sx26, sx27])

theorem tP_len (w : List Int32) (a b : Nat) : (tP w a b).length ≤ w.length + 12 := by
  have := dg_len a
  have := dg_len b
  simp only [tP, List.length_append, List.length_cons, List.length_nil]
  omega
theorem tB_len (h : Nat) (r : Int32) (l : Nat) : (tB h r l).length ≤ 30 := by
  have := dg_len h
  have := dg_len l
  have := dg_len (xn r)
  simp only [tB, List.length_append, List.length_cons, List.length_nil]
  split <;> simp <;> omega
theorem tT_len (te : Nat → Int32) : (tT te).length ≤ 100 := by
  have := dg_len (xn (te 0))
  have := dg_len (xn (te 1))
  have := dg_len (xn (te 2))
  have := dg_len (xn (te 3))
  have := dg_len (xn (te 4))
  have := dg_len (xn (te 5))
  simp only [tT, List.length_append, List.length_cons, List.length_nil]
  split <;> simp <;> omega
theorem tH_len (ho : Nat → Int32) : ∀ h, (tH ho h).length ≤ 20 * h
  | 0 => Nat.le_refl 0
  | h + 1 => by
    have := tH_len ho h
    have := tP_len [104, 111, 108, 100, 115, 32] h (xn (ho h))
    simp only [tH, List.length_append]
    split <;> simp at * <;> omega
theorem tO_len (ow : Nat → Int32) : ∀ h, (tO ow h).length ≤ 20 * h
  | 0 => Nat.le_refl 0
  | h + 1 => by
    have := tO_len ow h
    have := tP_len [111, 119, 110, 101, 114, 32] h (xn (ow h))
    simp only [tO, List.length_append]
    split <;> simp at * <;> omega
theorem tD_len (hs ra lo : Nat → Int32) : ∀ b, (tD hs ra lo b).length ≤ 30 * b
  | 0 => Nat.le_refl 0
  | b + 1 => by
    have := tD_len hs ra lo b
    have := tB_len (xn (hs b)) (ra b) (xn (lo b))
    simp only [tD, List.length_append]
    omega
set_option maxHeartbeats 1000000 in
set_option maxRecDepth 10000 in
theorem l_X5_write_23 {v : xw_V} {κ : xk_K} {post : Option Value → xw_G → Prop} {z : Nat × Nat × Nat} {G : xw_G} {W : List Int32} {x : Int32} {B : bk_T} {n : Nat} (hk : xk_Ok v κ yX5_write cX5_write 4 none 7 151) (hz : xk_zf κ = z) (g1 : G 1 = pc_B v 1 B) (g20 : G 20 = pW  x (nI (W).length) (gtW (W) x)) (hl : W.length < 10000) (hn30 : n ≤ 30) (hbn : bk_bi B = nI n) (hv : vN (bk_te B) (bk_ho B) (bk_ow B) (bk_hs B) (bk_ra B) (bk_lo B) n) (kx : xj v κ post z (xw_up G 20 (pW  x (nI (W ++ tH (bk_ho B) 8).length) (gtW (W ++ tH (bk_ho B) 8) x))) 57 [some (.ref (xw_ad v 20 0)), some (.ref (xw_ad v 1 0)), some (.int x), some (.int (nI 8))] []) : ∀ (m : Nat) (k : Nat), 8 - k < m → k ≤ 8 → xj v κ post z (xw_up G 20 (pW  x (nI (W ++ tH (bk_ho B) k).length) (gtW (W ++ tH (bk_ho B) k) x))) 23 [some (.ref (xw_ad v 20 0)), some (.ref (xw_ad v 1 0)), some (.int x), some (.int (nI k))] [] := by
  intro m
  induction m with
  | zero => intro k h; exact absurd h (Nat.not_lt_zero _)
  | succ m ih =>
    intro k hm hi
    refine xj_iload_n (i := 3) hk dX5_write_23 rfl rfl ?_
    refine xj_bipush (x := 8) hk dX5_write_24 (by decide) ?_
    refine xj_icmp_ge (tgt := 57) hk dX5_write_26 (by decide) (fun c26 => ?_) (fun c26 => ?_)
    · have c26 : 8 ≤ k := (nI_leI (a := 8) (b := k) (by omega) (by omega)).mp c26
      have e9 : k = 8 := by omega
      subst e9
      exact kx
    · have c26 : ¬ 8 ≤ k := fun q => c26 ((nI_leI (a := 8) (b := k) (by omega) (by omega)).mpr q)
      have hv9 := hv.2.1 k (by omega)
      have hp9 := hv9.1.2
      have hp8 := hv9.2.2
      have hlen := tH_len (bk_ho B) k
      refine xj_aload_n (i := 1) hk dX5_write_29 rfl rfl ?_
      refine xj_getfield hk dX5_write_30 fl_X5_25 (xw_at (show (xw_up G 20 (pW  x (nI (W ++ tH (bk_ho B) k).length) (gtW (W ++ tH (bk_ho B) k) x))) 1 = pc_B v 1 B from by rw [xw_up_n (by decide), g1]) rfl) rfl ?_
      refine xj_iload_n (i := 3) hk dX5_write_33 rfl rfl ?_
      refine xj_iaload (k := k) hk dX5_write_34 (xw_at (show (xw_up G 20 (pW  x (nI (W ++ tH (bk_ho B) k).length) (gtW (W ++ tH (bk_ho B) k) x))) 1 = pc_B v 1 B from by rw [xw_up_n (by decide), g1]) rfl) (xi_n (by omega) (by decide)) ?_
      refine xj_if_eq (tgt := 51) hk dX5_write_35 (by decide) (fun c35 => ?_) (fun c35 => ?_)
      · refine xj_iinc (i := 3) (x2 := nI (k + 1)) (ls2 := [some (.ref (xw_ad v 20 0)), some (.ref (xw_ad v 1 0)), some (.int x), some (.int (nI (k + 1)))]) hk dX5_write_51 rfl (nI_1 k) (by decide) rfl rfl ?_
        refine xj_goto (tgt := 23) hk dX5_write_54 (by decide) ?_
        refine xj.eqG (G' := xw_up G 20 (pW  x (nI (W ++ tH (bk_ho B) ((k + 1))).length) (gtW (W ++ tH (bk_ho B) ((k + 1))) x))) (by simp only [tH]; rw [if_pos c35, List.append_nil]) (ih (k + 1) (by omega) (by omega))
      · refine xj_aload_n (i := 0) hk dX5_write_38 rfl rfl ?_
        refine xj_ldcS hk (q := S21) S21_in rfl dX5_write_39 ?_
        refine xj_iload_n (i := 3) hk dX5_write_41 rfl rfl ?_
        refine xj_aload_n (i := 1) hk dX5_write_42 rfl rfl ?_
        refine xj_getfield hk dX5_write_43 fl_X5_25 (xw_at (show (xw_up G 20 (pW  x (nI (W ++ tH (bk_ho B) k).length) (gtW (W ++ tH (bk_ho B) k) x))) 1 = pc_B v 1 B from by rw [xw_up_n (by decide), g1]) rfl) rfl ?_
        refine xj_iload_n (i := 3) hk dX5_write_46 rfl rfl ?_
        refine xj_iaload (k := k) hk dX5_write_47 (xw_at (show (xw_up G 20 (pW  x (nI (W ++ tH (bk_ho B) k).length) (gtW (W ++ tH (bk_ho B) k) x))) 1 = pc_B v 1 B from by rw [xw_up_n (by decide), g1]) rfl) (xi_n (by omega) (by decide)) ?_
        refine xj.eqi (x' := nI (xn (bk_ho B k))) hv9.1.1 ?_
        refine xj_callV hk hz (fr1 := 6) (lo1 := 128) (r1 := none) (As := [.ref (xw_ad v (40 + S21.1) 0), .int (nI k), .int (nI (xn (bk_ho B k)))]) (st := []) (st2 := []) (G1 := xw_up G 20 (pW  x (nI (W ++ tH (bk_ho B) k ++ tP [104, 111, 108, 100, 115, 32] k (xn (bk_ho B k))).length) (gtW (W ++ tH (bk_ho B) k ++ tP [104, 111, 108, 100, 115, 32] k (xn (bk_ho B k))) x))) ml_X5_33 (xk_cg (by rw [xw_up_u] <;> rfl) (c_X5_writePair (W := W ++ tH (bk_ho B) k) (q := S21) (a := k) (b := xn (bk_ho B k)) (show (xw_up G 20 (pW  x (nI (W ++ tH (bk_ho B) k).length) (gtW (W ++ tH (bk_ho B) k) x))) 20 = pW  x (nI (W ++ tH (bk_ho B) k).length) (gtW (W ++ tH (bk_ho B) k) x) from xw_up_s) S21_in (by first | omega | (simp only [List.length_append, List.length_cons, List.length_nil]; omega)) (by omega) (by omega))) (xw_at xw_up_s rfl) rfl dX5_write_48 ⟨Nat.le_of_ble_eq_true rfl, Nat.le_of_ble_eq_true rfl⟩ rfl (Nat.le_of_ble_eq_true rfl) rfl rfl ?_
        refine xj_iinc (i := 3) (x2 := nI (k + 1)) (ls2 := [some (.ref (xw_ad v 20 0)), some (.ref (xw_ad v 1 0)), some (.int x), some (.int (nI (k + 1)))]) hk dX5_write_51 rfl (nI_1 k) (by decide) rfl rfl ?_
        refine xj_goto (tgt := 23) hk dX5_write_54 (by decide) ?_
        refine xj.eqG (G' := xw_up G 20 (pW  x (nI (W ++ tH (bk_ho B) ((k + 1))).length) (gtW (W ++ tH (bk_ho B) ((k + 1))) x))) (by simp only [tH]; rw [if_neg c35, List.append_assoc]) (ih (k + 1) (by omega) (by omega))

set_option maxHeartbeats 1000000 in
set_option maxRecDepth 10000 in
theorem l_X5_write_59 {v : xw_V} {κ : xk_K} {post : Option Value → xw_G → Prop} {z : Nat × Nat × Nat} {G : xw_G} {W : List Int32} {x : Int32} {B : bk_T} {n : Nat} (hk : xk_Ok v κ yX5_write cX5_write 4 none 7 151) (hz : xk_zf κ = z) (g1 : G 1 = pc_B v 1 B) (g20 : G 20 = pW  x (nI (W).length) (gtW (W) x)) (hl : W.length < 10000) (hn30 : n ≤ 30) (hbn : bk_bi B = nI n) (hv : vN (bk_te B) (bk_ho B) (bk_ow B) (bk_hs B) (bk_ra B) (bk_lo B) n) (kx : xj v κ post z (xw_up G 20 (pW  x (nI (W ++ tO (bk_ow B) 8).length) (gtW (W ++ tO (bk_ow B) 8) x))) 94 [some (.ref (xw_ad v 20 0)), some (.ref (xw_ad v 1 0)), some (.int x), some (.int (nI 8))] []) : ∀ (m : Nat) (k : Nat), 8 - k < m → k ≤ 8 → xj v κ post z (xw_up G 20 (pW  x (nI (W ++ tO (bk_ow B) k).length) (gtW (W ++ tO (bk_ow B) k) x))) 59 [some (.ref (xw_ad v 20 0)), some (.ref (xw_ad v 1 0)), some (.int x), some (.int (nI k))] [] := by
  intro m
  induction m with
  | zero => intro k h; exact absurd h (Nat.not_lt_zero _)
  | succ m ih =>
    intro k hm hi
    refine xj_iload_n (i := 3) hk dX5_write_59 rfl rfl ?_
    refine xj_bipush (x := 8) hk dX5_write_60 (by decide) ?_
    refine xj_icmp_ge (tgt := 94) hk dX5_write_62 (by decide) (fun c62 => ?_) (fun c62 => ?_)
    · have c62 : 8 ≤ k := (nI_leI (a := 8) (b := k) (by omega) (by omega)).mp c62
      have e9 : k = 8 := by omega
      subst e9
      exact kx
    · have c62 : ¬ 8 ≤ k := fun q => c62 ((nI_leI (a := 8) (b := k) (by omega) (by omega)).mpr q)
      have hv9 := hv.2.1 k (by omega)
      have hp9 := hv9.1.2
      have hp8 := hv9.2.2
      have hlen := tO_len (bk_ow B) k
      refine xj_aload_n (i := 1) hk dX5_write_65 rfl rfl ?_
      refine xj_getfield hk dX5_write_66 fl_X5_37 (xw_at (show (xw_up G 20 (pW  x (nI (W ++ tO (bk_ow B) k).length) (gtW (W ++ tO (bk_ow B) k) x))) 1 = pc_B v 1 B from by rw [xw_up_n (by decide), g1]) rfl) rfl ?_
      refine xj_iload_n (i := 3) hk dX5_write_69 rfl rfl ?_
      refine xj_iaload (k := k) hk dX5_write_70 (xw_at (show (xw_up G 20 (pW  x (nI (W ++ tO (bk_ow B) k).length) (gtW (W ++ tO (bk_ow B) k) x))) 1 = pc_B v 1 B from by rw [xw_up_n (by decide), g1]) rfl) (xi_n (by omega) (by decide)) ?_
      refine xj_iload_n (i := 3) hk dX5_write_71 rfl rfl ?_
      refine xj_icmp_eq (tgt := 88) hk dX5_write_72 (by decide) (fun c72 => ?_) (fun c72 => ?_)
      · refine xj_iinc (i := 3) (x2 := nI (k + 1)) (ls2 := [some (.ref (xw_ad v 20 0)), some (.ref (xw_ad v 1 0)), some (.int x), some (.int (nI (k + 1)))]) hk dX5_write_88 rfl (nI_1 k) (by decide) rfl rfl ?_
        refine xj_goto (tgt := 59) hk dX5_write_91 (by decide) ?_
        refine xj.eqG (G' := xw_up G 20 (pW  x (nI (W ++ tO (bk_ow B) ((k + 1))).length) (gtW (W ++ tO (bk_ow B) ((k + 1))) x))) (by simp only [tO]; rw [if_pos c72, List.append_nil]) (ih (k + 1) (by omega) (by omega))
      · refine xj_aload_n (i := 0) hk dX5_write_75 rfl rfl ?_
        refine xj_ldcS hk (q := S24) S24_in rfl dX5_write_76 ?_
        refine xj_iload_n (i := 3) hk dX5_write_78 rfl rfl ?_
        refine xj_aload_n (i := 1) hk dX5_write_79 rfl rfl ?_
        refine xj_getfield hk dX5_write_80 fl_X5_37 (xw_at (show (xw_up G 20 (pW  x (nI (W ++ tO (bk_ow B) k).length) (gtW (W ++ tO (bk_ow B) k) x))) 1 = pc_B v 1 B from by rw [xw_up_n (by decide), g1]) rfl) rfl ?_
        refine xj_iload_n (i := 3) hk dX5_write_83 rfl rfl ?_
        refine xj_iaload (k := k) hk dX5_write_84 (xw_at (show (xw_up G 20 (pW  x (nI (W ++ tO (bk_ow B) k).length) (gtW (W ++ tO (bk_ow B) k) x))) 1 = pc_B v 1 B from by rw [xw_up_n (by decide), g1]) rfl) (xi_n (by omega) (by decide)) ?_
        refine xj.eqi (x' := nI (xn (bk_ow B k))) hv9.2.1 ?_
        refine xj_callV hk hz (fr1 := 6) (lo1 := 128) (r1 := none) (As := [.ref (xw_ad v (40 + S24.1) 0), .int (nI k), .int (nI (xn (bk_ow B k)))]) (st := []) (st2 := []) (G1 := xw_up G 20 (pW  x (nI (W ++ tO (bk_ow B) k ++ tP [111, 119, 110, 101, 114, 32] k (xn (bk_ow B k))).length) (gtW (W ++ tO (bk_ow B) k ++ tP [111, 119, 110, 101, 114, 32] k (xn (bk_ow B k))) x))) ml_X5_33 (xk_cg (by rw [xw_up_u] <;> rfl) (c_X5_writePair (W := W ++ tO (bk_ow B) k) (q := S24) (a := k) (b := xn (bk_ow B k)) (show (xw_up G 20 (pW  x (nI (W ++ tO (bk_ow B) k).length) (gtW (W ++ tO (bk_ow B) k) x))) 20 = pW  x (nI (W ++ tO (bk_ow B) k).length) (gtW (W ++ tO (bk_ow B) k) x) from xw_up_s) S24_in (by first | omega | (simp only [List.length_append, List.length_cons, List.length_nil]; omega)) (by omega) (by omega))) (xw_at xw_up_s rfl) rfl dX5_write_85 ⟨Nat.le_of_ble_eq_true rfl, Nat.le_of_ble_eq_true rfl⟩ rfl (Nat.le_of_ble_eq_true rfl) rfl rfl ?_
        refine xj_iinc (i := 3) (x2 := nI (k + 1)) (ls2 := [some (.ref (xw_ad v 20 0)), some (.ref (xw_ad v 1 0)), some (.int x), some (.int (nI (k + 1)))]) hk dX5_write_88 rfl (nI_1 k) (by decide) rfl rfl ?_
        refine xj_goto (tgt := 59) hk dX5_write_91 (by decide) ?_
        refine xj.eqG (G' := xw_up G 20 (pW  x (nI (W ++ tO (bk_ow B) ((k + 1))).length) (gtW (W ++ tO (bk_ow B) ((k + 1))) x))) (by simp only [tO]; rw [if_neg c72, List.append_assoc]) (ih (k + 1) (by omega) (by omega))

set_option maxHeartbeats 1000000 in
set_option maxRecDepth 10000 in
theorem l_X5_write_96 {v : xw_V} {κ : xk_K} {post : Option Value → xw_G → Prop} {z : Nat × Nat × Nat} {G : xw_G} {W : List Int32} {x : Int32} {B : bk_T} {n : Nat} (hk : xk_Ok v κ yX5_write cX5_write 4 none 7 151) (hz : xk_zf κ = z) (g1 : G 1 = pc_B v 1 B) (g20 : G 20 = pW  x (nI (W).length) (gtW (W) x)) (hl : W.length < 10000) (hn30 : n ≤ 30) (hbn : bk_bi B = nI n) (hv : vN (bk_te B) (bk_ho B) (bk_ow B) (bk_hs B) (bk_ra B) (bk_lo B) n) (kx : xj v κ post z (xw_up G 20 (pW  x (nI (W ++ tD (bk_hs B) (bk_ra B) (bk_lo B) n).length) (gtW (W ++ tD (bk_hs B) (bk_ra B) (bk_lo B) n) x))) 132 [some (.ref (xw_ad v 20 0)), some (.ref (xw_ad v 1 0)), some (.int x), some (.int (nI n))] []) : ∀ (m : Nat) (k : Nat), n - k < m → k ≤ n → xj v κ post z (xw_up G 20 (pW  x (nI (W ++ tD (bk_hs B) (bk_ra B) (bk_lo B) k).length) (gtW (W ++ tD (bk_hs B) (bk_ra B) (bk_lo B) k) x))) 96 [some (.ref (xw_ad v 20 0)), some (.ref (xw_ad v 1 0)), some (.int x), some (.int (nI k))] [] := by
  intro m
  induction m with
  | zero => intro k h; exact absurd h (Nat.not_lt_zero _)
  | succ m ih =>
    intro k hm hi
    refine xj_iload_n (i := 3) hk dX5_write_96 rfl rfl ?_
    refine xj_aload_n (i := 1) hk dX5_write_97 rfl rfl ?_
    refine xj_getfield hk dX5_write_98 fl_X5_42 (xw_at (show (xw_up G 20 (pW  x (nI (W ++ tD (bk_hs B) (bk_ra B) (bk_lo B) k).length) (gtW (W ++ tD (bk_hs B) (bk_ra B) (bk_lo B) k) x))) 1 = pc_B v 1 B from by rw [xw_up_n (by decide), g1]) rfl) rfl ?_
    refine xj.eqi (x' := nI n) hbn ?_
    refine xj_icmp_ge (tgt := 132) hk dX5_write_101 (by decide) (fun c101 => ?_) (fun c101 => ?_)
    · have c101 : n ≤ k := (nI_leI (a := n) (b := k) (by omega) (by omega)).mp c101
      have e9 : k = n := by omega
      subst e9
      exact kx
    · have c101 : ¬ n ≤ k := fun q => c101 ((nI_leI (a := n) (b := k) (by omega) (by omega)).mpr q)
      have hv9 := hv.2.2 k (by omega)
      have hp9 := hv9.1.2
      have hp8 := hv9.2.2.2
      have hlen := tD_len (bk_hs B) (bk_ra B) (bk_lo B) k
      refine xj_aload_n (i := 0) hk dX5_write_104 rfl rfl ?_
      refine xj_aload_n (i := 1) hk dX5_write_105 rfl rfl ?_
      refine xj_getfield hk dX5_write_106 fl_X5_45 (xw_at (show (xw_up G 20 (pW  x (nI (W ++ tD (bk_hs B) (bk_ra B) (bk_lo B) k).length) (gtW (W ++ tD (bk_hs B) (bk_ra B) (bk_lo B) k) x))) 1 = pc_B v 1 B from by rw [xw_up_n (by decide), g1]) rfl) rfl ?_
      refine xj_iload_n (i := 3) hk dX5_write_109 rfl rfl ?_
      refine xj_iaload (k := k) hk dX5_write_110 (xw_at (show (xw_up G 20 (pW  x (nI (W ++ tD (bk_hs B) (bk_ra B) (bk_lo B) k).length) (gtW (W ++ tD (bk_hs B) (bk_ra B) (bk_lo B) k) x))) 1 = pc_B v 1 B from by rw [xw_up_n (by decide), g1]) rfl) (xi_n (by omega) (by decide)) ?_
      refine xj.eqi (x' := nI (xn (bk_hs B k))) hv9.1.1 ?_
      refine xj_aload_n (i := 1) hk dX5_write_111 rfl rfl ?_
      refine xj_getfield hk dX5_write_112 fl_X5_48 (xw_at (show (xw_up G 20 (pW  x (nI (W ++ tD (bk_hs B) (bk_ra B) (bk_lo B) k).length) (gtW (W ++ tD (bk_hs B) (bk_ra B) (bk_lo B) k) x))) 1 = pc_B v 1 B from by rw [xw_up_n (by decide), g1]) rfl) rfl ?_
      refine xj_iload_n (i := 3) hk dX5_write_115 rfl rfl ?_
      refine xj_iaload (k := k) hk dX5_write_116 (xw_at (show (xw_up G 20 (pW  x (nI (W ++ tD (bk_hs B) (bk_ra B) (bk_lo B) k).length) (gtW (W ++ tD (bk_hs B) (bk_ra B) (bk_lo B) k) x))) 1 = pc_B v 1 B from by rw [xw_up_n (by decide), g1]) rfl) (xi_n (by omega) (by decide)) ?_
      refine xj_aload_n (i := 1) hk dX5_write_117 rfl rfl ?_
      refine xj_getfield hk dX5_write_118 fl_X5_51 (xw_at (show (xw_up G 20 (pW  x (nI (W ++ tD (bk_hs B) (bk_ra B) (bk_lo B) k).length) (gtW (W ++ tD (bk_hs B) (bk_ra B) (bk_lo B) k) x))) 1 = pc_B v 1 B from by rw [xw_up_n (by decide), g1]) rfl) rfl ?_
      refine xj_iload_n (i := 3) hk dX5_write_121 rfl rfl ?_
      refine xj_iaload (k := k) hk dX5_write_122 (xw_at (show (xw_up G 20 (pW  x (nI (W ++ tD (bk_hs B) (bk_ra B) (bk_lo B) k).length) (gtW (W ++ tD (bk_hs B) (bk_ra B) (bk_lo B) k) x))) 1 = pc_B v 1 B from by rw [xw_up_n (by decide), g1]) rfl) (xi_n (by omega) (by decide)) ?_
      refine xj.eqi (x' := nI (xn (bk_lo B k))) hv9.2.2.1 ?_
      refine xj_callV hk hz (fr1 := 6) (lo1 := 128) (r1 := none) (As := [.int (nI (xn (bk_hs B k))), .int (bk_ra B k), .int (nI (xn (bk_lo B k)))]) (st := []) (st2 := []) (G1 := xw_up G 20 (pW  x (nI (W ++ tD (bk_hs B) (bk_ra B) (bk_lo B) k ++ tB (xn (bk_hs B k)) (bk_ra B k) (xn (bk_lo B k))).length) (gtW (W ++ tD (bk_hs B) (bk_ra B) (bk_lo B) k ++ tB (xn (bk_hs B k)) (bk_ra B k) (xn (bk_lo B k))) x))) ml_X5_54 (xk_cg (by rw [xw_up_u] <;> rfl) (c_X5_writeBid (W := W ++ tD (bk_hs B) (bk_ra B) (bk_lo B) k) (h := xn (bk_hs B k)) (l := xn (bk_lo B k)) (r := bk_ra B k) (show (xw_up G 20 (pW  x (nI (W ++ tD (bk_hs B) (bk_ra B) (bk_lo B) k).length) (gtW (W ++ tD (bk_hs B) (bk_ra B) (bk_lo B) k) x))) 20 = pW  x (nI (W ++ tD (bk_hs B) (bk_ra B) (bk_lo B) k).length) (gtW (W ++ tD (bk_hs B) (bk_ra B) (bk_lo B) k) x) from xw_up_s) (by first | omega | (simp only [List.length_append, List.length_cons, List.length_nil]; omega)) (by omega) (by omega) hv9.2.1)) (xw_at xw_up_s rfl) rfl dX5_write_123 ⟨Nat.le_of_ble_eq_true rfl, Nat.le_of_ble_eq_true rfl⟩ rfl (Nat.le_of_ble_eq_true rfl) rfl rfl ?_
      refine xj_iinc (i := 3) (x2 := nI (k + 1)) (ls2 := [some (.ref (xw_ad v 20 0)), some (.ref (xw_ad v 1 0)), some (.int x), some (.int (nI (k + 1)))]) hk dX5_write_126 rfl (nI_1 k) (by decide) rfl rfl ?_
      refine xj_goto (tgt := 96) hk dX5_write_129 (by decide) ?_
      refine xj.eqG (G' := xw_up G 20 (pW  x (nI (W ++ tD (bk_hs B) (bk_ra B) (bk_lo B) ((k + 1))).length) (gtW (W ++ tD (bk_hs B) (bk_ra B) (bk_lo B) ((k + 1))) x))) (by simp only [tD]; rw [List.append_assoc]) (ih (k + 1) (by omega) (by omega))


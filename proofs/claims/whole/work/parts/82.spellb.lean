def tP (w : List Int32) (a b : Nat) : List Int32 := w ++ dg a ++ [32] ++ dg b ++ [59]
def tB (h : Nat) (r : Int32) (l : Nat) : List Int32 := (if r = -1 then [112, 108, 97, 105, 110, 32] else [98, 105, 100, 32]) ++ dg h ++ (if r = -1 then [] else [32] ++ dg (xn r)) ++ [32, 108, 111, 116, 115, 32] ++ dg l ++ [59]
def tT (te : Nat → Int32) : List Int32 := [111, 102, 102, 101, 114, 32] ++ dg (xn (te 0)) ++ [59, 108, 105, 109, 105, 116, 32] ++ dg (xn (te 1)) ++ [59, 115, 104, 97, 114, 101, 32] ++ dg (xn (te 2)) ++ [59, 121, 105, 101, 108, 100, 115, 32] ++ dg (xn (te 3)) ++ [32, 116, 111, 32] ++ dg (xn (te 4)) ++ [59, 100, 97, 121, 115, 32] ++ dg (xn (te 5)) ++ (if te 6 = 1 then [59, 111, 119, 110, 59] else [59, 111, 110, 101, 59])
def tH (ho : Nat → Int32) : Nat → List Int32
  | 0 => []
  | h + 1 => tH ho h ++ (if ho h = 0 then [] else tP [104, 111, 108, 100, 115, 32] h (xn (ho h)))
def tO (ow : Nat → Int32) : Nat → List Int32
  | 0 => []
  | h + 1 => tO ow h ++ (if ow h = nI h then [] else tP [111, 119, 110, 101, 114, 32] h (xn (ow h)))
def tD (hs ra lo : Nat → Int32) : Nat → List Int32
  | 0 => []
  | b + 1 => tD hs ra lo b ++ tB (xn (hs b)) (ra b) (xn (lo b))
def tW (te ho ow hs ra lo : Nat → Int32) (n : Nat) : List Int32 := tT te ++ tH ho 8 ++ tO ow 8 ++ tD hs ra lo n
def nb (x : Int32) : Prop := x = nI (xn x) ∧ xn x ≤ 99999
def vN (te ho ow hs ra lo : Nat → Int32) (n : Nat) : Prop := (∀ j, j < 7 → nb (te j)) ∧ (∀ h, h < 8 → nb (ho h) ∧ nb (ow h)) ∧ ∀ b, b < n → nb (hs b) ∧ (ra b = -1 ∨ nb (ra b)) ∧ nb (lo b)
set_option maxHeartbeats 1000000 in
set_option maxRecDepth 10000 in
theorem c_X5_writePair {v : xw_V} {G : xw_G} {W : List Int32} {x : Int32} {q : Nat × String × Nat × String × List Int32} {a b : Nat} (g20 : G 20 = pW  x (nI (W).length) (gtW (W) x)) (hq : q ∈ xk_strs) (hl : W.length < 800000) (ha : a ≤ 99999) (hb : b ≤ 99999) : xk_Con v yX5_writePair cX5_writePair 4 none 6 128 [.ref (xw_ad v 20 0), .ref (xw_ad v (40 + q.1) 0), .int (nI a), .int (nI b)] G (xk_ret none (xw_up G 20 (pW  x (nI (W ++ tP q.2.2.2.2 a b).length) (gtW (W ++ tP q.2.2.2.2 a b) x)))) := by
  refine xk_of (ls0 := [some (.ref (xw_ad v 20 0)), some (.ref (xw_ad v (40 + q.1) 0)), some (.int (nI a)), some (.int (nI b))]) (by decide) rfl (Nat.le_of_ble_eq_true rfl) ?_
  intro κ z hk hz
  have hq9 := (xs_all q hq).1
  have ha9 := dg_len a
  have hb9 := dg_len b
  have hs22 : S22.2.2.2.2.length < 100 := (xs_all S22 S22_in).1
  have hs23 : S23.2.2.2.2.length < 100 := (xs_all S23 S23_in).1
  refine xj_aload_n (i := 0) hk dX5_writePair_0 rfl rfl ?_
  refine xj_aload_n (i := 1) hk dX5_writePair_1 rfl rfl ?_
  refine xj_callV hk hz (fr1 := 5) (lo1 := 106) (r1 := none) (As := [.ref (xw_ad v (40 + q.1) 0)]) (st := []) (st2 := []) (G1 := xw_up G 20 (pW  x (nI (W ++ q.2.2.2.2).length) (gtW (W ++ q.2.2.2.2) x))) ml_X5_60 (c_X5_writeSigns (W := W) (show G 20 = pW  x (nI (W).length) (gtW (W) x) from g20) hq (by first | omega | (simp only [List.length_append, List.length_cons, List.length_nil]; omega))) (xw_at g20 rfl) rfl dX5_writePair_2 ⟨Nat.le_of_ble_eq_true rfl, Nat.le_of_ble_eq_true rfl⟩ rfl (Nat.le_of_ble_eq_true rfl) rfl rfl ?_
  refine xj_aload_n (i := 0) hk dX5_writePair_5 rfl rfl ?_
  refine xj_iload_n (i := 2) hk dX5_writePair_6 rfl rfl ?_
  refine xj_callV hk hz (fr1 := 1) (lo1 := 21) (r1 := none) (As := [.int (nI a)]) (st := []) (st2 := []) (G1 := xw_up G 20 (pW  x (nI (W ++ q.2.2.2.2 ++ dg a).length) (gtW (W ++ q.2.2.2.2 ++ dg a) x))) ml_X5_67 (xk_cg (by rw [xw_up_u] <;> rfl) (c_X5_writeNumber (W := W ++ q.2.2.2.2) (m := a) (show (xw_up G 20 (pW  x (nI (W ++ q.2.2.2.2).length) (gtW (W ++ q.2.2.2.2) x))) 20 = pW  x (nI (W ++ q.2.2.2.2).length) (gtW (W ++ q.2.2.2.2) x) from xw_up_s) (by first | omega | (simp only [List.length_append, List.length_cons, List.length_nil]; omega)) (by omega))) (xw_at xw_up_s rfl) rfl dX5_writePair_7 ⟨Nat.le_of_ble_eq_true rfl, Nat.le_of_ble_eq_true rfl⟩ rfl (Nat.le_of_ble_eq_true rfl) rfl rfl ?_
  refine xj_aload_n (i := 0) hk dX5_writePair_10 rfl rfl ?_
  refine xj_ldcS hk (q := S22) S22_in rfl dX5_writePair_11 ?_
  refine xj_callV hk hz (fr1 := 5) (lo1 := 106) (r1 := none) (As := [.ref (xw_ad v (40 + S22.1) 0)]) (st := []) (st2 := []) (G1 := xw_up G 20 (pW  x (nI (W ++ q.2.2.2.2 ++ dg a ++ S22.2.2.2.2).length) (gtW (W ++ q.2.2.2.2 ++ dg a ++ S22.2.2.2.2) x))) ml_X5_60 (xk_cg (by rw [xw_up_u] <;> rfl) (c_X5_writeSigns (W := W ++ q.2.2.2.2 ++ dg a) (q := S22) (show (xw_up G 20 (pW  x (nI (W ++ q.2.2.2.2 ++ dg a).length) (gtW (W ++ q.2.2.2.2 ++ dg a) x))) 20 = pW  x (nI (W ++ q.2.2.2.2 ++ dg a).length) (gtW (W ++ q.2.2.2.2 ++ dg a) x) from xw_up_s) S22_in (by first | omega | (simp only [List.length_append, List.length_cons, List.length_nil]; omega)))) (xw_at xw_up_s rfl) rfl dX5_writePair_13 ⟨Nat.le_of_ble_eq_true rfl, Nat.le_of_ble_eq_true rfl⟩ rfl (Nat.le_of_ble_eq_true rfl) rfl rfl ?_
  refine xj_aload_n (i := 0) hk dX5_writePair_16 rfl rfl ?_
  refine xj_iload_n (i := 3) hk dX5_writePair_17 rfl rfl ?_
  refine xj_callV hk hz (fr1 := 1) (lo1 := 21) (r1 := none) (As := [.int (nI b)]) (st := []) (st2 := []) (G1 := xw_up G 20 (pW  x (nI (W ++ q.2.2.2.2 ++ dg a ++ S22.2.2.2.2 ++ dg b).length) (gtW (W ++ q.2.2.2.2 ++ dg a ++ S22.2.2.2.2 ++ dg b) x))) ml_X5_67 (xk_cg (by rw [xw_up_u] <;> rfl) (c_X5_writeNumber (W := W ++ q.2.2.2.2 ++ dg a ++ S22.2.2.2.2) (m := b) (show (xw_up G 20 (pW  x (nI (W ++ q.2.2.2.2 ++ dg a ++ S22.2.2.2.2).length) (gtW (W ++ q.2.2.2.2 ++ dg a ++ S22.2.2.2.2) x))) 20 = pW  x (nI (W ++ q.2.2.2.2 ++ dg a ++ S22.2.2.2.2).length) (gtW (W ++ q.2.2.2.2 ++ dg a ++ S22.2.2.2.2) x) from xw_up_s) (by first | omega | (simp only [List.length_append, List.length_cons, List.length_nil]; omega)) (by omega))) (xw_at xw_up_s rfl) rfl dX5_writePair_18 ⟨Nat.le_of_ble_eq_true rfl, Nat.le_of_ble_eq_true rfl⟩ rfl (Nat.le_of_ble_eq_true rfl) rfl rfl ?_
  refine xj_aload_n (i := 0) hk dX5_writePair_21 rfl rfl ?_
  refine xj_ldcS hk (q := S23) S23_in rfl dX5_writePair_22 ?_
  refine xj_callV hk hz (fr1 := 5) (lo1 := 106) (r1 := none) (As := [.ref (xw_ad v (40 + S23.1) 0)]) (st := []) (st2 := []) (G1 := xw_up G 20 (pW  x (nI (W ++ q.2.2.2.2 ++ dg a ++ S22.2.2.2.2 ++ dg b ++ S23.2.2.2.2).length) (gtW (W ++ q.2.2.2.2 ++ dg a ++ S22.2.2.2.2 ++ dg b ++ S23.2.2.2.2) x))) ml_X5_60 (xk_cg (by rw [xw_up_u] <;> rfl) (c_X5_writeSigns (W := W ++ q.2.2.2.2 ++ dg a ++ S22.2.2.2.2 ++ dg b) (q := S23) (show (xw_up G 20 (pW  x (nI (W ++ q.2.2.2.2 ++ dg a ++ S22.2.2.2.2 ++ dg b).length) (gtW (W ++ q.2.2.2.2 ++ dg a ++ S22.2.2.2.2 ++ dg b) x))) 20 = pW  x (nI (W ++ q.2.2.2.2 ++ dg a ++ S22.2.2.2.2 ++ dg b).length) (gtW (W ++ q.2.2.2.2 ++ dg a ++ S22.2.2.2.2 ++ dg b) x) from xw_up_s) S23_in (by first | omega | (simp only [List.length_append, List.length_cons, List.length_nil]; omega)))) (xw_at xw_up_s rfl) rfl dX5_writePair_24 ⟨Nat.le_of_ble_eq_true rfl, Nat.le_of_ble_eq_true rfl⟩ rfl (Nat.le_of_ble_eq_true rfl) rfl rfl ?_
  refine xj_return hk hz dX5_writePair_27 ?_
  refine ⟨rfl, ?_⟩
  simp only [tP, List.append_assoc, sx22, sx23]

set_option maxHeartbeats 1000000 in
set_option maxRecDepth 10000 in
theorem c_X5_writeBid {v : xw_V} {G : xw_G} {W : List Int32} {x : Int32} {h l : Nat} {r : Int32} (g20 : G 20 = pW  x (nI (W).length) (gtW (W) x)) (hl : W.length < 800000) (hh : h ≤ 99999) (hll : l ≤ 99999) (hr : r = -1 ∨ nb r) : xk_Con v yX5_writeBid cX5_writeBid 4 none 6 128 [.ref (xw_ad v 20 0), .int (nI h), .int r, .int (nI l)] G (xk_ret none (xw_up G 20 (pW  x (nI (W ++ tB h r l).length) (gtW (W ++ tB h r l) x)))) := by
  refine xk_of (ls0 := [some (.ref (xw_ad v 20 0)), some (.int (nI h)), some (.int r), some (.int (nI l))]) (by decide) rfl (Nat.le_of_ble_eq_true rfl) ?_
  intro κ z hk hz
  have ha9 := dg_len h
  have hb9 := dg_len l
  have hc9 := dg_len (xn r)
  have hs22 : S22.2.2.2.2.length < 100 := (xs_all S22 S22_in).1
  have hs23 : S23.2.2.2.2.length < 100 := (xs_all S23 S23_in).1
  have hs25 : S25.2.2.2.2.length < 100 := (xs_all S25 S25_in).1
  have hs26 : S26.2.2.2.2.length < 100 := (xs_all S26 S26_in).1
  have hs27 : S27.2.2.2.2.length < 100 := (xs_all S27 S27_in).1
  refine xj_aload_n (i := 0) hk dX5_writeBid_0 rfl rfl ?_
  refine xj_iload_n (i := 2) hk dX5_writeBid_1 rfl rfl ?_
  refine xj_iconst (x := (-1)) hk dX5_writeBid_2 (by decide) ?_
  refine xj_icmp_ne (tgt := 11) hk dX5_writeBid_3 (by decide) (fun c3 => ?_) (fun c3 => ?_)
  · refine xj_ldcS hk (q := S26) S26_in rfl dX5_writeBid_11 ?_
    refine xj_callV hk hz (fr1 := 5) (lo1 := 106) (r1 := none) (As := [.ref (xw_ad v (40 + S26.1) 0)]) (st := []) (st2 := []) (G1 := xw_up G 20 (pW  x (nI (W ++ S26.2.2.2.2).length) (gtW (W ++ S26.2.2.2.2) x))) ml_X5_60 (c_X5_writeSigns (W := W) (q := S26) (show G 20 = pW  x (nI (W).length) (gtW (W) x) from g20) S26_in (by first | omega | (simp only [List.length_append, List.length_cons, List.length_nil]; omega))) (xw_at g20 rfl) rfl dX5_writeBid_13 ⟨Nat.le_of_ble_eq_true rfl, Nat.le_of_ble_eq_true rfl⟩ rfl (Nat.le_of_ble_eq_true rfl) rfl rfl ?_
    refine xj_aload_n (i := 0) hk dX5_writeBid_16 rfl rfl ?_
    refine xj_iload_n (i := 1) hk dX5_writeBid_17 rfl rfl ?_
    refine xj_callV hk hz (fr1 := 1) (lo1 := 21) (r1 := none) (As := [.int (nI h)]) (st := []) (st2 := []) (G1 := xw_up G 20 (pW  x (nI (W ++ S26.2.2.2.2 ++ dg h).length) (gtW (W ++ S26.2.2.2.2 ++ dg h) x))) ml_X5_67 (xk_cg (by rw [xw_up_u] <;> rfl) (c_X5_writeNumber (W := W ++ S26.2.2.2.2) (m := h) (show (xw_up G 20 (pW  x (nI (W ++ S26.2.2.2.2).length) (gtW (W ++ S26.2.2.2.2) x))) 20 = pW  x (nI (W ++ S26.2.2.2.2).length) (gtW (W ++ S26.2.2.2.2) x) from xw_up_s) (by first | omega | (simp only [List.length_append, List.length_cons, List.length_nil]; omega)) (by omega))) (xw_at xw_up_s rfl) rfl dX5_writeBid_18 ⟨Nat.le_of_ble_eq_true rfl, Nat.le_of_ble_eq_true rfl⟩ rfl (Nat.le_of_ble_eq_true rfl) rfl rfl ?_
    refine xj_iload_n (i := 2) hk dX5_writeBid_21 rfl rfl ?_
    refine xj_iconst (x := (-1)) hk dX5_writeBid_22 (by decide) ?_
    refine xj_icmp_eq (tgt := 37) hk dX5_writeBid_23 (by decide) (fun c23 => ?_) (fun c23 => ?_)
    · exact absurd c23 c3
    · refine xj_aload_n (i := 0) hk dX5_writeBid_26 rfl rfl ?_
      refine xj_ldcS hk (q := S22) S22_in rfl dX5_writeBid_27 ?_
      refine xj_callV hk hz (fr1 := 5) (lo1 := 106) (r1 := none) (As := [.ref (xw_ad v (40 + S22.1) 0)]) (st := []) (st2 := []) (G1 := xw_up G 20 (pW  x (nI (W ++ S26.2.2.2.2 ++ dg h ++ S22.2.2.2.2).length) (gtW (W ++ S26.2.2.2.2 ++ dg h ++ S22.2.2.2.2) x))) ml_X5_60 (xk_cg (by rw [xw_up_u] <;> rfl) (c_X5_writeSigns (W := W ++ S26.2.2.2.2 ++ dg h) (q := S22) (show (xw_up G 20 (pW  x (nI (W ++ S26.2.2.2.2 ++ dg h).length) (gtW (W ++ S26.2.2.2.2 ++ dg h) x))) 20 = pW  x (nI (W ++ S26.2.2.2.2 ++ dg h).length) (gtW (W ++ S26.2.2.2.2 ++ dg h) x) from xw_up_s) S22_in (by first | omega | (simp only [List.length_append, List.length_cons, List.length_nil]; omega)))) (xw_at xw_up_s rfl) rfl dX5_writeBid_29 ⟨Nat.le_of_ble_eq_true rfl, Nat.le_of_ble_eq_true rfl⟩ rfl (Nat.le_of_ble_eq_true rfl) rfl rfl ?_
      refine xj_aload_n (i := 0) hk dX5_writeBid_32 rfl rfl ?_
      refine xj.to (ls' := [some (.ref (xw_ad v 20 0)), some (.int (nI h)), some (.int (nI (xn r))), some (.int (nI l))]) (by rw [← (hr.resolve_left c3).1]) ?_
      have hr9 := (hr.resolve_left c3).2
      refine xj_iload_n (i := 2) hk dX5_writeBid_33 rfl rfl ?_
      refine xj_callV hk hz (fr1 := 1) (lo1 := 21) (r1 := none) (As := [.int (nI (xn r))]) (st := []) (st2 := []) (G1 := xw_up G 20 (pW  x (nI (W ++ S26.2.2.2.2 ++ dg h ++ S22.2.2.2.2 ++ dg (xn r)).length) (gtW (W ++ S26.2.2.2.2 ++ dg h ++ S22.2.2.2.2 ++ dg (xn r)) x))) ml_X5_67 (xk_cg (by rw [xw_up_u] <;> rfl) (c_X5_writeNumber (W := W ++ S26.2.2.2.2 ++ dg h ++ S22.2.2.2.2) (m := xn r) (show (xw_up G 20 (pW  x (nI (W ++ S26.2.2.2.2 ++ dg h ++ S22.2.2.2.2).length) (gtW (W ++ S26.2.2.2.2 ++ dg h ++ S22.2.2.2.2) x))) 20 = pW  x (nI (W ++ S26.2.2.2.2 ++ dg h ++ S22.2.2.2.2).length) (gtW (W ++ S26.2.2.2.2 ++ dg h ++ S22.2.2.2.2) x) from xw_up_s) (by first | omega | (simp only [List.length_append, List.length_cons, List.length_nil]; omega)) (by omega))) (xw_at xw_up_s rfl) rfl dX5_writeBid_34 ⟨Nat.le_of_ble_eq_true rfl, Nat.le_of_ble_eq_true rfl⟩ rfl (Nat.le_of_ble_eq_true rfl) rfl rfl ?_
      refine xj_aload_n (i := 0) hk dX5_writeBid_37 rfl rfl ?_
      refine xj_ldcS hk (q := S27) S27_in rfl dX5_writeBid_38 ?_
      refine xj_callV hk hz (fr1 := 5) (lo1 := 106) (r1 := none) (As := [.ref (xw_ad v (40 + S27.1) 0)]) (st := []) (st2 := []) (G1 := xw_up G 20 (pW  x (nI (W ++ S26.2.2.2.2 ++ dg h ++ S22.2.2.2.2 ++ dg (xn r) ++ S27.2.2.2.2).length) (gtW (W ++ S26.2.2.2.2 ++ dg h ++ S22.2.2.2.2 ++ dg (xn r) ++ S27.2.2.2.2) x))) ml_X5_60 (xk_cg (by rw [xw_up_u] <;> rfl) (c_X5_writeSigns (W := W ++ S26.2.2.2.2 ++ dg h ++ S22.2.2.2.2 ++ dg (xn r)) (q := S27) (show (xw_up G 20 (pW  x (nI (W ++ S26.2.2.2.2 ++ dg h ++ S22.2.2.2.2 ++ dg (xn r)).length) (gtW (W ++ S26.2.2.2.2 ++ dg h ++ S22.2.2.2.2 ++ dg (xn r)) x))) 20 = pW  x (nI (W ++ S26.2.2.2.2 ++ dg h ++ S22.2.2.2.2 ++ dg (xn r)).length) (gtW (W ++ S26.2.2.2.2 ++ dg h ++ S22.2.2.2.2 ++ dg (xn r)) x) from xw_up_s) S27_in (by first | omega | (simp only [List.length_append, List.length_cons, List.length_nil]; omega)))) (xw_at xw_up_s rfl) rfl dX5_writeBid_40 ⟨Nat.le_of_ble_eq_true rfl, Nat.le_of_ble_eq_true rfl⟩ rfl (Nat.le_of_ble_eq_true rfl) rfl rfl ?_
      refine xj_aload_n (i := 0) hk dX5_writeBid_43 rfl rfl ?_
      refine xj_iload_n (i := 3) hk dX5_writeBid_44 rfl rfl ?_
      refine xj_callV hk hz (fr1 := 1) (lo1 := 21) (r1 := none) (As := [.int (nI l)]) (st := []) (st2 := []) (G1 := xw_up G 20 (pW  x (nI (W ++ S26.2.2.2.2 ++ dg h ++ S22.2.2.2.2 ++ dg (xn r) ++ S27.2.2.2.2 ++ dg l).length) (gtW (W ++ S26.2.2.2.2 ++ dg h ++ S22.2.2.2.2 ++ dg (xn r) ++ S27.2.2.2.2 ++ dg l) x))) ml_X5_67 (xk_cg (by rw [xw_up_u] <;> rfl) (c_X5_writeNumber (W := W ++ S26.2.2.2.2 ++ dg h ++ S22.2.2.2.2 ++ dg (xn r) ++ S27.2.2.2.2) (m := l) (show (xw_up G 20 (pW  x (nI (W ++ S26.2.2.2.2 ++ dg h ++ S22.2.2.2.2 ++ dg (xn r) ++ S27.2.2.2.2).length) (gtW (W ++ S26.2.2.2.2 ++ dg h ++ S22.2.2.2.2 ++ dg (xn r) ++ S27.2.2.2.2) x))) 20 = pW  x (nI (W ++ S26.2.2.2.2 ++ dg h ++ S22.2.2.2.2 ++ dg (xn r) ++ S27.2.2.2.2).length) (gtW (W ++ S26.2.2.2.2 ++ dg h ++ S22.2.2.2.2 ++ dg (xn r) ++ S27.2.2.2.2) x) from xw_up_s) (by first | omega | (simp only [List.length_append, List.length_cons, List.length_nil]; omega)) (by omega))) (xw_at xw_up_s rfl) rfl dX5_writeBid_45 ⟨Nat.le_of_ble_eq_true rfl, Nat.le_of_ble_eq_true rfl⟩ rfl (Nat.le_of_ble_eq_true rfl) rfl rfl ?_
      refine xj_aload_n (i := 0) hk dX5_writeBid_48 rfl rfl ?_
      refine xj_ldcS hk (q := S23) S23_in rfl dX5_writeBid_49 ?_
      refine xj_callV hk hz (fr1 := 5) (lo1 := 106) (r1 := none) (As := [.ref (xw_ad v (40 + S23.1) 0)]) (st := []) (st2 := []) (G1 := xw_up G 20 (pW  x (nI (W ++ S26.2.2.2.2 ++ dg h ++ S22.2.2.2.2 ++ dg (xn r) ++ S27.2.2.2.2 ++ dg l ++ S23.2.2.2.2).length) (gtW (W ++ S26.2.2.2.2 ++ dg h ++ S22.2.2.2.2 ++ dg (xn r) ++ S27.2.2.2.2 ++ dg l ++ S23.2.2.2.2) x))) ml_X5_60 (xk_cg (by rw [xw_up_u] <;> rfl) (c_X5_writeSigns (W := W ++ S26.2.2.2.2 ++ dg h ++ S22.2.2.2.2 ++ dg (xn r) ++ S27.2.2.2.2 ++ dg l) (q := S23) (show (xw_up G 20 (pW  x (nI (W ++ S26.2.2.2.2 ++ dg h ++ S22.2.2.2.2 ++ dg (xn r) ++ S27.2.2.2.2 ++ dg l).length) (gtW (W ++ S26.2.2.2.2 ++ dg h ++ S22.2.2.2.2 ++ dg (xn r) ++ S27.2.2.2.2 ++ dg l) x))) 20 = pW  x (nI (W ++ S26.2.2.2.2 ++ dg h ++ S22.2.2.2.2 ++ dg (xn r) ++ S27.2.2.2.2 ++ dg l).length) (gtW (W ++ S26.2.2.2.2 ++ dg h ++ S22.2.2.2.2 ++ dg (xn r) ++ S27.2.2.2.2 ++ dg l) x) from xw_up_s) S23_in (by first | omega | (simp only [List.length_append, List.length_cons, List.length_nil]; omega)))) (xw_at xw_up_s rfl) rfl dX5_writeBid_51 ⟨Nat.le_of_ble_eq_true rfl, Nat.le_of_ble_eq_true rfl⟩ rfl (Nat.le_of_ble_eq_true rfl) rfl rfl ?_
      refine xj_return hk hz dX5_writeBid_54 ?_
      refine ⟨rfl, ?_⟩
      simp only [tB]
      first | (rw [if_pos c3, if_pos c3]; simp only [List.append_assoc, sx0, sx1, sx2, sx3, sx4, sx5, sx6, sx7, sx8, sx9, sx10, sx11, sx12, sx13, sx14, sx15, sx16, sx17, sx18, sx19, sx20, sx21, sx22, sx23, sx24, sx25, sx26, sx27, List.nil_append]; done) | (rw [if_neg c3, if_neg c3]; simp only [List.append_assoc, sx0, sx1, sx2, sx3, sx4, sx5, sx6, sx7, sx8, sx9, sx10, sx11, sx12, sx13, sx14, sx15, sx16, sx17, sx18, sx19, sx20, sx21, sx22, sx23, sx24, sx25, sx26, sx27]; done)
  · refine xj_ldcS hk (q := S25) S25_in rfl dX5_writeBid_6 ?_
    refine xj_goto (tgt := 13) hk dX5_writeBid_8 (by decide) ?_
    refine xj_callV hk hz (fr1 := 5) (lo1 := 106) (r1 := none) (As := [.ref (xw_ad v (40 + S25.1) 0)]) (st := []) (st2 := []) (G1 := xw_up G 20 (pW  x (nI (W ++ S25.2.2.2.2).length) (gtW (W ++ S25.2.2.2.2) x))) ml_X5_60 (c_X5_writeSigns (W := W) (q := S25) (show G 20 = pW  x (nI (W).length) (gtW (W) x) from g20) S25_in (by first | omega | (simp only [List.length_append, List.length_cons, List.length_nil]; omega))) (xw_at g20 rfl) rfl dX5_writeBid_13 ⟨Nat.le_of_ble_eq_true rfl, Nat.le_of_ble_eq_true rfl⟩ rfl (Nat.le_of_ble_eq_true rfl) rfl rfl ?_
    refine xj_aload_n (i := 0) hk dX5_writeBid_16 rfl rfl ?_
    refine xj_iload_n (i := 1) hk dX5_writeBid_17 rfl rfl ?_
    refine xj_callV hk hz (fr1 := 1) (lo1 := 21) (r1 := none) (As := [.int (nI h)]) (st := []) (st2 := []) (G1 := xw_up G 20 (pW  x (nI (W ++ S25.2.2.2.2 ++ dg h).length) (gtW (W ++ S25.2.2.2.2 ++ dg h) x))) ml_X5_67 (xk_cg (by rw [xw_up_u] <;> rfl) (c_X5_writeNumber (W := W ++ S25.2.2.2.2) (m := h) (show (xw_up G 20 (pW  x (nI (W ++ S25.2.2.2.2).length) (gtW (W ++ S25.2.2.2.2) x))) 20 = pW  x (nI (W ++ S25.2.2.2.2).length) (gtW (W ++ S25.2.2.2.2) x) from xw_up_s) (by first | omega | (simp only [List.length_append, List.length_cons, List.length_nil]; omega)) (by omega))) (xw_at xw_up_s rfl) rfl dX5_writeBid_18 ⟨Nat.le_of_ble_eq_true rfl, Nat.le_of_ble_eq_true rfl⟩ rfl (Nat.le_of_ble_eq_true rfl) rfl rfl ?_
    refine xj_iload_n (i := 2) hk dX5_writeBid_21 rfl rfl ?_
    refine xj_iconst (x := (-1)) hk dX5_writeBid_22 (by decide) ?_
    refine xj_icmp_eq (tgt := 37) hk dX5_writeBid_23 (by decide) (fun c23 => ?_) (fun c23 => ?_)
    · refine xj_aload_n (i := 0) hk dX5_writeBid_37 rfl rfl ?_
      refine xj_ldcS hk (q := S27) S27_in rfl dX5_writeBid_38 ?_
      refine xj_callV hk hz (fr1 := 5) (lo1 := 106) (r1 := none) (As := [.ref (xw_ad v (40 + S27.1) 0)]) (st := []) (st2 := []) (G1 := xw_up G 20 (pW  x (nI (W ++ S25.2.2.2.2 ++ dg h ++ S27.2.2.2.2).length) (gtW (W ++ S25.2.2.2.2 ++ dg h ++ S27.2.2.2.2) x))) ml_X5_60 (xk_cg (by rw [xw_up_u] <;> rfl) (c_X5_writeSigns (W := W ++ S25.2.2.2.2 ++ dg h) (q := S27) (show (xw_up G 20 (pW  x (nI (W ++ S25.2.2.2.2 ++ dg h).length) (gtW (W ++ S25.2.2.2.2 ++ dg h) x))) 20 = pW  x (nI (W ++ S25.2.2.2.2 ++ dg h).length) (gtW (W ++ S25.2.2.2.2 ++ dg h) x) from xw_up_s) S27_in (by first | omega | (simp only [List.length_append, List.length_cons, List.length_nil]; omega)))) (xw_at xw_up_s rfl) rfl dX5_writeBid_40 ⟨Nat.le_of_ble_eq_true rfl, Nat.le_of_ble_eq_true rfl⟩ rfl (Nat.le_of_ble_eq_true rfl) rfl rfl ?_
      refine xj_aload_n (i := 0) hk dX5_writeBid_43 rfl rfl ?_
      refine xj_iload_n (i := 3) hk dX5_writeBid_44 rfl rfl ?_
      refine xj_callV hk hz (fr1 := 1) (lo1 := 21) (r1 := none) (As := [.int (nI l)]) (st := []) (st2 := []) (G1 := xw_up G 20 (pW  x (nI (W ++ S25.2.2.2.2 ++ dg h ++ S27.2.2.2.2 ++ dg l).length) (gtW (W ++ S25.2.2.2.2 ++ dg h ++ S27.2.2.2.2 ++ dg l) x))) ml_X5_67 (xk_cg (by rw [xw_up_u] <;> rfl) (c_X5_writeNumber (W := W ++ S25.2.2.2.2 ++ dg h ++ S27.2.2.2.2) (m := l) (show (xw_up G 20 (pW  x (nI (W ++ S25.2.2.2.2 ++ dg h ++ S27.2.2.2.2).length) (gtW (W ++ S25.2.2.2.2 ++ dg h ++ S27.2.2.2.2) x))) 20 = pW  x (nI (W ++ S25.2.2.2.2 ++ dg h ++ S27.2.2.2.2).length) (gtW (W ++ S25.2.2.2.2 ++ dg h ++ S27.2.2.2.2) x) from xw_up_s) (by first | omega | (simp only [List.length_append, List.length_cons, List.length_nil]; omega)) (by omega))) (xw_at xw_up_s rfl) rfl dX5_writeBid_45 ⟨Nat.le_of_ble_eq_true rfl, Nat.le_of_ble_eq_true rfl⟩ rfl (Nat.le_of_ble_eq_true rfl) rfl rfl ?_
      refine xj_aload_n (i := 0) hk dX5_writeBid_48 rfl rfl ?_
      refine xj_ldcS hk (q := S23) S23_in rfl dX5_writeBid_49 ?_
      refine xj_callV hk hz (fr1 := 5) (lo1 := 106) (r1 := none) (As := [.ref (xw_ad v (40 + S23.1) 0)]) (st := []) (st2 := []) (G1 := xw_up G 20 (pW  x (nI (W ++ S25.2.2.2.2 ++ dg h ++ S27.2.2.2.2 ++ dg l ++ S23.2.2.2.2).length) (gtW (W ++ S25.2.2.2.2 ++ dg h ++ S27.2.2.2.2 ++ dg l ++ S23.2.2.2.2) x))) ml_X5_60 (xk_cg (by rw [xw_up_u] <;> rfl) (c_X5_writeSigns (W := W ++ S25.2.2.2.2 ++ dg h ++ S27.2.2.2.2 ++ dg l) (q := S23) (show (xw_up G 20 (pW  x (nI (W ++ S25.2.2.2.2 ++ dg h ++ S27.2.2.2.2 ++ dg l).length) (gtW (W ++ S25.2.2.2.2 ++ dg h ++ S27.2.2.2.2 ++ dg l) x))) 20 = pW  x (nI (W ++ S25.2.2.2.2 ++ dg h ++ S27.2.2.2.2 ++ dg l).length) (gtW (W ++ S25.2.2.2.2 ++ dg h ++ S27.2.2.2.2 ++ dg l) x) from xw_up_s) S23_in (by first | omega | (simp only [List.length_append, List.length_cons, List.length_nil]; omega)))) (xw_at xw_up_s rfl) rfl dX5_writeBid_51 ⟨Nat.le_of_ble_eq_true rfl, Nat.le_of_ble_eq_true rfl⟩ rfl (Nat.le_of_ble_eq_true rfl) rfl rfl ?_
      refine xj_return hk hz dX5_writeBid_54 ?_
      refine ⟨rfl, ?_⟩
      simp only [tB]
      first | (rw [if_pos c3, if_pos c3]; simp only [List.append_assoc, sx0, sx1, sx2, sx3, sx4, sx5, sx6, sx7, sx8, sx9, sx10, sx11, sx12, sx13, sx14, sx15, sx16, sx17, sx18, sx19, sx20, sx21, sx22, sx23, sx24, sx25, sx26, sx27, List.nil_append]; done) | (rw [if_neg c3, if_neg c3]; simp only [List.append_assoc, sx0, sx1, sx2, sx3, sx4, sx5, sx6, sx7, sx8, sx9, sx10, sx11, sx12, sx13, sx14, sx15, sx16, sx17, sx18, sx19, sx20, sx21, sx22, sx23, sx24, sx25, sx26, sx27]; done)
    · exact absurd c3 c23


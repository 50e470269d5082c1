def S0 : Nat × String × Nat × String × List Int32 := (0, "BillTender$Reader", 48, "offer", [111, 102, 102, 101, 114])
theorem S0_in : S0 ∈ xk_strs := List.mem_of_getElem? (i := 0) rfl
theorem sx0 : S0.2.2.2.2 = [111, 102, 102, 101, 114] := rfl
def S1 : Nat × String × Nat × String × List Int32 := (1, "BillTender$Reader", 58, "limit", [108, 105, 109, 105, 116])
theorem S1_in : S1 ∈ xk_strs := List.mem_of_getElem? (i := 1) rfl
theorem sx1 : S1.2.2.2.2 = [108, 105, 109, 105, 116] := rfl
def S2 : Nat × String × Nat × String × List Int32 := (2, "BillTender$Reader", 60, "share", [115, 104, 97, 114, 101])
theorem S2_in : S2 ∈ xk_strs := List.mem_of_getElem? (i := 2) rfl
theorem sx2 : S2.2.2.2.2 = [115, 104, 97, 114, 101] := rfl
def S3 : Nat × String × Nat × String × List Int32 := (3, "BillTender$Reader", 62, "yields", [121, 105, 101, 108, 100, 115])
theorem S3_in : S3 ∈ xk_strs := List.mem_of_getElem? (i := 3) rfl
theorem sx3 : S3.2.2.2.2 = [121, 105, 101, 108, 100, 115] := rfl
def S4 : Nat × String × Nat × String × List Int32 := (4, "BillTender$Reader", 117, "to", [116, 111])
theorem S4_in : S4 ∈ xk_strs := List.mem_of_getElem? (i := 4) rfl
theorem sx4 : S4.2.2.2.2 = [116, 111] := rfl
def S5 : Nat × String × Nat × String × List Int32 := (5, "BillTender$Reader", 67, "days", [100, 97, 121, 115])
theorem S5_in : S5 ∈ xk_strs := List.mem_of_getElem? (i := 5) rfl
theorem sx5 : S5.2.2.2.2 = [100, 97, 121, 115] := rfl
def S6 : Nat × String × Nat × String × List Int32 := (6, "BillTender$Reader", 69, "one", [111, 110, 101])
theorem S6_in : S6 ∈ xk_strs := List.mem_of_getElem? (i := 6) rfl
theorem sx6 : S6.2.2.2.2 = [111, 110, 101] := rfl
def S7 : Nat × String × Nat × String × List Int32 := (7, "BillTender$Reader", 75, "own", [111, 119, 110])
theorem S7_in : S7 ∈ xk_strs := List.mem_of_getElem? (i := 7) rfl
theorem sx7 : S7.2.2.2.2 = [111, 119, 110] := rfl
def S8 : Nat × String × Nat × String × List Int32 := (8, "BillTender$Reader", 77, "holds", [104, 111, 108, 100, 115])
theorem S8_in : S8 ∈ xk_strs := List.mem_of_getElem? (i := 8) rfl
theorem sx8 : S8.2.2.2.2 = [104, 111, 108, 100, 115] := rfl
def S9 : Nat × String × Nat × String × List Int32 := (9, "BillTender$Reader", 85, "owner", [111, 119, 110, 101, 114])
theorem S9_in : S9 ∈ xk_strs := List.mem_of_getElem? (i := 9) rfl
theorem sx9 : S9.2.2.2.2 = [111, 119, 110, 101, 114] := rfl
def S10 : Nat × String × Nat × String × List Int32 := (10, "BillTender$Reader", 90, "bid", [98, 105, 100])
theorem S10_in : S10 ∈ xk_strs := List.mem_of_getElem? (i := 10) rfl
theorem sx10 : S10.2.2.2.2 = [98, 105, 100] := rfl
def S11 : Nat × String × Nat × String × List Int32 := (11, "BillTender$Reader", 123, "lots", [108, 111, 116, 115])
theorem S11_in : S11 ∈ xk_strs := List.mem_of_getElem? (i := 11) rfl
theorem sx11 : S11.2.2.2.2 = [108, 111, 116, 115] := rfl
def S12 : Nat × String × Nat × String × List Int32 := (12, "BillTender$Reader", 99, "plain", [112, 108, 97, 105, 110])
theorem S12_in : S12 ∈ xk_strs := List.mem_of_getElem? (i := 12) rfl
theorem sx12 : S12.2.2.2.2 = [112, 108, 97, 105, 110] := rfl
def S13 : Nat × String × Nat × String × List Int32 := (13, "BillTender$Speller", 58, "offer ", [111, 102, 102, 101, 114, 32])
theorem S13_in : S13 ∈ xk_strs := List.mem_of_getElem? (i := 13) rfl
theorem sx13 : S13.2.2.2.2 = [111, 102, 102, 101, 114, 32] := rfl
def S14 : Nat × String × Nat × String × List Int32 := (14, "BillTender$Speller", 71, ";limit ", [59, 108, 105, 109, 105, 116, 32])
theorem S14_in : S14 ∈ xk_strs := List.mem_of_getElem? (i := 14) rfl
theorem sx14 : S14.2.2.2.2 = [59, 108, 105, 109, 105, 116, 32] := rfl
def S15 : Nat × String × Nat × String × List Int32 := (15, "BillTender$Speller", 73, ";share ", [59, 115, 104, 97, 114, 101, 32])
theorem S15_in : S15 ∈ xk_strs := List.mem_of_getElem? (i := 15) rfl
theorem sx15 : S15.2.2.2.2 = [59, 115, 104, 97, 114, 101, 32] := rfl
def S16 : Nat × String × Nat × String × List Int32 := (16, "BillTender$Speller", 75, ";yields ", [59, 121, 105, 101, 108, 100, 115, 32])
theorem S16_in : S16 ∈ xk_strs := List.mem_of_getElem? (i := 16) rfl
theorem sx16 : S16.2.2.2.2 = [59, 121, 105, 101, 108, 100, 115, 32] := rfl
def S17 : Nat × String × Nat × String × List Int32 := (17, "BillTender$Speller", 77, " to ", [32, 116, 111, 32])
theorem S17_in : S17 ∈ xk_strs := List.mem_of_getElem? (i := 17) rfl
theorem sx17 : S17.2.2.2.2 = [32, 116, 111, 32] := rfl
def S18 : Nat × String × Nat × String × List Int32 := (18, "BillTender$Speller", 79, ";days ", [59, 100, 97, 121, 115, 32])
theorem S18_in : S18 ∈ xk_strs := List.mem_of_getElem? (i := 18) rfl
theorem sx18 : S18.2.2.2.2 = [59, 100, 97, 121, 115, 32] := rfl
def S19 : Nat × String × Nat × String × List Int32 := (19, "BillTender$Speller", 81, ";own;", [59, 111, 119, 110, 59])
theorem S19_in : S19 ∈ xk_strs := List.mem_of_getElem? (i := 19) rfl
theorem sx19 : S19.2.2.2.2 = [59, 111, 119, 110, 59] := rfl
def S20 : Nat × String × Nat × String × List Int32 := (20, "BillTender$Speller", 83, ";one;", [59, 111, 110, 101, 59])
theorem S20_in : S20 ∈ xk_strs := List.mem_of_getElem? (i := 20) rfl
theorem sx20 : S20.2.2.2.2 = [59, 111, 110, 101, 59] := rfl
def S21 : Nat × String × Nat × String × List Int32 := (21, "BillTender$Speller", 31, "holds ", [104, 111, 108, 100, 115, 32])
theorem S21_in : S21 ∈ xk_strs := List.mem_of_getElem? (i := 21) rfl
theorem sx21 : S21.2.2.2.2 = [104, 111, 108, 100, 115, 32] := rfl
def S22 : Nat × String × Nat × String × List Int32 := (22, "BillTender$Speller", 85, " ", [32])
theorem S22_in : S22 ∈ xk_strs := List.mem_of_getElem? (i := 22) rfl
theorem sx22 : S22.2.2.2.2 = [32] := rfl
def S23 : Nat × String × Nat × String × List Int32 := (23, "BillTender$Speller", 87, ";", [59])
theorem S23_in : S23 ∈ xk_strs := List.mem_of_getElem? (i := 23) rfl
theorem sx23 : S23.2.2.2.2 = [59] := rfl
def S24 : Nat × String × Nat × String × List Int32 := (24, "BillTender$Speller", 40, "owner ", [111, 119, 110, 101, 114, 32])
theorem S24_in : S24 ∈ xk_strs := List.mem_of_getElem? (i := 24) rfl
theorem sx24 : S24.2.2.2.2 = [111, 119, 110, 101, 114, 32] := rfl
def S25 : Nat × String × Nat × String × List Int32 := (25, "BillTender$Speller", 89, "plain ", [112, 108, 97, 105, 110, 32])
theorem S25_in : S25 ∈ xk_strs := List.mem_of_getElem? (i := 25) rfl
theorem sx25 : S25.2.2.2.2 = [112, 108, 97, 105, 110, 32] := rfl
def S26 : Nat × String × Nat × String × List Int32 := (26, "BillTender$Speller", 91, "bid ", [98, 105, 100, 32])
theorem S26_in : S26 ∈ xk_strs := List.mem_of_getElem? (i := 26) rfl
theorem sx26 : S26.2.2.2.2 = [98, 105, 100, 32] := rfl
def S27 : Nat × String × Nat × String × List Int32 := (27, "BillTender$Speller", 93, " lots ", [32, 108, 111, 116, 115, 32])
theorem S27_in : S27 ∈ xk_strs := List.mem_of_getElem? (i := 27) rfl
theorem sx27 : S27.2.2.2.2 = [32, 108, 111, 116, 115, 32] := rfl
/-! ===== the text that is spelt ===== -/
/-- the byte at a place, or nothing -/
def gtW (W : List Int32) (x : Int32) : Int32 := if ¬ x < 0 ∧ xn x < W.length then W.getD (xn x) 0 else -2
theorem gtW_s {W : List Int32} {x c : Int32} (hl : W.length < 2 ^ 30) : gtW (W ++ [c]) x = if nI W.length = x then c else gtW W x := by
  simp only [gtW, List.length_append, List.length_singleton]
  by_cases h : nI W.length = x
  · rw [if_pos h, ← h, xn_nI (by omega), if_pos ⟨nI_pos (by omega), by omega⟩]
    simp [List.getD_eq_getElem?_getD]
  · rw [if_neg h]
    by_cases d : x < 0
    · rw [if_neg (fun q => q.1 d), if_neg (fun q => q.1 d)]
    · obtain ⟨k, hk, rfl⟩ := nI_of d
      rw [xn_nI hk]
      have hne : ¬ W.length = k := fun q => h (by rw [q])
      by_cases e : k < W.length
      · rw [if_pos ⟨d, by omega⟩, if_pos ⟨d, e⟩]
        simp only [List.getD_eq_getElem?_getD]
        rw [List.getElem?_append_left e]
      · rw [if_neg (show ¬ (¬ nI k < 0 ∧ k < W.length + 1) from fun q => e (by have := q.2; omega)), if_neg (fun q => e q.2)]
def sWw (x : Int32) (W : List Int32) : sw_T := (x, nI W.length, gtW W x)
set_option maxHeartbeats 1000000 in
set_option maxRecDepth 10000 in
theorem c_X5_writeSign {v : xw_V} {G : xw_G} {W : List Int32} {x : Int32} (g20 : G 20 = pW  x (nI (W).length) (gtW (W) x)) (hl : W.length < 1000000) (c : Int32) : xk_Con v yX5_writeSign cX5_writeSign 2 none 0 0 [.ref (xw_ad v 20 0), .int c] G (xk_ret none (xw_up G 20 (pW  x (nI (W ++ [c]).length) (gtW (W ++ [c]) x)))) := by
  refine xk_of (ls0 := [some (.ref (xw_ad v 20 0)), some (.int c)]) (by decide) rfl (Nat.le_of_ble_eq_true rfl) ?_
  intro κ z hk hz
  refine xj_aload_n (i := 0) hk dX5_writeSign_0 rfl rfl ?_
  refine xj_getfield hk dX5_writeSign_1 fl_X5_15 (xw_at g20 rfl) rfl ?_
  refine xj_aload_n (i := 0) hk dX5_writeSign_4 rfl rfl ?_
  refine xj_getfield hk dX5_writeSign_5 fl_X5_9 (xw_at g20 rfl) rfl ?_
  refine xj_icmp_ne (tgt := 16) hk dX5_writeSign_8 (by decide) (fun c8 => ?_) (fun c8 => ?_)
  · refine xj_aload_n (i := 0) hk dX5_writeSign_16 rfl rfl ?_
    refine xj_dup hk dX5_writeSign_17 rfl ?_
    refine xj_getfield hk dX5_writeSign_18 fl_X5_15 (xw_at g20 rfl) rfl ?_
    refine xj_iconst (x := 1) hk dX5_writeSign_21 (by decide) ?_
    refine xj_iadd hk dX5_writeSign_22 ?_
    refine xj.eqi (x' := nI (W.length + 1)) (nI_1 _) ?_
    refine xj_putfield (G2 := xw_up G 20 (pW  x (nI (W.length + 1)) (gtW (W) x))) hk dX5_writeSign_23 fl_X5_15 rfl rfl (xw_at g20 rfl) (Nat.le_of_ble_eq_true rfl) (xw_wr g20 rfl) ?_
    refine xj_return hk hz dX5_writeSign_26 ?_
    refine ⟨rfl, ?_⟩
    rw [gtW_s (by omega), List.length_append, List.length_singleton]
    rw [if_neg c8]
  · refine xj_aload_n (i := 0) hk dX5_writeSign_11 rfl rfl ?_
    refine xj_iload_n (i := 1) hk dX5_writeSign_12 rfl rfl ?_
    refine xj_putfield (G2 := xw_up G 20 (pW  x (nI (W).length) c)) hk dX5_writeSign_13 fl_X5_18 rfl rfl (xw_at g20 rfl) (Nat.le_of_ble_eq_true rfl) (xw_wr g20 rfl) ?_
    refine xj_aload_n (i := 0) hk dX5_writeSign_16 rfl rfl ?_
    refine xj_dup hk dX5_writeSign_17 rfl ?_
    refine xj_getfield hk dX5_writeSign_18 fl_X5_15 (xw_at xw_up_s rfl) rfl ?_
    refine xj_iconst (x := 1) hk dX5_writeSign_21 (by decide) ?_
    refine xj_iadd hk dX5_writeSign_22 ?_
    refine xj.eqi (x' := nI (W.length + 1)) (nI_1 _) ?_
    refine xj_putfield (G2 := xw_up G 20 (pW  x (nI (W.length + 1)) c)) hk dX5_writeSign_23 fl_X5_15 rfl rfl (xw_at xw_up_s rfl) (Nat.le_of_ble_eq_true rfl) (xw_wr2 rfl) ?_
    refine xj_return hk hz dX5_writeSign_26 ?_
    refine ⟨rfl, ?_⟩
    rw [gtW_s (by omega), List.length_append, List.length_singleton]
    rw [if_pos c8]

theorem take_s {l : List Int32} {k : Nat} (h : k < l.length) : l.take (k + 1) = l.take k ++ [l.getD k 0] := by
  rw [List.take_add_one, List.getD_eq_getElem?_getD, List.getElem?_eq_getElem h]; rfl
theorem dgl (m : Nat) : m / 1 = m := Nat.div_one m
/-- the digits of a number below 100000 -/
def dg (m : Nat) : List Int32 := if m < 10 then [nI (48 + m / 1 % 10)] else if m < 100 then [nI (48 + m / 10 % 10), nI (48 + m / 1 % 10)] else if m < 1000 then [nI (48 + m / 100 % 10), nI (48 + m / 10 % 10), nI (48 + m / 1 % 10)] else if m < 10000 then [nI (48 + m / 1000 % 10), nI (48 + m / 100 % 10), nI (48 + m / 10 % 10), nI (48 + m / 1 % 10)] else [nI (48 + m / 10000 % 10), nI (48 + m / 1000 % 10), nI (48 + m / 100 % 10), nI (48 + m / 10 % 10), nI (48 + m / 1 % 10)]
theorem dg_len (m : Nat) : (dg m).length ≤ 5 := by
  simp only [dg]
  repeat' split
  all_goals simp
set_option maxHeartbeats 1000000 in
set_option maxRecDepth 10000 in
theorem l_X5_writeSigns {v : xw_V} {κ : xk_K} {post : Option Value → xw_G → Prop} {z : Nat × Nat × Nat} {G : xw_G} {W : List Int32} {x : Int32} {q : Nat × String × Nat × String × List Int32} (hk : xk_Ok v κ yX5_writeSigns cX5_writeSigns 3 none 5 106) (hz : xk_zf κ = z) (g20 : G 20 = pW  x (nI (W).length) (gtW (W) x)) (hq : q ∈ xk_strs) (hl : W.length < 900000) (hql : q.2.2.2.2.length < 100) (kx : xj v κ post z (xw_up G 20 (pW  x (nI (W ++ q.2.2.2.2.take q.2.2.2.2.length).length) (gtW (W ++ q.2.2.2.2.take q.2.2.2.2.length) x))) 25 [some (.ref (xw_ad v 20 0)), some (.ref (xw_ad v (40 + q.1) 0)), some (.int (nI q.2.2.2.2.length))] []) : ∀ (m : Nat) (k : Nat), q.2.2.2.2.length - k < m → k ≤ q.2.2.2.2.length → xj v κ post z (xw_up G 20 (pW  x (nI (W ++ q.2.2.2.2.take k).length) (gtW (W ++ q.2.2.2.2.take k) x))) 2 [some (.ref (xw_ad v 20 0)), some (.ref (xw_ad v (40 + q.1) 0)), some (.int (nI k))] [] := by
  intro m
  induction m with
  | zero => intro k h; exact absurd h (Nat.not_lt_zero _)
  | succ m ih =>
    intro k hm hi
    refine xj_iload_n (i := 2) hk dX5_writeSigns_2 rfl rfl ?_
    refine xj_aload_n (i := 1) hk dX5_writeSigns_3 rfl rfl ?_
    refine xj_callStr hk hz hq (fr1 := 1) (lo1 := 20) (As := []) (st := [.int (nI k)]) (st2 := [.int (nI q.2.2.2.2.length), .int (nI k)]) ml_X5_95 (c_len hq) rfl dX5_writeSigns_4 ⟨Nat.le_of_ble_eq_true rfl, Nat.le_of_ble_eq_true rfl⟩ rfl (Nat.le_of_ble_eq_true rfl) rfl rfl ?_
    refine xj_icmp_ge (tgt := 25) hk dX5_writeSigns_7 (by decide) (fun c7 => ?_) (fun c7 => ?_)
    · have c7 : q.2.2.2.2.length ≤ k := (nI_leI (a := q.2.2.2.2.length) (b := k) (by omega) (by omega)).mp c7
      have e9 : k = q.2.2.2.2.length := by omega
      subst e9
      exact kx
    · have c7 : ¬ q.2.2.2.2.length ≤ k := fun q9 => c7 ((nI_leI (a := q.2.2.2.2.length) (b := k) (by omega) (by omega)).mpr q9)
      have hk9 : k < q.2.2.2.2.length := by omega
      refine xj_aload_n (i := 0) hk dX5_writeSigns_10 rfl rfl ?_
      refine xj_aload_n (i := 1) hk dX5_writeSigns_11 rfl rfl ?_
      refine xj_iload_n (i := 2) hk dX5_writeSigns_12 rfl rfl ?_
      refine xj_callStr hk hz hq (fr1 := 4) (lo1 := 85) (As := [.int (nI k)]) (st := [.ref (xw_ad v 20 0)]) (st2 := [.int (q.2.2.2.2.getD k 0), .ref (xw_ad v 20 0)]) ml_X5_100 (c_chr hq (k := k) hk9) rfl dX5_writeSigns_13 ⟨Nat.le_of_ble_eq_true rfl, Nat.le_of_ble_eq_true rfl⟩ rfl (Nat.le_of_ble_eq_true rfl) rfl rfl ?_
      refine xj_callV hk hz (fr1 := 0) (lo1 := 0) (r1 := none) (As := [.int (q.2.2.2.2.getD k 0)]) (st := []) (st2 := []) (G1 := xw_up G 20 (pW  x (nI (W ++ q.2.2.2.2.take k ++ [q.2.2.2.2.getD k 0]).length) (gtW (W ++ q.2.2.2.2.take k ++ [q.2.2.2.2.getD k 0]) x))) ml_X5_104 (xk_cg (by rw [xw_up_u] <;> rfl) (c_X5_writeSign (W := W ++ q.2.2.2.2.take k) (show (xw_up G 20 (pW  x (nI (W ++ q.2.2.2.2.take k).length) (gtW (W ++ q.2.2.2.2.take k) x))) 20 = pW  x (nI (W ++ q.2.2.2.2.take k).length) (gtW (W ++ q.2.2.2.2.take k) x) from xw_up_s) (by rw [List.length_append, List.length_take]; omega) (q.2.2.2.2.getD k 0))) (xw_at xw_up_s rfl) rfl dX5_writeSigns_16 ⟨Nat.le_of_ble_eq_true rfl, Nat.le_of_ble_eq_true rfl⟩ rfl (Nat.le_of_ble_eq_true rfl) rfl rfl ?_
      refine xj_iinc (i := 2) (x2 := nI (k + 1)) (ls2 := [some (.ref (xw_ad v 20 0)), some (.ref (xw_ad v (40 + q.1) 0)), some (.int (nI (k + 1)))]) hk dX5_writeSigns_19 rfl (nI_1 k) (by decide) rfl rfl ?_
      refine xj_goto (tgt := 2) hk dX5_writeSigns_22 (by decide) ?_
      refine xj.eqG (G' := xw_up G 20 (pW  x (nI (W ++ q.2.2.2.2.take ((k + 1))).length) (gtW (W ++ q.2.2.2.2.take ((k + 1))) x))) (by rw [take_s hk9, List.append_assoc]) (ih (k + 1) (by omega) (by omega))

set_option maxHeartbeats 1000000 in
set_option maxRecDepth 10000 in
theorem c_X5_writeSigns {v : xw_V} {G : xw_G} {W : List Int32} {x : Int32} {q : Nat × String × Nat × String × List Int32} (g20 : G 20 = pW  x (nI (W).length) (gtW (W) x)) (hq : q ∈ xk_strs) (hl : W.length < 900000) : xk_Con v yX5_writeSigns cX5_writeSigns 3 none 5 106 [.ref (xw_ad v 20 0), .ref (xw_ad v (40 + q.1) 0)] G (xk_ret none (xw_up G 20 (pW  x (nI (W ++ q.2.2.2.2).length) (gtW (W ++ q.2.2.2.2) x)))) := by
  refine xk_of (ls0 := [some (.ref (xw_ad v 20 0)), some (.ref (xw_ad v (40 + q.1) 0)), none]) (by decide) rfl (Nat.le_of_ble_eq_true rfl) ?_
  intro κ z hk hz
  refine xj_iconst (x := 0) hk dX5_writeSigns_0 (by decide) ?_
  refine xj_istore_n (i := 2) (ls2 := [some (.ref (xw_ad v 20 0)), some (.ref (xw_ad v (40 + q.1) 0)), some (.int 0)]) hk dX5_writeSigns_1 rfl (by decide) rfl rfl ?_
  refine xj.eqG (G' := xw_up G 20 (pW  x (nI (W ++ q.2.2.2.2.take 0).length) (gtW (W ++ q.2.2.2.2.take 0) x))) (by rw [List.take_zero, List.append_nil]; exact (xw_up_same g20).symm) ?_
  refine l_X5_writeSigns hk hz g20 hq hl (xs_all q hq).1 ?_ (q.2.2.2.2.length + 1) 0 (by omega) (by omega)
  refine xj_return hk hz dX5_writeSigns_25 ?_
  exact ⟨rfl, by rw [List.take_length]⟩

set_option maxHeartbeats 1000000 in
set_option maxRecDepth 10000 in
theorem c_X5_writeNumber {v : xw_V} {G : xw_G} {W : List Int32} {x : Int32} {m : Nat} (g20 : G 20 = pW  x (nI (W).length) (gtW (W) x)) (hl : W.length < 900000) (hm : m ≤ 99999) : xk_Con v yX5_writeNumber cX5_writeNumber 5 none 1 21 [.ref (xw_ad v 20 0), .int (nI m)] G (xk_ret none (xw_up G 20 (pW  x (nI (W ++ dg m).length) (gtW (W ++ dg m) x)))) := by
  refine xk_of (ls0 := [some (.ref (xw_ad v 20 0)), some (.int (nI m)), none, none, none]) (by decide) rfl (Nat.le_of_ble_eq_true rfl) ?_
  intro κ z hk hz
  refine xj_iconst (x := 0) hk dX5_writeNumber_0 (by decide) ?_
  refine xj_istore_n (i := 2) (ls2 := [some (.ref (xw_ad v 20 0)), some (.int (nI m)), some (.int 0), none, none]) hk dX5_writeNumber_1 rfl (by decide) rfl rfl ?_
  refine xj_sipush (x := 10000) hk dX5_writeNumber_2 (by decide) ?_
  refine xj_istore_n (i := 3) (ls2 := [some (.ref (xw_ad v 20 0)), some (.int (nI m)), some (.int 0), some (.int 10000), none]) hk dX5_writeNumber_5 rfl (by decide) rfl rfl ?_
  refine xj_iload_n (i := 3) hk dX5_writeNumber_6 rfl rfl ?_
  refine xj_if_le (tgt := 59) hk dX5_writeNumber_7 (by decide) (fun c7 => False.elim (by revert c7; decide)) (fun c7 => ?_)
  refine xj_iload_n (i := 1) hk dX5_writeNumber_10 rfl rfl ?_
  refine xj_iload_n (i := 3) hk dX5_writeNumber_11 rfl rfl ?_
  refine xj_idiv hk dX5_writeNumber_12 (by decide) ?_
  refine xj.eqi (x' := nI (m / 10000)) (pk_div (a := m) (d := 10000) (by omega) (by decide) (by decide)) ?_
  refine xj_bipush (x := 10) hk dX5_writeNumber_13 (by decide) ?_
  refine xj_irem hk dX5_writeNumber_15 (by decide) ?_
  refine xj.eqi (x' := nI (m / 10000 % 10)) (pk_rem (a := m / 10000) (d := 10) (by omega) (by decide) (by decide)) ?_
  refine xj_istore (i := 4) (ls2 := [some (.ref (xw_ad v 20 0)), some (.int (nI m)), some (.int 0), some (.int 10000), some (.int (nI (m / 10000 % 10)))]) hk dX5_writeNumber_16 (by decide) rfl rfl ?_
  refine xj_iload_n (i := 2) hk dX5_writeNumber_18 rfl rfl ?_
  refine xj_if_ne (tgt := 32) hk dX5_writeNumber_19 (by decide) (fun c19 => False.elim (by revert c19; decide)) (fun c19 => ?_)
  refine xj_iload hk dX5_writeNumber_22 rfl ?_
  refine xj_if_gt (tgt := 32) hk dX5_writeNumber_24 (by decide) (fun c24 => ?_) (fun c24 => ?_)
  · have c24 : 0 < m / 10000 % 10 := (nI_ltI (a := 0) (b := m / 10000 % 10) (by omega) (by omega)).mp c24
    refine xj_iconst (x := 1) hk dX5_writeNumber_32 (by decide) ?_
    refine xj_goto (tgt := 37) hk dX5_writeNumber_33 (by decide) ?_
    refine xj_istore_n (i := 2) (ls2 := [some (.ref (xw_ad v 20 0)), some (.int (nI m)), some (.int 1), some (.int 10000), some (.int (nI (m / 10000 % 10)))]) hk dX5_writeNumber_37 rfl (by decide) rfl rfl ?_
    refine xj_iload_n (i := 2) hk dX5_writeNumber_38 rfl rfl ?_
    refine xj_if_eq (tgt := 51) hk dX5_writeNumber_39 (by decide) (fun c39 => False.elim (by revert c39; decide)) (fun c39 => ?_)
    refine xj_aload_n (i := 0) hk dX5_writeNumber_42 rfl rfl ?_
    refine xj_bipush (x := 48) hk dX5_writeNumber_43 (by decide) ?_
    refine xj_iload hk dX5_writeNumber_45 rfl ?_
    refine xj_iadd hk dX5_writeNumber_47 ?_
    refine xj.eqi (x' := nI (48 + (m / 10000 % 10))) (nI_add 48 ((m / 10000 % 10))) ?_
    refine xj_callV hk hz (fr1 := 0) (lo1 := 0) (r1 := none) (As := [.int (nI (48 + (m / 10000 % 10)))]) (st := []) (st2 := []) (G1 := xw_up G 20 (pW  x (nI (W ++ [nI (48 + (m / 10000 % 10))]).length) (gtW (W ++ [nI (48 + (m / 10000 % 10))]) x))) ml_X5_104 (c_X5_writeSign (W := W) (show G 20 = pW  x (nI (W).length) (gtW (W) x) from g20) (by first | omega | (simp only [List.length_append, List.length_cons, List.length_nil]; omega)) (nI (48 + (m / 10000 % 10)))) (xw_at g20 rfl) rfl dX5_writeNumber_48 ⟨Nat.le_of_ble_eq_true rfl, Nat.le_of_ble_eq_true rfl⟩ rfl (Nat.le_of_ble_eq_true rfl) rfl rfl ?_
    refine xj_iload_n (i := 3) hk dX5_writeNumber_51 rfl rfl ?_
    refine xj_bipush (x := 10) hk dX5_writeNumber_52 (by decide) ?_
    refine xj_idiv hk dX5_writeNumber_54 (by decide) ?_
    refine xj.eqi (x' := 1000) (by decide) ?_
    refine xj_istore_n (i := 3) (ls2 := [some (.ref (xw_ad v 20 0)), some (.int (nI m)), some (.int 1), some (.int 1000), some (.int (nI (m / 10000 % 10)))]) hk dX5_writeNumber_55 rfl (by decide) rfl rfl ?_
    refine xj_goto (tgt := 6) hk dX5_writeNumber_56 (by decide) ?_
    refine xj_iload_n (i := 3) hk dX5_writeNumber_6 rfl rfl ?_
    refine xj_if_le (tgt := 59) hk dX5_writeNumber_7 (by decide) (fun c7 => False.elim (by revert c7; decide)) (fun c7 => ?_)
    refine xj_iload_n (i := 1) hk dX5_writeNumber_10 rfl rfl ?_
    refine xj_iload_n (i := 3) hk dX5_writeNumber_11 rfl rfl ?_
    refine xj_idiv hk dX5_writeNumber_12 (by decide) ?_
    refine xj.eqi (x' := nI (m / 1000)) (pk_div (a := m) (d := 1000) (by omega) (by decide) (by decide)) ?_
    refine xj_bipush (x := 10) hk dX5_writeNumber_13 (by decide) ?_
    refine xj_irem hk dX5_writeNumber_15 (by decide) ?_
    refine xj.eqi (x' := nI (m / 1000 % 10)) (pk_rem (a := m / 1000) (d := 10) (by omega) (by decide) (by decide)) ?_
    refine xj_istore (i := 4) (ls2 := [some (.ref (xw_ad v 20 0)), some (.int (nI m)), some (.int 1), some (.int 1000), some (.int (nI (m / 1000 % 10)))]) hk dX5_writeNumber_16 (by decide) rfl rfl ?_
    refine xj_iload_n (i := 2) hk dX5_writeNumber_18 rfl rfl ?_
    refine xj_if_ne (tgt := 32) hk dX5_writeNumber_19 (by decide) (fun c19 => ?_) (fun c19 => False.elim (by revert c19; decide))
    refine xj_iconst (x := 1) hk dX5_writeNumber_32 (by decide) ?_
    refine xj_goto (tgt := 37) hk dX5_writeNumber_33 (by decide) ?_
    refine xj_istore_n (i := 2) (ls2 := [some (.ref (xw_ad v 20 0)), some (.int (nI m)), some (.int 1), some (.int 1000), some (.int (nI (m / 1000 % 10)))]) hk dX5_writeNumber_37 rfl (by decide) rfl rfl ?_
    refine xj_iload_n (i := 2) hk dX5_writeNumber_38 rfl rfl ?_
    refine xj_if_eq (tgt := 51) hk dX5_writeNumber_39 (by decide) (fun c39 => False.elim (by revert c39; decide)) (fun c39 => ?_)
    refine xj_aload_n (i := 0) hk dX5_writeNumber_42 rfl rfl ?_
    refine xj_bipush (x := 48) hk dX5_writeNumber_43 (by decide) ?_
    refine xj_iload hk dX5_writeNumber_45 rfl ?_
    refine xj_iadd hk dX5_writeNumber_47 ?_
    refine xj.eqi (x' := nI (48 + (m / 1000 % 10))) (nI_add 48 ((m / 1000 % 10))) ?_
    refine xj_callV hk hz (fr1 := 0) (lo1 := 0) (r1 := none) (As := [.int (nI (48 + (m / 1000 % 10)))]) (st := []) (st2 := []) (G1 := xw_up G 20 (pW  x (nI (W ++ [nI (48 + (m / 10000 % 10))] ++ [nI (48 + (m / 1000 % 10))]).length) (gtW (W ++ [nI (48 + (m / 10000 % 10))] ++ [nI (48 + (m / 1000 % 10))]) x))) ml_X5_104 (xk_cg (by rw [xw_up_u] <;> rfl) (c_X5_writeSign (W := W ++ [nI (48 + (m / 10000 % 10))]) (show (xw_up G 20 (pW  x (nI (W ++ [nI (48 + (m / 10000 % 10))]).length) (gtW (W ++ [nI (48 + (m / 10000 % 10))]) x))) 20 = pW  x (nI (W ++ [nI (48 + (m / 10000 % 10))]).length) (gtW (W ++ [nI (48 + (m / 10000 % 10))]) x) from xw_up_s) (by first | omega | (simp only [List.length_append, List.length_cons, List.length_nil]; omega)) (nI (48 + (m / 1000 % 10))))) (xw_at xw_up_s rfl) rfl dX5_writeNumber_48 ⟨Nat.le_of_ble_eq_true rfl, Nat.le_of_ble_eq_true rfl⟩ rfl (Nat.le_of_ble_eq_true rfl) rfl rfl ?_
    refine xj_iload_n (i := 3) hk dX5_writeNumber_51 rfl rfl ?_
    refine xj_bipush (x := 10) hk dX5_writeNumber_52 (by decide) ?_
    refine xj_idiv hk dX5_writeNumber_54 (by decide) ?_
    refine xj.eqi (x' := 100) (by decide) ?_
    refine xj_istore_n (i := 3) (ls2 := [some (.ref (xw_ad v 20 0)), some (.int (nI m)), some (.int 1), some (.int 100), some (.int (nI (m / 1000 % 10)))]) hk dX5_writeNumber_55 rfl (by decide) rfl rfl ?_
    refine xj_goto (tgt := 6) hk dX5_writeNumber_56 (by decide) ?_
    refine xj_iload_n (i := 3) hk dX5_writeNumber_6 rfl rfl ?_
    refine xj_if_le (tgt := 59) hk dX5_writeNumber_7 (by decide) (fun c7 => False.elim (by revert c7; decide)) (fun c7 => ?_)
    refine xj_iload_n (i := 1) hk dX5_writeNumber_10 rfl rfl ?_
    refine xj_iload_n (i := 3) hk dX5_writeNumber_11 rfl rfl ?_
    refine xj_idiv hk dX5_writeNumber_12 (by decide) ?_
    refine xj.eqi (x' := nI (m / 100)) (pk_div (a := m) (d := 100) (by omega) (by decide) (by decide)) ?_
    refine xj_bipush (x := 10) hk dX5_writeNumber_13 (by decide) ?_
    refine xj_irem hk dX5_writeNumber_15 (by decide) ?_
    refine xj.eqi (x' := nI (m / 100 % 10)) (pk_rem (a := m / 100) (d := 10) (by omega) (by decide) (by decide)) ?_
    refine xj_istore (i := 4) (ls2 := [some (.ref (xw_ad v 20 0)), some (.int (nI m)), some (.int 1), some (.int 100), some (.int (nI (m / 100 % 10)))]) hk dX5_writeNumber_16 (by decide) rfl rfl ?_
    refine xj_iload_n (i := 2) hk dX5_writeNumber_18 rfl rfl ?_
    refine xj_if_ne (tgt := 32) hk dX5_writeNumber_19 (by decide) (fun c19 => ?_) (fun c19 => False.elim (by revert c19; decide))
    refine xj_iconst (x := 1) hk dX5_writeNumber_32 (by decide) ?_
    refine xj_goto (tgt := 37) hk dX5_writeNumber_33 (by decide) ?_
    refine xj_istore_n (i := 2) (ls2 := [some (.ref (xw_ad v 20 0)), some (.int (nI m)), some (.int 1), some (.int 100), some (.int (nI (m / 100 % 10)))]) hk dX5_writeNumber_37 rfl (by decide) rfl rfl ?_
    refine xj_iload_n (i := 2) hk dX5_writeNumber_38 rfl rfl ?_
    refine xj_if_eq (tgt := 51) hk dX5_writeNumber_39 (by decide) (fun c39 => False.elim (by revert c39; decide)) (fun c39 => ?_)
    refine xj_aload_n (i := 0) hk dX5_writeNumber_42 rfl rfl ?_
    refine xj_bipush (x := 48) hk dX5_writeNumber_43 (by decide) ?_
    refine xj_iload hk dX5_writeNumber_45 rfl ?_
    refine xj_iadd hk dX5_writeNumber_47 ?_
    refine xj.eqi (x' := nI (48 + (m / 100 % 10))) (nI_add 48 ((m / 100 % 10))) ?_
    refine xj_callV hk hz (fr1 := 0) (lo1 := 0) (r1 := none) (As := [.int (nI (48 + (m / 100 % 10)))]) (st := []) (st2 := []) (G1 := xw_up G 20 (pW  x (nI (W ++ [nI (48 + (m / 10000 % 10))] ++ [nI (48 + (m / 1000 % 10))] ++ [nI (48 + (m / 100 % 10))]).length) (gtW (W ++ [nI (48 + (m / 10000 % 10))] ++ [nI (48 + (m / 1000 % 10))] ++ [nI (48 + (m / 100 % 10))]) x))) ml_X5_104 (xk_cg (by rw [xw_up_u] <;> rfl) (c_X5_writeSign (W := W ++ [nI (48 + (m / 10000 % 10))] ++ [nI (48 + (m / 1000 % 10))]) (show (xw_up G 20 (pW  x (nI (W ++ [nI (48 + (m / 10000 % 10))] ++ [nI (48 + (m / 1000 % 10))]).length) (gtW (W ++ [nI (48 + (m / 10000 % 10))] ++ [nI (48 + (m / 1000 % 10))]) x))) 20 = pW  x (nI (W ++ [nI (48 + (m / 10000 % 10))] ++ [nI (48 + (m / 1000 % 10))]).length) (gtW (W ++ [nI (48 + (m / 10000 % 10))] ++ [nI (48 + (m / 1000 % 10))]) x) from xw_up_s) (by first | omega | (simp only [List.length_append, List.length_cons, List.length_nil]; omega)) (nI (48 + (m / 100 % 10))))) (xw_at xw_up_s rfl) rfl dX5_writeNumber_48 ⟨Nat.le_of_ble_eq_true rfl, Nat.le_of_ble_eq_true rfl⟩ rfl (Nat.le_of_ble_eq_true rfl) rfl rfl ?_
    refine xj_iload_n (i := 3) hk dX5_writeNumber_51 rfl rfl ?_
    refine xj_bipush (x := 10) hk dX5_writeNumber_52 (by decide) ?_
    refine xj_idiv hk dX5_writeNumber_54 (by decide) ?_
    refine xj.eqi (x' := 10) (by decide) ?_
    refine xj_istore_n (i := 3) (ls2 := [some (.ref (xw_ad v 20 0)), some (.int (nI m)), some (.int 1), some (.int 10), some (.int (nI (m / 100 % 10)))]) hk dX5_writeNumber_55 rfl (by decide) rfl rfl ?_
    refine xj_goto (tgt := 6) hk dX5_writeNumber_56 (by decide) ?_
    refine xj_iload_n (i := 3) hk dX5_writeNumber_6 rfl rfl ?_
    refine xj_if_le (tgt := 59) hk dX5_writeNumber_7 (by decide) (fun c7 => False.elim (by revert c7; decide)) (fun c7 => ?_)
    refine xj_iload_n (i := 1) hk dX5_writeNumber_10 rfl rfl ?_
    refine xj_iload_n (i := 3) hk dX5_writeNumber_11 rfl rfl ?_
    refine xj_idiv hk dX5_writeNumber_12 (by decide) ?_
    refine xj.eqi (x' := nI (m / 10)) (pk_div (a := m) (d := 10) (by omega) (by decide) (by decide)) ?_
    refine xj_bipush (x := 10) hk dX5_writeNumber_13 (by decide) ?_
    refine xj_irem hk dX5_writeNumber_15 (by decide) ?_
    refine xj.eqi (x' := nI (m / 10 % 10)) (pk_rem (a := m / 10) (d := 10) (by omega) (by decide) (by decide)) ?_
    refine xj_istore (i := 4) (ls2 := [some (.ref (xw_ad v 20 0)), some (.int (nI m)), some (.int 1), some (.int 10), some (.int (nI (m / 10 % 10)))]) hk dX5_writeNumber_16 (by decide) rfl rfl ?_
    refine xj_iload_n (i := 2) hk dX5_writeNumber_18 rfl rfl ?_
    refine xj_if_ne (tgt := 32) hk dX5_writeNumber_19 (by decide) (fun c19 => ?_) (fun c19 => False.elim (by revert c19; decide))
    refine xj_iconst (x := 1) hk dX5_writeNumber_32 (by decide) ?_
    refine xj_goto (tgt := 37) hk dX5_writeNumber_33 (by decide) ?_
    refine xj_istore_n (i := 2) (ls2 := [some (.ref (xw_ad v 20 0)), some (.int (nI m)), some (.int 1), some (.int 10), some (.int (nI (m / 10 % 10)))]) hk dX5_writeNumber_37 rfl (by decide) rfl rfl ?_
    refine xj_iload_n (i := 2) hk dX5_writeNumber_38 rfl rfl ?_
    refine xj_if_eq (tgt := 51) hk dX5_writeNumber_39 (by decide) (fun c39 => False.elim (by revert c39; decide)) (fun c39 => ?_)
    refine xj_aload_n (i := 0) hk dX5_writeNumber_42 rfl rfl ?_
    refine xj_bipush (x := 48) hk dX5_writeNumber_43 (by decide) ?_
    refine xj_iload hk dX5_writeNumber_45 rfl ?_
    refine xj_iadd hk dX5_writeNumber_47 ?_
    refine xj.eqi (x' := nI (48 + (m / 10 % 10))) (nI_add 48 ((m / 10 % 10))) ?_
    refine xj_callV hk hz (fr1 := 0) (lo1 := 0) (r1 := none) (As := [.int (nI (48 + (m / 10 % 10)))]) (st := []) (st2 := []) (G1 := xw_up G 20 (pW  x (nI (W ++ [nI (48 + (m / 10000 % 10))] ++ [nI (48 + (m / 1000 % 10))] ++ [nI (48 + (m / 100 % 10))] ++ [nI (48 + (m / 10 % 10))]).length) (gtW (W ++ [nI (48 + (m / 10000 % 10))] ++ [nI (48 + (m / 1000 % 10))] ++ [nI (48 + (m / 100 % 10))] ++ [nI (48 + (m / 10 % 10))]) x))) ml_X5_104 (xk_cg (by rw [xw_up_u] <;> rfl) (c_X5_writeSign (W := W ++ [nI (48 + (m / 10000 % 10))] ++ [nI (48 + (m / 1000 % 10))] ++ [nI (48 + (m / 100 % 10))]) (show (xw_up G 20 (pW  x (nI (W ++ [nI (48 + (m / 10000 % 10))] ++ [nI (48 + (m / 1000 % 10))] ++ [nI (48 + (m / 100 % 10))]).length) (gtW (W ++ [nI (48 + (m / 10000 % 10))] ++ [nI (48 + (m / 1000 % 10))] ++ [nI (48 + (m / 100 % 10))]) x))) 20 = pW  x (nI (W ++ [nI (48 + (m / 10000 % 10))] ++ [nI (48 + (m / 1000 % 10))] ++ [nI (48 + (m / 100 % 10))]).length) (gtW (W ++ [nI (48 + (m / 10000 % 10))] ++ [nI (48 + (m / 1000 % 10))] ++ [nI (48 + (m / 100 % 10))]) x) from xw_up_s) (by first | omega | (simp only [List.length_append, List.length_cons, List.length_nil]; omega)) (nI (48 + (m / 10 % 10))))) (xw_at xw_up_s rfl) rfl dX5_writeNumber_48 ⟨Nat.le_of_ble_eq_true rfl, Nat.le_of_ble_eq_true rfl⟩ rfl (Nat.le_of_ble_eq_true rfl) rfl rfl ?_
    refine xj_iload_n (i := 3) hk dX5_writeNumber_51 rfl rfl ?_
    refine xj_bipush (x := 10) hk dX5_writeNumber_52 (by decide) ?_
    refine xj_idiv hk dX5_writeNumber_54 (by decide) ?_
    refine xj.eqi (x' := 1) (by decide) ?_
    refine xj_istore_n (i := 3) (ls2 := [some (.ref (xw_ad v 20 0)), some (.int (nI m)), some (.int 1), some (.int 1), some (.int (nI (m / 10 % 10)))]) hk dX5_writeNumber_55 rfl (by decide) rfl rfl ?_
    refine xj_goto (tgt := 6) hk dX5_writeNumber_56 (by decide) ?_
    refine xj_iload_n (i := 3) hk dX5_writeNumber_6 rfl rfl ?_
    refine xj_if_le (tgt := 59) hk dX5_writeNumber_7 (by decide) (fun c7 => False.elim (by revert c7; decide)) (fun c7 => ?_)
    refine xj_iload_n (i := 1) hk dX5_writeNumber_10 rfl rfl ?_
    refine xj_iload_n (i := 3) hk dX5_writeNumber_11 rfl rfl ?_
    refine xj_idiv hk dX5_writeNumber_12 (by decide) ?_
    refine xj.eqi (x' := nI (m / 1)) (pk_div (a := m) (d := 1) (by omega) (by decide) (by decide)) ?_
    refine xj_bipush (x := 10) hk dX5_writeNumber_13 (by decide) ?_
    refine xj_irem hk dX5_writeNumber_15 (by decide) ?_
    refine xj.eqi (x' := nI (m / 1 % 10)) (pk_rem (a := m / 1) (d := 10) (by omega) (by decide) (by decide)) ?_
    refine xj_istore (i := 4) (ls2 := [some (.ref (xw_ad v 20 0)), some (.int (nI m)), some (.int 1), some (.int 1), some (.int (nI (m / 1 % 10)))]) hk dX5_writeNumber_16 (by decide) rfl rfl ?_
    refine xj_iload_n (i := 2) hk dX5_writeNumber_18 rfl rfl ?_
    refine xj_if_ne (tgt := 32) hk dX5_writeNumber_19 (by decide) (fun c19 => ?_) (fun c19 => False.elim (by revert c19; decide))
    refine xj_iconst (x := 1) hk dX5_writeNumber_32 (by decide) ?_
    refine xj_goto (tgt := 37) hk dX5_writeNumber_33 (by decide) ?_
    refine xj_istore_n (i := 2) (ls2 := [some (.ref (xw_ad v 20 0)), some (.int (nI m)), some (.int 1), some (.int 1), some (.int (nI (m / 1 % 10)))]) hk dX5_writeNumber_37 rfl (by decide) rfl rfl ?_
    refine xj_iload_n (i := 2) hk dX5_writeNumber_38 rfl rfl ?_
    refine xj_if_eq (tgt := 51) hk dX5_writeNumber_39 (by decide) (fun c39 => False.elim (by revert c39; decide)) (fun c39 => ?_)
    refine xj_aload_n (i := 0) hk dX5_writeNumber_42 rfl rfl ?_
    refine xj_bipush (x := 48) hk dX5_writeNumber_43 (by decide) ?_
    refine xj_iload hk dX5_writeNumber_45 rfl ?_
    refine xj_iadd hk dX5_writeNumber_47 ?_
    refine xj.eqi (x' := nI (48 + (m / 1 % 10))) (nI_add 48 ((m / 1 % 10))) ?_
    refine xj_callV hk hz (fr1 := 0) (lo1 := 0) (r1 := none) (As := [.int (nI (48 + (m / 1 % 10)))]) (st := []) (st2 := []) (G1 := xw_up G 20 (pW  x (nI (W ++ [nI (48 + (m / 10000 % 10))] ++ [nI (48 + (m / 1000 % 10))] ++ [nI (48 + (m / 100 % 10))] ++ [nI (48 + (m / 10 % 10))] ++ [nI (48 + (m / 1 % 10))]).length) (gtW (W ++ [nI (48 + (m / 10000 % 10))] ++ [nI (48 + (m / 1000 % 10))] ++ [nI (48 + (m / 100 % 10))] ++ [nI (48 + (m / 10 % 10))] ++ [nI (48 + (m / 1 % 10))]) x))) ml_X5_104 (xk_cg (by rw [xw_up_u] <;> rfl) (c_X5_writeSign (W := W ++ [nI (48 + (m / 10000 % 10))] ++ [nI (48 + (m / 1000 % 10))] ++ [nI (48 + (m / 100 % 10))] ++ [nI (48 + (m / 10 % 10))]) (show (xw_up G 20 (pW  x (nI (W ++ [nI (48 + (m / 10000 % 10))] ++ [nI (48 + (m / 1000 % 10))] ++ [nI (48 + (m / 100 % 10))] ++ [nI (48 + (m / 10 % 10))]).length) (gtW (W ++ [nI (48 + (m / 10000 % 10))] ++ [nI (48 + (m / 1000 % 10))] ++ [nI (48 + (m / 100 % 10))] ++ [nI (48 + (m / 10 % 10))]) x))) 20 = pW  x (nI (W ++ [nI (48 + (m / 10000 % 10))] ++ [nI (48 + (m / 1000 % 10))] ++ [nI (48 + (m / 100 % 10))] ++ [nI (48 + (m / 10 % 10))]).length) (gtW (W ++ [nI (48 + (m / 10000 % 10))] ++ [nI (48 + (m / 1000 % 10))] ++ [nI (48 + (m / 100 % 10))] ++ [nI (48 + (m / 10 % 10))]) x) from xw_up_s) (by first | omega | (simp only [List.length_append, List.length_cons, List.length_nil]; omega)) (nI (48 + (m / 1 % 10))))) (xw_at xw_up_s rfl) rfl dX5_writeNumber_48 ⟨Nat.le_of_ble_eq_true rfl, Nat.le_of_ble_eq_true rfl⟩ rfl (Nat.le_of_ble_eq_true rfl) rfl rfl ?_
    refine xj_iload_n (i := 3) hk dX5_writeNumber_51 rfl rfl ?_
    refine xj_bipush (x := 10) hk dX5_writeNumber_52 (by decide) ?_
    refine xj_idiv hk dX5_writeNumber_54 (by decide) ?_
    refine xj.eqi (x' := 0) (by decide) ?_
    refine xj_istore_n (i := 3) (ls2 := [some (.ref (xw_ad v 20 0)), some (.int (nI m)), some (.int 1), some (.int 0), some (.int (nI (m / 1 % 10)))]) hk dX5_writeNumber_55 rfl (by decide) rfl rfl ?_
    refine xj_goto (tgt := 6) hk dX5_writeNumber_56 (by decide) ?_
    refine xj_iload_n (i := 3) hk dX5_writeNumber_6 rfl rfl ?_
    refine xj_if_le (tgt := 59) hk dX5_writeNumber_7 (by decide) (fun c7 => ?_) (fun c7 => False.elim (by revert c7; decide))
    refine xj_return hk hz dX5_writeNumber_59 ?_
    refine ⟨rfl, ?_⟩
    simp only [dg]
    first | (rw [if_pos (by omega)]; done) | (rw [if_pos (by omega)]; simp only [List.append_assoc, List.cons_append, List.nil_append]; done) | (rw [if_neg (by omega), if_pos (by omega)]; simp only [List.append_assoc, List.cons_append, List.nil_append]; done) | (rw [if_neg (by omega), if_neg (by omega), if_pos (by omega)]; simp only [List.append_assoc, List.cons_append, List.nil_append]; done) | (rw [if_neg (by omega), if_neg (by omega), if_neg (by omega), if_pos (by omega)]; simp only [List.append_assoc, List.cons_append, List.nil_append]; done) | (rw [if_neg (by omega), if_neg (by omega), if_neg (by omega), if_neg (by omega)]; simp only [List.append_assoc, List.cons_append, List.nil_append]; done)
  · have c24 : ¬ 0 < m / 10000 % 10 := fun q => c24 ((nI_ltI (a := 0) (b := m / 10000 % 10) (by omega) (by omega)).mpr q)
    refine xj_iload_n (i := 3) hk dX5_writeNumber_27 rfl rfl ?_
    refine xj_iconst (x := 1) hk dX5_writeNumber_28 (by decide) ?_
    refine xj_icmp_ne (tgt := 36) hk dX5_writeNumber_29 (by decide) (fun c29 => ?_) (fun c29 => False.elim (by revert c29; decide))
    refine xj_iconst (x := 0) hk dX5_writeNumber_36 (by decide) ?_
    refine xj_istore_n (i := 2) (ls2 := [some (.ref (xw_ad v 20 0)), some (.int (nI m)), some (.int 0), some (.int 10000), some (.int (nI (m / 10000 % 10)))]) hk dX5_writeNumber_37 rfl (by decide) rfl rfl ?_
    refine xj_iload_n (i := 2) hk dX5_writeNumber_38 rfl rfl ?_
    refine xj_if_eq (tgt := 51) hk dX5_writeNumber_39 (by decide) (fun c39 => ?_) (fun c39 => False.elim (by revert c39; decide))
    refine xj_iload_n (i := 3) hk dX5_writeNumber_51 rfl rfl ?_
    refine xj_bipush (x := 10) hk dX5_writeNumber_52 (by decide) ?_
    refine xj_idiv hk dX5_writeNumber_54 (by decide) ?_
    refine xj.eqi (x' := 1000) (by decide) ?_
    refine xj_istore_n (i := 3) (ls2 := [some (.ref (xw_ad v 20 0)), some (.int (nI m)), some (.int 0), some (.int 1000), some (.int (nI (m / 10000 % 10)))]) hk dX5_writeNumber_55 rfl (by decide) rfl rfl ?_
    refine xj_goto (tgt := 6) hk dX5_writeNumber_56 (by decide) ?_
    refine xj_iload_n (i := 3) hk dX5_writeNumber_6 rfl rfl ?_
    refine xj_if_le (tgt := 59) hk dX5_writeNumber_7 (by decide) (fun c7 => False.elim (by revert c7; decide)) (fun c7 => ?_)
    refine xj_iload_n (i := 1) hk dX5_writeNumber_10 rfl rfl ?_
    refine xj_iload_n (i := 3) hk dX5_writeNumber_11 rfl rfl ?_
    refine xj_idiv hk dX5_writeNumber_12 (by decide) ?_
    refine xj.eqi (x' := nI (m / 1000)) (pk_div (a := m) (d := 1000) (by omega) (by decide) (by decide)) ?_
    refine xj_bipush (x := 10) hk dX5_writeNumber_13 (by decide) ?_
    refine xj_irem hk dX5_writeNumber_15 (by decide) ?_
    refine xj.eqi (x' := nI (m / 1000 % 10)) (pk_rem (a := m / 1000) (d := 10) (by omega) (by decide) (by decide)) ?_
    refine xj_istore (i := 4) (ls2 := [some (.ref (xw_ad v 20 0)), some (.int (nI m)), some (.int 0), some (.int 1000), some (.int (nI (m / 1000 % 10)))]) hk dX5_writeNumber_16 (by decide) rfl rfl ?_
    refine xj_iload_n (i := 2) hk dX5_writeNumber_18 rfl rfl ?_
    refine xj_if_ne (tgt := 32) hk dX5_writeNumber_19 (by decide) (fun c19 => False.elim (by revert c19; decide)) (fun c19 => ?_)
    refine xj_iload hk dX5_writeNumber_22 rfl ?_
    refine xj_if_gt (tgt := 32) hk dX5_writeNumber_24 (by decide) (fun c24 => ?_) (fun c24 => ?_)
    · have c24 : 0 < m / 1000 % 10 := (nI_ltI (a := 0) (b := m / 1000 % 10) (by omega) (by omega)).mp c24
      refine xj_iconst (x := 1) hk dX5_writeNumber_32 (by decide) ?_
      refine xj_goto (tgt := 37) hk dX5_writeNumber_33 (by decide) ?_
      refine xj_istore_n (i := 2) (ls2 := [some (.ref (xw_ad v 20 0)), some (.int (nI m)), some (.int 1), some (.int 1000), some (.int (nI (m / 1000 % 10)))]) hk dX5_writeNumber_37 rfl (by decide) rfl rfl ?_
      refine xj_iload_n (i := 2) hk dX5_writeNumber_38 rfl rfl ?_
      refine xj_if_eq (tgt := 51) hk dX5_writeNumber_39 (by decide) (fun c39 => False.elim (by revert c39; decide)) (fun c39 => ?_)
      refine xj_aload_n (i := 0) hk dX5_writeNumber_42 rfl rfl ?_
      refine xj_bipush (x := 48) hk dX5_writeNumber_43 (by decide) ?_
      refine xj_iload hk dX5_writeNumber_45 rfl ?_
      refine xj_iadd hk dX5_writeNumber_47 ?_
      refine xj.eqi (x' := nI (48 + (m / 1000 % 10))) (nI_add 48 ((m / 1000 % 10))) ?_
      refine xj_callV hk hz (fr1 := 0) (lo1 := 0) (r1 := none) (As := [.int (nI (48 + (m / 1000 % 10)))]) (st := []) (st2 := []) (G1 := xw_up G 20 (pW  x (nI (W ++ [nI (48 + (m / 1000 % 10))]).length) (gtW (W ++ [nI (48 + (m / 1000 % 10))]) x))) ml_X5_104 (c_X5_writeSign (W := W) (show G 20 = pW  x (nI (W).length) (gtW (W) x) from g20) (by first | omega | (simp only [List.length_append, List.length_cons, List.length_nil]; omega)) (nI (48 + (m / 1000 % 10)))) (xw_at g20 rfl) rfl dX5_writeNumber_48 ⟨Nat.le_of_ble_eq_true rfl, Nat.le_of_ble_eq_true rfl⟩ rfl (Nat.le_of_ble_eq_true rfl) rfl rfl ?_
      refine xj_iload_n (i := 3) hk dX5_writeNumber_51 rfl rfl ?_
      refine xj_bipush (x := 10) hk dX5_writeNumber_52 (by decide) ?_
      refine xj_idiv hk dX5_writeNumber_54 (by decide) ?_
      refine xj.eqi (x' := 100) (by decide) ?_
      refine xj_istore_n (i := 3) (ls2 := [some (.ref (xw_ad v 20 0)), some (.int (nI m)), some (.int 1), some (.int 100), some (.int (nI (m / 1000 % 10)))]) hk dX5_writeNumber_55 rfl (by decide) rfl rfl ?_
      refine xj_goto (tgt := 6) hk dX5_writeNumber_56 (by decide) ?_
      refine xj_iload_n (i := 3) hk dX5_writeNumber_6 rfl rfl ?_
      refine xj_if_le (tgt := 59) hk dX5_writeNumber_7 (by decide) (fun c7 => False.elim (by revert c7; decide)) (fun c7 => ?_)
      refine xj_iload_n (i := 1) hk dX5_writeNumber_10 rfl rfl ?_
      refine xj_iload_n (i := 3) hk dX5_writeNumber_11 rfl rfl ?_
      refine xj_idiv hk dX5_writeNumber_12 (by decide) ?_
      refine xj.eqi (x' := nI (m / 100)) (pk_div (a := m) (d := 100) (by omega) (by decide) (by decide)) ?_
      refine xj_bipush (x := 10) hk dX5_writeNumber_13 (by decide) ?_
      refine xj_irem hk dX5_writeNumber_15 (by decide) ?_
      refine xj.eqi (x' := nI (m / 100 % 10)) (pk_rem (a := m / 100) (d := 10) (by omega) (by decide) (by decide)) ?_
      refine xj_istore (i := 4) (ls2 := [some (.ref (xw_ad v 20 0)), some (.int (nI m)), some (.int 1), some (.int 100), some (.int (nI (m / 100 % 10)))]) hk dX5_writeNumber_16 (by decide) rfl rfl ?_
      refine xj_iload_n (i := 2) hk dX5_writeNumber_18 rfl rfl ?_
      refine xj_if_ne (tgt := 32) hk dX5_writeNumber_19 (by decide) (fun c19 => ?_) (fun c19 => False.elim (by revert c19; decide))
      refine xj_iconst (x := 1) hk dX5_writeNumber_32 (by decide) ?_
      refine xj_goto (tgt := 37) hk dX5_writeNumber_33 (by decide) ?_
      refine xj_istore_n (i := 2) (ls2 := [some (.ref (xw_ad v 20 0)), some (.int (nI m)), some (.int 1), some (.int 100), some (.int (nI (m / 100 % 10)))]) hk dX5_writeNumber_37 rfl (by decide) rfl rfl ?_
      refine xj_iload_n (i := 2) hk dX5_writeNumber_38 rfl rfl ?_
      refine xj_if_eq (tgt := 51) hk dX5_writeNumber_39 (by decide) (fun c39 => False.elim (by revert c39; decide)) (fun c39 => ?_)
      refine xj_aload_n (i := 0) hk dX5_writeNumber_42 rfl rfl ?_
      refine xj_bipush (x := 48) hk dX5_writeNumber_43 (by decide) ?_
      refine xj_iload hk dX5_writeNumber_45 rfl ?_
      refine xj_iadd hk dX5_writeNumber_47 ?_
      refine xj.eqi (x' := nI (48 + (m / 100 % 10))) (nI_add 48 ((m / 100 % 10))) ?_
      refine xj_callV hk hz (fr1 := 0) (lo1 := 0) (r1 := none) (As := [.int (nI (48 + (m / 100 % 10)))]) (st := []) (st2 := []) (G1 := xw_up G 20 (pW  x (nI (W ++ [nI (48 + (m / 1000 % 10))] ++ [nI (48 + (m / 100 % 10))]).length) (gtW (W ++ [nI (48 + (m / 1000 % 10))] ++ [nI (48 + (m / 100 % 10))]) x))) ml_X5_104 (xk_cg (by rw [xw_up_u] <;> rfl) (c_X5_writeSign (W := W ++ [nI (48 + (m / 1000 % 10))]) (show (xw_up G 20 (pW  x (nI (W ++ [nI (48 + (m / 1000 % 10))]).length) (gtW (W ++ [nI (48 + (m / 1000 % 10))]) x))) 20 = pW  x (nI (W ++ [nI (48 + (m / 1000 % 10))]).length) (gtW (W ++ [nI (48 + (m / 1000 % 10))]) x) from xw_up_s) (by first | omega | (simp only [List.length_append, List.length_cons, List.length_nil]; omega)) (nI (48 + (m / 100 % 10))))) (xw_at xw_up_s rfl) rfl dX5_writeNumber_48 ⟨Nat.le_of_ble_eq_true rfl, Nat.le_of_ble_eq_true rfl⟩ rfl (Nat.le_of_ble_eq_true rfl) rfl rfl ?_
      refine xj_iload_n (i := 3) hk dX5_writeNumber_51 rfl rfl ?_
      refine xj_bipush (x := 10) hk dX5_writeNumber_52 (by decide) ?_
      refine xj_idiv hk dX5_writeNumber_54 (by decide) ?_
      refine xj.eqi (x' := 10) (by decide) ?_
      refine xj_istore_n (i := 3) (ls2 := [some (.ref (xw_ad v 20 0)), some (.int (nI m)), some (.int 1), some (.int 10), some (.int (nI (m / 100 % 10)))]) hk dX5_writeNumber_55 rfl (by decide) rfl rfl ?_
      refine xj_goto (tgt := 6) hk dX5_writeNumber_56 (by decide) ?_
      refine xj_iload_n (i := 3) hk dX5_writeNumber_6 rfl rfl ?_
      refine xj_if_le (tgt := 59) hk dX5_writeNumber_7 (by decide) (fun c7 => False.elim (by revert c7; decide)) (fun c7 => ?_)
      refine xj_iload_n (i := 1) hk dX5_writeNumber_10 rfl rfl ?_
      refine xj_iload_n (i := 3) hk dX5_writeNumber_11 rfl rfl ?_
      refine xj_idiv hk dX5_writeNumber_12 (by decide) ?_
      refine xj.eqi (x' := nI (m / 10)) (pk_div (a := m) (d := 10) (by omega) (by decide) (by decide)) ?_
      refine xj_bipush (x := 10) hk dX5_writeNumber_13 (by decide) ?_
      refine xj_irem hk dX5_writeNumber_15 (by decide) ?_
      refine xj.eqi (x' := nI (m / 10 % 10)) (pk_rem (a := m / 10) (d := 10) (by omega) (by decide) (by decide)) ?_
      refine xj_istore (i := 4) (ls2 := [some (.ref (xw_ad v 20 0)), some (.int (nI m)), some (.int 1), some (.int 10), some (.int (nI (m / 10 % 10)))]) hk dX5_writeNumber_16 (by decide) rfl rfl ?_
      refine xj_iload_n (i := 2) hk dX5_writeNumber_18 rfl rfl ?_
      refine xj_if_ne (tgt := 32) hk dX5_writeNumber_19 (by decide) (fun c19 => ?_) (fun c19 => False.elim (by revert c19; decide))
      refine xj_iconst (x := 1) hk dX5_writeNumber_32 (by decide) ?_
      refine xj_goto (tgt := 37) hk dX5_writeNumber_33 (by decide) ?_
      refine xj_istore_n (i := 2) (ls2 := [some (.ref (xw_ad v 20 0)), some (.int (nI m)), some (.int 1), some (.int 10), some (.int (nI (m / 10 % 10)))]) hk dX5_writeNumber_37 rfl (by decide) rfl rfl ?_
      refine xj_iload_n (i := 2) hk dX5_writeNumber_38 rfl rfl ?_
      refine xj_if_eq (tgt := 51) hk dX5_writeNumber_39 (by decide) (fun c39 => False.elim (by revert c39; decide)) (fun c39 => ?_)
      refine xj_aload_n (i := 0) hk dX5_writeNumber_42 rfl rfl ?_
      refine xj_bipush (x := 48) hk dX5_writeNumber_43 (by decide) ?_
      refine xj_iload hk dX5_writeNumber_45 rfl ?_
      refine xj_iadd hk dX5_writeNumber_47 ?_
      refine xj.eqi (x' := nI (48 + (m / 10 % 10))) (nI_add 48 ((m / 10 % 10))) ?_
      refine xj_callV hk hz (fr1 := 0) (lo1 := 0) (r1 := none) (As := [.int (nI (48 + (m / 10 % 10)))]) (st := []) (st2 := []) (G1 := xw_up G 20 (pW  x (nI (W ++ [nI (48 + (m / 1000 % 10))] ++ [nI (48 + (m / 100 % 10))] ++ [nI (48 + (m / 10 % 10))]).length) (gtW (W ++ [nI (48 + (m / 1000 % 10))] ++ [nI (48 + (m / 100 % 10))] ++ [nI (48 + (m / 10 % 10))]) x))) ml_X5_104 (xk_cg (by rw [xw_up_u] <;> rfl) (c_X5_writeSign (W := W ++ [nI (48 + (m / 1000 % 10))] ++ [nI (48 + (m / 100 % 10))]) (show (xw_up G 20 (pW  x (nI (W ++ [nI (48 + (m / 1000 % 10))] ++ [nI (48 + (m / 100 % 10))]).length) (gtW (W ++ [nI (48 + (m / 1000 % 10))] ++ [nI (48 + (m / 100 % 10))]) x))) 20 = pW  x (nI (W ++ [nI (48 + (m / 1000 % 10))] ++ [nI (48 + (m / 100 % 10))]).length) (gtW (W ++ [nI (48 + (m / 1000 % 10))] ++ [nI (48 + (m / 100 % 10))]) x) from xw_up_s) (by first | omega | (simp only [List.length_append, List.length_cons, List.length_nil]; omega)) (nI (48 + (m / 10 % 10))))) (xw_at xw_up_s rfl) rfl dX5_writeNumber_48 ⟨Nat.le_of_ble_eq_true rfl, Nat.le_of_ble_eq_true rfl⟩ rfl (Nat.le_of_ble_eq_true rfl) rfl rfl ?_
      refine xj_iload_n (i := 3) hk dX5_writeNumber_51 rfl rfl ?_
      refine xj_bipush (x := 10) hk dX5_writeNumber_52 (by decide) ?_
      refine xj_idiv hk dX5_writeNumber_54 (by decide) ?_
      refine xj.eqi (x' := 1) (by decide) ?_
      refine xj_istore_n (i := 3) (ls2 := [some (.ref (xw_ad v 20 0)), some (.int (nI m)), some (.int 1), some (.int 1), some (.int (nI (m / 10 % 10)))]) hk dX5_writeNumber_55 rfl (by decide) rfl rfl ?_
      refine xj_goto (tgt := 6) hk dX5_writeNumber_56 (by decide) ?_
      refine xj_iload_n (i := 3) hk dX5_writeNumber_6 rfl rfl ?_
      refine xj_if_le (tgt := 59) hk dX5_writeNumber_7 (by decide) (fun c7 => False.elim (by revert c7; decide)) (fun c7 => ?_)
      refine xj_iload_n (i := 1) hk dX5_writeNumber_10 rfl rfl ?_
      refine xj_iload_n (i := 3) hk dX5_writeNumber_11 rfl rfl ?_
      refine xj_idiv hk dX5_writeNumber_12 (by decide) ?_
      refine xj.eqi (x' := nI (m / 1)) (pk_div (a := m) (d := 1) (by omega) (by decide) (by decide)) ?_
      refine xj_bipush (x := 10) hk dX5_writeNumber_13 (by decide) ?_
      refine xj_irem hk dX5_writeNumber_15 (by decide) ?_
      refine xj.eqi (x' := nI (m / 1 % 10)) (pk_rem (a := m / 1) (d := 10) (by omega) (by decide) (by decide)) ?_
      refine xj_istore (i := 4) (ls2 := [some (.ref (xw_ad v 20 0)), some (.int (nI m)), some (.int 1), some (.int 1), some (.int (nI (m / 1 % 10)))]) hk dX5_writeNumber_16 (by decide) rfl rfl ?_
      refine xj_iload_n (i := 2) hk dX5_writeNumber_18 rfl rfl ?_
      refine xj_if_ne (tgt := 32) hk dX5_writeNumber_19 (by decide) (fun c19 => ?_) (fun c19 => False.elim (by revert c19; decide))
      refine xj_iconst (x := 1) hk dX5_writeNumber_32 (by decide) ?_
      refine xj_goto (tgt := 37) hk dX5_writeNumber_33 (by decide) ?_
      refine xj_istore_n (i := 2) (ls2 := [some (.ref (xw_ad v 20 0)), some (.int (nI m)), some (.int 1), some (.int 1), some (.int (nI (m / 1 % 10)))]) hk dX5_writeNumber_37 rfl (by decide) rfl rfl ?_
      refine xj_iload_n (i := 2) hk dX5_writeNumber_38 rfl rfl ?_
      refine xj_if_eq (tgt := 51) hk dX5_writeNumber_39 (by decide) (fun c39 => False.elim (by revert c39; decide)) (fun c39 => ?_)
      refine xj_aload_n (i := 0) hk dX5_writeNumber_42 rfl rfl ?_
      refine xj_bipush (x := 48) hk dX5_writeNumber_43 (by decide) ?_
      refine xj_iload hk dX5_writeNumber_45 rfl ?_
      refine xj_iadd hk dX5_writeNumber_47 ?_
      refine xj.eqi (x' := nI (48 + (m / 1 % 10))) (nI_add 48 ((m / 1 % 10))) ?_
      refine xj_callV hk hz (fr1 := 0) (lo1 := 0) (r1 := none) (As := [.int (nI (48 + (m / 1 % 10)))]) (st := []) (st2 := []) (G1 := xw_up G 20 (pW  x (nI (W ++ [nI (48 + (m / 1000 % 10))] ++ [nI (48 + (m / 100 % 10))] ++ [nI (48 + (m / 10 % 10))] ++ [nI (48 + (m / 1 % 10))]).length) (gtW (W ++ [nI (48 + (m / 1000 % 10))] ++ [nI (48 + (m / 100 % 10))] ++ [nI (48 + (m / 10 % 10))] ++ [nI (48 + (m / 1 % 10))]) x))) ml_X5_104 (xk_cg (by rw [xw_up_u] <;> rfl) (c_X5_writeSign (W := W ++ [nI (48 + (m / 1000 % 10))] ++ [nI (48 + (m / 100 % 10))] ++ [nI (48 + (m / 10 % 10))]) (show (xw_up G 20 (pW  x (nI (W ++ [nI (48 + (m / 1000 % 10))] ++ [nI (48 + (m / 100 % 10))] ++ [nI (48 + (m / 10 % 10))]).length) (gtW (W ++ [nI (48 + (m / 1000 % 10))] ++ [nI (48 + (m / 100 % 10))] ++ [nI (48 + (m / 10 % 10))]) x))) 20 = pW  x (nI (W ++ [nI (48 + (m / 1000 % 10))] ++ [nI (48 + (m / 100 % 10))] ++ [nI (48 + (m / 10 % 10))]).length) (gtW (W ++ [nI (48 + (m / 1000 % 10))] ++ [nI (48 + (m / 100 % 10))] ++ [nI (48 + (m / 10 % 10))]) x) from xw_up_s) (by first | omega | (simp only [List.length_append, List.length_cons, List.length_nil]; omega)) (nI (48 + (m / 1 % 10))))) (xw_at xw_up_s rfl) rfl dX5_writeNumber_48 ⟨Nat.le_of_ble_eq_true rfl, Nat.le_of_ble_eq_true rfl⟩ rfl (Nat.le_of_ble_eq_true rfl) rfl rfl ?_
      refine xj_iload_n (i := 3) hk dX5_writeNumber_51 rfl rfl ?_
      refine xj_bipush (x := 10) hk dX5_writeNumber_52 (by decide) ?_
      refine xj_idiv hk dX5_writeNumber_54 (by decide) ?_
      refine xj.eqi (x' := 0) (by decide) ?_
      refine xj_istore_n (i := 3) (ls2 := [some (.ref (xw_ad v 20 0)), some (.int (nI m)), some (.int 1), some (.int 0), some (.int (nI (m / 1 % 10)))]) hk dX5_writeNumber_55 rfl (by decide) rfl rfl ?_
      refine xj_goto (tgt := 6) hk dX5_writeNumber_56 (by decide) ?_
      refine xj_iload_n (i := 3) hk dX5_writeNumber_6 rfl rfl ?_
      refine xj_if_le (tgt := 59) hk dX5_writeNumber_7 (by decide) (fun c7 => ?_) (fun c7 => False.elim (by revert c7; decide))
      refine xj_return hk hz dX5_writeNumber_59 ?_
      refine ⟨rfl, ?_⟩
      simp only [dg]
      first | (rw [if_pos (by omega)]; done) | (rw [if_pos (by omega)]; simp only [List.append_assoc, List.cons_append, List.nil_append]; done) | (rw [if_neg (by omega), if_pos (by omega)]; simp only [List.append_assoc, List.cons_append, List.nil_append]; done) | (rw [if_neg (by omega), if_neg (by omega), if_pos (by omega)]; simp only [List.append_assoc, List.cons_append, List.nil_append]; done) | (rw [if_neg (by omega), if_neg (by omega), if_neg (by omega), if_pos (by omega)]; simp only [List.append_assoc, List.cons_append, List.nil_append]; done) | (rw [if_neg (by omega), if_neg (by omega), if_neg (by omega), if_neg (by omega)]; simp only [List.append_assoc, List.cons_append, List.nil_append]; done)
    · have c24 : ¬ 0 < m / 1000 % 10 := fun q => c24 ((nI_ltI (a := 0) (b := m / 1000 % 10) (by omega) (by omega)).mpr q)
      refine xj_iload_n (i := 3) hk dX5_writeNumber_27 rfl rfl ?_
      refine xj_iconst (x := 1) hk dX5_writeNumber_28 (by decide) ?_
      refine xj_icmp_ne (tgt := 36) hk dX5_writeNumber_29 (by decide) (fun c29 => ?_) (fun c29 => False.elim (by revert c29; decide))
      refine xj_iconst (x := 0) hk dX5_writeNumber_36 (by decide) ?_
      refine xj_istore_n (i := 2) (ls2 := [some (.ref (xw_ad v 20 0)), some (.int (nI m)), some (.int 0), some (.int 1000), some (.int (nI (m / 1000 % 10)))]) hk dX5_writeNumber_37 rfl (by decide) rfl rfl ?_
      refine xj_iload_n (i := 2) hk dX5_writeNumber_38 rfl rfl ?_
      refine xj_if_eq (tgt := 51) hk dX5_writeNumber_39 (by decide) (fun c39 => ?_) (fun c39 => False.elim (by revert c39; decide))
      refine xj_iload_n (i := 3) hk dX5_writeNumber_51 rfl rfl ?_
      refine xj_bipush (x := 10) hk dX5_writeNumber_52 (by decide) ?_
      refine xj_idiv hk dX5_writeNumber_54 (by decide) ?_
      refine xj.eqi (x' := 100) (by decide) ?_
      refine xj_istore_n (i := 3) (ls2 := [some (.ref (xw_ad v 20 0)), some (.int (nI m)), some (.int 0), some (.int 100), some (.int (nI (m / 1000 % 10)))]) hk dX5_writeNumber_55 rfl (by decide) rfl rfl ?_
      refine xj_goto (tgt := 6) hk dX5_writeNumber_56 (by decide) ?_
      refine xj_iload_n (i := 3) hk dX5_writeNumber_6 rfl rfl ?_
      refine xj_if_le (tgt := 59) hk dX5_writeNumber_7 (by decide) (fun c7 => False.elim (by revert c7; decide)) (fun c7 => ?_)
      refine xj_iload_n (i := 1) hk dX5_writeNumber_10 rfl rfl ?_
      refine xj_iload_n (i := 3) hk dX5_writeNumber_11 rfl rfl ?_
      refine xj_idiv hk dX5_writeNumber_12 (by decide) ?_
      refine xj.eqi (x' := nI (m / 100)) (pk_div (a := m) (d := 100) (by omega) (by decide) (by decide)) ?_
      refine xj_bipush (x := 10) hk dX5_writeNumber_13 (by decide) ?_
      refine xj_irem hk dX5_writeNumber_15 (by decide) ?_
      refine xj.eqi (x' := nI (m / 100 % 10)) (pk_rem (a := m / 100) (d := 10) (by omega) (by decide) (by decide)) ?_
      refine xj_istore (i := 4) (ls2 := [some (.ref (xw_ad v 20 0)), some (.int (nI m)), some (.int 0), some (.int 100), some (.int (nI (m / 100 % 10)))]) hk dX5_writeNumber_16 (by decide) rfl rfl ?_
      refine xj_iload_n (i := 2) hk dX5_writeNumber_18 rfl rfl ?_
      refine xj_if_ne (tgt := 32) hk dX5_writeNumber_19 (by decide) (fun c19 => False.elim (by revert c19; decide)) (fun c19 => ?_)
      refine xj_iload hk dX5_writeNumber_22 rfl ?_
      refine xj_if_gt (tgt := 32) hk dX5_writeNumber_24 (by decide) (fun c24 => ?_) (fun c24 => ?_)
      · have c24 : 0 < m / 100 % 10 := (nI_ltI (a := 0) (b := m / 100 % 10) (by omega) (by omega)).mp c24
        refine xj_iconst (x := 1) hk dX5_writeNumber_32 (by decide) ?_
        refine xj_goto (tgt := 37) hk dX5_writeNumber_33 (by decide) ?_
        refine xj_istore_n (i := 2) (ls2 := [some (.ref (xw_ad v 20 0)), some (.int (nI m)), some (.int 1), some (.int 100), some (.int (nI (m / 100 % 10)))]) hk dX5_writeNumber_37 rfl (by decide) rfl rfl ?_
        refine xj_iload_n (i := 2) hk dX5_writeNumber_38 rfl rfl ?_
        refine xj_if_eq (tgt := 51) hk dX5_writeNumber_39 (by decide) (fun c39 => False.elim (by revert c39; decide)) (fun c39 => ?_)
        refine xj_aload_n (i := 0) hk dX5_writeNumber_42 rfl rfl ?_
        refine xj_bipush (x := 48) hk dX5_writeNumber_43 (by decide) ?_
        refine xj_iload hk dX5_writeNumber_45 rfl ?_
        refine xj_iadd hk dX5_writeNumber_47 ?_
        refine xj.eqi (x' := nI (48 + (m / 100 % 10))) (nI_add 48 ((m / 100 % 10))) ?_
        refine xj_callV hk hz (fr1 := 0) (lo1 := 0) (r1 := none) (As := [.int (nI (48 + (m / 100 % 10)))]) (st := []) (st2 := []) (G1 := xw_up G 20 (pW  x (nI (W ++ [nI (48 + (m / 100 % 10))]).length) (gtW (W ++ [nI (48 + (m / 100 % 10))]) x))) ml_X5_104 (c_X5_writeSign (W := W) (show G 20 = pW  x (nI (W).length) (gtW (W) x) from g20) (by first | omega | (simp only [List.length_append, List.length_cons, List.length_nil]; omega)) (nI (48 + (m / 100 % 10)))) (xw_at g20 rfl) rfl dX5_writeNumber_48 ⟨Nat.le_of_ble_eq_true rfl, Nat.le_of_ble_eq_true rfl⟩ rfl (Nat.le_of_ble_eq_true rfl) rfl rfl ?_
        refine xj_iload_n (i := 3) hk dX5_writeNumber_51 rfl rfl ?_
        refine xj_bipush (x := 10) hk dX5_writeNumber_52 (by decide) ?_
        refine xj_idiv hk dX5_writeNumber_54 (by decide) ?_
        refine xj.eqi (x' := 10) (by decide) ?_
        refine xj_istore_n (i := 3) (ls2 := [some (.ref (xw_ad v 20 0)), some (.int (nI m)), some (.int 1), some (.int 10), some (.int (nI (m / 100 % 10)))]) hk dX5_writeNumber_55 rfl (by decide) rfl rfl ?_
        refine xj_goto (tgt := 6) hk dX5_writeNumber_56 (by decide) ?_
        refine xj_iload_n (i := 3) hk dX5_writeNumber_6 rfl rfl ?_
        refine xj_if_le (tgt := 59) hk dX5_writeNumber_7 (by decide) (fun c7 => False.elim (by revert c7; decide)) (fun c7 => ?_)
        refine xj_iload_n (i := 1) hk dX5_writeNumber_10 rfl rfl ?_
        refine xj_iload_n (i := 3) hk dX5_writeNumber_11 rfl rfl ?_
        refine xj_idiv hk dX5_writeNumber_12 (by decide) ?_
        refine xj.eqi (x' := nI (m / 10)) (pk_div (a := m) (d := 10) (by omega) (by decide) (by decide)) ?_
        refine xj_bipush (x := 10) hk dX5_writeNumber_13 (by decide) ?_
        refine xj_irem hk dX5_writeNumber_15 (by decide) ?_
        refine xj.eqi (x' := nI (m / 10 % 10)) (pk_rem (a := m / 10) (d := 10) (by omega) (by decide) (by decide)) ?_
        refine xj_istore (i := 4) (ls2 := [some (.ref (xw_ad v 20 0)), some (.int (nI m)), some (.int 1), some (.int 10), some (.int (nI (m / 10 % 10)))]) hk dX5_writeNumber_16 (by decide) rfl rfl ?_
        refine xj_iload_n (i := 2) hk dX5_writeNumber_18 rfl rfl ?_
        refine xj_if_ne (tgt := 32) hk dX5_writeNumber_19 (by decide) (fun c19 => ?_) (fun c19 => False.elim (by revert c19; decide))
        refine xj_iconst (x := 1) hk dX5_writeNumber_32 (by decide) ?_
        refine xj_goto (tgt := 37) hk dX5_writeNumber_33 (by decide) ?_
        refine xj_istore_n (i := 2) (ls2 := [some (.ref (xw_ad v 20 0)), some (.int (nI m)), some (.int 1), some (.int 10), some (.int (nI (m / 10 % 10)))]) hk dX5_writeNumber_37 rfl (by decide) rfl rfl ?_
        refine xj_iload_n (i := 2) hk dX5_writeNumber_38 rfl rfl ?_
        refine xj_if_eq (tgt := 51) hk dX5_writeNumber_39 (by decide) (fun c39 => False.elim (by revert c39; decide)) (fun c39 => ?_)
        refine xj_aload_n (i := 0) hk dX5_writeNumber_42 rfl rfl ?_
        refine xj_bipush (x := 48) hk dX5_writeNumber_43 (by decide) ?_
        refine xj_iload hk dX5_writeNumber_45 rfl ?_
        refine xj_iadd hk dX5_writeNumber_47 ?_
        refine xj.eqi (x' := nI (48 + (m / 10 % 10))) (nI_add 48 ((m / 10 % 10))) ?_
        refine xj_callV hk hz (fr1 := 0) (lo1 := 0) (r1 := none) (As := [.int (nI (48 + (m / 10 % 10)))]) (st := []) (st2 := []) (G1 := xw_up G 20 (pW  x (nI (W ++ [nI (48 + (m / 100 % 10))] ++ [nI (48 + (m / 10 % 10))]).length) (gtW (W ++ [nI (48 + (m / 100 % 10))] ++ [nI (48 + (m / 10 % 10))]) x))) ml_X5_104 (xk_cg (by rw [xw_up_u] <;> rfl) (c_X5_writeSign (W := W ++ [nI (48 + (m / 100 % 10))]) (show (xw_up G 20 (pW  x (nI (W ++ [nI (48 + (m / 100 % 10))]).length) (gtW (W ++ [nI (48 + (m / 100 % 10))]) x))) 20 = pW  x (nI (W ++ [nI (48 + (m / 100 % 10))]).length) (gtW (W ++ [nI (48 + (m / 100 % 10))]) x) from xw_up_s) (by first | omega | (simp only [List.length_append, List.length_cons, List.length_nil]; omega)) (nI (48 + (m / 10 % 10))))) (xw_at xw_up_s rfl) rfl dX5_writeNumber_48 ⟨Nat.le_of_ble_eq_true rfl, Nat.le_of_ble_eq_true rfl⟩ rfl (Nat.le_of_ble_eq_true rfl) rfl rfl ?_
        refine xj_iload_n (i := 3) hk dX5_writeNumber_51 rfl rfl ?_
        refine xj_bipush (x := 10) hk dX5_writeNumber_52 (by decide) ?_
        refine xj_idiv hk dX5_writeNumber_54 (by decide) ?_
        refine xj.eqi (x' := 1) (by decide) ?_
        refine xj_istore_n (i := 3) (ls2 := [some (.ref (xw_ad v 20 0)), some (.int (nI m)), some (.int 1), some (.int 1), some (.int (nI (m / 10 % 10)))]) hk dX5_writeNumber_55 rfl (by decide) rfl rfl ?_
        refine xj_goto (tgt := 6) hk dX5_writeNumber_56 (by decide) ?_
        refine xj_iload_n (i := 3) hk dX5_writeNumber_6 rfl rfl ?_
        refine xj_if_le (tgt := 59) hk dX5_writeNumber_7 (by decide) (fun c7 => False.elim (by revert c7; decide)) (fun c7 => ?_)
        refine xj_iload_n (i := 1) hk dX5_writeNumber_10 rfl rfl ?_
        refine xj_iload_n (i := 3) hk dX5_writeNumber_11 rfl rfl ?_
        refine xj_idiv hk dX5_writeNumber_12 (by decide) ?_
        refine xj.eqi (x' := nI (m / 1)) (pk_div (a := m) (d := 1) (by omega) (by decide) (by decide)) ?_
        refine xj_bipush (x := 10) hk dX5_writeNumber_13 (by decide) ?_
        refine xj_irem hk dX5_writeNumber_15 (by decide) ?_
        refine xj.eqi (x' := nI (m / 1 % 10)) (pk_rem (a := m / 1) (d := 10) (by omega) (by decide) (by decide)) ?_
        refine xj_istore (i := 4) (ls2 := [some (.ref (xw_ad v 20 0)), some (.int (nI m)), some (.int 1), some (.int 1), some (.int (nI (m / 1 % 10)))]) hk dX5_writeNumber_16 (by decide) rfl rfl ?_
        refine xj_iload_n (i := 2) hk dX5_writeNumber_18 rfl rfl ?_
        refine xj_if_ne (tgt := 32) hk dX5_writeNumber_19 (by decide) (fun c19 => ?_) (fun c19 => False.elim (by revert c19; decide))
        refine xj_iconst (x := 1) hk dX5_writeNumber_32 (by decide) ?_
        refine xj_goto (tgt := 37) hk dX5_writeNumber_33 (by decide) ?_
        refine xj_istore_n (i := 2) (ls2 := [some (.ref (xw_ad v 20 0)), some (.int (nI m)), some (.int 1), some (.int 1), some (.int (nI (m / 1 % 10)))]) hk dX5_writeNumber_37 rfl (by decide) rfl rfl ?_
        refine xj_iload_n (i := 2) hk dX5_writeNumber_38 rfl rfl ?_
        refine xj_if_eq (tgt := 51) hk dX5_writeNumber_39 (by decide) (fun c39 => False.elim (by revert c39; decide)) (fun c39 => ?_)
        refine xj_aload_n (i := 0) hk dX5_writeNumber_42 rfl rfl ?_
        refine xj_bipush (x := 48) hk dX5_writeNumber_43 (by decide) ?_
        refine xj_iload hk dX5_writeNumber_45 rfl ?_
        refine xj_iadd hk dX5_writeNumber_47 ?_
        refine xj.eqi (x' := nI (48 + (m / 1 % 10))) (nI_add 48 ((m / 1 % 10))) ?_
        refine xj_callV hk hz (fr1 := 0) (lo1 := 0) (r1 := none) (As := [.int (nI (48 + (m / 1 % 10)))]) (st := []) (st2 := []) (G1 := xw_up G 20 (pW  x (nI (W ++ [nI (48 + (m / 100 % 10))] ++ [nI (48 + (m / 10 % 10))] ++ [nI (48 + (m / 1 % 10))]).length) (gtW (W ++ [nI (48 + (m / 100 % 10))] ++ [nI (48 + (m / 10 % 10))] ++ [nI (48 + (m / 1 % 10))]) x))) ml_X5_104 (xk_cg (by rw [xw_up_u] <;> rfl) (c_X5_writeSign (W := W ++ [nI (48 + (m / 100 % 10))] ++ [nI (48 + (m / 10 % 10))]) (show (xw_up G 20 (pW  x (nI (W ++ [nI (48 + (m / 100 % 10))] ++ [nI (48 + (m / 10 % 10))]).length) (gtW (W ++ [nI (48 + (m / 100 % 10))] ++ [nI (48 + (m / 10 % 10))]) x))) 20 = pW  x (nI (W ++ [nI (48 + (m / 100 % 10))] ++ [nI (48 + (m / 10 % 10))]).length) (gtW (W ++ [nI (48 + (m / 100 % 10))] ++ [nI (48 + (m / 10 % 10))]) x) from xw_up_s) (by first | omega | (simp only [List.length_append, List.length_cons, List.length_nil]; omega)) (nI (48 + (m / 1 % 10))))) (xw_at xw_up_s rfl) rfl dX5_writeNumber_48 ⟨Nat.le_of_ble_eq_true rfl, Nat.le_of_ble_eq_true rfl⟩ rfl (Nat.le_of_ble_eq_true rfl) rfl rfl ?_
        refine xj_iload_n (i := 3) hk dX5_writeNumber_51 rfl rfl ?_
        refine xj_bipush (x := 10) hk dX5_writeNumber_52 (by decide) ?_
        refine xj_idiv hk dX5_writeNumber_54 (by decide) ?_
        refine xj.eqi (x' := 0) (by decide) ?_
        refine xj_istore_n (i := 3) (ls2 := [some (.ref (xw_ad v 20 0)), some (.int (nI m)), some (.int 1), some (.int 0), some (.int (nI (m / 1 % 10)))]) hk dX5_writeNumber_55 rfl (by decide) rfl rfl ?_
        refine xj_goto (tgt := 6) hk dX5_writeNumber_56 (by decide) ?_
        refine xj_iload_n (i := 3) hk dX5_writeNumber_6 rfl rfl ?_
        refine xj_if_le (tgt := 59) hk dX5_writeNumber_7 (by decide) (fun c7 => ?_) (fun c7 => False.elim (by revert c7; decide))
        refine xj_return hk hz dX5_writeNumber_59 ?_
        refine ⟨rfl, ?_⟩
        simp only [dg]
        first | (rw [if_pos (by omega)]; done) | (rw [if_pos (by omega)]; simp only [List.append_assoc, List.cons_append, List.nil_append]; done) | (rw [if_neg (by omega), if_pos (by omega)]; simp only [List.append_assoc, List.cons_append, List.nil_append]; done) | (rw [if_neg (by omega), if_neg (by omega), if_pos (by omega)]; simp only [List.append_assoc, List.cons_append, List.nil_append]; done) | (rw [if_neg (by omega), if_neg (by omega), if_neg (by omega), if_pos (by omega)]; simp only [List.append_assoc, List.cons_append, List.nil_append]; done) | (rw [if_neg (by omega), if_neg (by omega), if_neg (by omega), if_neg (by omega)]; simp only [List.append_assoc, List.cons_append, List.nil_append]; done)
      · have c24 : ¬ 0 < m / 100 % 10 := fun q => c24 ((nI_ltI (a := 0) (b := m / 100 % 10) (by omega) (by omega)).mpr q)
        refine xj_iload_n (i := 3) hk dX5_writeNumber_27 rfl rfl ?_
        refine xj_iconst (x := 1) hk dX5_writeNumber_28 (by decide) ?_
        refine xj_icmp_ne (tgt := 36) hk dX5_writeNumber_29 (by decide) (fun c29 => ?_) (fun c29 => False.elim (by revert c29; decide))
        refine xj_iconst (x := 0) hk dX5_writeNumber_36 (by decide) ?_
        refine xj_istore_n (i := 2) (ls2 := [some (.ref (xw_ad v 20 0)), some (.int (nI m)), some (.int 0), some (.int 100), some (.int (nI (m / 100 % 10)))]) hk dX5_writeNumber_37 rfl (by decide) rfl rfl ?_
        refine xj_iload_n (i := 2) hk dX5_writeNumber_38 rfl rfl ?_
        refine xj_if_eq (tgt := 51) hk dX5_writeNumber_39 (by decide) (fun c39 => ?_) (fun c39 => False.elim (by revert c39; decide))
        refine xj_iload_n (i := 3) hk dX5_writeNumber_51 rfl rfl ?_
        refine xj_bipush (x := 10) hk dX5_writeNumber_52 (by decide) ?_
        refine xj_idiv hk dX5_writeNumber_54 (by decide) ?_
        refine xj.eqi (x' := 10) (by decide) ?_
        refine xj_istore_n (i := 3) (ls2 := [some (.ref (xw_ad v 20 0)), some (.int (nI m)), some (.int 0), some (.int 10), some (.int (nI (m / 100 % 10)))]) hk dX5_writeNumber_55 rfl (by decide) rfl rfl ?_
        refine xj_goto (tgt := 6) hk dX5_writeNumber_56 (by decide) ?_
        refine xj_iload_n (i := 3) hk dX5_writeNumber_6 rfl rfl ?_
        refine xj_if_le (tgt := 59) hk dX5_writeNumber_7 (by decide) (fun c7 => False.elim (by revert c7; decide)) (fun c7 => ?_)
        refine xj_iload_n (i := 1) hk dX5_writeNumber_10 rfl rfl ?_
        refine xj_iload_n (i := 3) hk dX5_writeNumber_11 rfl rfl ?_
        refine xj_idiv hk dX5_writeNumber_12 (by decide) ?_
        refine xj.eqi (x' := nI (m / 10)) (pk_div (a := m) (d := 10) (by omega) (by decide) (by decide)) ?_
        refine xj_bipush (x := 10) hk dX5_writeNumber_13 (by decide) ?_
        refine xj_irem hk dX5_writeNumber_15 (by decide) ?_
        refine xj.eqi (x' := nI (m / 10 % 10)) (pk_rem (a := m / 10) (d := 10) (by omega) (by decide) (by decide)) ?_
        refine xj_istore (i := 4) (ls2 := [some (.ref (xw_ad v 20 0)), some (.int (nI m)), some (.int 0), some (.int 10), some (.int (nI (m / 10 % 10)))]) hk dX5_writeNumber_16 (by decide) rfl rfl ?_
        refine xj_iload_n (i := 2) hk dX5_writeNumber_18 rfl rfl ?_
        refine xj_if_ne (tgt := 32) hk dX5_writeNumber_19 (by decide) (fun c19 => False.elim (by revert c19; decide)) (fun c19 => ?_)
        refine xj_iload hk dX5_writeNumber_22 rfl ?_
        refine xj_if_gt (tgt := 32) hk dX5_writeNumber_24 (by decide) (fun c24 => ?_) (fun c24 => ?_)
        · have c24 : 0 < m / 10 % 10 := (nI_ltI (a := 0) (b := m / 10 % 10) (by omega) (by omega)).mp c24
          refine xj_iconst (x := 1) hk dX5_writeNumber_32 (by decide) ?_
          refine xj_goto (tgt := 37) hk dX5_writeNumber_33 (by decide) ?_
          refine xj_istore_n (i := 2) (ls2 := [some (.ref (xw_ad v 20 0)), some (.int (nI m)), some (.int 1), some (.int 10), some (.int (nI (m / 10 % 10)))]) hk dX5_writeNumber_37 rfl (by decide) rfl rfl ?_
          refine xj_iload_n (i := 2) hk dX5_writeNumber_38 rfl rfl ?_
          refine xj_if_eq (tgt := 51) hk dX5_writeNumber_39 (by decide) (fun c39 => False.elim (by revert c39; decide)) (fun c39 => ?_)
          refine xj_aload_n (i := 0) hk dX5_writeNumber_42 rfl rfl ?_
          refine xj_bipush (x := 48) hk dX5_writeNumber_43 (by decide) ?_
          refine xj_iload hk dX5_writeNumber_45 rfl ?_
          refine xj_iadd hk dX5_writeNumber_47 ?_
          refine xj.eqi (x' := nI (48 + (m / 10 % 10))) (nI_add 48 ((m / 10 % 10))) ?_
          refine xj_callV hk hz (fr1 := 0) (lo1 := 0) (r1 := none) (As := [.int (nI (48 + (m / 10 % 10)))]) (st := []) (st2 := []) (G1 := xw_up G 20 (pW  x (nI (W ++ [nI (48 + (m / 10 % 10))]).length) (gtW (W ++ [nI (48 + (m / 10 % 10))]) x))) ml_X5_104 (c_X5_writeSign (W := W) (show G 20 = pW  x (nI (W).length) (gtW (W) x) from g20) (by first | omega | (simp only [List.length_append, List.length_cons, List.length_nil]; omega)) (nI (48 + (m / 10 % 10)))) (xw_at g20 rfl) rfl dX5_writeNumber_48 ⟨Nat.le_of_ble_eq_true rfl, Nat.le_of_ble_eq_true rfl⟩ rfl (Nat.le_of_ble_eq_true rfl) rfl rfl ?_
          refine xj_iload_n (i := 3) hk dX5_writeNumber_51 rfl rfl ?_
          refine xj_bipush (x := 10) hk dX5_writeNumber_52 (by decide) ?_
          refine xj_idiv hk dX5_writeNumber_54 (by decide) ?_
          refine xj.eqi (x' := 1) (by decide) ?_
          refine xj_istore_n (i := 3) (ls2 := [some (.ref (xw_ad v 20 0)), some (.int (nI m)), some (.int 1), some (.int 1), some (.int (nI (m / 10 % 10)))]) hk dX5_writeNumber_55 rfl (by decide) rfl rfl ?_
          refine xj_goto (tgt := 6) hk dX5_writeNumber_56 (by decide) ?_
          refine xj_iload_n (i := 3) hk dX5_writeNumber_6 rfl rfl ?_
          refine xj_if_le (tgt := 59) hk dX5_writeNumber_7 (by decide) (fun c7 => False.elim (by revert c7; decide)) (fun c7 => ?_)
          refine xj_iload_n (i := 1) hk dX5_writeNumber_10 rfl rfl ?_
          refine xj_iload_n (i := 3) hk dX5_writeNumber_11 rfl rfl ?_
          refine xj_idiv hk dX5_writeNumber_12 (by decide) ?_
          refine xj.eqi (x' := nI (m / 1)) (pk_div (a := m) (d := 1) (by omega) (by decide) (by decide)) ?_
          refine xj_bipush (x := 10) hk dX5_writeNumber_13 (by decide) ?_
          refine xj_irem hk dX5_writeNumber_15 (by decide) ?_
          refine xj.eqi (x' := nI (m / 1 % 10)) (pk_rem (a := m / 1) (d := 10) (by omega) (by decide) (by decide)) ?_
          refine xj_istore (i := 4) (ls2 := [some (.ref (xw_ad v 20 0)), some (.int (nI m)), some (.int 1), some (.int 1), some (.int (nI (m / 1 % 10)))]) hk dX5_writeNumber_16 (by decide) rfl rfl ?_
          refine xj_iload_n (i := 2) hk dX5_writeNumber_18 rfl rfl ?_
          refine xj_if_ne (tgt := 32) hk dX5_writeNumber_19 (by decide) (fun c19 => ?_) (fun c19 => False.elim (by revert c19; decide))
          refine xj_iconst (x := 1) hk dX5_writeNumber_32 (by decide) ?_
          refine xj_goto (tgt := 37) hk dX5_writeNumber_33 (by decide) ?_
          refine xj_istore_n (i := 2) (ls2 := [some (.ref (xw_ad v 20 0)), some (.int (nI m)), some (.int 1), some (.int 1), some (.int (nI (m / 1 % 10)))]) hk dX5_writeNumber_37 rfl (by decide) rfl rfl ?_
          refine xj_iload_n (i := 2) hk dX5_writeNumber_38 rfl rfl ?_
          refine xj_if_eq (tgt := 51) hk dX5_writeNumber_39 (by decide) (fun c39 => False.elim (by revert c39; decide)) (fun c39 => ?_)
          refine xj_aload_n (i := 0) hk dX5_writeNumber_42 rfl rfl ?_
          refine xj_bipush (x := 48) hk dX5_writeNumber_43 (by decide) ?_
          refine xj_iload hk dX5_writeNumber_45 rfl ?_
          refine xj_iadd hk dX5_writeNumber_47 ?_
          refine xj.eqi (x' := nI (48 + (m / 1 % 10))) (nI_add 48 ((m / 1 % 10))) ?_
          refine xj_callV hk hz (fr1 := 0) (lo1 := 0) (r1 := none) (As := [.int (nI (48 + (m / 1 % 10)))]) (st := []) (st2 := []) (G1 := xw_up G 20 (pW  x (nI (W ++ [nI (48 + (m / 10 % 10))] ++ [nI (48 + (m / 1 % 10))]).length) (gtW (W ++ [nI (48 + (m / 10 % 10))] ++ [nI (48 + (m / 1 % 10))]) x))) ml_X5_104 (xk_cg (by rw [xw_up_u] <;> rfl) (c_X5_writeSign (W := W ++ [nI (48 + (m / 10 % 10))]) (show (xw_up G 20 (pW  x (nI (W ++ [nI (48 + (m / 10 % 10))]).length) (gtW (W ++ [nI (48 + (m / 10 % 10))]) x))) 20 = pW  x (nI (W ++ [nI (48 + (m / 10 % 10))]).length) (gtW (W ++ [nI (48 + (m / 10 % 10))]) x) from xw_up_s) (by first | omega | (simp only [List.length_append, List.length_cons, List.length_nil]; omega)) (nI (48 + (m / 1 % 10))))) (xw_at xw_up_s rfl) rfl dX5_writeNumber_48 ⟨Nat.le_of_ble_eq_true rfl, Nat.le_of_ble_eq_true rfl⟩ rfl (Nat.le_of_ble_eq_true rfl) rfl rfl ?_
          refine xj_iload_n (i := 3) hk dX5_writeNumber_51 rfl rfl ?_
          refine xj_bipush (x := 10) hk dX5_writeNumber_52 (by decide) ?_
          refine xj_idiv hk dX5_writeNumber_54 (by decide) ?_
          refine xj.eqi (x' := 0) (by decide) ?_
          refine xj_istore_n (i := 3) (ls2 := [some (.ref (xw_ad v 20 0)), some (.int (nI m)), some (.int 1), some (.int 0), some (.int (nI (m / 1 % 10)))]) hk dX5_writeNumber_55 rfl (by decide) rfl rfl ?_
          refine xj_goto (tgt := 6) hk dX5_writeNumber_56 (by decide) ?_
          refine xj_iload_n (i := 3) hk dX5_writeNumber_6 rfl rfl ?_
          refine xj_if_le (tgt := 59) hk dX5_writeNumber_7 (by decide) (fun c7 => ?_) (fun c7 => False.elim (by revert c7; decide))
          refine xj_return hk hz dX5_writeNumber_59 ?_
          refine ⟨rfl, ?_⟩
          simp only [dg]
          first | (rw [if_pos (by omega)]; done) | (rw [if_pos (by omega)]; simp only [List.append_assoc, List.cons_append, List.nil_append]; done) | (rw [if_neg (by omega), if_pos (by omega)]; simp only [List.append_assoc, List.cons_append, List.nil_append]; done) | (rw [if_neg (by omega), if_neg (by omega), if_pos (by omega)]; simp only [List.append_assoc, List.cons_append, List.nil_append]; done) | (rw [if_neg (by omega), if_neg (by omega), if_neg (by omega), if_pos (by omega)]; simp only [List.append_assoc, List.cons_append, List.nil_append]; done) | (rw [if_neg (by omega), if_neg (by omega), if_neg (by omega), if_neg (by omega)]; simp only [List.append_assoc, List.cons_append, List.nil_append]; done)
        · have c24 : ¬ 0 < m / 10 % 10 := fun q => c24 ((nI_ltI (a := 0) (b := m / 10 % 10) (by omega) (by omega)).mpr q)
          refine xj_iload_n (i := 3) hk dX5_writeNumber_27 rfl rfl ?_
          refine xj_iconst (x := 1) hk dX5_writeNumber_28 (by decide) ?_
          refine xj_icmp_ne (tgt := 36) hk dX5_writeNumber_29 (by decide) (fun c29 => ?_) (fun c29 => False.elim (by revert c29; decide))
          refine xj_iconst (x := 0) hk dX5_writeNumber_36 (by decide) ?_
          refine xj_istore_n (i := 2) (ls2 := [some (.ref (xw_ad v 20 0)), some (.int (nI m)), some (.int 0), some (.int 10), some (.int (nI (m / 10 % 10)))]) hk dX5_writeNumber_37 rfl (by decide) rfl rfl ?_
          refine xj_iload_n (i := 2) hk dX5_writeNumber_38 rfl rfl ?_
          refine xj_if_eq (tgt := 51) hk dX5_writeNumber_39 (by decide) (fun c39 => ?_) (fun c39 => False.elim (by revert c39; decide))
          refine xj_iload_n (i := 3) hk dX5_writeNumber_51 rfl rfl ?_
          refine xj_bipush (x := 10) hk dX5_writeNumber_52 (by decide) ?_
          refine xj_idiv hk dX5_writeNumber_54 (by decide) ?_
          refine xj.eqi (x' := 1) (by decide) ?_
          refine xj_istore_n (i := 3) (ls2 := [some (.ref (xw_ad v 20 0)), some (.int (nI m)), some (.int 0), some (.int 1), some (.int (nI (m / 10 % 10)))]) hk dX5_writeNumber_55 rfl (by decide) rfl rfl ?_
          refine xj_goto (tgt := 6) hk dX5_writeNumber_56 (by decide) ?_
          refine xj_iload_n (i := 3) hk dX5_writeNumber_6 rfl rfl ?_
          refine xj_if_le (tgt := 59) hk dX5_writeNumber_7 (by decide) (fun c7 => False.elim (by revert c7; decide)) (fun c7 => ?_)
          refine xj_iload_n (i := 1) hk dX5_writeNumber_10 rfl rfl ?_
          refine xj_iload_n (i := 3) hk dX5_writeNumber_11 rfl rfl ?_
          refine xj_idiv hk dX5_writeNumber_12 (by decide) ?_
          refine xj.eqi (x' := nI (m / 1)) (pk_div (a := m) (d := 1) (by omega) (by decide) (by decide)) ?_
          refine xj_bipush (x := 10) hk dX5_writeNumber_13 (by decide) ?_
          refine xj_irem hk dX5_writeNumber_15 (by decide) ?_
          refine xj.eqi (x' := nI (m / 1 % 10)) (pk_rem (a := m / 1) (d := 10) (by omega) (by decide) (by decide)) ?_
          refine xj_istore (i := 4) (ls2 := [some (.ref (xw_ad v 20 0)), some (.int (nI m)), some (.int 0), some (.int 1), some (.int (nI (m / 1 % 10)))]) hk dX5_writeNumber_16 (by decide) rfl rfl ?_
          refine xj_iload_n (i := 2) hk dX5_writeNumber_18 rfl rfl ?_
          refine xj_if_ne (tgt := 32) hk dX5_writeNumber_19 (by decide) (fun c19 => False.elim (by revert c19; decide)) (fun c19 => ?_)
          refine xj_iload hk dX5_writeNumber_22 rfl ?_
          refine xj_if_gt (tgt := 32) hk dX5_writeNumber_24 (by decide) (fun c24 => ?_) (fun c24 => ?_)
          · have c24 : 0 < m / 1 % 10 := (nI_ltI (a := 0) (b := m / 1 % 10) (by omega) (by omega)).mp c24
            refine xj_iconst (x := 1) hk dX5_writeNumber_32 (by decide) ?_
            refine xj_goto (tgt := 37) hk dX5_writeNumber_33 (by decide) ?_
            refine xj_istore_n (i := 2) (ls2 := [some (.ref (xw_ad v 20 0)), some (.int (nI m)), some (.int 1), some (.int 1), some (.int (nI (m / 1 % 10)))]) hk dX5_writeNumber_37 rfl (by decide) rfl rfl ?_
            refine xj_iload_n (i := 2) hk dX5_writeNumber_38 rfl rfl ?_
            refine xj_if_eq (tgt := 51) hk dX5_writeNumber_39 (by decide) (fun c39 => False.elim (by revert c39; decide)) (fun c39 => ?_)
            refine xj_aload_n (i := 0) hk dX5_writeNumber_42 rfl rfl ?_
            refine xj_bipush (x := 48) hk dX5_writeNumber_43 (by decide) ?_
            refine xj_iload hk dX5_writeNumber_45 rfl ?_
            refine xj_iadd hk dX5_writeNumber_47 ?_
            refine xj.eqi (x' := nI (48 + (m / 1 % 10))) (nI_add 48 ((m / 1 % 10))) ?_
            refine xj_callV hk hz (fr1 := 0) (lo1 := 0) (r1 := none) (As := [.int (nI (48 + (m / 1 % 10)))]) (st := []) (st2 := []) (G1 := xw_up G 20 (pW  x (nI (W ++ [nI (48 + (m / 1 % 10))]).length) (gtW (W ++ [nI (48 + (m / 1 % 10))]) x))) ml_X5_104 (c_X5_writeSign (W := W) (show G 20 = pW  x (nI (W).length) (gtW (W) x) from g20) (by first | omega | (simp only [List.length_append, List.length_cons, List.length_nil]; omega)) (nI (48 + (m / 1 % 10)))) (xw_at g20 rfl) rfl dX5_writeNumber_48 ⟨Nat.le_of_ble_eq_true rfl, Nat.le_of_ble_eq_true rfl⟩ rfl (Nat.le_of_ble_eq_true rfl) rfl rfl ?_
            refine xj_iload_n (i := 3) hk dX5_writeNumber_51 rfl rfl ?_
            refine xj_bipush (x := 10) hk dX5_writeNumber_52 (by decide) ?_
            refine xj_idiv hk dX5_writeNumber_54 (by decide) ?_
            refine xj.eqi (x' := 0) (by decide) ?_
            refine xj_istore_n (i := 3) (ls2 := [some (.ref (xw_ad v 20 0)), some (.int (nI m)), some (.int 1), some (.int 0), some (.int (nI (m / 1 % 10)))]) hk dX5_writeNumber_55 rfl (by decide) rfl rfl ?_
            refine xj_goto (tgt := 6) hk dX5_writeNumber_56 (by decide) ?_
            refine xj_iload_n (i := 3) hk dX5_writeNumber_6 rfl rfl ?_
            refine xj_if_le (tgt := 59) hk dX5_writeNumber_7 (by decide) (fun c7 => ?_) (fun c7 => False.elim (by revert c7; decide))
            refine xj_return hk hz dX5_writeNumber_59 ?_
            refine ⟨rfl, ?_⟩
            simp only [dg]
            first | (rw [if_pos (by omega)]; done) | (rw [if_pos (by omega)]; simp only [List.append_assoc, List.cons_append, List.nil_append]; done) | (rw [if_neg (by omega), if_pos (by omega)]; simp only [List.append_assoc, List.cons_append, List.nil_append]; done) | (rw [if_neg (by omega), if_neg (by omega), if_pos (by omega)]; simp only [List.append_assoc, List.cons_append, List.nil_append]; done) | (rw [if_neg (by omega), if_neg (by omega), if_neg (by omega), if_pos (by omega)]; simp only [List.append_assoc, List.cons_append, List.nil_append]; done) | (rw [if_neg (by omega), if_neg (by omega), if_neg (by omega), if_neg (by omega)]; simp only [List.append_assoc, List.cons_append, List.nil_append]; done)
          · have c24 : ¬ 0 < m / 1 % 10 := fun q => c24 ((nI_ltI (a := 0) (b := m / 1 % 10) (by omega) (by omega)).mpr q)
            refine xj_iload_n (i := 3) hk dX5_writeNumber_27 rfl rfl ?_
            refine xj_iconst (x := 1) hk dX5_writeNumber_28 (by decide) ?_
            refine xj_icmp_ne (tgt := 36) hk dX5_writeNumber_29 (by decide) (fun c29 => False.elim (by revert c29; decide)) (fun c29 => ?_)
            refine xj_iconst (x := 1) hk dX5_writeNumber_32 (by decide) ?_
            refine xj_goto (tgt := 37) hk dX5_writeNumber_33 (by decide) ?_
            refine xj_istore_n (i := 2) (ls2 := [some (.ref (xw_ad v 20 0)), some (.int (nI m)), some (.int 1), some (.int 1), some (.int (nI (m / 1 % 10)))]) hk dX5_writeNumber_37 rfl (by decide) rfl rfl ?_
            refine xj_iload_n (i := 2) hk dX5_writeNumber_38 rfl rfl ?_
            refine xj_if_eq (tgt := 51) hk dX5_writeNumber_39 (by decide) (fun c39 => False.elim (by revert c39; decide)) (fun c39 => ?_)
            refine xj_aload_n (i := 0) hk dX5_writeNumber_42 rfl rfl ?_
            refine xj_bipush (x := 48) hk dX5_writeNumber_43 (by decide) ?_
            refine xj_iload hk dX5_writeNumber_45 rfl ?_
            refine xj_iadd hk dX5_writeNumber_47 ?_
            refine xj.eqi (x' := nI (48 + (m / 1 % 10))) (nI_add 48 ((m / 1 % 10))) ?_
            refine xj_callV hk hz (fr1 := 0) (lo1 := 0) (r1 := none) (As := [.int (nI (48 + (m / 1 % 10)))]) (st := []) (st2 := []) (G1 := xw_up G 20 (pW  x (nI (W ++ [nI (48 + (m / 1 % 10))]).length) (gtW (W ++ [nI (48 + (m / 1 % 10))]) x))) ml_X5_104 (c_X5_writeSign (W := W) (show G 20 = pW  x (nI (W).length) (gtW (W) x) from g20) (by first | omega | (simp only [List.length_append, List.length_cons, List.length_nil]; omega)) (nI (48 + (m / 1 % 10)))) (xw_at g20 rfl) rfl dX5_writeNumber_48 ⟨Nat.le_of_ble_eq_true rfl, Nat.le_of_ble_eq_true rfl⟩ rfl (Nat.le_of_ble_eq_true rfl) rfl rfl ?_
            refine xj_iload_n (i := 3) hk dX5_writeNumber_51 rfl rfl ?_
            refine xj_bipush (x := 10) hk dX5_writeNumber_52 (by decide) ?_
            refine xj_idiv hk dX5_writeNumber_54 (by decide) ?_
            refine xj.eqi (x' := 0) (by decide) ?_
            refine xj_istore_n (i := 3) (ls2 := [some (.ref (xw_ad v 20 0)), some (.int (nI m)), some (.int 1), some (.int 0), some (.int (nI (m / 1 % 10)))]) hk dX5_writeNumber_55 rfl (by decide) rfl rfl ?_
            refine xj_goto (tgt := 6) hk dX5_writeNumber_56 (by decide) ?_
            refine xj_iload_n (i := 3) hk dX5_writeNumber_6 rfl rfl ?_
            refine xj_if_le (tgt := 59) hk dX5_writeNumber_7 (by decide) (fun c7 => ?_) (fun c7 => False.elim (by revert c7; decide))
            refine xj_return hk hz dX5_writeNumber_59 ?_
            refine ⟨rfl, ?_⟩
            simp only [dg]
            first | (rw [if_pos (by omega)]; done) | (rw [if_pos (by omega)]; simp only [List.append_assoc, List.cons_append, List.nil_append]; done) | (rw [if_neg (by omega), if_pos (by omega)]; simp only [List.append_assoc, List.cons_append, List.nil_append]; done) | (rw [if_neg (by omega), if_neg (by omega), if_pos (by omega)]; simp only [List.append_assoc, List.cons_append, List.nil_append]; done) | (rw [if_neg (by omega), if_neg (by omega), if_neg (by omega), if_pos (by omega)]; simp only [List.append_assoc, List.cons_append, List.nil_append]; done) | (rw [if_neg (by omega), if_neg (by omega), if_neg (by omega), if_neg (by omega)]; simp only [List.append_assoc, List.cons_append, List.nil_append]; done)


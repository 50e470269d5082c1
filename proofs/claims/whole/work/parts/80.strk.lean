theorem dJ0_length_8abf5_0 : decode cJ0_length_8abf5 0 = .ok (.aload_n 0, 1) := by decide +kernel
theorem dJ0_length_8abf5_1 : decode cJ0_length_8abf5 1 = .ok (.getfield 9, 3) := by decide +kernel
theorem dJ0_length_8abf5_4 : decode cJ0_length_8abf5 4 = .ok (.arraylength, 1) := by decide +kernel
theorem dJ0_length_8abf5_5 : decode cJ0_length_8abf5 5 = .ok (.aload_n 0, 1) := by decide +kernel
theorem dJ0_length_8abf5_6 : decode cJ0_length_8abf5 6 = .ok (.invokevirtual 335, 3) := by decide +kernel
theorem dJ0_length_8abf5_9 : decode cJ0_length_8abf5 9 = .ok (.ishr, 1) := by decide +kernel
theorem dJ0_length_8abf5_10 : decode cJ0_length_8abf5 10 = .ok (.ireturn, 1) := by decide +kernel
theorem dJ0_charAt_5068e_0 : decode cJ0_charAt_5068e 0 = .ok (.aload_n 0, 1) := by decide +kernel
theorem dJ0_charAt_5068e_1 : decode cJ0_charAt_5068e 1 = .ok (.invokevirtual 492, 3) := by decide +kernel
theorem dJ0_charAt_5068e_4 : decode cJ0_charAt_5068e 4 = .ok (.ifCond .eq 12, 3) := by decide +kernel
theorem dJ0_charAt_5068e_7 : decode cJ0_charAt_5068e 7 = .ok (.aload_n 0, 1) := by decide +kernel
theorem dJ0_charAt_5068e_8 : decode cJ0_charAt_5068e 8 = .ok (.getfield 9, 3) := by decide +kernel
theorem dJ0_charAt_5068e_11 : decode cJ0_charAt_5068e 11 = .ok (.iload_n 1, 1) := by decide +kernel
theorem dJ0_charAt_5068e_12 : decode cJ0_charAt_5068e 12 = .ok (.invokestatic 495, 3) := by decide +kernel
theorem dJ0_charAt_5068e_15 : decode cJ0_charAt_5068e 15 = .ok (.ireturn, 1) := by decide +kernel
theorem dJ0_charAt_5068e_16 : decode cJ0_charAt_5068e 16 = .ok (.aload_n 0, 1) := by decide +kernel
theorem dJ0_charAt_5068e_17 : decode cJ0_charAt_5068e 17 = .ok (.getfield 9, 3) := by decide +kernel
theorem dJ0_charAt_5068e_20 : decode cJ0_charAt_5068e 20 = .ok (.iload_n 1, 1) := by decide +kernel
theorem dJ0_charAt_5068e_21 : decode cJ0_charAt_5068e 21 = .ok (.invokestatic 498, 3) := by decide +kernel
theorem dJ0_charAt_5068e_24 : decode cJ0_charAt_5068e 24 = .ok (.ireturn, 1) := by decide +kernel
theorem dJ0_coder_7d493_0 : decode cJ0_coder_7d493 0 = .ok (.getstatic 38, 3) := by decide +kernel
theorem dJ0_coder_7d493_3 : decode cJ0_coder_7d493 3 = .ok (.ifCond .eq 10, 3) := by decide +kernel
theorem dJ0_coder_7d493_6 : decode cJ0_coder_7d493 6 = .ok (.aload_n 0, 1) := by decide +kernel
theorem dJ0_coder_7d493_7 : decode cJ0_coder_7d493 7 = .ok (.getfield 15, 3) := by decide +kernel
theorem dJ0_coder_7d493_10 : decode cJ0_coder_7d493 10 = .ok (.goto 4, 3) := by decide +kernel
theorem dJ0_coder_7d493_13 : decode cJ0_coder_7d493 13 = .ok (.iconst 1, 1) := by decide +kernel
theorem dJ0_coder_7d493_14 : decode cJ0_coder_7d493 14 = .ok (.ireturn, 1) := by decide +kernel
theorem dJ0_isLatin1_aae02_0 : decode cJ0_isLatin1_aae02 0 = .ok (.getstatic 38, 3) := by decide +kernel
theorem dJ0_isLatin1_aae02_3 : decode cJ0_isLatin1_aae02 3 = .ok (.ifCond .eq 14, 3) := by decide +kernel
theorem dJ0_isLatin1_aae02_6 : decode cJ0_isLatin1_aae02 6 = .ok (.aload_n 0, 1) := by decide +kernel
theorem dJ0_isLatin1_aae02_7 : decode cJ0_isLatin1_aae02 7 = .ok (.getfield 15, 3) := by decide +kernel
theorem dJ0_isLatin1_aae02_10 : decode cJ0_isLatin1_aae02 10 = .ok (.ifCond .ne 7, 3) := by decide +kernel
theorem dJ0_isLatin1_aae02_13 : decode cJ0_isLatin1_aae02 13 = .ok (.iconst 1, 1) := by decide +kernel
theorem dJ0_isLatin1_aae02_14 : decode cJ0_isLatin1_aae02 14 = .ok (.goto 4, 3) := by decide +kernel
theorem dJ0_isLatin1_aae02_17 : decode cJ0_isLatin1_aae02 17 = .ok (.iconst 0, 1) := by decide +kernel
theorem dJ0_isLatin1_aae02_18 : decode cJ0_isLatin1_aae02 18 = .ok (.ireturn, 1) := by decide +kernel
theorem dJ0_checkIndex_df160_0 : decode cJ0_checkIndex_df160 0 = .ok (.iload_n 0, 1) := by decide +kernel
theorem dJ0_checkIndex_df160_1 : decode cJ0_checkIndex_df160 1 = .ok (.iload_n 1, 1) := by decide +kernel
theorem dJ0_checkIndex_df160_2 : decode cJ0_checkIndex_df160 2 = .ok (.getstatic 1053, 3) := by decide +kernel
theorem dJ0_checkIndex_df160_5 : decode cJ0_checkIndex_df160 5 = .ok (.invokestatic 1059, 3) := by decide +kernel
theorem dJ0_checkIndex_df160_8 : decode cJ0_checkIndex_df160 8 = .ok (.pop, 1) := by decide +kernel
theorem dJ0_checkIndex_df160_9 : decode cJ0_checkIndex_df160 9 = .ok (.return_, 1) := by decide +kernel
theorem dJ1_charAt_3b067_0 : decode cJ1_charAt_3b067 0 = .ok (.iload_n 1, 1) := by decide +kernel
theorem dJ1_charAt_3b067_1 : decode cJ1_charAt_3b067 1 = .ok (.aload_n 0, 1) := by decide +kernel
theorem dJ1_charAt_3b067_2 : decode cJ1_charAt_3b067 2 = .ok (.arraylength, 1) := by decide +kernel
theorem dJ1_charAt_3b067_3 : decode cJ1_charAt_3b067 3 = .ok (.invokestatic 9, 3) := by decide +kernel
theorem dJ1_charAt_3b067_6 : decode cJ1_charAt_3b067 6 = .ok (.aload_n 0, 1) := by decide +kernel
theorem dJ1_charAt_3b067_7 : decode cJ1_charAt_3b067 7 = .ok (.iload_n 1, 1) := by decide +kernel
theorem dJ1_charAt_3b067_8 : decode cJ1_charAt_3b067 8 = .ok (.baload, 1) := by decide +kernel
theorem dJ1_charAt_3b067_9 : decode cJ1_charAt_3b067 9 = .ok (.sipush 255, 3) := by decide +kernel
theorem dJ1_charAt_3b067_12 : decode cJ1_charAt_3b067 12 = .ok (.iand, 1) := by decide +kernel
theorem dJ1_charAt_3b067_13 : decode cJ1_charAt_3b067 13 = .ok (.i2c, 1) := by decide +kernel
theorem dJ1_charAt_3b067_14 : decode cJ1_charAt_3b067 14 = .ok (.ireturn, 1) := by decide +kernel
theorem dJ3_checkIndex_8e157_0 : decode cJ3_checkIndex_8e157 0 = .ok (.iload_n 0, 1) := by decide +kernel
theorem dJ3_checkIndex_8e157_1 : decode cJ3_checkIndex_8e157 1 = .ok (.ifCond .lt 8, 3) := by decide +kernel
theorem dJ3_checkIndex_8e157_4 : decode cJ3_checkIndex_8e157 4 = .ok (.iload_n 0, 1) := by decide +kernel
theorem dJ3_checkIndex_8e157_5 : decode cJ3_checkIndex_8e157 5 = .ok (.iload_n 1, 1) := by decide +kernel
theorem dJ3_checkIndex_8e157_6 : decode cJ3_checkIndex_8e157 6 = .ok (.if_icmp .lt 10, 3) := by decide +kernel
theorem dJ3_checkIndex_8e157_9 : decode cJ3_checkIndex_8e157 9 = .ok (.aload_n 2, 1) := by decide +kernel
theorem dJ3_checkIndex_8e157_10 : decode cJ3_checkIndex_8e157 10 = .ok (.iload_n 0, 1) := by decide +kernel
theorem dJ3_checkIndex_8e157_11 : decode cJ3_checkIndex_8e157 11 = .ok (.iload_n 1, 1) := by decide +kernel
theorem dJ3_checkIndex_8e157_12 : decode cJ3_checkIndex_8e157 12 = .ok (.invokestatic 95, 3) := by decide +kernel
theorem dJ3_checkIndex_8e157_15 : decode cJ3_checkIndex_8e157 15 = .ok (.athrow, 1) := by decide +kernel
theorem dJ3_checkIndex_8e157_16 : decode cJ3_checkIndex_8e157 16 = .ok (.iload_n 0, 1) := by decide +kernel
theorem dJ3_checkIndex_8e157_17 : decode cJ3_checkIndex_8e157 17 = .ok (.ireturn, 1) := by decide +kernel
set_option maxRecDepth 100000 in
theorem fj_value : Cond.fieldLink "java/lang/String" 9 "java/lang/String" "value" "[B" ∈ xw_tbl := xw_inI 1597 (by decide +kernel) rfl
set_option maxRecDepth 100000 in
theorem fj_coder : Cond.fieldLink "java/lang/String" 15 "java/lang/String" "coder" "B" ∈ xw_tbl := xw_inI 1598 (by decide +kernel) rfl
set_option maxRecDepth 100000 in
theorem fj_compact : Cond.fieldLink "java/lang/String" 38 "java/lang/String" "COMPACT_STRINGS" "Z" ∈ xw_tbl := xw_inI 488 (by decide +kernel) rfl
set_option maxRecDepth 100000 in
theorem fj_sioobe : Cond.fieldLink "java/lang/String" 1053 "jdk/internal/util/Preconditions" "SIOOBE_FORMATTER" "Ljava/util/function/BiFunction;" ∈ xw_tbl := xw_inI 504 (by decide +kernel) rfl
section XSTR
variable {v : xw_V} {κ : xk_K} {post : Option Value → xw_G → Prop} {z : Nat × Nat × Nat} {G : xw_G} {pc : Nat} {ls : List (Option Value)} {st st0 : List Value} {y : MethodName} {cc : ByteArray} {nL : Nat} {ret : Option FieldType} {fr lo : Nat} {q : Nat × String × Nat × String × List Int32}
theorem xk_sq (hk : xk_Ok v κ y cc nL ret fr lo) (hq : q ∈ xk_strs) : vk_R q.2.1 q.2.2.1 q.2.2.2.1 (xw_ad v (40 + q.1) 0) (xk_s κ) ∧ xk_str v (xk_b κ) q.1 q.2.2.2.2 (xk_s κ) (xk_s κ).heap := hk.2.2.2.2.2.2.2.1.2.2.2.2.1 q hq
theorem xj_ldcS (hk : xk_Ok v κ y cc nL ret fr lo) (hq : q ∈ xk_strs) (hy : y.cls = q.2.1) (hd : decode cc pc = .ok (.ldc q.2.2.1, 2)) (kk : xj v κ post z G (pc + 2) ls (.ref (xw_ad v (40 + q.1) 0) :: st)) : xj v κ post z G pc ls st := fun H locs lsC hH hL hS =>
  va_ldcS hk.1 hk.2.1 (hy ▸ hk.2.2.2.2.1) (xk_sq hk hq).1 hd (kk H locs lsC hH hL hS)
theorem xj_gfV (hk : xk_Ok v κ y cc nL ret fr lo) (hy : y.cls = "java/lang/String") (hq : q ∈ xk_strs) (hd : decode cc pc = .ok (.getfield 9, 3)) (kk : xj v κ post z G (pc + 3) ls (.ref (xw_ad v (40 + q.1) 1) :: st)) : xj v κ post z G pc ls (.ref (xw_ad v (40 + q.1) 0) :: st) := fun H locs lsC hH hL hS =>
  vk_getf hk.1 hk.2.1 (xk_sq hk hq).2.2.2.1 hS (hy ▸ hk.2.2.2.2.1) (hk.2.2.2.2.2.1 _ fj_value) (fun x h => h) hd (kk H locs lsC hH hL hS)
theorem xj_gfC (hk : xk_Ok v κ y cc nL ret fr lo) (hy : y.cls = "java/lang/String") (hq : q ∈ xk_strs) (hd : decode cc pc = .ok (.getfield 15, 3)) (kk : xj v κ post z G (pc + 3) ls (.int 0 :: st)) : xj v κ post z G pc ls (.ref (xw_ad v (40 + q.1) 0) :: st) := fun H locs lsC hH hL hS =>
  vk_getf hk.1 hk.2.1 (xk_sq hk hq).2.2.1 hS (hy ▸ hk.2.2.2.2.1) (hk.2.2.2.2.2.1 _ fj_coder) (fun x h => h) hd (kk H locs lsC hH hL hS)
theorem xj_gsC (hk : xk_Ok v κ y cc nL ret fr lo) (hy : y.cls = "java/lang/String") (hd : decode cc pc = .ok (.getstatic 38, 3)) (kk : xj v κ post z G (pc + 3) ls (.int 1 :: st)) : xj v κ post z G pc ls st := fun H locs lsC hH hL hS =>
  va_gets hk.1 hk.2.1 hk.2.2.2.2.2.2.2.1.2.2.2.2.2.1 hS (hy ▸ hk.2.2.2.2.1) (hk.2.2.2.2.2.1 _ fj_compact) (fun x h => h) hd (kk H locs lsC hH hL hS)
theorem xj_gsQ (hk : xk_Ok v κ y cc nL ret fr lo) (hy : y.cls = "java/lang/String") (hd : decode cc pc = .ok (.getstatic 1053, 3)) (kk : ∀ w : Value, (w = .null ∨ ∃ t, w = .ref t) → xj v κ post z G (pc + 3) ls (w :: st)) : xj v κ post z G pc ls st := fun H locs lsC hH hL hS => by
  rcases hk.2.2.2.2.2.2.2.1.2.2.2.2.2.2.1 with h | ⟨t, h⟩
  · exact va_gets hk.1 hk.2.1 h hS (hy ▸ hk.2.2.2.2.1) (hk.2.2.2.2.2.1 _ fj_sioobe) (fun x h => h) hd (kk _ (Or.inl rfl) H locs lsC hH hL hS)
  · exact va_gets hk.1 hk.2.1 h hS (hy ▸ hk.2.2.2.2.1) (hk.2.2.2.2.2.1 _ fj_sioobe) (fun x h => h) hd (kk _ (Or.inr ⟨t, rfl⟩) H locs lsC hH hL hS)
theorem xj_slen (hk : xk_Ok v κ y cc nL ret fr lo) (hq : q ∈ xk_strs) (hd : decode cc pc = .ok (.arraylength, 1)) (kk : xj v κ post z G (pc + 1) ls (.int (nI q.2.2.2.2.length) :: st)) : xj v κ post z G pc ls (.ref (xw_ad v (40 + q.1) 1) :: st) := fun H locs lsC hH hL hS =>
  va_tlen hk.1 hk.2.1 (xk_sq hk hq).2.2.2.2 hS rfl hd (kk H locs lsC hH hL hS)
theorem xj_sbal (hk : xk_Ok v κ y cc nL ret fr lo) (hq : q ∈ xk_strs) {j : Int32} {k : Nat} (hd : decode cc pc = .ok (.baload, 1)) (hj : xi j k q.2.2.2.2.length) (kk : xj v κ post z G (pc + 1) ls (.int (q.2.2.2.2.getD k 0) :: st)) : xj v κ post z G pc ls (.int j :: .ref (xw_ad v (40 + q.1) 1) :: st) := fun H locs lsC hH hL hS =>
  va_tb hk.1 hk.2.1 (xk_sq hk hq).2.2.2.2 hS (xi_in hj) (v := .int (q.2.2.2.2.getD k 0)) (by rw [hj.1]) hd (kk H locs lsC hH hL hS)
theorem xj_i2c (hk : xk_Ok v κ y cc nL ret fr lo) {x x2 : Int32} (hd : decode cc pc = .ok (.i2c, 1)) (hx : (x.toUInt32 % 65536).toInt32 = x2) (kk : xj v κ post z G (pc + 1) ls (.int x2 :: st)) : xj v κ post z G pc ls (.int x :: st) := fun H locs lsC hH hL hS =>
  lv_i2c hk.1 hk.2.1 hd hx (kk H locs lsC hH hL hS)
theorem xj_nreturn {ty : FieldType} (hk : xk_Ok v κ y cc nL (some ty) fr lo) (hz : xk_zf κ = z) {x : Int32} (hd : decode cc pc = .ok (.ireturn, 1)) (hn : narrow ty (.int x) = .int x) (hp : post (some (.int x)) G) : xj v κ post z G pc ls [.int x] := by
  intro H locs lsC hH hL hS
  have h0 := W.zret (R := xk_R κ) (cells := z.2.1) (slots := z.2.2) (v := x) hk.1 hk.2.1 hk.2.2.1 hn (xj_end hz hH hS hp) (free := fun q => xk_b κ ≤ q) hS.2.2 (p := xk_p κ) (l := xk_l κ) (e := xk_e κ) (m := xk_m κ) (below := xk_bl κ) (ls := lsC) hd hk.2.2.2.2.2.2.1
  rw [← hz] at h0 ⊢
  exact h0
variable {y1 : MethodName} {cc1 : ByteArray} {nL1 n fr1 lo1 idx mc ms : Nat} {ret1 : Option FieldType} {As : List Value} {post1 : Option Value → xw_G → Prop}
/-- a call of a String constant's own method -/
theorem xj_callStr (hk : xk_Ok v κ y cc nL ret fr lo) (hz : xk_zf κ = z) (hq : q ∈ xk_strs) {r1 : Option Value} {st2 : List Value} (hm : xk_MV y.cls idx y1 cc1 nL1 ret1 n) (hc : xk_Con v y1 cc1 nL1 ret1 fr1 lo1 (.ref (xw_ad v (40 + q.1) 0) :: As) G (xk_ret r1 G)) (hcl : y1.cls = "java/lang/String") (hd : decode cc pc = .ok (.invokevirtual idx, 3)) (hr : fr1 + 1 ≤ fr ∧ 8 + (nL1 + 11) + lo1 ≤ lo) (hn : As.length = n) (hw : (st.map fun v => v.category).sum ≤ 8) (hs : st0 = As.reverse ++ .ref (xw_ad v (40 + q.1) 0) :: st) (hs2 : r1.toList ++ st = st2)
    (kk : xj v κ post z G (pc + 3) ls st2) : xj v κ post z G pc ls st0 :=
  xj_callVZ (mc := 0) (ms := 0) hk hm (hc z.1) (xk_z0 hz) hn hd hr (fun H locs hH hS => by
    obtain ⟨cell, h1, h2, h3, -⟩ := ((xk_sq hk hq).2.1).kept hS.2.1
    exact ⟨cell, h1, h2, by rw [hcl]; exact h3⟩) hw hs (fun r G' h => by obtain ⟨rfl, rfl⟩ := h; rw [hs2]; exact kk)
end XSTR
set_option maxRecDepth 100000 in
theorem xs_all : ∀ q ∈ xk_strs, q.2.2.2.2.length < 100 ∧ ∀ b ∈ q.2.2.2.2, b &&& 255 = b := by decide +kernel
theorem xs_at {q : Nat × String × Nat × String × List Int32} (hq : q ∈ xk_strs) {k : Nat} (hk : k < q.2.2.2.2.length) : q.2.2.2.2.getD k 0 &&& 255 = q.2.2.2.2.getD k 0 := by
  refine (xs_all q hq).2 _ ?_
  rw [List.getD_eq_getElem?_getD, List.getElem?_eq_getElem hk]
  exact List.getElem_mem hk
theorem c_coder {v : xw_V} {G : xw_G} {q : Nat × String × Nat × String × List Int32} (hq : q ∈ xk_strs) : xk_Con v yJ0_coder_7d493 cJ0_coder_7d493 1 (some .byte) 0 0 [.ref (xw_ad v (40 + q.1) 0)] G (xk_ret (some (.int 0)) G) := by
  refine xk_of (ls0 := [some (.ref (xw_ad v (40 + q.1) 0))]) (by decide) rfl (Nat.le_of_ble_eq_true rfl) ?_
  intro κ z hk hz
  refine xj_gsC hk rfl dJ0_coder_7d493_0 ?_
  refine xj_if_eq (tgt := 13) hk dJ0_coder_7d493_3 (by decide) (fun c => absurd c (by decide)) (fun c => ?_)
  refine xj_aload_n (i := 0) hk dJ0_coder_7d493_6 rfl rfl ?_
  refine xj_gfC hk rfl hq dJ0_coder_7d493_7 ?_
  refine xj_goto (tgt := 14) hk dJ0_coder_7d493_10 (by decide) ?_
  exact xj_nreturn hk hz dJ0_coder_7d493_14 (by decide) ⟨rfl, rfl⟩
theorem c_latin {v : xw_V} {G : xw_G} {q : Nat × String × Nat × String × List Int32} (hq : q ∈ xk_strs) : xk_Con v yJ0_isLatin1_aae02 cJ0_isLatin1_aae02 1 (some .boolean) 0 0 [.ref (xw_ad v (40 + q.1) 0)] G (xk_ret (some (.int 1)) G) := by
  refine xk_of (ls0 := [some (.ref (xw_ad v (40 + q.1) 0))]) (by decide) rfl (Nat.le_of_ble_eq_true rfl) ?_
  intro κ z hk hz
  refine xj_gsC hk rfl dJ0_isLatin1_aae02_0 ?_
  refine xj_if_eq (tgt := 17) hk dJ0_isLatin1_aae02_3 (by decide) (fun c => absurd c (by decide)) (fun c => ?_)
  refine xj_aload_n (i := 0) hk dJ0_isLatin1_aae02_6 rfl rfl ?_
  refine xj_gfC hk rfl hq dJ0_isLatin1_aae02_7 ?_
  refine xj_if_ne (tgt := 17) hk dJ0_isLatin1_aae02_10 (by decide) (fun c => absurd rfl c) (fun c => ?_)
  refine xj_iconst (x := 1) hk dJ0_isLatin1_aae02_13 (by decide) ?_
  refine xj_goto (tgt := 18) hk dJ0_isLatin1_aae02_14 (by decide) ?_
  exact xj_nreturn hk hz dJ0_isLatin1_aae02_18 (by decide) ⟨rfl, rfl⟩
theorem c_len {v : xw_V} {G : xw_G} {q : Nat × String × Nat × String × List Int32} (hq : q ∈ xk_strs) : xk_Con v yJ0_length_8abf5 cJ0_length_8abf5 1 (some .int) 1 20 [.ref (xw_ad v (40 + q.1) 0)] G (xk_ret (some (.int (nI q.2.2.2.2.length))) G) := by
  refine xk_of (ls0 := [some (.ref (xw_ad v (40 + q.1) 0))]) (by decide) rfl (Nat.le_of_ble_eq_true rfl) ?_
  intro κ z hk hz
  have hl := (xs_all q hq).1
  refine xj_aload_n (i := 0) hk dJ0_length_8abf5_0 rfl rfl ?_
  refine xj_gfV hk rfl hq dJ0_length_8abf5_1 ?_
  refine xj_slen hk hq dJ0_length_8abf5_4 ?_
  refine xj_aload_n (i := 0) hk dJ0_length_8abf5_5 rfl rfl ?_
  refine xj_callStr hk hz hq (fr1 := 0) (lo1 := 0) (As := []) (st := [.int (nI q.2.2.2.2.length)]) (st2 := [.int 0, .int (nI q.2.2.2.2.length)]) ml_J0_335 (c_coder hq) rfl dJ0_length_8abf5_6 ⟨Nat.le_of_ble_eq_true rfl, Nat.le_of_ble_eq_true rfl⟩ rfl (Nat.le_of_ble_eq_true rfl) rfl rfl ?_
  refine xj_ishr hk dJ0_length_8abf5_9 ?_
  refine xj.eqi (x' := nI q.2.2.2.2.length) (sc_shr0 (by omega)) ?_
  exact xj_ireturn hk hz dJ0_length_8abf5_10 ⟨rfl, rfl⟩
theorem c_chk3 {v : xw_V} {G : xw_G} {k n : Nat} (w : Value) (hw : w = .null ∨ ∃ t, w = .ref t) (h : k < n) (hn : n < 2 ^ 31) : xk_Con v yJ3_checkIndex_8e157 cJ3_checkIndex_8e157 3 (some .int) 0 0 [.int (nI k), .int (nI n), w] G (xk_ret (some (.int (nI k))) G) := by
  have e : xl_ent [.int (nI k), .int (nI n), w] 3 = [some (.int (nI k)), some (.int (nI n)), some w] := by
    rcases hw with rfl | ⟨t, rfl⟩ <;> rfl
  have e2 : (xl_lay [.int (nI k), .int (nI n), w]).length = 3 := by
    rcases hw with rfl | ⟨t, rfl⟩ <;> rfl
  refine xk_of (ls0 := [some (.int (nI k)), some (.int (nI n)), some w]) (by decide) (by first | exact e | exact e.symm) (by rw [e2]; exact Nat.le_refl 3) ?_
  intro κ z hk hz
  refine xj_iload_n (i := 0) hk dJ3_checkIndex_8e157_0 rfl rfl ?_
  refine xj_if_lt (tgt := 9) hk dJ3_checkIndex_8e157_1 (by decide) (fun c => absurd c (nI_pos (by omega))) (fun c => ?_)
  refine xj_iload_n (i := 0) hk dJ3_checkIndex_8e157_4 rfl rfl ?_
  refine xj_iload_n (i := 1) hk dJ3_checkIndex_8e157_5 rfl rfl ?_
  refine xj_icmp_lt (tgt := 16) hk dJ3_checkIndex_8e157_6 (by decide) (fun c => ?_) (fun c => absurd (nI_lt h hn) c)
  refine xj_iload_n (i := 0) hk dJ3_checkIndex_8e157_16 rfl rfl ?_
  exact xj_ireturn hk hz dJ3_checkIndex_8e157_17 ⟨rfl, rfl⟩
theorem c_chk {v : xw_V} {G : xw_G} {k n : Nat} (h : k < n) (hn : n < 2 ^ 31) : xk_Con v yJ0_checkIndex_df160 cJ0_checkIndex_df160 2 none 1 22 [.int (nI k), .int (nI n)] G (xk_ret none G) := by
  refine xk_of (ls0 := [some (.int (nI k)), some (.int (nI n))]) (by decide) rfl (Nat.le_of_ble_eq_true rfl) ?_
  intro κ z hk hz
  refine xj_iload_n (i := 0) hk dJ0_checkIndex_df160_0 rfl rfl ?_
  refine xj_iload_n (i := 1) hk dJ0_checkIndex_df160_1 rfl rfl ?_
  refine xj_gsQ hk rfl dJ0_checkIndex_df160_2 (fun w hw => ?_)
  refine xj_callS hk hz (fr1 := 0) (lo1 := 0) (r1 := some (.int (nI k))) (As := [.int (nI k), .int (nI n), w]) (st := []) (st2 := [.int (nI k)]) (G1 := G) ml_J0_1059 (c_chk3 w hw h hn) dJ0_checkIndex_df160_5 ⟨Nat.le_of_ble_eq_true rfl, Nat.le_of_ble_eq_true rfl⟩ rfl (Nat.le_of_ble_eq_true rfl) rfl rfl ?_
  refine xj_pop hk dJ0_checkIndex_df160_8 rfl ?_
  exact xj_return hk hz dJ0_checkIndex_df160_9 ⟨rfl, rfl⟩
theorem c_chr1 {v : xw_V} {G : xw_G} {q : Nat × String × Nat × String × List Int32} (hq : q ∈ xk_strs) {k : Nat} (h : k < q.2.2.2.2.length) : xk_Con v yJ1_charAt_3b067 cJ1_charAt_3b067 2 (some .char) 2 43 [.ref (xw_ad v (40 + q.1) 1), .int (nI k)] G (xk_ret (some (.int (q.2.2.2.2.getD k 0))) G) := by
  refine xk_of (ls0 := [some (.ref (xw_ad v (40 + q.1) 1)), some (.int (nI k))]) (by decide) rfl (Nat.le_of_ble_eq_true rfl) ?_
  intro κ z hk hz
  have hl := (xs_all q hq).1
  have e := xs_at hq h
  refine xj_iload_n (i := 1) hk dJ1_charAt_3b067_0 rfl rfl ?_
  refine xj_aload_n (i := 0) hk dJ1_charAt_3b067_1 rfl rfl ?_
  refine xj_slen hk hq dJ1_charAt_3b067_2 ?_
  refine xj_callS hk hz (fr1 := 1) (lo1 := 22) (r1 := none) (As := [.int (nI k), .int (nI q.2.2.2.2.length)]) (st := []) (st2 := []) (G1 := G) ml_J1_9 (c_chk h (by omega)) dJ1_charAt_3b067_3 ⟨Nat.le_of_ble_eq_true rfl, Nat.le_of_ble_eq_true rfl⟩ rfl (Nat.le_of_ble_eq_true rfl) rfl rfl ?_
  refine xj_aload_n (i := 0) hk dJ1_charAt_3b067_6 rfl rfl ?_
  refine xj_iload_n (i := 1) hk dJ1_charAt_3b067_7 rfl rfl ?_
  refine xj_sbal (k := k) hk hq dJ1_charAt_3b067_8 (xi_n h (by omega)) ?_
  refine xj_sipush (x := 255) hk dJ1_charAt_3b067_9 (by decide) ?_
  refine xj_iand hk dJ1_charAt_3b067_12 ?_
  refine xj_i2c (x2 := q.2.2.2.2.getD k 0) hk dJ1_charAt_3b067_13 (by rw [sc_c2, e]) ?_
  exact xj_nreturn hk hz dJ1_charAt_3b067_14 (by rw [← e]; exact sc_nar _) ⟨rfl, rfl⟩
theorem c_chr {v : xw_V} {G : xw_G} {q : Nat × String × Nat × String × List Int32} (hq : q ∈ xk_strs) {k : Nat} (h : k < q.2.2.2.2.length) : xk_Con v yJ0_charAt_5068e cJ0_charAt_5068e 2 (some .char) 4 85 [.ref (xw_ad v (40 + q.1) 0), .int (nI k)] G (xk_ret (some (.int (q.2.2.2.2.getD k 0))) G) := by
  refine xk_of (ls0 := [some (.ref (xw_ad v (40 + q.1) 0)), some (.int (nI k))]) (by decide) rfl (Nat.le_of_ble_eq_true rfl) ?_
  intro κ z hk hz
  have e := xs_at hq h
  refine xj_aload_n (i := 0) hk dJ0_charAt_5068e_0 rfl rfl ?_
  refine xj_callStr hk hz hq (fr1 := 0) (lo1 := 0) (As := []) (st := []) (st2 := [.int 1]) ml_J0_492 (c_latin hq) rfl dJ0_charAt_5068e_1 ⟨Nat.le_of_ble_eq_true rfl, Nat.le_of_ble_eq_true rfl⟩ rfl (Nat.le_of_ble_eq_true rfl) rfl rfl ?_
  refine xj_if_eq (tgt := 16) hk dJ0_charAt_5068e_4 (by decide) (fun c => absurd c (by decide)) (fun c => ?_)
  refine xj_aload_n (i := 0) hk dJ0_charAt_5068e_7 rfl rfl ?_
  refine xj_gfV hk rfl hq dJ0_charAt_5068e_8 ?_
  refine xj_iload_n (i := 1) hk dJ0_charAt_5068e_11 rfl rfl ?_
  refine xj_callS hk hz (fr1 := 2) (lo1 := 43) (r1 := some (.int (q.2.2.2.2.getD k 0))) (As := [.ref (xw_ad v (40 + q.1) 1), .int (nI k)]) (st := []) (st2 := [.int (q.2.2.2.2.getD k 0)]) (G1 := G) ml_J0_495 (c_chr1 hq h) dJ0_charAt_5068e_12 ⟨Nat.le_of_ble_eq_true rfl, Nat.le_of_ble_eq_true rfl⟩ rfl (Nat.le_of_ble_eq_true rfl) rfl rfl ?_
  exact xj_nreturn hk hz dJ0_charAt_5068e_15 (by rw [← e]; exact sc_nar _) ⟨rfl, rfl⟩

set_option maxHeartbeats 1000000 in
set_option maxRecDepth 10000 in
theorem c_X8_writes {v : xw_V} {G : xw_G} {M : md_T} {te ho ow hs ra lo st av so : Nat → Int32} {ln : Int32} {n : Nat} {W : List Int32} {f : Nat → Int32} (hM : G 21 = pM v (md_th M) (nR te ho ow hs ra lo (nI n) st av so ln) (md_pt M) (md_re M) (md_sd M) (md_be M) (md_pb M) (md_ac M) (md_od M) (md_ad M) (md_wy M) (md_so M) (md_rl M) (md_io M) (md_po M) (md_sp M) (md_rs M) (md_st M) (md_av M) (md_ip M) (txW (W) f) (nI (W).length) (md_ta M) (md_td M) (md_wo M) (md_sq M) (md_tk M) (md_bg M) (md_nu M) (md_wr M)) (hl : W.length < 1400) (c : Int32) : xk_Con v yX8_writes cX8_writes 2 none 0 0 [.ref (xw_ad v 21 0), .int c] G (xk_ret none (xw_up G 21 (pM v (md_th M) (nR te ho ow hs ra lo (nI n) st av so ln) (md_pt M) (md_re M) (md_sd M) (md_be M) (md_pb M) (md_ac M) (md_od M) (md_ad M) (md_wy M) (md_so M) (md_rl M) (md_io M) (md_po M) (md_sp M) (md_rs M) (md_st M) (md_av M) (md_ip M) (txW (W ++ [c]) f) (nI (W ++ [c]).length) (md_ta M) (md_td M) (md_wo M) (md_sq M) (md_tk M) (md_bg M) (md_nu M) (md_wr M)))) := by
  refine xk_of (ls0 := [some (.ref (xw_ad v 21 0)), some (.int c)]) (by decide) rfl (Nat.le_of_ble_eq_true rfl) ?_
  intro κ z hk hz
  refine xj_aload_n (i := 0) hk dX8_writes_0 rfl rfl ?_
  refine xj_getfield hk dX8_writes_1 fl_X8_52 (xw_at hM rfl) rfl ?_
  refine xj_aload_n (i := 0) hk dX8_writes_4 rfl rfl ?_
  refine xj_getfield hk dX8_writes_5 fl_X8_231 (xw_at hM rfl) rfl ?_
  refine xj_iload_n (i := 1) hk dX8_writes_8 rfl rfl ?_
  refine xj_iastore (k := W.length) (G2 := xw_up G 21 (pM v (md_th M) (nR te ho ow hs ra lo (nI n) st av so ln) (md_pt M) (md_re M) (md_sd M) (md_be M) (md_pb M) (md_ac M) (md_od M) (md_ad M) (md_wy M) (md_so M) (md_rl M) (md_io M) (md_po M) (md_sp M) (md_rs M) (md_st M) (md_av M) (md_ip M) (xu (txW (W) f) W.length c) (nI (W).length) (md_ta M) (md_td M) (md_wo M) (md_sq M) (md_tk M) (md_bg M) (md_nu M) (md_wr M))) hk dX8_writes_9 (xw_at hM rfl) (xi_n (by omega) (by decide)) (xw_wr hM rfl) ?_
  refine xj_aload_n (i := 0) hk dX8_writes_10 rfl rfl ?_
  refine xj_dup hk dX8_writes_11 rfl ?_
  refine xj_getfield hk dX8_writes_12 fl_X8_231 (xw_at xw_up_s rfl) rfl ?_
  refine xj_iconst (x := 1) hk dX8_writes_15 (by decide) ?_
  refine xj_iadd hk dX8_writes_16 ?_
  refine xj.eqi (x' := nI (W.length + 1)) (nI_1 _) ?_
  refine xj_putfield (G2 := xw_up G 21 (pM v (md_th M) (nR te ho ow hs ra lo (nI n) st av so ln) (md_pt M) (md_re M) (md_sd M) (md_be M) (md_pb M) (md_ac M) (md_od M) (md_ad M) (md_wy M) (md_so M) (md_rl M) (md_io M) (md_po M) (md_sp M) (md_rs M) (md_st M) (md_av M) (md_ip M) (xu (txW (W) f) W.length c) (nI (W.length + 1)) (md_ta M) (md_td M) (md_wo M) (md_sq M) (md_tk M) (md_bg M) (md_nu M) (md_wr M))) hk dX8_writes_17 fl_X8_231 rfl rfl (xw_at xw_up_s rfl) (Nat.le_of_ble_eq_true rfl) (xw_wr2 rfl) ?_
  refine xj_return hk hz dX8_writes_20 ?_
  exact ⟨rfl, by rw [txW_s, List.length_append, List.length_singleton]⟩

set_option maxHeartbeats 1000000 in
set_option maxRecDepth 10000 in
theorem l_X8_writesWord {v : xw_V} {κ : xk_K} {post : Option Value → xw_G → Prop} {z : Nat × Nat × Nat} {G : xw_G} {M : md_T} {te ho ow hs ra lo st av so : Nat → Int32} {ln : Int32} {n : Nat} {W : List Int32} {f : Nat → Int32} {w : Nat} (hk : xk_Ok v κ yX8_writesWord cX8_writesWord 3 none 1 23) (hz : xk_zf κ = z) (hM : G 21 = pM v (md_th M) (nR te ho ow hs ra lo (nI n) st av so ln) (md_pt M) (md_re M) (md_sd M) (md_be M) (md_pb M) (md_ac M) (md_od M) (md_ad M) (md_wy M) (md_so M) (md_rl M) (md_io M) (md_po M) (md_sp M) (md_rs M) (md_st M) (md_av M) (md_ip M) (txW (W) f) (nI (W).length) (md_ta M) (md_td M) (md_wo M) (md_sq M) (md_tk M) (md_bg M) (md_nu M) (md_wr M)) (hwo : okW (md_wo M)) (hw : w < 13) (hl : W.length + 10 ≤ 1400) (kx : xj v κ post z (xw_up G 21 (pM v (md_th M) (nR te ho ow hs ra lo (nI n) st av so ln) (md_pt M) (md_re M) (md_sd M) (md_be M) (md_pb M) (md_ac M) (md_od M) (md_ad M) (md_wy M) (md_so M) (md_rl M) (md_io M) (md_po M) (md_sp M) (md_rs M) (md_st M) (md_av M) (md_ip M) (txW (W ++ (wdS w).take ((wdS w).length)) f) (nI (W ++ (wdS w).take ((wdS w).length)).length) (md_ta M) (md_td M) (md_wo M) (md_sq M) (md_tk M) (md_bg M) (md_nu M) (md_wr M))) 31 [some (.ref (xw_ad v 21 0)), some (.int (nI w)), some (.int (nI (wdF w + ((wdS w).length))))] []) : ∀ (m : Nat) (i : Nat), (wdS w).length - i < m → i ≤ (wdS w).length → xj v κ post z (xw_up G 21 (pM v (md_th M) (nR te ho ow hs ra lo (nI n) st av so ln) (md_pt M) (md_re M) (md_sd M) (md_be M) (md_pb M) (md_ac M) (md_od M) (md_ad M) (md_wy M) (md_so M) (md_rl M) (md_io M) (md_po M) (md_sp M) (md_rs M) (md_st M) (md_av M) (md_ip M) (txW (W ++ (wdS w).take i) f) (nI (W ++ (wdS w).take i).length) (md_ta M) (md_td M) (md_wo M) (md_sq M) (md_tk M) (md_bg M) (md_nu M) (md_wr M))) 6 [some (.ref (xw_ad v 21 0)), some (.int (nI w)), some (.int (nI (wdF w + i)))] [] := by
  intro m
  induction m with
  | zero => intro i h; exact absurd h (Nat.not_lt_zero _)
  | succ m ih =>
    intro i hm hi
    have hs9 := wd_sp w hw
    have hf9 := wd_fr w hw
    refine xj_aload_n (i := 0) hk dX8_writesWord_6 rfl rfl ?_
    refine xj_getfield hk dX8_writesWord_7 fl_X8_58 (xw_at xw_up_s rfl) rfl ?_
    refine xj_iload_n (i := 2) hk dX8_writesWord_10 rfl rfl ?_
    refine xj_baload (k := wdF w + i) hk dX8_writesWord_11 (xw_at xw_up_s rfl) (xi_n (by omega) (by decide)) ?_
    refine xj_if_eq (tgt := 31) hk dX8_writesWord_12 (by decide) (fun c12 => ?_) (fun c12 => ?_)
    · have e9 : i = (wdS w).length := by
        rcases Nat.lt_or_ge i (wdS w).length with q | q
        · exact absurd ((hwo (wdF w + i) (by omega)).symm.trans c12) (by rw [(hs9.1 i q).1]; exact (hs9.1 i q).2)
        · omega
      subst e9
      exact kx
    · have hi9 : i < (wdS w).length := by
        rcases Nat.lt_or_ge i (wdS w).length with q | q
        · exact q
        · have e9 : i = (wdS w).length := by omega
          exact absurd ((hwo (wdF w + i) (by omega)).trans (by rw [e9]; exact hs9.2.1)) c12
      refine xj_aload_n (i := 0) hk dX8_writesWord_15 rfl rfl ?_
      refine xj_aload_n (i := 0) hk dX8_writesWord_16 rfl rfl ?_
      refine xj_getfield hk dX8_writesWord_17 fl_X8_58 (xw_at xw_up_s rfl) rfl ?_
      refine xj_iload_n (i := 2) hk dX8_writesWord_20 rfl rfl ?_
      refine xj_baload (k := wdF w + i) hk dX8_writesWord_21 (xw_at xw_up_s rfl) (xi_n (by omega) (by decide)) ?_
      refine xj_callV hk hz (fr1 := 0) (lo1 := 0) (r1 := none) (As := [.int (md_wo M (wdF w + i))]) (st := []) (st2 := []) (G1 := xw_up G 21 (pM v (md_th M) (nR te ho ow hs ra lo (nI n) st av so ln) (md_pt M) (md_re M) (md_sd M) (md_be M) (md_pb M) (md_ac M) (md_od M) (md_ad M) (md_wy M) (md_so M) (md_rl M) (md_io M) (md_po M) (md_sp M) (md_rs M) (md_st M) (md_av M) (md_ip M) (txW (W ++ (wdS w).take i ++ [md_wo M (wdF w + i)]) f) (nI (W ++ (wdS w).take i ++ [md_wo M (wdF w + i)]).length) (md_ta M) (md_td M) (md_wo M) (md_sq M) (md_tk M) (md_bg M) (md_nu M) (md_wr M))) ml_X8_228 (xk_cg (by rw [xw_up_u] <;> rfl) (c_X8_writes (n := n) (M := M) (W := W ++ (wdS w).take i) (f := f) (show (xw_up G 21 (pM v (md_th M) (nR te ho ow hs ra lo (nI n) st av so ln) (md_pt M) (md_re M) (md_sd M) (md_be M) (md_pb M) (md_ac M) (md_od M) (md_ad M) (md_wy M) (md_so M) (md_rl M) (md_io M) (md_po M) (md_sp M) (md_rs M) (md_st M) (md_av M) (md_ip M) (txW (W ++ (wdS w).take i) f) (nI (W ++ (wdS w).take i).length) (md_ta M) (md_td M) (md_wo M) (md_sq M) (md_tk M) (md_bg M) (md_nu M) (md_wr M))) 21 = pM v (md_th M) (nR te ho ow hs ra lo (nI n) st av so ln) (md_pt M) (md_re M) (md_sd M) (md_be M) (md_pb M) (md_ac M) (md_od M) (md_ad M) (md_wy M) (md_so M) (md_rl M) (md_io M) (md_po M) (md_sp M) (md_rs M) (md_st M) (md_av M) (md_ip M) (txW (W ++ (wdS w).take i) f) (nI (W ++ (wdS w).take i).length) (md_ta M) (md_td M) (md_wo M) (md_sq M) (md_tk M) (md_bg M) (md_nu M) (md_wr M) from xw_up_s) (by rw [List.length_append, List.length_take]; omega) (md_wo M (wdF w + i)))) (xw_at xw_up_s rfl) rfl dX8_writesWord_22 ⟨Nat.le_of_ble_eq_true rfl, Nat.le_of_ble_eq_true rfl⟩ rfl (Nat.le_of_ble_eq_true rfl) rfl rfl ?_
      refine xj_iinc (i := 2) (x2 := nI (wdF w + (i + 1))) (ls2 := [some (.ref (xw_ad v 21 0)), some (.int (nI w)), some (.int (nI (wdF w + (i + 1))))]) hk dX8_writesWord_25 rfl (nI_1 (wdF w + i)) (by decide) rfl rfl ?_
      refine xj_goto (tgt := 6) hk dX8_writesWord_28 (by decide) ?_
      refine xj.eqG (G' := xw_up G 21 (pM v (md_th M) (nR te ho ow hs ra lo (nI n) st av so ln) (md_pt M) (md_re M) (md_sd M) (md_be M) (md_pb M) (md_ac M) (md_od M) (md_ad M) (md_wy M) (md_so M) (md_rl M) (md_io M) (md_po M) (md_sp M) (md_rs M) (md_st M) (md_av M) (md_ip M) (txW (W ++ (wdS w).take ((i + 1))) f) (nI (W ++ (wdS w).take ((i + 1))).length) (md_ta M) (md_td M) (md_wo M) (md_sq M) (md_tk M) (md_bg M) (md_nu M) (md_wr M))) (by rw [take_s hi9, List.append_assoc, ← (hs9.1 i hi9).1, hwo (wdF w + i) (by omega)]) (ih (i + 1) (by omega) (by omega))

set_option maxHeartbeats 1000000 in
set_option maxRecDepth 10000 in
theorem c_X8_writesWord {v : xw_V} {G : xw_G} {M : md_T} {te ho ow hs ra lo st av so : Nat → Int32} {ln : Int32} {n : Nat} {W : List Int32} {f : Nat → Int32} {w : Nat} (hM : G 21 = pM v (md_th M) (nR te ho ow hs ra lo (nI n) st av so ln) (md_pt M) (md_re M) (md_sd M) (md_be M) (md_pb M) (md_ac M) (md_od M) (md_ad M) (md_wy M) (md_so M) (md_rl M) (md_io M) (md_po M) (md_sp M) (md_rs M) (md_st M) (md_av M) (md_ip M) (txW (W) f) (nI (W).length) (md_ta M) (md_td M) (md_wo M) (md_sq M) (md_tk M) (md_bg M) (md_nu M) (md_wr M)) (hwo : okW (md_wo M)) (hw : w < 13) (hl : W.length + 10 ≤ 1400) : xk_Con v yX8_writesWord cX8_writesWord 3 none 1 23 [.ref (xw_ad v 21 0), .int (nI w)] G (xk_ret none (xw_up G 21 (pM v (md_th M) (nR te ho ow hs ra lo (nI n) st av so ln) (md_pt M) (md_re M) (md_sd M) (md_be M) (md_pb M) (md_ac M) (md_od M) (md_ad M) (md_wy M) (md_so M) (md_rl M) (md_io M) (md_po M) (md_sp M) (md_rs M) (md_st M) (md_av M) (md_ip M) (txW (W ++ wdS w) f) (nI (W ++ wdS w).length) (md_ta M) (md_td M) (md_wo M) (md_sq M) (md_tk M) (md_bg M) (md_nu M) (md_wr M)))) := by
  refine xk_of (ls0 := [some (.ref (xw_ad v 21 0)), some (.int (nI w)), none]) (by decide) rfl (Nat.le_of_ble_eq_true rfl) ?_
  intro κ z hk hz
  refine xj_aload_n (i := 0) hk dX8_writesWord_0 rfl rfl ?_
  refine xj_iload_n (i := 1) hk dX8_writesWord_1 rfl rfl ?_
  refine xj_callV hk hz (fr1 := 0) (lo1 := 0) (r1 := some (.int (nI (wdF w)))) (As := [.int (nI w)]) (st := []) (st2 := [.int (nI (wdF w))]) (G1 := G) ml_X8_225 (c_X8_wordFrom (w := w) (M := (md_th M, nR te ho ow hs ra lo (nI n) st av so ln, md_pt M, md_re M, md_sd M, md_be M, md_pb M, md_ac M, md_od M, md_ad M, md_wy M, md_so M, md_rl M, md_io M, md_po M, md_sp M, md_rs M, md_st M, md_av M, md_ip M, txW (W) f, nI (W).length, md_ta M, md_td M, md_wo M, md_sq M, md_tk M, md_bg M, md_nu M, md_wr M)) (show G 21 = pM v (md_th M) (nR te ho ow hs ra lo (nI n) st av so ln) (md_pt M) (md_re M) (md_sd M) (md_be M) (md_pb M) (md_ac M) (md_od M) (md_ad M) (md_wy M) (md_so M) (md_rl M) (md_io M) (md_po M) (md_sp M) (md_rs M) (md_st M) (md_av M) (md_ip M) (txW (W) f) (nI (W).length) (md_ta M) (md_td M) (md_wo M) (md_sq M) (md_tk M) (md_bg M) (md_nu M) (md_wr M) from hM) hwo hw) (xw_at hM rfl) rfl dX8_writesWord_2 ⟨Nat.le_of_ble_eq_true rfl, Nat.le_of_ble_eq_true rfl⟩ rfl (Nat.le_of_ble_eq_true rfl) rfl rfl ?_
  refine xj_istore_n (i := 2) (ls2 := [some (.ref (xw_ad v 21 0)), some (.int (nI w)), some (.int (nI (wdF w)))]) hk dX8_writesWord_5 rfl (by decide) rfl rfl ?_
  refine xj.to (ls' := [some (.ref (xw_ad v 21 0)), some (.int (nI w)), some (.int (nI (wdF w + 0)))]) (by rw [Nat.add_zero]) ?_
  refine xj.eqG (G' := xw_up G 21 (pM v (md_th M) (nR te ho ow hs ra lo (nI n) st av so ln) (md_pt M) (md_re M) (md_sd M) (md_be M) (md_pb M) (md_ac M) (md_od M) (md_ad M) (md_wy M) (md_so M) (md_rl M) (md_io M) (md_po M) (md_sp M) (md_rs M) (md_st M) (md_av M) (md_ip M) (txW (W ++ (wdS w).take 0) f) (nI (W ++ (wdS w).take 0).length) (md_ta M) (md_td M) (md_wo M) (md_sq M) (md_tk M) (md_bg M) (md_nu M) (md_wr M))) (by rw [List.take_zero, List.append_nil]; exact (xw_up_same hM).symm) ?_
  refine l_X8_writesWord hk hz hM hwo hw hl ?_ ((wdS w).length + 1) 0 (by omega) (by omega)
  refine xj_return hk hz dX8_writesWord_31 ?_
  exact ⟨rfl, by rw [List.take_length]⟩

set_option maxHeartbeats 1000000 in
set_option maxRecDepth 10000 in
theorem c_X8_writesNumber {v : xw_V} {G : xw_G} {M : md_T} {te ho ow hs ra lo st av so : Nat → Int32} {ln : Int32} {n : Nat} {W : List Int32} {f : Nat → Int32} {m : Nat} (hM : G 21 = pM v (md_th M) (nR te ho ow hs ra lo (nI n) st av so ln) (md_pt M) (md_re M) (md_sd M) (md_be M) (md_pb M) (md_ac M) (md_od M) (md_ad M) (md_wy M) (md_so M) (md_rl M) (md_io M) (md_po M) (md_sp M) (md_rs M) (md_st M) (md_av M) (md_ip M) (txW (W) f) (nI (W).length) (md_ta M) (md_td M) (md_wo M) (md_sq M) (md_tk M) (md_bg M) (md_nu M) (md_wr M)) (hl : W.length + 8 ≤ 1400) (hm : m ≤ 99999) : xk_Con v yX8_writesNumber cX8_writesNumber 3 none 1 21 [.ref (xw_ad v 21 0), .int (nI m)] G (xk_ret none (xw_up G 21 (pM v (md_th M) (nR te ho ow hs ra lo (nI n) st av so ln) (md_pt M) (md_re M) (md_sd M) (md_be M) (md_pb M) (md_ac M) (md_od M) (md_ad M) (md_wy M) (md_so M) (md_rl M) (md_io M) (md_po M) (md_sp M) (md_rs M) (md_st M) (md_av M) (md_ip M) (txW (W ++ [32] ++ dg m) f) (nI (W ++ [32] ++ dg m).length) (md_ta M) (md_td M) (md_wo M) (md_sq M) (md_tk M) (md_bg M) (md_nu M) (md_wr M)))) := by
  refine xk_of (ls0 := [some (.ref (xw_ad v 21 0)), some (.int (nI m)), none]) (by decide) rfl (Nat.le_of_ble_eq_true rfl) ?_
  intro κ z hk hz
  refine xj_aload_n (i := 0) hk dX8_writesNumber_0 rfl rfl ?_
  refine xj_bipush (x := 32) hk dX8_writesNumber_1 (by decide) ?_
  refine xj_callV hk hz (fr1 := 0) (lo1 := 0) (r1 := none) (As := [.int 32]) (st := []) (st2 := []) (G1 := xw_up G 21 (pM v (md_th M) (nR te ho ow hs ra lo (nI n) st av so ln) (md_pt M) (md_re M) (md_sd M) (md_be M) (md_pb M) (md_ac M) (md_od M) (md_ad M) (md_wy M) (md_so M) (md_rl M) (md_io M) (md_po M) (md_sp M) (md_rs M) (md_st M) (md_av M) (md_ip M) (txW (W ++ [32]) f) (nI (W ++ [32]).length) (md_ta M) (md_td M) (md_wo M) (md_sq M) (md_tk M) (md_bg M) (md_nu M) (md_wr M))) ml_X8_228 (c_X8_writes (n := n) (M := M) (W := W) (f := f) (show G 21 = pM v (md_th M) (nR te ho ow hs ra lo (nI n) st av so ln) (md_pt M) (md_re M) (md_sd M) (md_be M) (md_pb M) (md_ac M) (md_od M) (md_ad M) (md_wy M) (md_so M) (md_rl M) (md_io M) (md_po M) (md_sp M) (md_rs M) (md_st M) (md_av M) (md_ip M) (txW (W) f) (nI (W).length) (md_ta M) (md_td M) (md_wo M) (md_sq M) (md_tk M) (md_bg M) (md_nu M) (md_wr M) from hM) (by omega) 32) (xw_at hM rfl) rfl dX8_writesNumber_3 ⟨Nat.le_of_ble_eq_true rfl, Nat.le_of_ble_eq_true rfl⟩ rfl (Nat.le_of_ble_eq_true rfl) rfl rfl ?_
  refine xj_iconst (x := 1) hk dX8_writesNumber_6 (by decide) ?_
  refine xj_istore_n (i := 2) (ls2 := [some (.ref (xw_ad v 21 0)), some (.int (nI m)), some (.int 1)]) hk dX8_writesNumber_7 rfl (by decide) rfl rfl ?_
  refine xj_iload_n (i := 1) hk dX8_writesNumber_8 rfl rfl ?_
  refine xj_iload_n (i := 2) hk dX8_writesNumber_9 rfl rfl ?_
  refine xj_idiv hk dX8_writesNumber_10 (by decide) ?_
  refine xj.eqi (x' := nI (m / 1)) (pk_div (a := m) (d := 1) (by omega) (by decide) (by decide)) ?_
  refine xj_bipush (x := 9) hk dX8_writesNumber_11 (by decide) ?_
  refine xj_icmp_le (tgt := 24) hk dX8_writesNumber_13 (by decide) (fun c13 => ?_) (fun c13 => ?_)
  · have c13 : m / 1 ≤ 9 := (nI_leI (a := m / 1) (b := 9) (by omega) (by omega)).mp c13
    refine xj_iload_n (i := 2) hk dX8_writesNumber_24 rfl rfl ?_
    refine xj_if_le (tgt := 49) hk dX8_writesNumber_25 (by decide) (fun c25 => False.elim (by revert c25; decide)) (fun c25 => ?_)
    refine xj_aload_n (i := 0) hk dX8_writesNumber_28 rfl rfl ?_
    refine xj_bipush (x := 48) hk dX8_writesNumber_29 (by decide) ?_
    refine xj_iload_n (i := 1) hk dX8_writesNumber_31 rfl rfl ?_
    refine xj_iload_n (i := 2) hk dX8_writesNumber_32 rfl rfl ?_
    refine xj_idiv hk dX8_writesNumber_33 (by decide) ?_
    refine xj.eqi (x' := nI (m / 1)) (pk_div (a := m) (d := 1) (by omega) (by decide) (by decide)) ?_
    refine xj_bipush (x := 10) hk dX8_writesNumber_34 (by decide) ?_
    refine xj_irem hk dX8_writesNumber_36 (by decide) ?_
    refine xj.eqi (x' := nI (m / 1 % 10)) (pk_rem (a := m / 1) (d := 10) (by omega) (by decide) (by decide)) ?_
    refine xj_iadd hk dX8_writesNumber_37 ?_
    refine xj.eqi (x' := nI (48 + (m / 1 % 10))) (nI_add 48 ((m / 1 % 10))) ?_
    refine xj_callV hk hz (fr1 := 0) (lo1 := 0) (r1 := none) (As := [.int (nI (48 + (m / 1 % 10)))]) (st := []) (st2 := []) (G1 := xw_up G 21 (pM v (md_th M) (nR te ho ow hs ra lo (nI n) st av so ln) (md_pt M) (md_re M) (md_sd M) (md_be M) (md_pb M) (md_ac M) (md_od M) (md_ad M) (md_wy M) (md_so M) (md_rl M) (md_io M) (md_po M) (md_sp M) (md_rs M) (md_st M) (md_av M) (md_ip M) (txW (W ++ [32] ++ [nI (48 + (m / 1 % 10))]) f) (nI (W ++ [32] ++ [nI (48 + (m / 1 % 10))]).length) (md_ta M) (md_td M) (md_wo M) (md_sq M) (md_tk M) (md_bg M) (md_nu M) (md_wr M))) ml_X8_228 (xk_cg (by rw [xw_up_u] <;> rfl) (c_X8_writes (n := n) (M := M) (W := W ++ [32]) (f := f) (show (xw_up G 21 (pM v (md_th M) (nR te ho ow hs ra lo (nI n) st av so ln) (md_pt M) (md_re M) (md_sd M) (md_be M) (md_pb M) (md_ac M) (md_od M) (md_ad M) (md_wy M) (md_so M) (md_rl M) (md_io M) (md_po M) (md_sp M) (md_rs M) (md_st M) (md_av M) (md_ip M) (txW (W ++ [32]) f) (nI (W ++ [32]).length) (md_ta M) (md_td M) (md_wo M) (md_sq M) (md_tk M) (md_bg M) (md_nu M) (md_wr M))) 21 = pM v (md_th M) (nR te ho ow hs ra lo (nI n) st av so ln) (md_pt M) (md_re M) (md_sd M) (md_be M) (md_pb M) (md_ac M) (md_od M) (md_ad M) (md_wy M) (md_so M) (md_rl M) (md_io M) (md_po M) (md_sp M) (md_rs M) (md_st M) (md_av M) (md_ip M) (txW (W ++ [32]) f) (nI (W ++ [32]).length) (md_ta M) (md_td M) (md_wo M) (md_sq M) (md_tk M) (md_bg M) (md_nu M) (md_wr M) from xw_up_s) (by simp only [List.length_append, List.length_cons, List.length_nil]; omega) (nI (48 + (m / 1 % 10))))) (xw_at xw_up_s rfl) rfl dX8_writesNumber_38 ⟨Nat.le_of_ble_eq_true rfl, Nat.le_of_ble_eq_true rfl⟩ rfl (Nat.le_of_ble_eq_true rfl) rfl rfl ?_
    refine xj_iload_n (i := 2) hk dX8_writesNumber_41 rfl rfl ?_
    refine xj_bipush (x := 10) hk dX8_writesNumber_42 (by decide) ?_
    refine xj_idiv hk dX8_writesNumber_44 (by decide) ?_
    refine xj.eqi (x' := 0) (by decide) ?_
    refine xj_istore_n (i := 2) (ls2 := [some (.ref (xw_ad v 21 0)), some (.int (nI m)), some (.int 0)]) hk dX8_writesNumber_45 rfl (by decide) rfl rfl ?_
    refine xj_goto (tgt := 24) hk dX8_writesNumber_46 (by decide) ?_
    refine xj_iload_n (i := 2) hk dX8_writesNumber_24 rfl rfl ?_
    refine xj_if_le (tgt := 49) hk dX8_writesNumber_25 (by decide) (fun c25 => ?_) (fun c25 => False.elim (by revert c25; decide))
    refine xj_return hk hz dX8_writesNumber_49 ?_
    refine ⟨rfl, ?_⟩
    simp only [dg]
    first | (rw [if_pos (by omega)]; done) | (rw [if_pos (by omega)]; simp only [List.append_assoc, List.cons_append, List.nil_append]; done) | (rw [if_neg (by omega), if_pos (by omega)]; simp only [List.append_assoc, List.cons_append, List.nil_append]; done) | (rw [if_neg (by omega), if_neg (by omega), if_pos (by omega)]; simp only [List.append_assoc, List.cons_append, List.nil_append]; done) | (rw [if_neg (by omega), if_neg (by omega), if_neg (by omega), if_pos (by omega)]; simp only [List.append_assoc, List.cons_append, List.nil_append]; done) | (rw [if_neg (by omega), if_neg (by omega), if_neg (by omega), if_neg (by omega)]; simp only [List.append_assoc, List.cons_append, List.nil_append]; done)
  · have c13 : ¬ m / 1 ≤ 9 := fun q => c13 ((nI_leI (a := m / 1) (b := 9) (by omega) (by omega)).mpr q)
    refine xj_iload_n (i := 2) hk dX8_writesNumber_16 rfl rfl ?_
    refine xj_bipush (x := 10) hk dX8_writesNumber_17 (by decide) ?_
    refine xj_imul hk dX8_writesNumber_19 ?_
    refine xj.eqi (x' := 10) (by decide) ?_
    refine xj_istore_n (i := 2) (ls2 := [some (.ref (xw_ad v 21 0)), some (.int (nI m)), some (.int 10)]) hk dX8_writesNumber_20 rfl (by decide) rfl rfl ?_
    refine xj_goto (tgt := 8) hk dX8_writesNumber_21 (by decide) ?_
    refine xj_iload_n (i := 1) hk dX8_writesNumber_8 rfl rfl ?_
    refine xj_iload_n (i := 2) hk dX8_writesNumber_9 rfl rfl ?_
    refine xj_idiv hk dX8_writesNumber_10 (by decide) ?_
    refine xj.eqi (x' := nI (m / 10)) (pk_div (a := m) (d := 10) (by omega) (by decide) (by decide)) ?_
    refine xj_bipush (x := 9) hk dX8_writesNumber_11 (by decide) ?_
    refine xj_icmp_le (tgt := 24) hk dX8_writesNumber_13 (by decide) (fun c13 => ?_) (fun c13 => ?_)
    · have c13 : m / 10 ≤ 9 := (nI_leI (a := m / 10) (b := 9) (by omega) (by omega)).mp c13
      refine xj_iload_n (i := 2) hk dX8_writesNumber_24 rfl rfl ?_
      refine xj_if_le (tgt := 49) hk dX8_writesNumber_25 (by decide) (fun c25 => False.elim (by revert c25; decide)) (fun c25 => ?_)
      refine xj_aload_n (i := 0) hk dX8_writesNumber_28 rfl rfl ?_
      refine xj_bipush (x := 48) hk dX8_writesNumber_29 (by decide) ?_
      refine xj_iload_n (i := 1) hk dX8_writesNumber_31 rfl rfl ?_
      refine xj_iload_n (i := 2) hk dX8_writesNumber_32 rfl rfl ?_
      refine xj_idiv hk dX8_writesNumber_33 (by decide) ?_
      refine xj.eqi (x' := nI (m / 10)) (pk_div (a := m) (d := 10) (by omega) (by decide) (by decide)) ?_
      refine xj_bipush (x := 10) hk dX8_writesNumber_34 (by decide) ?_
      refine xj_irem hk dX8_writesNumber_36 (by decide) ?_
      refine xj.eqi (x' := nI (m / 10 % 10)) (pk_rem (a := m / 10) (d := 10) (by omega) (by decide) (by decide)) ?_
      refine xj_iadd hk dX8_writesNumber_37 ?_
      refine xj.eqi (x' := nI (48 + (m / 10 % 10))) (nI_add 48 ((m / 10 % 10))) ?_
      refine xj_callV hk hz (fr1 := 0) (lo1 := 0) (r1 := none) (As := [.int (nI (48 + (m / 10 % 10)))]) (st := []) (st2 := []) (G1 := xw_up G 21 (pM v (md_th M) (nR te ho ow hs ra lo (nI n) st av so ln) (md_pt M) (md_re M) (md_sd M) (md_be M) (md_pb M) (md_ac M) (md_od M) (md_ad M) (md_wy M) (md_so M) (md_rl M) (md_io M) (md_po M) (md_sp M) (md_rs M) (md_st M) (md_av M) (md_ip M) (txW (W ++ [32] ++ [nI (48 + (m / 10 % 10))]) f) (nI (W ++ [32] ++ [nI (48 + (m / 10 % 10))]).length) (md_ta M) (md_td M) (md_wo M) (md_sq M) (md_tk M) (md_bg M) (md_nu M) (md_wr M))) ml_X8_228 (xk_cg (by rw [xw_up_u] <;> rfl) (c_X8_writes (n := n) (M := M) (W := W ++ [32]) (f := f) (show (xw_up G 21 (pM v (md_th M) (nR te ho ow hs ra lo (nI n) st av so ln) (md_pt M) (md_re M) (md_sd M) (md_be M) (md_pb M) (md_ac M) (md_od M) (md_ad M) (md_wy M) (md_so M) (md_rl M) (md_io M) (md_po M) (md_sp M) (md_rs M) (md_st M) (md_av M) (md_ip M) (txW (W ++ [32]) f) (nI (W ++ [32]).length) (md_ta M) (md_td M) (md_wo M) (md_sq M) (md_tk M) (md_bg M) (md_nu M) (md_wr M))) 21 = pM v (md_th M) (nR te ho ow hs ra lo (nI n) st av so ln) (md_pt M) (md_re M) (md_sd M) (md_be M) (md_pb M) (md_ac M) (md_od M) (md_ad M) (md_wy M) (md_so M) (md_rl M) (md_io M) (md_po M) (md_sp M) (md_rs M) (md_st M) (md_av M) (md_ip M) (txW (W ++ [32]) f) (nI (W ++ [32]).length) (md_ta M) (md_td M) (md_wo M) (md_sq M) (md_tk M) (md_bg M) (md_nu M) (md_wr M) from xw_up_s) (by simp only [List.length_append, List.length_cons, List.length_nil]; omega) (nI (48 + (m / 10 % 10))))) (xw_at xw_up_s rfl) rfl dX8_writesNumber_38 ⟨Nat.le_of_ble_eq_true rfl, Nat.le_of_ble_eq_true rfl⟩ rfl (Nat.le_of_ble_eq_true rfl) rfl rfl ?_
      refine xj_iload_n (i := 2) hk dX8_writesNumber_41 rfl rfl ?_
      refine xj_bipush (x := 10) hk dX8_writesNumber_42 (by decide) ?_
      refine xj_idiv hk dX8_writesNumber_44 (by decide) ?_
      refine xj.eqi (x' := 1) (by decide) ?_
      refine xj_istore_n (i := 2) (ls2 := [some (.ref (xw_ad v 21 0)), some (.int (nI m)), some (.int 1)]) hk dX8_writesNumber_45 rfl (by decide) rfl rfl ?_
      refine xj_goto (tgt := 24) hk dX8_writesNumber_46 (by decide) ?_
      refine xj_iload_n (i := 2) hk dX8_writesNumber_24 rfl rfl ?_
      refine xj_if_le (tgt := 49) hk dX8_writesNumber_25 (by decide) (fun c25 => False.elim (by revert c25; decide)) (fun c25 => ?_)
      refine xj_aload_n (i := 0) hk dX8_writesNumber_28 rfl rfl ?_
      refine xj_bipush (x := 48) hk dX8_writesNumber_29 (by decide) ?_
      refine xj_iload_n (i := 1) hk dX8_writesNumber_31 rfl rfl ?_
      refine xj_iload_n (i := 2) hk dX8_writesNumber_32 rfl rfl ?_
      refine xj_idiv hk dX8_writesNumber_33 (by decide) ?_
      refine xj.eqi (x' := nI (m / 1)) (pk_div (a := m) (d := 1) (by omega) (by decide) (by decide)) ?_
      refine xj_bipush (x := 10) hk dX8_writesNumber_34 (by decide) ?_
      refine xj_irem hk dX8_writesNumber_36 (by decide) ?_
      refine xj.eqi (x' := nI (m / 1 % 10)) (pk_rem (a := m / 1) (d := 10) (by omega) (by decide) (by decide)) ?_
      refine xj_iadd hk dX8_writesNumber_37 ?_
      refine xj.eqi (x' := nI (48 + (m / 1 % 10))) (nI_add 48 ((m / 1 % 10))) ?_
      refine xj_callV hk hz (fr1 := 0) (lo1 := 0) (r1 := none) (As := [.int (nI (48 + (m / 1 % 10)))]) (st := []) (st2 := []) (G1 := xw_up G 21 (pM v (md_th M) (nR te ho ow hs ra lo (nI n) st av so ln) (md_pt M) (md_re M) (md_sd M) (md_be M) (md_pb M) (md_ac M) (md_od M) (md_ad M) (md_wy M) (md_so M) (md_rl M) (md_io M) (md_po M) (md_sp M) (md_rs M) (md_st M) (md_av M) (md_ip M) (txW (W ++ [32] ++ [nI (48 + (m / 10 % 10))] ++ [nI (48 + (m / 1 % 10))]) f) (nI (W ++ [32] ++ [nI (48 + (m / 10 % 10))] ++ [nI (48 + (m / 1 % 10))]).length) (md_ta M) (md_td M) (md_wo M) (md_sq M) (md_tk M) (md_bg M) (md_nu M) (md_wr M))) ml_X8_228 (xk_cg (by rw [xw_up_u] <;> rfl) (c_X8_writes (n := n) (M := M) (W := W ++ [32] ++ [nI (48 + (m / 10 % 10))]) (f := f) (show (xw_up G 21 (pM v (md_th M) (nR te ho ow hs ra lo (nI n) st av so ln) (md_pt M) (md_re M) (md_sd M) (md_be M) (md_pb M) (md_ac M) (md_od M) (md_ad M) (md_wy M) (md_so M) (md_rl M) (md_io M) (md_po M) (md_sp M) (md_rs M) (md_st M) (md_av M) (md_ip M) (txW (W ++ [32] ++ [nI (48 + (m / 10 % 10))]) f) (nI (W ++ [32] ++ [nI (48 + (m / 10 % 10))]).length) (md_ta M) (md_td M) (md_wo M) (md_sq M) (md_tk M) (md_bg M) (md_nu M) (md_wr M))) 21 = pM v (md_th M) (nR te ho ow hs ra lo (nI n) st av so ln) (md_pt M) (md_re M) (md_sd M) (md_be M) (md_pb M) (md_ac M) (md_od M) (md_ad M) (md_wy M) (md_so M) (md_rl M) (md_io M) (md_po M) (md_sp M) (md_rs M) (md_st M) (md_av M) (md_ip M) (txW (W ++ [32] ++ [nI (48 + (m / 10 % 10))]) f) (nI (W ++ [32] ++ [nI (48 + (m / 10 % 10))]).length) (md_ta M) (md_td M) (md_wo M) (md_sq M) (md_tk M) (md_bg M) (md_nu M) (md_wr M) from xw_up_s) (by simp only [List.length_append, List.length_cons, List.length_nil]; omega) (nI (48 + (m / 1 % 10))))) (xw_at xw_up_s rfl) rfl dX8_writesNumber_38 ⟨Nat.le_of_ble_eq_true rfl, Nat.le_of_ble_eq_true rfl⟩ rfl (Nat.le_of_ble_eq_true rfl) rfl rfl ?_
      refine xj_iload_n (i := 2) hk dX8_writesNumber_41 rfl rfl ?_
      refine xj_bipush (x := 10) hk dX8_writesNumber_42 (by decide) ?_
      refine xj_idiv hk dX8_writesNumber_44 (by decide) ?_
      refine xj.eqi (x' := 0) (by decide) ?_
      refine xj_istore_n (i := 2) (ls2 := [some (.ref (xw_ad v 21 0)), some (.int (nI m)), some (.int 0)]) hk dX8_writesNumber_45 rfl (by decide) rfl rfl ?_
      refine xj_goto (tgt := 24) hk dX8_writesNumber_46 (by decide) ?_
      refine xj_iload_n (i := 2) hk dX8_writesNumber_24 rfl rfl ?_
      refine xj_if_le (tgt := 49) hk dX8_writesNumber_25 (by decide) (fun c25 => ?_) (fun c25 => False.elim (by revert c25; decide))
      refine xj_return hk hz dX8_writesNumber_49 ?_
      refine ⟨rfl, ?_⟩
      simp only [dg]
      first | (rw [if_pos (by omega)]; done) | (rw [if_pos (by omega)]; simp only [List.append_assoc, List.cons_append, List.nil_append]; done) | (rw [if_neg (by omega), if_pos (by omega)]; simp only [List.append_assoc, List.cons_append, List.nil_append]; done) | (rw [if_neg (by omega), if_neg (by omega), if_pos (by omega)]; simp only [List.append_assoc, List.cons_append, List.nil_append]; done) | (rw [if_neg (by omega), if_neg (by omega), if_neg (by omega), if_pos (by omega)]; simp only [List.append_assoc, List.cons_append, List.nil_append]; done) | (rw [if_neg (by omega), if_neg (by omega), if_neg (by omega), if_neg (by omega)]; simp only [List.append_assoc, List.cons_append, List.nil_append]; done)
    · have c13 : ¬ m / 10 ≤ 9 := fun q => c13 ((nI_leI (a := m / 10) (b := 9) (by omega) (by omega)).mpr q)
      refine xj_iload_n (i := 2) hk dX8_writesNumber_16 rfl rfl ?_
      refine xj_bipush (x := 10) hk dX8_writesNumber_17 (by decide) ?_
      refine xj_imul hk dX8_writesNumber_19 ?_
      refine xj.eqi (x' := 100) (by decide) ?_
      refine xj_istore_n (i := 2) (ls2 := [some (.ref (xw_ad v 21 0)), some (.int (nI m)), some (.int 100)]) hk dX8_writesNumber_20 rfl (by decide) rfl rfl ?_
      refine xj_goto (tgt := 8) hk dX8_writesNumber_21 (by decide) ?_
      refine xj_iload_n (i := 1) hk dX8_writesNumber_8 rfl rfl ?_
      refine xj_iload_n (i := 2) hk dX8_writesNumber_9 rfl rfl ?_
      refine xj_idiv hk dX8_writesNumber_10 (by decide) ?_
      refine xj.eqi (x' := nI (m / 100)) (pk_div (a := m) (d := 100) (by omega) (by decide) (by decide)) ?_
      refine xj_bipush (x := 9) hk dX8_writesNumber_11 (by decide) ?_
      refine xj_icmp_le (tgt := 24) hk dX8_writesNumber_13 (by decide) (fun c13 => ?_) (fun c13 => ?_)
      · have c13 : m / 100 ≤ 9 := (nI_leI (a := m / 100) (b := 9) (by omega) (by omega)).mp c13
        refine xj_iload_n (i := 2) hk dX8_writesNumber_24 rfl rfl ?_
        refine xj_if_le (tgt := 49) hk dX8_writesNumber_25 (by decide) (fun c25 => False.elim (by revert c25; decide)) (fun c25 => ?_)
        refine xj_aload_n (i := 0) hk dX8_writesNumber_28 rfl rfl ?_
        refine xj_bipush (x := 48) hk dX8_writesNumber_29 (by decide) ?_
        refine xj_iload_n (i := 1) hk dX8_writesNumber_31 rfl rfl ?_
        refine xj_iload_n (i := 2) hk dX8_writesNumber_32 rfl rfl ?_
        refine xj_idiv hk dX8_writesNumber_33 (by decide) ?_
        refine xj.eqi (x' := nI (m / 100)) (pk_div (a := m) (d := 100) (by omega) (by decide) (by decide)) ?_
        refine xj_bipush (x := 10) hk dX8_writesNumber_34 (by decide) ?_
        refine xj_irem hk dX8_writesNumber_36 (by decide) ?_
        refine xj.eqi (x' := nI (m / 100 % 10)) (pk_rem (a := m / 100) (d := 10) (by omega) (by decide) (by decide)) ?_
        refine xj_iadd hk dX8_writesNumber_37 ?_
        refine xj.eqi (x' := nI (48 + (m / 100 % 10))) (nI_add 48 ((m / 100 % 10))) ?_
        refine xj_callV hk hz (fr1 := 0) (lo1 := 0) (r1 := none) (As := [.int (nI (48 + (m / 100 % 10)))]) (st := []) (st2 := []) (G1 := xw_up G 21 (pM v (md_th M) (nR te ho ow hs ra lo (nI n) st av so ln) (md_pt M) (md_re M) (md_sd M) (md_be M) (md_pb M) (md_ac M) (md_od M) (md_ad M) (md_wy M) (md_so M) (md_rl M) (md_io M) (md_po M) (md_sp M) (md_rs M) (md_st M) (md_av M) (md_ip M) (txW (W ++ [32] ++ [nI (48 + (m / 100 % 10))]) f) (nI (W ++ [32] ++ [nI (48 + (m / 100 % 10))]).length) (md_ta M) (md_td M) (md_wo M) (md_sq M) (md_tk M) (md_bg M) (md_nu M) (md_wr M))) ml_X8_228 (xk_cg (by rw [xw_up_u] <;> rfl) (c_X8_writes (n := n) (M := M) (W := W ++ [32]) (f := f) (show (xw_up G 21 (pM v (md_th M) (nR te ho ow hs ra lo (nI n) st av so ln) (md_pt M) (md_re M) (md_sd M) (md_be M) (md_pb M) (md_ac M) (md_od M) (md_ad M) (md_wy M) (md_so M) (md_rl M) (md_io M) (md_po M) (md_sp M) (md_rs M) (md_st M) (md_av M) (md_ip M) (txW (W ++ [32]) f) (nI (W ++ [32]).length) (md_ta M) (md_td M) (md_wo M) (md_sq M) (md_tk M) (md_bg M) (md_nu M) (md_wr M))) 21 = pM v (md_th M) (nR te ho ow hs ra lo (nI n) st av so ln) (md_pt M) (md_re M) (md_sd M) (md_be M) (md_pb M) (md_ac M) (md_od M) (md_ad M) (md_wy M) (md_so M) (md_rl M) (md_io M) (md_po M) (md_sp M) (md_rs M) (md_st M) (md_av M) (md_ip M) (txW (W ++ [32]) f) (nI (W ++ [32]).length) (md_ta M) (md_td M) (md_wo M) (md_sq M) (md_tk M) (md_bg M) (md_nu M) (md_wr M) from xw_up_s) (by simp only [List.length_append, List.length_cons, List.length_nil]; omega) (nI (48 + (m / 100 % 10))))) (xw_at xw_up_s rfl) rfl dX8_writesNumber_38 ⟨Nat.le_of_ble_eq_true rfl, Nat.le_of_ble_eq_true rfl⟩ rfl (Nat.le_of_ble_eq_true rfl) rfl rfl ?_
        refine xj_iload_n (i := 2) hk dX8_writesNumber_41 rfl rfl ?_
        refine xj_bipush (x := 10) hk dX8_writesNumber_42 (by decide) ?_
        refine xj_idiv hk dX8_writesNumber_44 (by decide) ?_
        refine xj.eqi (x' := 10) (by decide) ?_
        refine xj_istore_n (i := 2) (ls2 := [some (.ref (xw_ad v 21 0)), some (.int (nI m)), some (.int 10)]) hk dX8_writesNumber_45 rfl (by decide) rfl rfl ?_
        refine xj_goto (tgt := 24) hk dX8_writesNumber_46 (by decide) ?_
        refine xj_iload_n (i := 2) hk dX8_writesNumber_24 rfl rfl ?_
        refine xj_if_le (tgt := 49) hk dX8_writesNumber_25 (by decide) (fun c25 => False.elim (by revert c25; decide)) (fun c25 => ?_)
        refine xj_aload_n (i := 0) hk dX8_writesNumber_28 rfl rfl ?_
        refine xj_bipush (x := 48) hk dX8_writesNumber_29 (by decide) ?_
        refine xj_iload_n (i := 1) hk dX8_writesNumber_31 rfl rfl ?_
        refine xj_iload_n (i := 2) hk dX8_writesNumber_32 rfl rfl ?_
        refine xj_idiv hk dX8_writesNumber_33 (by decide) ?_
        refine xj.eqi (x' := nI (m / 10)) (pk_div (a := m) (d := 10) (by omega) (by decide) (by decide)) ?_
        refine xj_bipush (x := 10) hk dX8_writesNumber_34 (by decide) ?_
        refine xj_irem hk dX8_writesNumber_36 (by decide) ?_
        refine xj.eqi (x' := nI (m / 10 % 10)) (pk_rem (a := m / 10) (d := 10) (by omega) (by decide) (by decide)) ?_
        refine xj_iadd hk dX8_writesNumber_37 ?_
        refine xj.eqi (x' := nI (48 + (m / 10 % 10))) (nI_add 48 ((m / 10 % 10))) ?_
        refine xj_callV hk hz (fr1 := 0) (lo1 := 0) (r1 := none) (As := [.int (nI (48 + (m / 10 % 10)))]) (st := []) (st2 := []) (G1 := xw_up G 21 (pM v (md_th M) (nR te ho ow hs ra lo (nI n) st av so ln) (md_pt M) (md_re M) (md_sd M) (md_be M) (md_pb M) (md_ac M) (md_od M) (md_ad M) (md_wy M) (md_so M) (md_rl M) (md_io M) (md_po M) (md_sp M) (md_rs M) (md_st M) (md_av M) (md_ip M) (txW (W ++ [32] ++ [nI (48 + (m / 100 % 10))] ++ [nI (48 + (m / 10 % 10))]) f) (nI (W ++ [32] ++ [nI (48 + (m / 100 % 10))] ++ [nI (48 + (m / 10 % 10))]).length) (md_ta M) (md_td M) (md_wo M) (md_sq M) (md_tk M) (md_bg M) (md_nu M) (md_wr M))) ml_X8_228 (xk_cg (by rw [xw_up_u] <;> rfl) (c_X8_writes (n := n) (M := M) (W := W ++ [32] ++ [nI (48 + (m / 100 % 10))]) (f := f) (show (xw_up G 21 (pM v (md_th M) (nR te ho ow hs ra lo (nI n) st av so ln) (md_pt M) (md_re M) (md_sd M) (md_be M) (md_pb M) (md_ac M) (md_od M) (md_ad M) (md_wy M) (md_so M) (md_rl M) (md_io M) (md_po M) (md_sp M) (md_rs M) (md_st M) (md_av M) (md_ip M) (txW (W ++ [32] ++ [nI (48 + (m / 100 % 10))]) f) (nI (W ++ [32] ++ [nI (48 + (m / 100 % 10))]).length) (md_ta M) (md_td M) (md_wo M) (md_sq M) (md_tk M) (md_bg M) (md_nu M) (md_wr M))) 21 = pM v (md_th M) (nR te ho ow hs ra lo (nI n) st av so ln) (md_pt M) (md_re M) (md_sd M) (md_be M) (md_pb M) (md_ac M) (md_od M) (md_ad M) (md_wy M) (md_so M) (md_rl M) (md_io M) (md_po M) (md_sp M) (md_rs M) (md_st M) (md_av M) (md_ip M) (txW (W ++ [32] ++ [nI (48 + (m / 100 % 10))]) f) (nI (W ++ [32] ++ [nI (48 + (m / 100 % 10))]).length) (md_ta M) (md_td M) (md_wo M) (md_sq M) (md_tk M) (md_bg M) (md_nu M) (md_wr M) from xw_up_s) (by simp only [List.length_append, List.length_cons, List.length_nil]; omega) (nI (48 + (m / 10 % 10))))) (xw_at xw_up_s rfl) rfl dX8_writesNumber_38 ⟨Nat.le_of_ble_eq_true rfl, Nat.le_of_ble_eq_true rfl⟩ rfl (Nat.le_of_ble_eq_true rfl) rfl rfl ?_
        refine xj_iload_n (i := 2) hk dX8_writesNumber_41 rfl rfl ?_
        refine xj_bipush (x := 10) hk dX8_writesNumber_42 (by decide) ?_
        refine xj_idiv hk dX8_writesNumber_44 (by decide) ?_
        refine xj.eqi (x' := 1) (by decide) ?_
        refine xj_istore_n (i := 2) (ls2 := [some (.ref (xw_ad v 21 0)), some (.int (nI m)), some (.int 1)]) hk dX8_writesNumber_45 rfl (by decide) rfl rfl ?_
        refine xj_goto (tgt := 24) hk dX8_writesNumber_46 (by decide) ?_
        refine xj_iload_n (i := 2) hk dX8_writesNumber_24 rfl rfl ?_
        refine xj_if_le (tgt := 49) hk dX8_writesNumber_25 (by decide) (fun c25 => False.elim (by revert c25; decide)) (fun c25 => ?_)
        refine xj_aload_n (i := 0) hk dX8_writesNumber_28 rfl rfl ?_
        refine xj_bipush (x := 48) hk dX8_writesNumber_29 (by decide) ?_
        refine xj_iload_n (i := 1) hk dX8_writesNumber_31 rfl rfl ?_
        refine xj_iload_n (i := 2) hk dX8_writesNumber_32 rfl rfl ?_
        refine xj_idiv hk dX8_writesNumber_33 (by decide) ?_
        refine xj.eqi (x' := nI (m / 1)) (pk_div (a := m) (d := 1) (by omega) (by decide) (by decide)) ?_
        refine xj_bipush (x := 10) hk dX8_writesNumber_34 (by decide) ?_
        refine xj_irem hk dX8_writesNumber_36 (by decide) ?_
        refine xj.eqi (x' := nI (m / 1 % 10)) (pk_rem (a := m / 1) (d := 10) (by omega) (by decide) (by decide)) ?_
        refine xj_iadd hk dX8_writesNumber_37 ?_
        refine xj.eqi (x' := nI (48 + (m / 1 % 10))) (nI_add 48 ((m / 1 % 10))) ?_
        refine xj_callV hk hz (fr1 := 0) (lo1 := 0) (r1 := none) (As := [.int (nI (48 + (m / 1 % 10)))]) (st := []) (st2 := []) (G1 := xw_up G 21 (pM v (md_th M) (nR te ho ow hs ra lo (nI n) st av so ln) (md_pt M) (md_re M) (md_sd M) (md_be M) (md_pb M) (md_ac M) (md_od M) (md_ad M) (md_wy M) (md_so M) (md_rl M) (md_io M) (md_po M) (md_sp M) (md_rs M) (md_st M) (md_av M) (md_ip M) (txW (W ++ [32] ++ [nI (48 + (m / 100 % 10))] ++ [nI (48 + (m / 10 % 10))] ++ [nI (48 + (m / 1 % 10))]) f) (nI (W ++ [32] ++ [nI (48 + (m / 100 % 10))] ++ [nI (48 + (m / 10 % 10))] ++ [nI (48 + (m / 1 % 10))]).length) (md_ta M) (md_td M) (md_wo M) (md_sq M) (md_tk M) (md_bg M) (md_nu M) (md_wr M))) ml_X8_228 (xk_cg (by rw [xw_up_u] <;> rfl) (c_X8_writes (n := n) (M := M) (W := W ++ [32] ++ [nI (48 + (m / 100 % 10))] ++ [nI (48 + (m / 10 % 10))]) (f := f) (show (xw_up G 21 (pM v (md_th M) (nR te ho ow hs ra lo (nI n) st av so ln) (md_pt M) (md_re M) (md_sd M) (md_be M) (md_pb M) (md_ac M) (md_od M) (md_ad M) (md_wy M) (md_so M) (md_rl M) (md_io M) (md_po M) (md_sp M) (md_rs M) (md_st M) (md_av M) (md_ip M) (txW (W ++ [32] ++ [nI (48 + (m / 100 % 10))] ++ [nI (48 + (m / 10 % 10))]) f) (nI (W ++ [32] ++ [nI (48 + (m / 100 % 10))] ++ [nI (48 + (m / 10 % 10))]).length) (md_ta M) (md_td M) (md_wo M) (md_sq M) (md_tk M) (md_bg M) (md_nu M) (md_wr M))) 21 = pM v (md_th M) (nR te ho ow hs ra lo (nI n) st av so ln) (md_pt M) (md_re M) (md_sd M) (md_be M) (md_pb M) (md_ac M) (md_od M) (md_ad M) (md_wy M) (md_so M) (md_rl M) (md_io M) (md_po M) (md_sp M) (md_rs M) (md_st M) (md_av M) (md_ip M) (txW (W ++ [32] ++ [nI (48 + (m / 100 % 10))] ++ [nI (48 + (m / 10 % 10))]) f) (nI (W ++ [32] ++ [nI (48 + (m / 100 % 10))] ++ [nI (48 + (m / 10 % 10))]).length) (md_ta M) (md_td M) (md_wo M) (md_sq M) (md_tk M) (md_bg M) (md_nu M) (md_wr M) from xw_up_s) (by simp only [List.length_append, List.length_cons, List.length_nil]; omega) (nI (48 + (m / 1 % 10))))) (xw_at xw_up_s rfl) rfl dX8_writesNumber_38 ⟨Nat.le_of_ble_eq_true rfl, Nat.le_of_ble_eq_true rfl⟩ rfl (Nat.le_of_ble_eq_true rfl) rfl rfl ?_
        refine xj_iload_n (i := 2) hk dX8_writesNumber_41 rfl rfl ?_
        refine xj_bipush (x := 10) hk dX8_writesNumber_42 (by decide) ?_
        refine xj_idiv hk dX8_writesNumber_44 (by decide) ?_
        refine xj.eqi (x' := 0) (by decide) ?_
        refine xj_istore_n (i := 2) (ls2 := [some (.ref (xw_ad v 21 0)), some (.int (nI m)), some (.int 0)]) hk dX8_writesNumber_45 rfl (by decide) rfl rfl ?_
        refine xj_goto (tgt := 24) hk dX8_writesNumber_46 (by decide) ?_
        refine xj_iload_n (i := 2) hk dX8_writesNumber_24 rfl rfl ?_
        refine xj_if_le (tgt := 49) hk dX8_writesNumber_25 (by decide) (fun c25 => ?_) (fun c25 => False.elim (by revert c25; decide))
        refine xj_return hk hz dX8_writesNumber_49 ?_
        refine ⟨rfl, ?_⟩
        simp only [dg]
        first | (rw [if_pos (by omega)]; done) | (rw [if_pos (by omega)]; simp only [List.append_assoc, List.cons_append, List.nil_append]; done) | (rw [if_neg (by omega), if_pos (by omega)]; simp only [List.append_assoc, List.cons_append, List.nil_append]; done) | (rw [if_neg (by omega), if_neg (by omega), if_pos (by omega)]; simp only [List.append_assoc, List.cons_append, List.nil_append]; done) | (rw [if_neg (by omega), if_neg (by omega), if_neg (by omega), if_pos (by omega)]; simp only [List.append_assoc, List.cons_append, List.nil_append]; done) | (rw [if_neg (by omega), if_neg (by omega), if_neg (by omega), if_neg (by omega)]; simp only [List.append_assoc, List.cons_append, List.nil_append]; done)
      · have c13 : ¬ m / 100 ≤ 9 := fun q => c13 ((nI_leI (a := m / 100) (b := 9) (by omega) (by omega)).mpr q)
        refine xj_iload_n (i := 2) hk dX8_writesNumber_16 rfl rfl ?_
        refine xj_bipush (x := 10) hk dX8_writesNumber_17 (by decide) ?_
        refine xj_imul hk dX8_writesNumber_19 ?_
        refine xj.eqi (x' := 1000) (by decide) ?_
        refine xj_istore_n (i := 2) (ls2 := [some (.ref (xw_ad v 21 0)), some (.int (nI m)), some (.int 1000)]) hk dX8_writesNumber_20 rfl (by decide) rfl rfl ?_
        refine xj_goto (tgt := 8) hk dX8_writesNumber_21 (by decide) ?_
        refine xj_iload_n (i := 1) hk dX8_writesNumber_8 rfl rfl ?_
        refine xj_iload_n (i := 2) hk dX8_writesNumber_9 rfl rfl ?_
        refine xj_idiv hk dX8_writesNumber_10 (by decide) ?_
        refine xj.eqi (x' := nI (m / 1000)) (pk_div (a := m) (d := 1000) (by omega) (by decide) (by decide)) ?_
        refine xj_bipush (x := 9) hk dX8_writesNumber_11 (by decide) ?_
        refine xj_icmp_le (tgt := 24) hk dX8_writesNumber_13 (by decide) (fun c13 => ?_) (fun c13 => ?_)
        · have c13 : m / 1000 ≤ 9 := (nI_leI (a := m / 1000) (b := 9) (by omega) (by omega)).mp c13
          refine xj_iload_n (i := 2) hk dX8_writesNumber_24 rfl rfl ?_
          refine xj_if_le (tgt := 49) hk dX8_writesNumber_25 (by decide) (fun c25 => False.elim (by revert c25; decide)) (fun c25 => ?_)
          refine xj_aload_n (i := 0) hk dX8_writesNumber_28 rfl rfl ?_
          refine xj_bipush (x := 48) hk dX8_writesNumber_29 (by decide) ?_
          refine xj_iload_n (i := 1) hk dX8_writesNumber_31 rfl rfl ?_
          refine xj_iload_n (i := 2) hk dX8_writesNumber_32 rfl rfl ?_
          refine xj_idiv hk dX8_writesNumber_33 (by decide) ?_
          refine xj.eqi (x' := nI (m / 1000)) (pk_div (a := m) (d := 1000) (by omega) (by decide) (by decide)) ?_
          refine xj_bipush (x := 10) hk dX8_writesNumber_34 (by decide) ?_
          refine xj_irem hk dX8_writesNumber_36 (by decide) ?_
          refine xj.eqi (x' := nI (m / 1000 % 10)) (pk_rem (a := m / 1000) (d := 10) (by omega) (by decide) (by decide)) ?_
          refine xj_iadd hk dX8_writesNumber_37 ?_
          refine xj.eqi (x' := nI (48 + (m / 1000 % 10))) (nI_add 48 ((m / 1000 % 10))) ?_
          refine xj_callV hk hz (fr1 := 0) (lo1 := 0) (r1 := none) (As := [.int (nI (48 + (m / 1000 % 10)))]) (st := []) (st2 := []) (G1 := xw_up G 21 (pM v (md_th M) (nR te ho ow hs ra lo (nI n) st av so ln) (md_pt M) (md_re M) (md_sd M) (md_be M) (md_pb M) (md_ac M) (md_od M) (md_ad M) (md_wy M) (md_so M) (md_rl M) (md_io M) (md_po M) (md_sp M) (md_rs M) (md_st M) (md_av M) (md_ip M) (txW (W ++ [32] ++ [nI (48 + (m / 1000 % 10))]) f) (nI (W ++ [32] ++ [nI (48 + (m / 1000 % 10))]).length) (md_ta M) (md_td M) (md_wo M) (md_sq M) (md_tk M) (md_bg M) (md_nu M) (md_wr M))) ml_X8_228 (xk_cg (by rw [xw_up_u] <;> rfl) (c_X8_writes (n := n) (M := M) (W := W ++ [32]) (f := f) (show (xw_up G 21 (pM v (md_th M) (nR te ho ow hs ra lo (nI n) st av so ln) (md_pt M) (md_re M) (md_sd M) (md_be M) (md_pb M) (md_ac M) (md_od M) (md_ad M) (md_wy M) (md_so M) (md_rl M) (md_io M) (md_po M) (md_sp M) (md_rs M) (md_st M) (md_av M) (md_ip M) (txW (W ++ [32]) f) (nI (W ++ [32]).length) (md_ta M) (md_td M) (md_wo M) (md_sq M) (md_tk M) (md_bg M) (md_nu M) (md_wr M))) 21 = pM v (md_th M) (nR te ho ow hs ra lo (nI n) st av so ln) (md_pt M) (md_re M) (md_sd M) (md_be M) (md_pb M) (md_ac M) (md_od M) (md_ad M) (md_wy M) (md_so M) (md_rl M) (md_io M) (md_po M) (md_sp M) (md_rs M) (md_st M) (md_av M) (md_ip M) (txW (W ++ [32]) f) (nI (W ++ [32]).length) (md_ta M) (md_td M) (md_wo M) (md_sq M) (md_tk M) (md_bg M) (md_nu M) (md_wr M) from xw_up_s) (by simp only [List.length_append, List.length_cons, List.length_nil]; omega) (nI (48 + (m / 1000 % 10))))) (xw_at xw_up_s rfl) rfl dX8_writesNumber_38 ⟨Nat.le_of_ble_eq_true rfl, Nat.le_of_ble_eq_true rfl⟩ rfl (Nat.le_of_ble_eq_true rfl) rfl rfl ?_
          refine xj_iload_n (i := 2) hk dX8_writesNumber_41 rfl rfl ?_
          refine xj_bipush (x := 10) hk dX8_writesNumber_42 (by decide) ?_
          refine xj_idiv hk dX8_writesNumber_44 (by decide) ?_
          refine xj.eqi (x' := 100) (by decide) ?_
          refine xj_istore_n (i := 2) (ls2 := [some (.ref (xw_ad v 21 0)), some (.int (nI m)), some (.int 100)]) hk dX8_writesNumber_45 rfl (by decide) rfl rfl ?_
          refine xj_goto (tgt := 24) hk dX8_writesNumber_46 (by decide) ?_
          refine xj_iload_n (i := 2) hk dX8_writesNumber_24 rfl rfl ?_
          refine xj_if_le (tgt := 49) hk dX8_writesNumber_25 (by decide) (fun c25 => False.elim (by revert c25; decide)) (fun c25 => ?_)
          refine xj_aload_n (i := 0) hk dX8_writesNumber_28 rfl rfl ?_
          refine xj_bipush (x := 48) hk dX8_writesNumber_29 (by decide) ?_
          refine xj_iload_n (i := 1) hk dX8_writesNumber_31 rfl rfl ?_
          refine xj_iload_n (i := 2) hk dX8_writesNumber_32 rfl rfl ?_
          refine xj_idiv hk dX8_writesNumber_33 (by decide) ?_
          refine xj.eqi (x' := nI (m / 100)) (pk_div (a := m) (d := 100) (by omega) (by decide) (by decide)) ?_
          refine xj_bipush (x := 10) hk dX8_writesNumber_34 (by decide) ?_
          refine xj_irem hk dX8_writesNumber_36 (by decide) ?_
          refine xj.eqi (x' := nI (m / 100 % 10)) (pk_rem (a := m / 100) (d := 10) (by omega) (by decide) (by decide)) ?_
          refine xj_iadd hk dX8_writesNumber_37 ?_
          refine xj.eqi (x' := nI (48 + (m / 100 % 10))) (nI_add 48 ((m / 100 % 10))) ?_
          refine xj_callV hk hz (fr1 := 0) (lo1 := 0) (r1 := none) (As := [.int (nI (48 + (m / 100 % 10)))]) (st := []) (st2 := []) (G1 := xw_up G 21 (pM v (md_th M) (nR te ho ow hs ra lo (nI n) st av so ln) (md_pt M) (md_re M) (md_sd M) (md_be M) (md_pb M) (md_ac M) (md_od M) (md_ad M) (md_wy M) (md_so M) (md_rl M) (md_io M) (md_po M) (md_sp M) (md_rs M) (md_st M) (md_av M) (md_ip M) (txW (W ++ [32] ++ [nI (48 + (m / 1000 % 10))] ++ [nI (48 + (m / 100 % 10))]) f) (nI (W ++ [32] ++ [nI (48 + (m / 1000 % 10))] ++ [nI (48 + (m / 100 % 10))]).length) (md_ta M) (md_td M) (md_wo M) (md_sq M) (md_tk M) (md_bg M) (md_nu M) (md_wr M))) ml_X8_228 (xk_cg (by rw [xw_up_u] <;> rfl) (c_X8_writes (n := n) (M := M) (W := W ++ [32] ++ [nI (48 + (m / 1000 % 10))]) (f := f) (show (xw_up G 21 (pM v (md_th M) (nR te ho ow hs ra lo (nI n) st av so ln) (md_pt M) (md_re M) (md_sd M) (md_be M) (md_pb M) (md_ac M) (md_od M) (md_ad M) (md_wy M) (md_so M) (md_rl M) (md_io M) (md_po M) (md_sp M) (md_rs M) (md_st M) (md_av M) (md_ip M) (txW (W ++ [32] ++ [nI (48 + (m / 1000 % 10))]) f) (nI (W ++ [32] ++ [nI (48 + (m / 1000 % 10))]).length) (md_ta M) (md_td M) (md_wo M) (md_sq M) (md_tk M) (md_bg M) (md_nu M) (md_wr M))) 21 = pM v (md_th M) (nR te ho ow hs ra lo (nI n) st av so ln) (md_pt M) (md_re M) (md_sd M) (md_be M) (md_pb M) (md_ac M) (md_od M) (md_ad M) (md_wy M) (md_so M) (md_rl M) (md_io M) (md_po M) (md_sp M) (md_rs M) (md_st M) (md_av M) (md_ip M) (txW (W ++ [32] ++ [nI (48 + (m / 1000 % 10))]) f) (nI (W ++ [32] ++ [nI (48 + (m / 1000 % 10))]).length) (md_ta M) (md_td M) (md_wo M) (md_sq M) (md_tk M) (md_bg M) (md_nu M) (md_wr M) from xw_up_s) (by simp only [List.length_append, List.length_cons, List.length_nil]; omega) (nI (48 + (m / 100 % 10))))) (xw_at xw_up_s rfl) rfl dX8_writesNumber_38 ⟨Nat.le_of_ble_eq_true rfl, Nat.le_of_ble_eq_true rfl⟩ rfl (Nat.le_of_ble_eq_true rfl) rfl rfl ?_
          refine xj_iload_n (i := 2) hk dX8_writesNumber_41 rfl rfl ?_
          refine xj_bipush (x := 10) hk dX8_writesNumber_42 (by decide) ?_
          refine xj_idiv hk dX8_writesNumber_44 (by decide) ?_
          refine xj.eqi (x' := 10) (by decide) ?_
          refine xj_istore_n (i := 2) (ls2 := [some (.ref (xw_ad v 21 0)), some (.int (nI m)), some (.int 10)]) hk dX8_writesNumber_45 rfl (by decide) rfl rfl ?_
          refine xj_goto (tgt := 24) hk dX8_writesNumber_46 (by decide) ?_
          refine xj_iload_n (i := 2) hk dX8_writesNumber_24 rfl rfl ?_
          refine xj_if_le (tgt := 49) hk dX8_writesNumber_25 (by decide) (fun c25 => False.elim (by revert c25; decide)) (fun c25 => ?_)
          refine xj_aload_n (i := 0) hk dX8_writesNumber_28 rfl rfl ?_
          refine xj_bipush (x := 48) hk dX8_writesNumber_29 (by decide) ?_
          refine xj_iload_n (i := 1) hk dX8_writesNumber_31 rfl rfl ?_
          refine xj_iload_n (i := 2) hk dX8_writesNumber_32 rfl rfl ?_
          refine xj_idiv hk dX8_writesNumber_33 (by decide) ?_
          refine xj.eqi (x' := nI (m / 10)) (pk_div (a := m) (d := 10) (by omega) (by decide) (by decide)) ?_
          refine xj_bipush (x := 10) hk dX8_writesNumber_34 (by decide) ?_
          refine xj_irem hk dX8_writesNumber_36 (by decide) ?_
          refine xj.eqi (x' := nI (m / 10 % 10)) (pk_rem (a := m / 10) (d := 10) (by omega) (by decide) (by decide)) ?_
          refine xj_iadd hk dX8_writesNumber_37 ?_
          refine xj.eqi (x' := nI (48 + (m / 10 % 10))) (nI_add 48 ((m / 10 % 10))) ?_
          refine xj_callV hk hz (fr1 := 0) (lo1 := 0) (r1 := none) (As := [.int (nI (48 + (m / 10 % 10)))]) (st := []) (st2 := []) (G1 := xw_up G 21 (pM v (md_th M) (nR te ho ow hs ra lo (nI n) st av so ln) (md_pt M) (md_re M) (md_sd M) (md_be M) (md_pb M) (md_ac M) (md_od M) (md_ad M) (md_wy M) (md_so M) (md_rl M) (md_io M) (md_po M) (md_sp M) (md_rs M) (md_st M) (md_av M) (md_ip M) (txW (W ++ [32] ++ [nI (48 + (m / 1000 % 10))] ++ [nI (48 + (m / 100 % 10))] ++ [nI (48 + (m / 10 % 10))]) f) (nI (W ++ [32] ++ [nI (48 + (m / 1000 % 10))] ++ [nI (48 + (m / 100 % 10))] ++ [nI (48 + (m / 10 % 10))]).length) (md_ta M) (md_td M) (md_wo M) (md_sq M) (md_tk M) (md_bg M) (md_nu M) (md_wr M))) ml_X8_228 (xk_cg (by rw [xw_up_u] <;> rfl) (c_X8_writes (n := n) (M := M) (W := W ++ [32] ++ [nI (48 + (m / 1000 % 10))] ++ [nI (48 + (m / 100 % 10))]) (f := f) (show (xw_up G 21 (pM v (md_th M) (nR te ho ow hs ra lo (nI n) st av so ln) (md_pt M) (md_re M) (md_sd M) (md_be M) (md_pb M) (md_ac M) (md_od M) (md_ad M) (md_wy M) (md_so M) (md_rl M) (md_io M) (md_po M) (md_sp M) (md_rs M) (md_st M) (md_av M) (md_ip M) (txW (W ++ [32] ++ [nI (48 + (m / 1000 % 10))] ++ [nI (48 + (m / 100 % 10))]) f) (nI (W ++ [32] ++ [nI (48 + (m / 1000 % 10))] ++ [nI (48 + (m / 100 % 10))]).length) (md_ta M) (md_td M) (md_wo M) (md_sq M) (md_tk M) (md_bg M) (md_nu M) (md_wr M))) 21 = pM v (md_th M) (nR te ho ow hs ra lo (nI n) st av so ln) (md_pt M) (md_re M) (md_sd M) (md_be M) (md_pb M) (md_ac M) (md_od M) (md_ad M) (md_wy M) (md_so M) (md_rl M) (md_io M) (md_po M) (md_sp M) (md_rs M) (md_st M) (md_av M) (md_ip M) (txW (W ++ [32] ++ [nI (48 + (m / 1000 % 10))] ++ [nI (48 + (m / 100 % 10))]) f) (nI (W ++ [32] ++ [nI (48 + (m / 1000 % 10))] ++ [nI (48 + (m / 100 % 10))]).length) (md_ta M) (md_td M) (md_wo M) (md_sq M) (md_tk M) (md_bg M) (md_nu M) (md_wr M) from xw_up_s) (by simp only [List.length_append, List.length_cons, List.length_nil]; omega) (nI (48 + (m / 10 % 10))))) (xw_at xw_up_s rfl) rfl dX8_writesNumber_38 ⟨Nat.le_of_ble_eq_true rfl, Nat.le_of_ble_eq_true rfl⟩ rfl (Nat.le_of_ble_eq_true rfl) rfl rfl ?_
          refine xj_iload_n (i := 2) hk dX8_writesNumber_41 rfl rfl ?_
          refine xj_bipush (x := 10) hk dX8_writesNumber_42 (by decide) ?_
          refine xj_idiv hk dX8_writesNumber_44 (by decide) ?_
          refine xj.eqi (x' := 1) (by decide) ?_
          refine xj_istore_n (i := 2) (ls2 := [some (.ref (xw_ad v 21 0)), some (.int (nI m)), some (.int 1)]) hk dX8_writesNumber_45 rfl (by decide) rfl rfl ?_
          refine xj_goto (tgt := 24) hk dX8_writesNumber_46 (by decide) ?_
          refine xj_iload_n (i := 2) hk dX8_writesNumber_24 rfl rfl ?_
          refine xj_if_le (tgt := 49) hk dX8_writesNumber_25 (by decide) (fun c25 => False.elim (by revert c25; decide)) (fun c25 => ?_)
          refine xj_aload_n (i := 0) hk dX8_writesNumber_28 rfl rfl ?_
          refine xj_bipush (x := 48) hk dX8_writesNumber_29 (by decide) ?_
          refine xj_iload_n (i := 1) hk dX8_writesNumber_31 rfl rfl ?_
          refine xj_iload_n (i := 2) hk dX8_writesNumber_32 rfl rfl ?_
          refine xj_idiv hk dX8_writesNumber_33 (by decide) ?_
          refine xj.eqi (x' := nI (m / 1)) (pk_div (a := m) (d := 1) (by omega) (by decide) (by decide)) ?_
          refine xj_bipush (x := 10) hk dX8_writesNumber_34 (by decide) ?_
          refine xj_irem hk dX8_writesNumber_36 (by decide) ?_
          refine xj.eqi (x' := nI (m / 1 % 10)) (pk_rem (a := m / 1) (d := 10) (by omega) (by decide) (by decide)) ?_
          refine xj_iadd hk dX8_writesNumber_37 ?_
          refine xj.eqi (x' := nI (48 + (m / 1 % 10))) (nI_add 48 ((m / 1 % 10))) ?_
          refine xj_callV hk hz (fr1 := 0) (lo1 := 0) (r1 := none) (As := [.int (nI (48 + (m / 1 % 10)))]) (st := []) (st2 := []) (G1 := xw_up G 21 (pM v (md_th M) (nR te ho ow hs ra lo (nI n) st av so ln) (md_pt M) (md_re M) (md_sd M) (md_be M) (md_pb M) (md_ac M) (md_od M) (md_ad M) (md_wy M) (md_so M) (md_rl M) (md_io M) (md_po M) (md_sp M) (md_rs M) (md_st M) (md_av M) (md_ip M) (txW (W ++ [32] ++ [nI (48 + (m / 1000 % 10))] ++ [nI (48 + (m / 100 % 10))] ++ [nI (48 + (m / 10 % 10))] ++ [nI (48 + (m / 1 % 10))]) f) (nI (W ++ [32] ++ [nI (48 + (m / 1000 % 10))] ++ [nI (48 + (m / 100 % 10))] ++ [nI (48 + (m / 10 % 10))] ++ [nI (48 + (m / 1 % 10))]).length) (md_ta M) (md_td M) (md_wo M) (md_sq M) (md_tk M) (md_bg M) (md_nu M) (md_wr M))) ml_X8_228 (xk_cg (by rw [xw_up_u] <;> rfl) (c_X8_writes (n := n) (M := M) (W := W ++ [32] ++ [nI (48 + (m / 1000 % 10))] ++ [nI (48 + (m / 100 % 10))] ++ [nI (48 + (m / 10 % 10))]) (f := f) (show (xw_up G 21 (pM v (md_th M) (nR te ho ow hs ra lo (nI n) st av so ln) (md_pt M) (md_re M) (md_sd M) (md_be M) (md_pb M) (md_ac M) (md_od M) (md_ad M) (md_wy M) (md_so M) (md_rl M) (md_io M) (md_po M) (md_sp M) (md_rs M) (md_st M) (md_av M) (md_ip M) (txW (W ++ [32] ++ [nI (48 + (m / 1000 % 10))] ++ [nI (48 + (m / 100 % 10))] ++ [nI (48 + (m / 10 % 10))]) f) (nI (W ++ [32] ++ [nI (48 + (m / 1000 % 10))] ++ [nI (48 + (m / 100 % 10))] ++ [nI (48 + (m / 10 % 10))]).length) (md_ta M) (md_td M) (md_wo M) (md_sq M) (md_tk M) (md_bg M) (md_nu M) (md_wr M))) 21 = pM v (md_th M) (nR te ho ow hs ra lo (nI n) st av so ln) (md_pt M) (md_re M) (md_sd M) (md_be M) (md_pb M) (md_ac M) (md_od M) (md_ad M) (md_wy M) (md_so M) (md_rl M) (md_io M) (md_po M) (md_sp M) (md_rs M) (md_st M) (md_av M) (md_ip M) (txW (W ++ [32] ++ [nI (48 + (m / 1000 % 10))] ++ [nI (48 + (m / 100 % 10))] ++ [nI (48 + (m / 10 % 10))]) f) (nI (W ++ [32] ++ [nI (48 + (m / 1000 % 10))] ++ [nI (48 + (m / 100 % 10))] ++ [nI (48 + (m / 10 % 10))]).length) (md_ta M) (md_td M) (md_wo M) (md_sq M) (md_tk M) (md_bg M) (md_nu M) (md_wr M) from xw_up_s) (by simp only [List.length_append, List.length_cons, List.length_nil]; omega) (nI (48 + (m / 1 % 10))))) (xw_at xw_up_s rfl) rfl dX8_writesNumber_38 ⟨Nat.le_of_ble_eq_true rfl, Nat.le_of_ble_eq_true rfl⟩ rfl (Nat.le_of_ble_eq_true rfl) rfl rfl ?_
          refine xj_iload_n (i := 2) hk dX8_writesNumber_41 rfl rfl ?_
          refine xj_bipush (x := 10) hk dX8_writesNumber_42 (by decide) ?_
          refine xj_idiv hk dX8_writesNumber_44 (by decide) ?_
          refine xj.eqi (x' := 0) (by decide) ?_
          refine xj_istore_n (i := 2) (ls2 := [some (.ref (xw_ad v 21 0)), some (.int (nI m)), some (.int 0)]) hk dX8_writesNumber_45 rfl (by decide) rfl rfl ?_
          refine xj_goto (tgt := 24) hk dX8_writesNumber_46 (by decide) ?_
          refine xj_iload_n (i := 2) hk dX8_writesNumber_24 rfl rfl ?_
          refine xj_if_le (tgt := 49) hk dX8_writesNumber_25 (by decide) (fun c25 => ?_) (fun c25 => False.elim (by revert c25; decide))
          refine xj_return hk hz dX8_writesNumber_49 ?_
          refine ⟨rfl, ?_⟩
          simp only [dg]
          first | (rw [if_pos (by omega)]; done) | (rw [if_pos (by omega)]; simp only [List.append_assoc, List.cons_append, List.nil_append]; done) | (rw [if_neg (by omega), if_pos (by omega)]; simp only [List.append_assoc, List.cons_append, List.nil_append]; done) | (rw [if_neg (by omega), if_neg (by omega), if_pos (by omega)]; simp only [List.append_assoc, List.cons_append, List.nil_append]; done) | (rw [if_neg (by omega), if_neg (by omega), if_neg (by omega), if_pos (by omega)]; simp only [List.append_assoc, List.cons_append, List.nil_append]; done) | (rw [if_neg (by omega), if_neg (by omega), if_neg (by omega), if_neg (by omega)]; simp only [List.append_assoc, List.cons_append, List.nil_append]; done)
        · have c13 : ¬ m / 1000 ≤ 9 := fun q => c13 ((nI_leI (a := m / 1000) (b := 9) (by omega) (by omega)).mpr q)
          refine xj_iload_n (i := 2) hk dX8_writesNumber_16 rfl rfl ?_
          refine xj_bipush (x := 10) hk dX8_writesNumber_17 (by decide) ?_
          refine xj_imul hk dX8_writesNumber_19 ?_
          refine xj.eqi (x' := 10000) (by decide) ?_
          refine xj_istore_n (i := 2) (ls2 := [some (.ref (xw_ad v 21 0)), some (.int (nI m)), some (.int 10000)]) hk dX8_writesNumber_20 rfl (by decide) rfl rfl ?_
          refine xj_goto (tgt := 8) hk dX8_writesNumber_21 (by decide) ?_
          refine xj_iload_n (i := 1) hk dX8_writesNumber_8 rfl rfl ?_
          refine xj_iload_n (i := 2) hk dX8_writesNumber_9 rfl rfl ?_
          refine xj_idiv hk dX8_writesNumber_10 (by decide) ?_
          refine xj.eqi (x' := nI (m / 10000)) (pk_div (a := m) (d := 10000) (by omega) (by decide) (by decide)) ?_
          refine xj_bipush (x := 9) hk dX8_writesNumber_11 (by decide) ?_
          refine xj_icmp_le (tgt := 24) hk dX8_writesNumber_13 (by decide) (fun c13 => ?_) (fun c13 => ?_)
          · have c13 : m / 10000 ≤ 9 := (nI_leI (a := m / 10000) (b := 9) (by omega) (by omega)).mp c13
            refine xj_iload_n (i := 2) hk dX8_writesNumber_24 rfl rfl ?_
            refine xj_if_le (tgt := 49) hk dX8_writesNumber_25 (by decide) (fun c25 => False.elim (by revert c25; decide)) (fun c25 => ?_)
            refine xj_aload_n (i := 0) hk dX8_writesNumber_28 rfl rfl ?_
            refine xj_bipush (x := 48) hk dX8_writesNumber_29 (by decide) ?_
            refine xj_iload_n (i := 1) hk dX8_writesNumber_31 rfl rfl ?_
            refine xj_iload_n (i := 2) hk dX8_writesNumber_32 rfl rfl ?_
            refine xj_idiv hk dX8_writesNumber_33 (by decide) ?_
            refine xj.eqi (x' := nI (m / 10000)) (pk_div (a := m) (d := 10000) (by omega) (by decide) (by decide)) ?_
            refine xj_bipush (x := 10) hk dX8_writesNumber_34 (by decide) ?_
            refine xj_irem hk dX8_writesNumber_36 (by decide) ?_
            refine xj.eqi (x' := nI (m / 10000 % 10)) (pk_rem (a := m / 10000) (d := 10) (by omega) (by decide) (by decide)) ?_
            refine xj_iadd hk dX8_writesNumber_37 ?_
            refine xj.eqi (x' := nI (48 + (m / 10000 % 10))) (nI_add 48 ((m / 10000 % 10))) ?_
            refine xj_callV hk hz (fr1 := 0) (lo1 := 0) (r1 := none) (As := [.int (nI (48 + (m / 10000 % 10)))]) (st := []) (st2 := []) (G1 := xw_up G 21 (pM v (md_th M) (nR te ho ow hs ra lo (nI n) st av so ln) (md_pt M) (md_re M) (md_sd M) (md_be M) (md_pb M) (md_ac M) (md_od M) (md_ad M) (md_wy M) (md_so M) (md_rl M) (md_io M) (md_po M) (md_sp M) (md_rs M) (md_st M) (md_av M) (md_ip M) (txW (W ++ [32] ++ [nI (48 + (m / 10000 % 10))]) f) (nI (W ++ [32] ++ [nI (48 + (m / 10000 % 10))]).length) (md_ta M) (md_td M) (md_wo M) (md_sq M) (md_tk M) (md_bg M) (md_nu M) (md_wr M))) ml_X8_228 (xk_cg (by rw [xw_up_u] <;> rfl) (c_X8_writes (n := n) (M := M) (W := W ++ [32]) (f := f) (show (xw_up G 21 (pM v (md_th M) (nR te ho ow hs ra lo (nI n) st av so ln) (md_pt M) (md_re M) (md_sd M) (md_be M) (md_pb M) (md_ac M) (md_od M) (md_ad M) (md_wy M) (md_so M) (md_rl M) (md_io M) (md_po M) (md_sp M) (md_rs M) (md_st M) (md_av M) (md_ip M) (txW (W ++ [32]) f) (nI (W ++ [32]).length) (md_ta M) (md_td M) (md_wo M) (md_sq M) (md_tk M) (md_bg M) (md_nu M) (md_wr M))) 21 = pM v (md_th M) (nR te ho ow hs ra lo (nI n) st av so ln) (md_pt M) (md_re M) (md_sd M) (md_be M) (md_pb M) (md_ac M) (md_od M) (md_ad M) (md_wy M) (md_so M) (md_rl M) (md_io M) (md_po M) (md_sp M) (md_rs M) (md_st M) (md_av M) (md_ip M) (txW (W ++ [32]) f) (nI (W ++ [32]).length) (md_ta M) (md_td M) (md_wo M) (md_sq M) (md_tk M) (md_bg M) (md_nu M) (md_wr M) from xw_up_s) (by simp only [List.length_append, List.length_cons, List.length_nil]; omega) (nI (48 + (m / 10000 % 10))))) (xw_at xw_up_s rfl) rfl dX8_writesNumber_38 ⟨Nat.le_of_ble_eq_true rfl, Nat.le_of_ble_eq_true rfl⟩ rfl (Nat.le_of_ble_eq_true rfl) rfl rfl ?_
            refine xj_iload_n (i := 2) hk dX8_writesNumber_41 rfl rfl ?_
            refine xj_bipush (x := 10) hk dX8_writesNumber_42 (by decide) ?_
            refine xj_idiv hk dX8_writesNumber_44 (by decide) ?_
            refine xj.eqi (x' := 1000) (by decide) ?_
            refine xj_istore_n (i := 2) (ls2 := [some (.ref (xw_ad v 21 0)), some (.int (nI m)), some (.int 1000)]) hk dX8_writesNumber_45 rfl (by decide) rfl rfl ?_
            refine xj_goto (tgt := 24) hk dX8_writesNumber_46 (by decide) ?_
            refine xj_iload_n (i := 2) hk dX8_writesNumber_24 rfl rfl ?_
            refine xj_if_le (tgt := 49) hk dX8_writesNumber_25 (by decide) (fun c25 => False.elim (by revert c25; decide)) (fun c25 => ?_)
            refine xj_aload_n (i := 0) hk dX8_writesNumber_28 rfl rfl ?_
            refine xj_bipush (x := 48) hk dX8_writesNumber_29 (by decide) ?_
            refine xj_iload_n (i := 1) hk dX8_writesNumber_31 rfl rfl ?_
            refine xj_iload_n (i := 2) hk dX8_writesNumber_32 rfl rfl ?_
            refine xj_idiv hk dX8_writesNumber_33 (by decide) ?_
            refine xj.eqi (x' := nI (m / 1000)) (pk_div (a := m) (d := 1000) (by omega) (by decide) (by decide)) ?_
            refine xj_bipush (x := 10) hk dX8_writesNumber_34 (by decide) ?_
            refine xj_irem hk dX8_writesNumber_36 (by decide) ?_
            refine xj.eqi (x' := nI (m / 1000 % 10)) (pk_rem (a := m / 1000) (d := 10) (by omega) (by decide) (by decide)) ?_
            refine xj_iadd hk dX8_writesNumber_37 ?_
            refine xj.eqi (x' := nI (48 + (m / 1000 % 10))) (nI_add 48 ((m / 1000 % 10))) ?_
            refine xj_callV hk hz (fr1 := 0) (lo1 := 0) (r1 := none) (As := [.int (nI (48 + (m / 1000 % 10)))]) (st := []) (st2 := []) (G1 := xw_up G 21 (pM v (md_th M) (nR te ho ow hs ra lo (nI n) st av so ln) (md_pt M) (md_re M) (md_sd M) (md_be M) (md_pb M) (md_ac M) (md_od M) (md_ad M) (md_wy M) (md_so M) (md_rl M) (md_io M) (md_po M) (md_sp M) (md_rs M) (md_st M) (md_av M) (md_ip M) (txW (W ++ [32] ++ [nI (48 + (m / 10000 % 10))] ++ [nI (48 + (m / 1000 % 10))]) f) (nI (W ++ [32] ++ [nI (48 + (m / 10000 % 10))] ++ [nI (48 + (m / 1000 % 10))]).length) (md_ta M) (md_td M) (md_wo M) (md_sq M) (md_tk M) (md_bg M) (md_nu M) (md_wr M))) ml_X8_228 (xk_cg (by rw [xw_up_u] <;> rfl) (c_X8_writes (n := n) (M := M) (W := W ++ [32] ++ [nI (48 + (m / 10000 % 10))]) (f := f) (show (xw_up G 21 (pM v (md_th M) (nR te ho ow hs ra lo (nI n) st av so ln) (md_pt M) (md_re M) (md_sd M) (md_be M) (md_pb M) (md_ac M) (md_od M) (md_ad M) (md_wy M) (md_so M) (md_rl M) (md_io M) (md_po M) (md_sp M) (md_rs M) (md_st M) (md_av M) (md_ip M) (txW (W ++ [32] ++ [nI (48 + (m / 10000 % 10))]) f) (nI (W ++ [32] ++ [nI (48 + (m / 10000 % 10))]).length) (md_ta M) (md_td M) (md_wo M) (md_sq M) (md_tk M) (md_bg M) (md_nu M) (md_wr M))) 21 = pM v (md_th M) (nR te ho ow hs ra lo (nI n) st av so ln) (md_pt M) (md_re M) (md_sd M) (md_be M) (md_pb M) (md_ac M) (md_od M) (md_ad M) (md_wy M) (md_so M) (md_rl M) (md_io M) (md_po M) (md_sp M) (md_rs M) (md_st M) (md_av M) (md_ip M) (txW (W ++ [32] ++ [nI (48 + (m / 10000 % 10))]) f) (nI (W ++ [32] ++ [nI (48 + (m / 10000 % 10))]).length) (md_ta M) (md_td M) (md_wo M) (md_sq M) (md_tk M) (md_bg M) (md_nu M) (md_wr M) from xw_up_s) (by simp only [List.length_append, List.length_cons, List.length_nil]; omega) (nI (48 + (m / 1000 % 10))))) (xw_at xw_up_s rfl) rfl dX8_writesNumber_38 ⟨Nat.le_of_ble_eq_true rfl, Nat.le_of_ble_eq_true rfl⟩ rfl (Nat.le_of_ble_eq_true rfl) rfl rfl ?_
            refine xj_iload_n (i := 2) hk dX8_writesNumber_41 rfl rfl ?_
            refine xj_bipush (x := 10) hk dX8_writesNumber_42 (by decide) ?_
            refine xj_idiv hk dX8_writesNumber_44 (by decide) ?_
            refine xj.eqi (x' := 100) (by decide) ?_
            refine xj_istore_n (i := 2) (ls2 := [some (.ref (xw_ad v 21 0)), some (.int (nI m)), some (.int 100)]) hk dX8_writesNumber_45 rfl (by decide) rfl rfl ?_
            refine xj_goto (tgt := 24) hk dX8_writesNumber_46 (by decide) ?_
            refine xj_iload_n (i := 2) hk dX8_writesNumber_24 rfl rfl ?_
            refine xj_if_le (tgt := 49) hk dX8_writesNumber_25 (by decide) (fun c25 => False.elim (by revert c25; decide)) (fun c25 => ?_)
            refine xj_aload_n (i := 0) hk dX8_writesNumber_28 rfl rfl ?_
            refine xj_bipush (x := 48) hk dX8_writesNumber_29 (by decide) ?_
            refine xj_iload_n (i := 1) hk dX8_writesNumber_31 rfl rfl ?_
            refine xj_iload_n (i := 2) hk dX8_writesNumber_32 rfl rfl ?_
            refine xj_idiv hk dX8_writesNumber_33 (by decide) ?_
            refine xj.eqi (x' := nI (m / 100)) (pk_div (a := m) (d := 100) (by omega) (by decide) (by decide)) ?_
            refine xj_bipush (x := 10) hk dX8_writesNumber_34 (by decide) ?_
            refine xj_irem hk dX8_writesNumber_36 (by decide) ?_
            refine xj.eqi (x' := nI (m / 100 % 10)) (pk_rem (a := m / 100) (d := 10) (by omega) (by decide) (by decide)) ?_
            refine xj_iadd hk dX8_writesNumber_37 ?_
            refine xj.eqi (x' := nI (48 + (m / 100 % 10))) (nI_add 48 ((m / 100 % 10))) ?_
            refine xj_callV hk hz (fr1 := 0) (lo1 := 0) (r1 := none) (As := [.int (nI (48 + (m / 100 % 10)))]) (st := []) (st2 := []) (G1 := xw_up G 21 (pM v (md_th M) (nR te ho ow hs ra lo (nI n) st av so ln) (md_pt M) (md_re M) (md_sd M) (md_be M) (md_pb M) (md_ac M) (md_od M) (md_ad M) (md_wy M) (md_so M) (md_rl M) (md_io M) (md_po M) (md_sp M) (md_rs M) (md_st M) (md_av M) (md_ip M) (txW (W ++ [32] ++ [nI (48 + (m / 10000 % 10))] ++ [nI (48 + (m / 1000 % 10))] ++ [nI (48 + (m / 100 % 10))]) f) (nI (W ++ [32] ++ [nI (48 + (m / 10000 % 10))] ++ [nI (48 + (m / 1000 % 10))] ++ [nI (48 + (m / 100 % 10))]).length) (md_ta M) (md_td M) (md_wo M) (md_sq M) (md_tk M) (md_bg M) (md_nu M) (md_wr M))) ml_X8_228 (xk_cg (by rw [xw_up_u] <;> rfl) (c_X8_writes (n := n) (M := M) (W := W ++ [32] ++ [nI (48 + (m / 10000 % 10))] ++ [nI (48 + (m / 1000 % 10))]) (f := f) (show (xw_up G 21 (pM v (md_th M) (nR te ho ow hs ra lo (nI n) st av so ln) (md_pt M) (md_re M) (md_sd M) (md_be M) (md_pb M) (md_ac M) (md_od M) (md_ad M) (md_wy M) (md_so M) (md_rl M) (md_io M) (md_po M) (md_sp M) (md_rs M) (md_st M) (md_av M) (md_ip M) (txW (W ++ [32] ++ [nI (48 + (m / 10000 % 10))] ++ [nI (48 + (m / 1000 % 10))]) f) (nI (W ++ [32] ++ [nI (48 + (m / 10000 % 10))] ++ [nI (48 + (m / 1000 % 10))]).length) (md_ta M) (md_td M) (md_wo M) (md_sq M) (md_tk M) (md_bg M) (md_nu M) (md_wr M))) 21 = pM v (md_th M) (nR te ho ow hs ra lo (nI n) st av so ln) (md_pt M) (md_re M) (md_sd M) (md_be M) (md_pb M) (md_ac M) (md_od M) (md_ad M) (md_wy M) (md_so M) (md_rl M) (md_io M) (md_po M) (md_sp M) (md_rs M) (md_st M) (md_av M) (md_ip M) (txW (W ++ [32] ++ [nI (48 + (m / 10000 % 10))] ++ [nI (48 + (m / 1000 % 10))]) f) (nI (W ++ [32] ++ [nI (48 + (m / 10000 % 10))] ++ [nI (48 + (m / 1000 % 10))]).length) (md_ta M) (md_td M) (md_wo M) (md_sq M) (md_tk M) (md_bg M) (md_nu M) (md_wr M) from xw_up_s) (by simp only [List.length_append, List.length_cons, List.length_nil]; omega) (nI (48 + (m / 100 % 10))))) (xw_at xw_up_s rfl) rfl dX8_writesNumber_38 ⟨Nat.le_of_ble_eq_true rfl, Nat.le_of_ble_eq_true rfl⟩ rfl (Nat.le_of_ble_eq_true rfl) rfl rfl ?_
            refine xj_iload_n (i := 2) hk dX8_writesNumber_41 rfl rfl ?_
            refine xj_bipush (x := 10) hk dX8_writesNumber_42 (by decide) ?_
            refine xj_idiv hk dX8_writesNumber_44 (by decide) ?_
            refine xj.eqi (x' := 10) (by decide) ?_
            refine xj_istore_n (i := 2) (ls2 := [some (.ref (xw_ad v 21 0)), some (.int (nI m)), some (.int 10)]) hk dX8_writesNumber_45 rfl (by decide) rfl rfl ?_
            refine xj_goto (tgt := 24) hk dX8_writesNumber_46 (by decide) ?_
            refine xj_iload_n (i := 2) hk dX8_writesNumber_24 rfl rfl ?_
            refine xj_if_le (tgt := 49) hk dX8_writesNumber_25 (by decide) (fun c25 => False.elim (by revert c25; decide)) (fun c25 => ?_)
            refine xj_aload_n (i := 0) hk dX8_writesNumber_28 rfl rfl ?_
            refine xj_bipush (x := 48) hk dX8_writesNumber_29 (by decide) ?_
            refine xj_iload_n (i := 1) hk dX8_writesNumber_31 rfl rfl ?_
            refine xj_iload_n (i := 2) hk dX8_writesNumber_32 rfl rfl ?_
            refine xj_idiv hk dX8_writesNumber_33 (by decide) ?_
            refine xj.eqi (x' := nI (m / 10)) (pk_div (a := m) (d := 10) (by omega) (by decide) (by decide)) ?_
            refine xj_bipush (x := 10) hk dX8_writesNumber_34 (by decide) ?_
            refine xj_irem hk dX8_writesNumber_36 (by decide) ?_
            refine xj.eqi (x' := nI (m / 10 % 10)) (pk_rem (a := m / 10) (d := 10) (by omega) (by decide) (by decide)) ?_
            refine xj_iadd hk dX8_writesNumber_37 ?_
            refine xj.eqi (x' := nI (48 + (m / 10 % 10))) (nI_add 48 ((m / 10 % 10))) ?_
            refine xj_callV hk hz (fr1 := 0) (lo1 := 0) (r1 := none) (As := [.int (nI (48 + (m / 10 % 10)))]) (st := []) (st2 := []) (G1 := xw_up G 21 (pM v (md_th M) (nR te ho ow hs ra lo (nI n) st av so ln) (md_pt M) (md_re M) (md_sd M) (md_be M) (md_pb M) (md_ac M) (md_od M) (md_ad M) (md_wy M) (md_so M) (md_rl M) (md_io M) (md_po M) (md_sp M) (md_rs M) (md_st M) (md_av M) (md_ip M) (txW (W ++ [32] ++ [nI (48 + (m / 10000 % 10))] ++ [nI (48 + (m / 1000 % 10))] ++ [nI (48 + (m / 100 % 10))] ++ [nI (48 + (m / 10 % 10))]) f) (nI (W ++ [32] ++ [nI (48 + (m / 10000 % 10))] ++ [nI (48 + (m / 1000 % 10))] ++ [nI (48 + (m / 100 % 10))] ++ [nI (48 + (m / 10 % 10))]).length) (md_ta M) (md_td M) (md_wo M) (md_sq M) (md_tk M) (md_bg M) (md_nu M) (md_wr M))) ml_X8_228 (xk_cg (by rw [xw_up_u] <;> rfl) (c_X8_writes (n := n) (M := M) (W := W ++ [32] ++ [nI (48 + (m / 10000 % 10))] ++ [nI (48 + (m / 1000 % 10))] ++ [nI (48 + (m / 100 % 10))]) (f := f) (show (xw_up G 21 (pM v (md_th M) (nR te ho ow hs ra lo (nI n) st av so ln) (md_pt M) (md_re M) (md_sd M) (md_be M) (md_pb M) (md_ac M) (md_od M) (md_ad M) (md_wy M) (md_so M) (md_rl M) (md_io M) (md_po M) (md_sp M) (md_rs M) (md_st M) (md_av M) (md_ip M) (txW (W ++ [32] ++ [nI (48 + (m / 10000 % 10))] ++ [nI (48 + (m / 1000 % 10))] ++ [nI (48 + (m / 100 % 10))]) f) (nI (W ++ [32] ++ [nI (48 + (m / 10000 % 10))] ++ [nI (48 + (m / 1000 % 10))] ++ [nI (48 + (m / 100 % 10))]).length) (md_ta M) (md_td M) (md_wo M) (md_sq M) (md_tk M) (md_bg M) (md_nu M) (md_wr M))) 21 = pM v (md_th M) (nR te ho ow hs ra lo (nI n) st av so ln) (md_pt M) (md_re M) (md_sd M) (md_be M) (md_pb M) (md_ac M) (md_od M) (md_ad M) (md_wy M) (md_so M) (md_rl M) (md_io M) (md_po M) (md_sp M) (md_rs M) (md_st M) (md_av M) (md_ip M) (txW (W ++ [32] ++ [nI (48 + (m / 10000 % 10))] ++ [nI (48 + (m / 1000 % 10))] ++ [nI (48 + (m / 100 % 10))]) f) (nI (W ++ [32] ++ [nI (48 + (m / 10000 % 10))] ++ [nI (48 + (m / 1000 % 10))] ++ [nI (48 + (m / 100 % 10))]).length) (md_ta M) (md_td M) (md_wo M) (md_sq M) (md_tk M) (md_bg M) (md_nu M) (md_wr M) from xw_up_s) (by simp only [List.length_append, List.length_cons, List.length_nil]; omega) (nI (48 + (m / 10 % 10))))) (xw_at xw_up_s rfl) rfl dX8_writesNumber_38 ⟨Nat.le_of_ble_eq_true rfl, Nat.le_of_ble_eq_true rfl⟩ rfl (Nat.le_of_ble_eq_true rfl) rfl rfl ?_
            refine xj_iload_n (i := 2) hk dX8_writesNumber_41 rfl rfl ?_
            refine xj_bipush (x := 10) hk dX8_writesNumber_42 (by decide) ?_
            refine xj_idiv hk dX8_writesNumber_44 (by decide) ?_
            refine xj.eqi (x' := 1) (by decide) ?_
            refine xj_istore_n (i := 2) (ls2 := [some (.ref (xw_ad v 21 0)), some (.int (nI m)), some (.int 1)]) hk dX8_writesNumber_45 rfl (by decide) rfl rfl ?_
            refine xj_goto (tgt := 24) hk dX8_writesNumber_46 (by decide) ?_
            refine xj_iload_n (i := 2) hk dX8_writesNumber_24 rfl rfl ?_
            refine xj_if_le (tgt := 49) hk dX8_writesNumber_25 (by decide) (fun c25 => False.elim (by revert c25; decide)) (fun c25 => ?_)
            refine xj_aload_n (i := 0) hk dX8_writesNumber_28 rfl rfl ?_
            refine xj_bipush (x := 48) hk dX8_writesNumber_29 (by decide) ?_
            refine xj_iload_n (i := 1) hk dX8_writesNumber_31 rfl rfl ?_
            refine xj_iload_n (i := 2) hk dX8_writesNumber_32 rfl rfl ?_
            refine xj_idiv hk dX8_writesNumber_33 (by decide) ?_
            refine xj.eqi (x' := nI (m / 1)) (pk_div (a := m) (d := 1) (by omega) (by decide) (by decide)) ?_
            refine xj_bipush (x := 10) hk dX8_writesNumber_34 (by decide) ?_
            refine xj_irem hk dX8_writesNumber_36 (by decide) ?_
            refine xj.eqi (x' := nI (m / 1 % 10)) (pk_rem (a := m / 1) (d := 10) (by omega) (by decide) (by decide)) ?_
            refine xj_iadd hk dX8_writesNumber_37 ?_
            refine xj.eqi (x' := nI (48 + (m / 1 % 10))) (nI_add 48 ((m / 1 % 10))) ?_
            refine xj_callV hk hz (fr1 := 0) (lo1 := 0) (r1 := none) (As := [.int (nI (48 + (m / 1 % 10)))]) (st := []) (st2 := []) (G1 := xw_up G 21 (pM v (md_th M) (nR te ho ow hs ra lo (nI n) st av so ln) (md_pt M) (md_re M) (md_sd M) (md_be M) (md_pb M) (md_ac M) (md_od M) (md_ad M) (md_wy M) (md_so M) (md_rl M) (md_io M) (md_po M) (md_sp M) (md_rs M) (md_st M) (md_av M) (md_ip M) (txW (W ++ [32] ++ [nI (48 + (m / 10000 % 10))] ++ [nI (48 + (m / 1000 % 10))] ++ [nI (48 + (m / 100 % 10))] ++ [nI (48 + (m / 10 % 10))] ++ [nI (48 + (m / 1 % 10))]) f) (nI (W ++ [32] ++ [nI (48 + (m / 10000 % 10))] ++ [nI (48 + (m / 1000 % 10))] ++ [nI (48 + (m / 100 % 10))] ++ [nI (48 + (m / 10 % 10))] ++ [nI (48 + (m / 1 % 10))]).length) (md_ta M) (md_td M) (md_wo M) (md_sq M) (md_tk M) (md_bg M) (md_nu M) (md_wr M))) ml_X8_228 (xk_cg (by rw [xw_up_u] <;> rfl) (c_X8_writes (n := n) (M := M) (W := W ++ [32] ++ [nI (48 + (m / 10000 % 10))] ++ [nI (48 + (m / 1000 % 10))] ++ [nI (48 + (m / 100 % 10))] ++ [nI (48 + (m / 10 % 10))]) (f := f) (show (xw_up G 21 (pM v (md_th M) (nR te ho ow hs ra lo (nI n) st av so ln) (md_pt M) (md_re M) (md_sd M) (md_be M) (md_pb M) (md_ac M) (md_od M) (md_ad M) (md_wy M) (md_so M) (md_rl M) (md_io M) (md_po M) (md_sp M) (md_rs M) (md_st M) (md_av M) (md_ip M) (txW (W ++ [32] ++ [nI (48 + (m / 10000 % 10))] ++ [nI (48 + (m / 1000 % 10))] ++ [nI (48 + (m / 100 % 10))] ++ [nI (48 + (m / 10 % 10))]) f) (nI (W ++ [32] ++ [nI (48 + (m / 10000 % 10))] ++ [nI (48 + (m / 1000 % 10))] ++ [nI (48 + (m / 100 % 10))] ++ [nI (48 + (m / 10 % 10))]).length) (md_ta M) (md_td M) (md_wo M) (md_sq M) (md_tk M) (md_bg M) (md_nu M) (md_wr M))) 21 = pM v (md_th M) (nR te ho ow hs ra lo (nI n) st av so ln) (md_pt M) (md_re M) (md_sd M) (md_be M) (md_pb M) (md_ac M) (md_od M) (md_ad M) (md_wy M) (md_so M) (md_rl M) (md_io M) (md_po M) (md_sp M) (md_rs M) (md_st M) (md_av M) (md_ip M) (txW (W ++ [32] ++ [nI (48 + (m / 10000 % 10))] ++ [nI (48 + (m / 1000 % 10))] ++ [nI (48 + (m / 100 % 10))] ++ [nI (48 + (m / 10 % 10))]) f) (nI (W ++ [32] ++ [nI (48 + (m / 10000 % 10))] ++ [nI (48 + (m / 1000 % 10))] ++ [nI (48 + (m / 100 % 10))] ++ [nI (48 + (m / 10 % 10))]).length) (md_ta M) (md_td M) (md_wo M) (md_sq M) (md_tk M) (md_bg M) (md_nu M) (md_wr M) from xw_up_s) (by simp only [List.length_append, List.length_cons, List.length_nil]; omega) (nI (48 + (m / 1 % 10))))) (xw_at xw_up_s rfl) rfl dX8_writesNumber_38 ⟨Nat.le_of_ble_eq_true rfl, Nat.le_of_ble_eq_true rfl⟩ rfl (Nat.le_of_ble_eq_true rfl) rfl rfl ?_
            refine xj_iload_n (i := 2) hk dX8_writesNumber_41 rfl rfl ?_
            refine xj_bipush (x := 10) hk dX8_writesNumber_42 (by decide) ?_
            refine xj_idiv hk dX8_writesNumber_44 (by decide) ?_
            refine xj.eqi (x' := 0) (by decide) ?_
            refine xj_istore_n (i := 2) (ls2 := [some (.ref (xw_ad v 21 0)), some (.int (nI m)), some (.int 0)]) hk dX8_writesNumber_45 rfl (by decide) rfl rfl ?_
            refine xj_goto (tgt := 24) hk dX8_writesNumber_46 (by decide) ?_
            refine xj_iload_n (i := 2) hk dX8_writesNumber_24 rfl rfl ?_
            refine xj_if_le (tgt := 49) hk dX8_writesNumber_25 (by decide) (fun c25 => ?_) (fun c25 => False.elim (by revert c25; decide))
            refine xj_return hk hz dX8_writesNumber_49 ?_
            refine ⟨rfl, ?_⟩
            simp only [dg]
            first | (rw [if_pos (by omega)]; done) | (rw [if_pos (by omega)]; simp only [List.append_assoc, List.cons_append, List.nil_append]; done) | (rw [if_neg (by omega), if_pos (by omega)]; simp only [List.append_assoc, List.cons_append, List.nil_append]; done) | (rw [if_neg (by omega), if_neg (by omega), if_pos (by omega)]; simp only [List.append_assoc, List.cons_append, List.nil_append]; done) | (rw [if_neg (by omega), if_neg (by omega), if_neg (by omega), if_pos (by omega)]; simp only [List.append_assoc, List.cons_append, List.nil_append]; done) | (rw [if_neg (by omega), if_neg (by omega), if_neg (by omega), if_neg (by omega)]; simp only [List.append_assoc, List.cons_append, List.nil_append]; done)
          · have c13 : ¬ m / 10000 ≤ 9 := fun q => c13 ((nI_leI (a := m / 10000) (b := 9) (by omega) (by omega)).mpr q)
            refine xj_iload_n (i := 2) hk dX8_writesNumber_16 rfl rfl ?_
            refine xj_bipush (x := 10) hk dX8_writesNumber_17 (by decide) ?_
            refine xj_imul hk dX8_writesNumber_19 ?_
            refine xj.eqi (x' := 100000) (by decide) ?_
            refine xj_istore_n (i := 2) (ls2 := [some (.ref (xw_ad v 21 0)), some (.int (nI m)), some (.int 100000)]) hk dX8_writesNumber_20 rfl (by decide) rfl rfl ?_
            refine xj_goto (tgt := 8) hk dX8_writesNumber_21 (by decide) ?_
            exfalso
            omega


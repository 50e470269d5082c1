def wdL : List Int32 := [111, 102, 102, 101, 114, 0, 108, 105, 109, 105, 116, 0, 115, 104, 97, 114, 101, 0, 121, 105, 101, 108, 100, 115, 0, 116, 111, 0, 100, 97, 121, 115, 0, 111, 110, 101, 0, 111, 119, 110, 0, 104, 111, 108, 100, 115, 0, 111, 119, 110, 101, 114, 0, 98, 105, 100, 0, 108, 111, 116, 115, 0, 112, 108, 97, 105, 110, 0]
def wdF (w : Nat) : Nat := ([0, 6, 12, 18, 25, 28, 33, 37, 41, 47, 53, 57, 62] : List Nat).getD w 0
def wdS (w : Nat) : List Int32 := ([[111, 102, 102, 101, 114], [108, 105, 109, 105, 116], [115, 104, 97, 114, 101], [121, 105, 101, 108, 100, 115], [116, 111], [100, 97, 121, 115], [111, 110, 101], [111, 119, 110], [104, 111, 108, 100, 115], [111, 119, 110, 101, 114], [98, 105, 100], [108, 111, 116, 115], [112, 108, 97, 105, 110]] : List (List Int32)).getD w []
def zc (i : Nat) : Nat := ((wdL.take i).filter (fun b => b == 0)).length
def okW (wo : Nat → Int32) : Prop := ∀ j, j < 68 → wo j = wdL.getD j 0
theorem wd_fr : ∀ w, w < 13 → (∀ i, i < wdF w → zc i < w) ∧ zc (wdF w) = w ∧ wdF w < 63 := by decide +kernel
theorem zc_s : ∀ i, i < 67 → zc (i + 1) = zc i + (if wdL.getD i 0 = 0 then 1 else 0) := by decide +kernel
theorem wd_sp : ∀ w, w < 13 → (∀ i, i < (wdS w).length → wdL.getD (wdF w + i) 0 = (wdS w).getD i 0 ∧ ¬ (wdS w).getD i 0 = 0) ∧ wdL.getD (wdF w + (wdS w).length) 0 = 0 ∧ (wdS w).length ≤ 6 ∧ wdF w + (wdS w).length < 68 := by decide +kernel
def txW (W : List Int32) (f : Nat → Int32) : Nat → Int32 := fun j => if j < W.length then W.getD j 0 else f j
theorem txW_s {W : List Int32} {f : Nat → Int32} {c : Int32} : xu (txW W f) W.length c = txW (W ++ [c]) f := by
  funext j
  by_cases q : j = W.length
  · subst q
    rw [xu_s]
    simp only [txW, List.length_append, List.length_singleton]
    rw [if_pos (by omega)]
    simp [List.getD_eq_getElem?_getD]
  · rw [xu_n q]
    simp only [txW, List.length_append, List.length_singleton]
    by_cases d : j < W.length
    · rw [if_pos d, if_pos (by omega)]
      simp only [List.getD_eq_getElem?_getD]
      rw [List.getElem?_append_left d]
    · rw [if_neg d, if_neg (by omega)]
theorem txW_0 {f : Nat → Int32} : txW ([] : List Int32) f = f := by funext j; simp [txW]
set_option maxHeartbeats 1000000 in
set_option maxRecDepth 10000 in
theorem l_X8_wordFrom {v : xw_V} {κ : xk_K} {post : Option Value → xw_G → Prop} {z : Nat × Nat × Nat} {G : xw_G} {M : md_T} {te ho ow hs ra lo st av so : Nat → Int32} {bi ln : Int32} {w : Nat} (hk : xk_Ok v κ yX8_wordFrom cX8_wordFrom 4 (some .int) 0 0) (hz : xk_zf κ = z) (hM : G 21 = pM v (md_th M) (nR te ho ow hs ra lo bi st av so ln) (md_pt M) (md_re M) (md_sd M) (md_be M) (md_pb M) (md_ac M) (md_od M) (md_ad M) (md_wy M) (md_so M) (md_rl M) (md_io M) (md_po M) (md_sp M) (md_rs M) (md_st M) (md_av M) (md_ip M) (md_tx M) (md_tm M) (md_ta M) (md_td M) (md_wo M) (md_sq M) (md_tk M) (md_bg M) (md_nu M) (md_wr M)) (hwo : okW (md_wo M)) (hw : w < 13) (kx : xj v κ post z G 26 [some (.ref (xw_ad v 21 0)), some (.int (nI w)), some (.int (nI ((wdF w)))), some (.int (nI (w - zc ((wdF w)))))] []) : ∀ (m : Nat) (i : Nat), wdF w - i < m → i ≤ wdF w → xj v κ post z G 4 [some (.ref (xw_ad v 21 0)), some (.int (nI w)), some (.int (nI i)), some (.int (nI (w - zc i)))] [] := by
  intro m
  induction m with
  | zero => intro i h; exact absurd h (Nat.not_lt_zero _)
  | succ m ih =>
    intro i hm hi
    have hf := wd_fr w hw
    refine xj_iload_n (i := 3) hk dX8_wordFrom_4 rfl rfl ?_
    refine xj_if_le (tgt := 26) hk dX8_wordFrom_5 (by decide) (fun c5 => ?_) (fun c5 => ?_)
    · have c5 : w - zc i ≤ 0 := (nI_leI (a := w - zc i) (b := 0) (by omega) (by omega)).mp c5
      have e9 : i = wdF w := by
        rcases Nat.lt_or_ge i (wdF w) with q | q
        · have := hf.1 i q; omega
        · omega
      subst e9
      exact kx
    · have c5 : ¬ w - zc i ≤ 0 := fun q => c5 ((nI_leI (a := w - zc i) (b := 0) (by omega) (by omega)).mpr q)
      have hi9 : i < wdF w := by
        rcases Nat.lt_or_ge i (wdF w) with q | q
        · exact q
        · have e9 : i = wdF w := by omega
          rw [e9, hf.2.1] at c5; omega
      refine xj_aload_n (i := 0) hk dX8_wordFrom_8 rfl rfl ?_
      refine xj_getfield hk dX8_wordFrom_9 fl_X8_58 (xw_at hM rfl) rfl ?_
      refine xj_iload_n (i := 2) hk dX8_wordFrom_12 rfl rfl ?_
      refine xj_baload (k := i) hk dX8_wordFrom_13 (xw_at hM rfl) (xi_n (by omega) (by decide)) ?_
      refine xj_if_ne (tgt := 20) hk dX8_wordFrom_14 (by decide) (fun c14 => ?_) (fun c14 => ?_)
      · refine xj_iinc (i := 2) (x2 := nI (i + 1)) (ls2 := [some (.ref (xw_ad v 21 0)), some (.int (nI w)), some (.int (nI (i + 1))), some (.int (nI (w - zc i)))]) hk dX8_wordFrom_20 rfl (nI_1 i) (by decide) rfl rfl ?_
        refine xj_goto (tgt := 4) hk dX8_wordFrom_23 (by decide) ?_
        refine xj.to (ls' := [some (.ref (xw_ad v 21 0)), some (.int (nI w)), some (.int (nI ((i + 1)))), some (.int (nI (w - zc ((i + 1)))))]) (by rw [zc_s i (by omega)]; first | (rw [if_pos (show wdL.getD i 0 = 0 from by rw [← hwo i (by omega)]; exact c14), show w - zc i - 1 = w - (zc i + 1) by omega]) | (rw [if_neg (show ¬ wdL.getD i 0 = 0 from by rw [← hwo i (by omega)]; exact c14)]; rfl)) (ih (i + 1) (by omega) (by omega))
      · refine xj_iinc (i := 3) (x2 := nI (w - zc i - 1)) (ls2 := [some (.ref (xw_ad v 21 0)), some (.int (nI w)), some (.int (nI i)), some (.int (nI (w - zc i - 1)))]) hk dX8_wordFrom_17 rfl (nI_dec (by omega)) (by decide) rfl rfl ?_
        refine xj_iinc (i := 2) (x2 := nI (i + 1)) (ls2 := [some (.ref (xw_ad v 21 0)), some (.int (nI w)), some (.int (nI (i + 1))), some (.int (nI (w - zc i - 1)))]) hk dX8_wordFrom_20 rfl (nI_1 i) (by decide) rfl rfl ?_
        refine xj_goto (tgt := 4) hk dX8_wordFrom_23 (by decide) ?_
        refine xj.to (ls' := [some (.ref (xw_ad v 21 0)), some (.int (nI w)), some (.int (nI ((i + 1)))), some (.int (nI (w - zc ((i + 1)))))]) (by rw [zc_s i (by omega)]; first | (rw [if_pos (show wdL.getD i 0 = 0 from by rw [← hwo i (by omega)]; exact c14), show w - zc i - 1 = w - (zc i + 1) by omega]) | (rw [if_neg (show ¬ wdL.getD i 0 = 0 from by rw [← hwo i (by omega)]; exact c14)]; rfl)) (ih (i + 1) (by omega) (by omega))

set_option maxHeartbeats 1000000 in
set_option maxRecDepth 10000 in
theorem c_X8_wordFrom {v : xw_V} {G : xw_G} {M : md_T} {te ho ow hs ra lo st av so : Nat → Int32} {bi ln : Int32} {w : Nat} (hM : G 21 = pM v (md_th M) (nR te ho ow hs ra lo bi st av so ln) (md_pt M) (md_re M) (md_sd M) (md_be M) (md_pb M) (md_ac M) (md_od M) (md_ad M) (md_wy M) (md_so M) (md_rl M) (md_io M) (md_po M) (md_sp M) (md_rs M) (md_st M) (md_av M) (md_ip M) (md_tx M) (md_tm M) (md_ta M) (md_td M) (md_wo M) (md_sq M) (md_tk M) (md_bg M) (md_nu M) (md_wr M)) (hwo : okW (md_wo M)) (hw : w < 13) : xk_Con v yX8_wordFrom cX8_wordFrom 4 (some .int) 0 0 [.ref (xw_ad v 21 0), .int (nI w)] G (xk_ret (some (.int (nI (wdF w)))) G) := by
  refine xk_of (ls0 := [some (.ref (xw_ad v 21 0)), some (.int (nI w)), none, none]) (by decide) rfl (Nat.le_of_ble_eq_true rfl) ?_
  intro κ z hk hz
  refine xj_iconst (x := 0) hk dX8_wordFrom_0 (by decide) ?_
  refine xj_istore_n (i := 2) (ls2 := [some (.ref (xw_ad v 21 0)), some (.int (nI w)), some (.int 0), none]) hk dX8_wordFrom_1 rfl (by decide) rfl rfl ?_
  refine xj_iload_n (i := 1) hk dX8_wordFrom_2 rfl rfl ?_
  refine xj_istore_n (i := 3) (ls2 := [some (.ref (xw_ad v 21 0)), some (.int (nI w)), some (.int 0), some (.int (nI w))]) hk dX8_wordFrom_3 rfl (by decide) rfl rfl ?_
  refine xj.to (ls' := [some (.ref (xw_ad v 21 0)), some (.int (nI w)), some (.int (nI 0)), some (.int (nI (w - zc 0)))]) (by rw [show zc 0 = 0 from rfl, Nat.sub_zero]; rfl) ?_
  refine l_X8_wordFrom hk hz hM hwo hw ?_ (wdF w + 1) 0 (by omega) (by omega)
  refine xj_iload_n (i := 2) hk dX8_wordFrom_26 rfl rfl ?_
  refine xj_ireturn hk hz dX8_wordFrom_27 ?_
  exact ⟨rfl, rfl⟩


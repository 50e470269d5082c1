set_option maxHeartbeats 1000000 in
set_option maxRecDepth 10000 in
theorem c_X3_readTerm {v : xw_V} {G : xw_G} {t : tp_T} {l : Nat} {A : bk_T} {p : Nat} {ws fa : Int32} {j : Nat} (g18 : G 18 = pc_T v t) (htl : tp_le t = nI l) (hl7 : l ≤ 700) (g19 : G 19 = pR v (nI p) ws fa) (g3 : G 3 = pc_B v 3 A) (hp : p ≤ l) (hj : j < 7) : xk_Con v yX3_readTerm cX3_readTerm 2 none 3 69 [.ref (xw_ad v 19 0), .int (nI j)] G (xk_ret none (xw_up (xw_up G 19 (pR v (nI (nuE (tp_by t) l p)) ws (nuF (tp_by t) l p (st_LEAST j) (st_MOST j) fa))) 3 (pB v 3 (xu (bk_te A) j (nuV (tp_by t) l p (st_LEAST j) (st_MOST j))) (bk_ho A) (bk_ow A) (bk_hs A) (bk_ra A) (bk_lo A) (bk_bi A) (bk_st A) (bk_av A) (bk_so A) (bk_pa A) (bk_ln A)))) := by
  refine xk_of (ls0 := [some (.ref (xw_ad v 19 0)), some (.int (nI j))]) (by decide) rfl (Nat.le_of_ble_eq_true rfl) ?_
  intro κ z hk hz
  refine xj_iload_n (i := 1) hk dX3_readTerm_0 rfl rfl ?_
  refine xj_if_lt (tgt := 33) hk dX3_readTerm_1 (by decide) (fun c1 => ?_) (fun c1 => ?_)
  · exact absurd c1 (nI_pos (by omega))
  · refine xj_iload_n (i := 1) hk dX3_readTerm_4 rfl rfl ?_
    refine xj_bipush (x := 7) hk dX3_readTerm_5 (by decide) ?_
    refine xj_icmp_ge (tgt := 33) hk dX3_readTerm_7 (by decide) (fun c7 => ?_) (fun c7 => ?_)
    · exact absurd ((nI_leI (a := 7) (b := j) (by decide) (by omega)).mp c7) (by omega)
    · refine xj_aload_n (i := 0) hk dX3_readTerm_10 rfl rfl ?_
      refine xj_getfield hk dX3_readTerm_11 fl_X3_15 (xw_at g19 rfl) rfl ?_
      refine xj_getfield hk dX3_readTerm_14 fl_X3_71 (xw_at g3 rfl) rfl ?_
      refine xj_iload_n (i := 1) hk dX3_readTerm_17 rfl rfl ?_
      refine xj_aload_n (i := 0) hk dX3_readTerm_18 rfl rfl ?_
      refine xj_getstat (q := xk_stats[1]) hk (List.getElem_mem _) dX3_readTerm_19 sl_X3_107 ?_
      refine xj_iload_n (i := 1) hk dX3_readTerm_22 rfl rfl ?_
      refine xj_staload (q := xk_stats[1]) (k := j) hk (List.getElem_mem _) dX3_readTerm_23 (show xi (nI j) j 7 from (xi_n (by omega) (by decide))) ?_
      refine xj.eqi (x' := st_LEAST j) rfl ?_
      refine xj_getstat (q := xk_stats[2]) hk (List.getElem_mem _) dX3_readTerm_24 sl_X3_110 ?_
      refine xj_iload_n (i := 1) hk dX3_readTerm_27 rfl rfl ?_
      refine xj_staload (q := xk_stats[2]) (k := j) hk (List.getElem_mem _) dX3_readTerm_28 (show xi (nI j) j 7 from (xi_n (by omega) (by decide))) ?_
      refine xj.eqi (x' := st_MOST j) rfl ?_
      refine xj_callV hk hz (fr1 := 2) (lo1 := 43) (r1 := some (.int (nuV (tp_by t) l p (st_LEAST j) (st_MOST j)))) (As := [.int (st_LEAST j), .int (st_MOST j)]) (st := [.int (nI j), .ref (xw_ad v 3 1)]) (st2 := [.int (nuV (tp_by t) l p (st_LEAST j) (st_MOST j)), .int (nI j), .ref (xw_ad v 3 1)]) (G1 := xw_up G 19 (pR v (nI (nuE (tp_by t) l p)) ws (nuF (tp_by t) l p (st_LEAST j) (st_MOST j) fa))) ml_X3_113 (c_X3_readNumber (p := p) (ws := ws) (fa := fa) (show G 18 = pc_T v t from g18) htl hl7 (show G 19 = pR v (nI p) ws fa from g19) (by omega) (st_LEAST j) (st_MOST j)) (xw_at g19 rfl) rfl dX3_readTerm_29 ⟨Nat.le_of_ble_eq_true rfl, Nat.le_of_ble_eq_true rfl⟩ rfl (Nat.le_of_ble_eq_true rfl) rfl rfl ?_
      refine xj_iastore (k := j) (G2 := xw_up (xw_up G 19 (pR v (nI (nuE (tp_by t) l p)) ws (nuF (tp_by t) l p (st_LEAST j) (st_MOST j) fa))) 3 (pB v 3 (xu (bk_te A) j (nuV (tp_by t) l p (st_LEAST j) (st_MOST j))) (bk_ho A) (bk_ow A) (bk_hs A) (bk_ra A) (bk_lo A) (bk_bi A) (bk_st A) (bk_av A) (bk_so A) (bk_pa A) (bk_ln A))) hk dX3_readTerm_32 (xw_at (show (xw_up G 19 (pR v (nI (nuE (tp_by t) l p)) ws (nuF (tp_by t) l p (st_LEAST j) (st_MOST j) fa))) 3 = pc_B v 3 A from by rw [xw_up_n (by decide), g3]) rfl) (xi_n (by omega) (by decide)) (xw_wr (show (xw_up G 19 (pR v (nI (nuE (tp_by t) l p)) ws (nuF (tp_by t) l p (st_LEAST j) (st_MOST j) fa))) 3 = pc_B v 3 A from by rw [xw_up_n (by decide), g3]) rfl) ?_
      refine xj_return hk hz dX3_readTerm_33 ?_
      exact ⟨rfl, rfl⟩

def yP1 (f : Nat → Int32) (l p : Nat) : Nat := nuE f l p
def yV1 (f : Nat → Int32) (l p : Nat) : Int32 := nuV f l p 0 999
def yE2 (f : Nat → Int32) (l p : Nat) : Nat := wdE f l (nuE f l p)
def yV2 (f : Nat → Int32) (l p : Nat) : Int32 := nuV f l (yE2 f l p) (yV1 f l p) 999
def exF (f : Nat → Int32) (l p : Nat) (L : List Int32) (fa : Int32) : Int32 := if wIs f (sbk f l p) (wdE f l p) L = true then fa else ffa fa (nI (sbk f l p))
def yFa (f : Nat → Int32) (l p : Nat) (fa : Int32) : Int32 := nuF f l (yE2 f l p) (yV1 f l p) 999 (exF f l (nuE f l p) S4.2.2.2.2 (nuF f l p 0 999 fa))
theorem yE_le {f : Nat → Int32} {l p : Nat} (h : p ≤ l) : p ≤ nuE f l p ∧ nuE f l p ≤ l ∧ nuE f l p ≤ yE2 f l p ∧ yE2 f l p ≤ l := by
  have a := nuE_le (f := f) h
  have a2 := sbk_le (f := f) h
  have b := wdE_le (f := f) a.2
  have b2 := sbk_le (f := f) a.2
  simp only [yE2]
  omega
set_option maxHeartbeats 1000000 in
set_option maxRecDepth 10000 in
theorem c_X3_readYields {v : xw_V} {G : xw_G} {t : tp_T} {l : Nat} {A : bk_T} {p : Nat} {ws fa : Int32} (g18 : G 18 = pc_T v t) (htl : tp_le t = nI l) (hl7 : l ≤ 700) (g19 : G 19 = pR v (nI p) ws fa) (g3 : G 3 = pc_B v 3 A) (hp : p ≤ l) : xk_Con v yX3_readYields cX3_readYields 2 none 7 149 [.ref (xw_ad v 19 0)] G (xk_ret none (xw_up (xw_up G 19 (pR v (nI (nuE (tp_by t) l (yE2 (tp_by t) l p))) (nI (sbk (tp_by t) l (nuE (tp_by t) l p))) (yFa (tp_by t) l p fa))) 3 (pB v 3 (xu (xu (bk_te A) 4 (yV2 (tp_by t) l p)) 3 (yV1 (tp_by t) l p)) (bk_ho A) (bk_ow A) (bk_hs A) (bk_ra A) (bk_lo A) (bk_bi A) (bk_st A) (bk_av A) (bk_so A) (bk_pa A) (bk_ln A)))) := by
  refine xk_of (ls0 := [some (.ref (xw_ad v 19 0)), none]) (by decide) rfl (Nat.le_of_ble_eq_true rfl) ?_
  intro κ z hk hz
  have hy := yE_le (f := tp_by t) hp
  simp only [yE2] at hy
  refine xj_aload_n (i := 0) hk dX3_readYields_0 rfl rfl ?_
  refine xj_iconst (x := 0) hk dX3_readYields_1 (by decide) ?_
  refine xj_sipush (x := 999) hk dX3_readYields_2 (by decide) ?_
  refine xj_callV hk hz (fr1 := 2) (lo1 := 43) (r1 := some (.int (nuV (tp_by t) l p 0 999))) (As := [.int 0, .int 999]) (st := []) (st2 := [.int (nuV (tp_by t) l p 0 999)]) (G1 := xw_up G 19 (pR v (nI (nuE (tp_by t) l p)) ws (nuF (tp_by t) l p 0 999 fa))) ml_X3_113 (c_X3_readNumber (p := p) (ws := ws) (fa := fa) (show G 18 = pc_T v t from g18) htl hl7 (show G 19 = pR v (nI p) ws fa from g19) (by omega) 0 999) (xw_at g19 rfl) rfl dX3_readYields_5 ⟨Nat.le_of_ble_eq_true rfl, Nat.le_of_ble_eq_true rfl⟩ rfl (Nat.le_of_ble_eq_true rfl) rfl rfl ?_
  refine xj_istore_n (i := 1) (ls2 := [some (.ref (xw_ad v 19 0)), some (.int (nuV (tp_by t) l p 0 999))]) hk dX3_readYields_8 rfl (by decide) rfl rfl ?_
  refine xj_aload_n (i := 0) hk dX3_readYields_9 rfl rfl ?_
  refine xj_ldcS hk (q := S4) S4_in rfl dX3_readYields_10 ?_
  refine xj_callV hk hz (fr1 := 6) (lo1 := 128) (r1 := none) (As := [.ref (xw_ad v (40 + S4.1) 0)]) (st := []) (st2 := []) (G1 := xw_up G 19 (pR v (nI (wdE (tp_by t) l (nuE (tp_by t) l p))) (nI (sbk (tp_by t) l (nuE (tp_by t) l p))) (if wIs (tp_by t) (sbk (tp_by t) l (nuE (tp_by t) l p)) (wdE (tp_by t) l (nuE (tp_by t) l p)) S4.2.2.2.2 = true then nuF (tp_by t) l p 0 999 fa else ffa (nuF (tp_by t) l p 0 999 fa) (nI (sbk (tp_by t) l (nuE (tp_by t) l p)))))) ml_X3_119 (xk_cg (by rw [xw_up_u] <;> rfl) (c_X3_expectWord (p := nuE (tp_by t) l p) (ws := ws) (fa := nuF (tp_by t) l p 0 999 fa) (q := S4) (show (xw_up G 19 (pR v (nI (nuE (tp_by t) l p)) ws (nuF (tp_by t) l p 0 999 fa))) 18 = pc_T v t from (show (xw_up G 19 (pR v (nI (nuE (tp_by t) l p)) ws (nuF (tp_by t) l p 0 999 fa))) 18 = pc_T v t from by rw [xw_up_n (by decide), g18])) htl hl7 (show (xw_up G 19 (pR v (nI (nuE (tp_by t) l p)) ws (nuF (tp_by t) l p 0 999 fa))) 19 = pR v (nI (nuE (tp_by t) l p)) ws (nuF (tp_by t) l p 0 999 fa) from xw_up_s) S4_in (by omega))) (xw_at xw_up_s rfl) rfl dX3_readYields_12 ⟨Nat.le_of_ble_eq_true rfl, Nat.le_of_ble_eq_true rfl⟩ rfl (Nat.le_of_ble_eq_true rfl) rfl rfl ?_
  refine xj_aload_n (i := 0) hk dX3_readYields_15 rfl rfl ?_
  refine xj_getfield hk dX3_readYields_16 fl_X3_15 (xw_at xw_up_s rfl) rfl ?_
  refine xj_getfield hk dX3_readYields_19 fl_X3_71 (xw_at (show (xw_up G 19 (pR v (nI (wdE (tp_by t) l (nuE (tp_by t) l p))) (nI (sbk (tp_by t) l (nuE (tp_by t) l p))) (if wIs (tp_by t) (sbk (tp_by t) l (nuE (tp_by t) l p)) (wdE (tp_by t) l (nuE (tp_by t) l p)) S4.2.2.2.2 = true then nuF (tp_by t) l p 0 999 fa else ffa (nuF (tp_by t) l p 0 999 fa) (nI (sbk (tp_by t) l (nuE (tp_by t) l p)))))) 3 = pc_B v 3 A from by rw [xw_up_n (by decide), g3]) rfl) rfl ?_
  refine xj_iconst (x := 4) hk dX3_readYields_22 (by decide) ?_
  refine xj_aload_n (i := 0) hk dX3_readYields_23 rfl rfl ?_
  refine xj_iload_n (i := 1) hk dX3_readYields_24 rfl rfl ?_
  refine xj_sipush (x := 999) hk dX3_readYields_25 (by decide) ?_
  refine xj_callV hk hz (fr1 := 2) (lo1 := 43) (r1 := some (.int (nuV (tp_by t) l (wdE (tp_by t) l (nuE (tp_by t) l p)) (nuV (tp_by t) l p 0 999) 999))) (As := [.int (nuV (tp_by t) l p 0 999), .int 999]) (st := [.int 4, .ref (xw_ad v 3 1)]) (st2 := [.int (nuV (tp_by t) l (wdE (tp_by t) l (nuE (tp_by t) l p)) (nuV (tp_by t) l p 0 999) 999), .int 4, .ref (xw_ad v 3 1)]) (G1 := xw_up G 19 (pR v (nI (nuE (tp_by t) l (wdE (tp_by t) l (nuE (tp_by t) l p)))) (nI (sbk (tp_by t) l (nuE (tp_by t) l p))) (nuF (tp_by t) l (wdE (tp_by t) l (nuE (tp_by t) l p)) (nuV (tp_by t) l p 0 999) 999 (if wIs (tp_by t) (sbk (tp_by t) l (nuE (tp_by t) l p)) (wdE (tp_by t) l (nuE (tp_by t) l p)) S4.2.2.2.2 = true then nuF (tp_by t) l p 0 999 fa else ffa (nuF (tp_by t) l p 0 999 fa) (nI (sbk (tp_by t) l (nuE (tp_by t) l p))))))) ml_X3_113 (xk_cg (by rw [xw_up_u] <;> rfl) (c_X3_readNumber (p := wdE (tp_by t) l (nuE (tp_by t) l p)) (ws := nI (sbk (tp_by t) l (nuE (tp_by t) l p))) (fa := if wIs (tp_by t) (sbk (tp_by t) l (nuE (tp_by t) l p)) (wdE (tp_by t) l (nuE (tp_by t) l p)) S4.2.2.2.2 = true then nuF (tp_by t) l p 0 999 fa else ffa (nuF (tp_by t) l p 0 999 fa) (nI (sbk (tp_by t) l (nuE (tp_by t) l p)))) (show (xw_up G 19 (pR v (nI (wdE (tp_by t) l (nuE (tp_by t) l p))) (nI (sbk (tp_by t) l (nuE (tp_by t) l p))) (if wIs (tp_by t) (sbk (tp_by t) l (nuE (tp_by t) l p)) (wdE (tp_by t) l (nuE (tp_by t) l p)) S4.2.2.2.2 = true then nuF (tp_by t) l p 0 999 fa else ffa (nuF (tp_by t) l p 0 999 fa) (nI (sbk (tp_by t) l (nuE (tp_by t) l p)))))) 18 = pc_T v t from (show (xw_up G 19 (pR v (nI (wdE (tp_by t) l (nuE (tp_by t) l p))) (nI (sbk (tp_by t) l (nuE (tp_by t) l p))) (if wIs (tp_by t) (sbk (tp_by t) l (nuE (tp_by t) l p)) (wdE (tp_by t) l (nuE (tp_by t) l p)) S4.2.2.2.2 = true then nuF (tp_by t) l p 0 999 fa else ffa (nuF (tp_by t) l p 0 999 fa) (nI (sbk (tp_by t) l (nuE (tp_by t) l p)))))) 18 = pc_T v t from by rw [xw_up_n (by decide), g18])) htl hl7 (show (xw_up G 19 (pR v (nI (wdE (tp_by t) l (nuE (tp_by t) l p))) (nI (sbk (tp_by t) l (nuE (tp_by t) l p))) (if wIs (tp_by t) (sbk (tp_by t) l (nuE (tp_by t) l p)) (wdE (tp_by t) l (nuE (tp_by t) l p)) S4.2.2.2.2 = true then nuF (tp_by t) l p 0 999 fa else ffa (nuF (tp_by t) l p 0 999 fa) (nI (sbk (tp_by t) l (nuE (tp_by t) l p)))))) 19 = pR v (nI (wdE (tp_by t) l (nuE (tp_by t) l p))) (nI (sbk (tp_by t) l (nuE (tp_by t) l p))) (if wIs (tp_by t) (sbk (tp_by t) l (nuE (tp_by t) l p)) (wdE (tp_by t) l (nuE (tp_by t) l p)) S4.2.2.2.2 = true then nuF (tp_by t) l p 0 999 fa else ffa (nuF (tp_by t) l p 0 999 fa) (nI (sbk (tp_by t) l (nuE (tp_by t) l p)))) from xw_up_s) (by omega) (nuV (tp_by t) l p 0 999) 999)) (xw_at xw_up_s rfl) rfl dX3_readYields_28 ⟨Nat.le_of_ble_eq_true rfl, Nat.le_of_ble_eq_true rfl⟩ rfl (Nat.le_of_ble_eq_true rfl) rfl rfl ?_
  refine xj_iastore (k := 4) (G2 := xw_up (xw_up G 19 (pR v (nI (nuE (tp_by t) l (wdE (tp_by t) l (nuE (tp_by t) l p)))) (nI (sbk (tp_by t) l (nuE (tp_by t) l p))) (nuF (tp_by t) l (wdE (tp_by t) l (nuE (tp_by t) l p)) (nuV (tp_by t) l p 0 999) 999 (if wIs (tp_by t) (sbk (tp_by t) l (nuE (tp_by t) l p)) (wdE (tp_by t) l (nuE (tp_by t) l p)) S4.2.2.2.2 = true then nuF (tp_by t) l p 0 999 fa else ffa (nuF (tp_by t) l p 0 999 fa) (nI (sbk (tp_by t) l (nuE (tp_by t) l p))))))) 3 (pB v 3 (xu (bk_te A) 4 (nuV (tp_by t) l (wdE (tp_by t) l (nuE (tp_by t) l p)) (nuV (tp_by t) l p 0 999) 999)) (bk_ho A) (bk_ow A) (bk_hs A) (bk_ra A) (bk_lo A) (bk_bi A) (bk_st A) (bk_av A) (bk_so A) (bk_pa A) (bk_ln A))) hk dX3_readYields_31 (xw_at (show (xw_up G 19 (pR v (nI (nuE (tp_by t) l (wdE (tp_by t) l (nuE (tp_by t) l p)))) (nI (sbk (tp_by t) l (nuE (tp_by t) l p))) (nuF (tp_by t) l (wdE (tp_by t) l (nuE (tp_by t) l p)) (nuV (tp_by t) l p 0 999) 999 (if wIs (tp_by t) (sbk (tp_by t) l (nuE (tp_by t) l p)) (wdE (tp_by t) l (nuE (tp_by t) l p)) S4.2.2.2.2 = true then nuF (tp_by t) l p 0 999 fa else ffa (nuF (tp_by t) l p 0 999 fa) (nI (sbk (tp_by t) l (nuE (tp_by t) l p))))))) 3 = pc_B v 3 A from by rw [xw_up_n (by decide), g3]) rfl) (xi_d 4 7 (by decide)) (xw_wr (show (xw_up G 19 (pR v (nI (nuE (tp_by t) l (wdE (tp_by t) l (nuE (tp_by t) l p)))) (nI (sbk (tp_by t) l (nuE (tp_by t) l p))) (nuF (tp_by t) l (wdE (tp_by t) l (nuE (tp_by t) l p)) (nuV (tp_by t) l p 0 999) 999 (if wIs (tp_by t) (sbk (tp_by t) l (nuE (tp_by t) l p)) (wdE (tp_by t) l (nuE (tp_by t) l p)) S4.2.2.2.2 = true then nuF (tp_by t) l p 0 999 fa else ffa (nuF (tp_by t) l p 0 999 fa) (nI (sbk (tp_by t) l (nuE (tp_by t) l p))))))) 3 = pc_B v 3 A from by rw [xw_up_n (by decide), g3]) rfl) ?_
  refine xj_aload_n (i := 0) hk dX3_readYields_32 rfl rfl ?_
  refine xj_getfield hk dX3_readYields_33 fl_X3_15 (xw_at (show (xw_up (xw_up G 19 (pR v (nI (nuE (tp_by t) l (wdE (tp_by t) l (nuE (tp_by t) l p)))) (nI (sbk (tp_by t) l (nuE (tp_by t) l p))) (nuF (tp_by t) l (wdE (tp_by t) l (nuE (tp_by t) l p)) (nuV (tp_by t) l p 0 999) 999 (if wIs (tp_by t) (sbk (tp_by t) l (nuE (tp_by t) l p)) (wdE (tp_by t) l (nuE (tp_by t) l p)) S4.2.2.2.2 = true then nuF (tp_by t) l p 0 999 fa else ffa (nuF (tp_by t) l p 0 999 fa) (nI (sbk (tp_by t) l (nuE (tp_by t) l p))))))) 3 (pB v 3 (xu (bk_te A) 4 (nuV (tp_by t) l (wdE (tp_by t) l (nuE (tp_by t) l p)) (nuV (tp_by t) l p 0 999) 999)) (bk_ho A) (bk_ow A) (bk_hs A) (bk_ra A) (bk_lo A) (bk_bi A) (bk_st A) (bk_av A) (bk_so A) (bk_pa A) (bk_ln A))) 19 = pR v (nI (nuE (tp_by t) l (wdE (tp_by t) l (nuE (tp_by t) l p)))) (nI (sbk (tp_by t) l (nuE (tp_by t) l p))) (nuF (tp_by t) l (wdE (tp_by t) l (nuE (tp_by t) l p)) (nuV (tp_by t) l p 0 999) 999 (if wIs (tp_by t) (sbk (tp_by t) l (nuE (tp_by t) l p)) (wdE (tp_by t) l (nuE (tp_by t) l p)) S4.2.2.2.2 = true then nuF (tp_by t) l p 0 999 fa else ffa (nuF (tp_by t) l p 0 999 fa) (nI (sbk (tp_by t) l (nuE (tp_by t) l p))))) from by rw [xw_up_n (by decide), xw_up_s]) rfl) rfl ?_
  refine xj_getfield hk dX3_readYields_36 fl_X3_71 (xw_at xw_up_s rfl) rfl ?_
  refine xj_iconst (x := 3) hk dX3_readYields_39 (by decide) ?_
  refine xj_iload_n (i := 1) hk dX3_readYields_40 rfl rfl ?_
  refine xj_iastore (k := 3) (G2 := xw_up (xw_up G 19 (pR v (nI (nuE (tp_by t) l (wdE (tp_by t) l (nuE (tp_by t) l p)))) (nI (sbk (tp_by t) l (nuE (tp_by t) l p))) (nuF (tp_by t) l (wdE (tp_by t) l (nuE (tp_by t) l p)) (nuV (tp_by t) l p 0 999) 999 (if wIs (tp_by t) (sbk (tp_by t) l (nuE (tp_by t) l p)) (wdE (tp_by t) l (nuE (tp_by t) l p)) S4.2.2.2.2 = true then nuF (tp_by t) l p 0 999 fa else ffa (nuF (tp_by t) l p 0 999 fa) (nI (sbk (tp_by t) l (nuE (tp_by t) l p))))))) 3 (pB v 3 (xu (xu (bk_te A) 4 (nuV (tp_by t) l (wdE (tp_by t) l (nuE (tp_by t) l p)) (nuV (tp_by t) l p 0 999) 999)) 3 (nuV (tp_by t) l p 0 999)) (bk_ho A) (bk_ow A) (bk_hs A) (bk_ra A) (bk_lo A) (bk_bi A) (bk_st A) (bk_av A) (bk_so A) (bk_pa A) (bk_ln A))) hk dX3_readYields_41 (xw_at xw_up_s rfl) (xi_d 3 7 (by decide)) (xw_wr2 rfl) ?_
  refine xj_return hk hz dX3_readYields_42 ?_
  exact ⟨rfl, rfl⟩

theorem nuV_in {f : Nat → Int32} {l p : Nat} {lo hi : Int32} (h : lo ≤ hi) : lo ≤ nuV f l p lo hi ∧ nuV f l p lo hi ≤ hi := by
  simp only [nuV]
  by_cases c : okN f (sbk f l p) (nuE f l p) lo hi = true
  · rw [if_pos c]
    simp only [okN, Bool.and_eq_true, Bool.not_eq_true', decide_eq_false_iff_not, decide_eq_true_eq] at c
    exact ⟨Int32.not_lt.mp c.1.2, c.2⟩
  · rw [if_neg c]; exact ⟨Int32.le_rfl, h⟩
def pFa (f : Nat → Int32) (l p : Nat) (mx fa : Int32) : Int32 := nuF f l (nuE f l p) 0 mx (nuF f l p 0 7 fa)
def pRow (f : Nat → Int32) (l p : Nat) (mx fa : Int32) (g : Nat → Int32) : Nat → Int32 := if pFa f l p mx fa = -1 then xu g (xn (nuV f l p 0 7)) (nuV f l (nuE f l p) 0 mx) else g
theorem hs_xi {x : Int32} (h0 : 0 ≤ x) (h7 : x ≤ 7) : xi x (xn x) 8 := ⟨rfl, Int32.not_lt.mpr h0, by have := xn_le h0 h7; rw [show xn 7 = 7 from rfl] at this; omega⟩
set_option maxHeartbeats 1000000 in
set_option maxRecDepth 10000 in
theorem c_readPairH {v : xw_V} {G : xw_G} {t : tp_T} {l : Nat} {A : bk_T} {p : Nat} {ws fa : Int32} (g18 : G 18 = pc_T v t) (htl : tp_le t = nI l) (hl7 : l ≤ 700) (g19 : G 19 = pR v (nI p) ws fa) (g3 : G 3 = pc_B v 3 A) (hp : p ≤ l) (x2 : Int32) : xk_Con v yX3_readPair cX3_readPair 5 none 3 69 [.ref (xw_ad v 19 0), .ref (xw_ad v 3 2), .int x2] G (xk_ret none (xw_up (xw_up G 19 (pR v (nI (nuE (tp_by t) l (nuE (tp_by t) l p))) ws (pFa (tp_by t) l p x2 fa))) 3 (pB v 3 (bk_te A) (pRow (tp_by t) l p x2 fa (bk_ho A)) (bk_ow A) (bk_hs A) (bk_ra A) (bk_lo A) (bk_bi A) (bk_st A) (bk_av A) (bk_so A) (bk_pa A) (bk_ln A)))) := by
  refine xk_of (ls0 := [some (.ref (xw_ad v 19 0)), some (.ref (xw_ad v 3 2)), some (.int x2), none, none]) (by decide) rfl (Nat.le_of_ble_eq_true rfl) ?_
  intro κ z hk hz
  have hy := nuE_le (f := tp_by t) hp
  have hv9 := nuV_in (f := tp_by t) (l := l) (p := p) (lo := 0) (hi := 7) (by decide)
  have hh0 := hs_xi hv9.1 hv9.2
  have hh8 : nuV (tp_by t) l p 0 7 < 8 := Int32.lt_of_le_of_lt hv9.2 (by decide)
  refine xj_aload_n (i := 0) hk dX3_readPair_0 rfl rfl ?_
  refine xj_iconst (x := 0) hk dX3_readPair_1 (by decide) ?_
  refine xj_bipush (x := 7) hk dX3_readPair_2 (by decide) ?_
  refine xj_callV hk hz (fr1 := 2) (lo1 := 43) (r1 := some (.int (nuV (tp_by t) l p 0 7))) (As := [.int 0, .int 7]) (st := []) (st2 := [.int (nuV (tp_by t) l p 0 7)]) (G1 := xw_up G 19 (pR v (nI (nuE (tp_by t) l p)) ws (nuF (tp_by t) l p 0 7 fa))) ml_X3_113 (c_X3_readNumber (p := p) (ws := ws) (fa := fa) (show G 18 = pc_T v t from g18) htl hl7 (show G 19 = pR v (nI p) ws fa from g19) (by omega) 0 7) (xw_at g19 rfl) rfl dX3_readPair_4 ⟨Nat.le_of_ble_eq_true rfl, Nat.le_of_ble_eq_true rfl⟩ rfl (Nat.le_of_ble_eq_true rfl) rfl rfl ?_
  refine xj_istore_n (i := 3) (ls2 := [some (.ref (xw_ad v 19 0)), some (.ref (xw_ad v 3 2)), some (.int x2), some (.int (nuV (tp_by t) l p 0 7)), none]) hk dX3_readPair_7 rfl (by decide) rfl rfl ?_
  refine xj_aload_n (i := 0) hk dX3_readPair_8 rfl rfl ?_
  refine xj_iconst (x := 0) hk dX3_readPair_9 (by decide) ?_
  refine xj_iload_n (i := 2) hk dX3_readPair_10 rfl rfl ?_
  refine xj_callV hk hz (fr1 := 2) (lo1 := 43) (r1 := some (.int (nuV (tp_by t) l (nuE (tp_by t) l p) 0 x2))) (As := [.int 0, .int x2]) (st := []) (st2 := [.int (nuV (tp_by t) l (nuE (tp_by t) l p) 0 x2)]) (G1 := xw_up G 19 (pR v (nI (nuE (tp_by t) l (nuE (tp_by t) l p))) ws (nuF (tp_by t) l (nuE (tp_by t) l p) 0 x2 (nuF (tp_by t) l p 0 7 fa)))) ml_X3_113 (xk_cg (by rw [xw_up_u] <;> rfl) (c_X3_readNumber (p := nuE (tp_by t) l p) (ws := ws) (fa := nuF (tp_by t) l p 0 7 fa) (show (xw_up G 19 (pR v (nI (nuE (tp_by t) l p)) ws (nuF (tp_by t) l p 0 7 fa))) 18 = pc_T v t from (show (xw_up G 19 (pR v (nI (nuE (tp_by t) l p)) ws (nuF (tp_by t) l p 0 7 fa))) 18 = pc_T v t from by rw [xw_up_n (by decide), g18])) htl hl7 (show (xw_up G 19 (pR v (nI (nuE (tp_by t) l p)) ws (nuF (tp_by t) l p 0 7 fa))) 19 = pR v (nI (nuE (tp_by t) l p)) ws (nuF (tp_by t) l p 0 7 fa) from xw_up_s) (by omega) 0 x2)) (xw_at xw_up_s rfl) rfl dX3_readPair_11 ⟨Nat.le_of_ble_eq_true rfl, Nat.le_of_ble_eq_true rfl⟩ rfl (Nat.le_of_ble_eq_true rfl) rfl rfl ?_
  refine xj_istore (i := 4) (ls2 := [some (.ref (xw_ad v 19 0)), some (.ref (xw_ad v 3 2)), some (.int x2), some (.int (nuV (tp_by t) l p 0 7)), some (.int (nuV (tp_by t) l (nuE (tp_by t) l p) 0 x2))]) hk dX3_readPair_14 (by decide) rfl rfl ?_
  refine xj_iload_n (i := 3) hk dX3_readPair_16 rfl rfl ?_
  refine xj_if_lt (tgt := 39) hk dX3_readPair_17 (by decide) (fun c17 => ?_) (fun c17 => ?_)
  · refine xj_return hk hz dX3_readPair_39 ?_
    exact absurd hh0.2.1 (fun q => q c17)
  · refine xj_iload_n (i := 3) hk dX3_readPair_20 rfl rfl ?_
    refine xj_aload_n (i := 1) hk dX3_readPair_21 rfl rfl ?_
    refine xj_alen hk dX3_readPair_22 (xw_at (show (xw_up G 19 (pR v (nI (nuE (tp_by t) l (nuE (tp_by t) l p))) ws (nuF (tp_by t) l (nuE (tp_by t) l p) 0 x2 (nuF (tp_by t) l p 0 7 fa)))) 3 = pc_B v 3 A from by rw [xw_up_n (by decide), g3]) rfl) ?_
    refine xj_icmp_ge (tgt := 39) hk dX3_readPair_23 (by decide) (fun c23 => ?_) (fun c23 => ?_)
    · refine xj_return hk hz dX3_readPair_39 ?_
      exact absurd c23 (Int32.not_le.mpr hh8)
    · refine xj_aload_n (i := 0) hk dX3_readPair_26 rfl rfl ?_
      refine xj_getfield hk dX3_readPair_27 fl_X3_28 (xw_at xw_up_s rfl) rfl ?_
      refine xj_iconst (x := (-1)) hk dX3_readPair_30 (by decide) ?_
      refine xj_icmp_ne (tgt := 39) hk dX3_readPair_31 (by decide) (fun c31 => ?_) (fun c31 => ?_)
      · refine xj_return hk hz dX3_readPair_39 ?_
        refine ⟨rfl, ?_⟩
        simp only [pRow]
        rw [if_neg (show ¬ pFa (tp_by t) l p x2 fa = -1 from c31)]
        exact (xw_up_same (show (xw_up G 19 (pR v (nI (nuE (tp_by t) l (nuE (tp_by t) l p))) ws (nuF (tp_by t) l (nuE (tp_by t) l p) 0 x2 (nuF (tp_by t) l p 0 7 fa)))) 3 = pc_B v 3 A from by rw [xw_up_n (by decide), g3])).symm
      · refine xj_aload_n (i := 1) hk dX3_readPair_34 rfl rfl ?_
        refine xj_iload_n (i := 3) hk dX3_readPair_35 rfl rfl ?_
        refine xj_iload hk dX3_readPair_36 rfl ?_
        refine xj_iastore (k := xn (nuV (tp_by t) l p 0 7)) (G2 := xw_up (xw_up G 19 (pR v (nI (nuE (tp_by t) l (nuE (tp_by t) l p))) ws (nuF (tp_by t) l (nuE (tp_by t) l p) 0 x2 (nuF (tp_by t) l p 0 7 fa)))) 3 (pB v 3 (bk_te A) (xu (bk_ho A) (xn (nuV (tp_by t) l p 0 7)) (nuV (tp_by t) l (nuE (tp_by t) l p) 0 x2)) (bk_ow A) (bk_hs A) (bk_ra A) (bk_lo A) (bk_bi A) (bk_st A) (bk_av A) (bk_so A) (bk_pa A) (bk_ln A))) hk dX3_readPair_38 (xw_at (show (xw_up G 19 (pR v (nI (nuE (tp_by t) l (nuE (tp_by t) l p))) ws (nuF (tp_by t) l (nuE (tp_by t) l p) 0 x2 (nuF (tp_by t) l p 0 7 fa)))) 3 = pc_B v 3 A from by rw [xw_up_n (by decide), g3]) rfl) hh0 (xw_wr (show (xw_up G 19 (pR v (nI (nuE (tp_by t) l (nuE (tp_by t) l p))) ws (nuF (tp_by t) l (nuE (tp_by t) l p) 0 x2 (nuF (tp_by t) l p 0 7 fa)))) 3 = pc_B v 3 A from by rw [xw_up_n (by decide), g3]) rfl) ?_
        refine xj_return hk hz dX3_readPair_39 ?_
        refine ⟨rfl, ?_⟩
        simp only [pRow]
        rw [if_pos (show pFa (tp_by t) l p x2 fa = -1 from c31)]
        rfl

set_option maxHeartbeats 1000000 in
set_option maxRecDepth 10000 in
theorem c_readPairO {v : xw_V} {G : xw_G} {t : tp_T} {l : Nat} {A : bk_T} {p : Nat} {ws fa : Int32} (g18 : G 18 = pc_T v t) (htl : tp_le t = nI l) (hl7 : l ≤ 700) (g19 : G 19 = pR v (nI p) ws fa) (g3 : G 3 = pc_B v 3 A) (hp : p ≤ l) (x2 : Int32) : xk_Con v yX3_readPair cX3_readPair 5 none 3 69 [.ref (xw_ad v 19 0), .ref (xw_ad v 3 3), .int x2] G (xk_ret none (xw_up (xw_up G 19 (pR v (nI (nuE (tp_by t) l (nuE (tp_by t) l p))) ws (pFa (tp_by t) l p x2 fa))) 3 (pB v 3 (bk_te A) (bk_ho A) (pRow (tp_by t) l p x2 fa (bk_ow A)) (bk_hs A) (bk_ra A) (bk_lo A) (bk_bi A) (bk_st A) (bk_av A) (bk_so A) (bk_pa A) (bk_ln A)))) := by
  refine xk_of (ls0 := [some (.ref (xw_ad v 19 0)), some (.ref (xw_ad v 3 3)), some (.int x2), none, none]) (by decide) rfl (Nat.le_of_ble_eq_true rfl) ?_
  intro κ z hk hz
  have hy := nuE_le (f := tp_by t) hp
  have hv9 := nuV_in (f := tp_by t) (l := l) (p := p) (lo := 0) (hi := 7) (by decide)
  have hh0 := hs_xi hv9.1 hv9.2
  have hh8 : nuV (tp_by t) l p 0 7 < 8 := Int32.lt_of_le_of_lt hv9.2 (by decide)
  refine xj_aload_n (i := 0) hk dX3_readPair_0 rfl rfl ?_
  refine xj_iconst (x := 0) hk dX3_readPair_1 (by decide) ?_
  refine xj_bipush (x := 7) hk dX3_readPair_2 (by decide) ?_
  refine xj_callV hk hz (fr1 := 2) (lo1 := 43) (r1 := some (.int (nuV (tp_by t) l p 0 7))) (As := [.int 0, .int 7]) (st := []) (st2 := [.int (nuV (tp_by t) l p 0 7)]) (G1 := xw_up G 19 (pR v (nI (nuE (tp_by t) l p)) ws (nuF (tp_by t) l p 0 7 fa))) ml_X3_113 (c_X3_readNumber (p := p) (ws := ws) (fa := fa) (show G 18 = pc_T v t from g18) htl hl7 (show G 19 = pR v (nI p) ws fa from g19) (by omega) 0 7) (xw_at g19 rfl) rfl dX3_readPair_4 ⟨Nat.le_of_ble_eq_true rfl, Nat.le_of_ble_eq_true rfl⟩ rfl (Nat.le_of_ble_eq_true rfl) rfl rfl ?_
  refine xj_istore_n (i := 3) (ls2 := [some (.ref (xw_ad v 19 0)), some (.ref (xw_ad v 3 3)), some (.int x2), some (.int (nuV (tp_by t) l p 0 7)), none]) hk dX3_readPair_7 rfl (by decide) rfl rfl ?_
  refine xj_aload_n (i := 0) hk dX3_readPair_8 rfl rfl ?_
  refine xj_iconst (x := 0) hk dX3_readPair_9 (by decide) ?_
  refine xj_iload_n (i := 2) hk dX3_readPair_10 rfl rfl ?_
  refine xj_callV hk hz (fr1 := 2) (lo1 := 43) (r1 := some (.int (nuV (tp_by t) l (nuE (tp_by t) l p) 0 x2))) (As := [.int 0, .int x2]) (st := []) (st2 := [.int (nuV (tp_by t) l (nuE (tp_by t) l p) 0 x2)]) (G1 := xw_up G 19 (pR v (nI (nuE (tp_by t) l (nuE (tp_by t) l p))) ws (nuF (tp_by t) l (nuE (tp_by t) l p) 0 x2 (nuF (tp_by t) l p 0 7 fa)))) ml_X3_113 (xk_cg (by rw [xw_up_u] <;> rfl) (c_X3_readNumber (p := nuE (tp_by t) l p) (ws := ws) (fa := nuF (tp_by t) l p 0 7 fa) (show (xw_up G 19 (pR v (nI (nuE (tp_by t) l p)) ws (nuF (tp_by t) l p 0 7 fa))) 18 = pc_T v t from (show (xw_up G 19 (pR v (nI (nuE (tp_by t) l p)) ws (nuF (tp_by t) l p 0 7 fa))) 18 = pc_T v t from by rw [xw_up_n (by decide), g18])) htl hl7 (show (xw_up G 19 (pR v (nI (nuE (tp_by t) l p)) ws (nuF (tp_by t) l p 0 7 fa))) 19 = pR v (nI (nuE (tp_by t) l p)) ws (nuF (tp_by t) l p 0 7 fa) from xw_up_s) (by omega) 0 x2)) (xw_at xw_up_s rfl) rfl dX3_readPair_11 ⟨Nat.le_of_ble_eq_true rfl, Nat.le_of_ble_eq_true rfl⟩ rfl (Nat.le_of_ble_eq_true rfl) rfl rfl ?_
  refine xj_istore (i := 4) (ls2 := [some (.ref (xw_ad v 19 0)), some (.ref (xw_ad v 3 3)), some (.int x2), some (.int (nuV (tp_by t) l p 0 7)), some (.int (nuV (tp_by t) l (nuE (tp_by t) l p) 0 x2))]) hk dX3_readPair_14 (by decide) rfl rfl ?_
  refine xj_iload_n (i := 3) hk dX3_readPair_16 rfl rfl ?_
  refine xj_if_lt (tgt := 39) hk dX3_readPair_17 (by decide) (fun c17 => ?_) (fun c17 => ?_)
  · refine xj_return hk hz dX3_readPair_39 ?_
    exact absurd hh0.2.1 (fun q => q c17)
  · refine xj_iload_n (i := 3) hk dX3_readPair_20 rfl rfl ?_
    refine xj_aload_n (i := 1) hk dX3_readPair_21 rfl rfl ?_
    refine xj_alen hk dX3_readPair_22 (xw_at (show (xw_up G 19 (pR v (nI (nuE (tp_by t) l (nuE (tp_by t) l p))) ws (nuF (tp_by t) l (nuE (tp_by t) l p) 0 x2 (nuF (tp_by t) l p 0 7 fa)))) 3 = pc_B v 3 A from by rw [xw_up_n (by decide), g3]) rfl) ?_
    refine xj_icmp_ge (tgt := 39) hk dX3_readPair_23 (by decide) (fun c23 => ?_) (fun c23 => ?_)
    · refine xj_return hk hz dX3_readPair_39 ?_
      exact absurd c23 (Int32.not_le.mpr hh8)
    · refine xj_aload_n (i := 0) hk dX3_readPair_26 rfl rfl ?_
      refine xj_getfield hk dX3_readPair_27 fl_X3_28 (xw_at xw_up_s rfl) rfl ?_
      refine xj_iconst (x := (-1)) hk dX3_readPair_30 (by decide) ?_
      refine xj_icmp_ne (tgt := 39) hk dX3_readPair_31 (by decide) (fun c31 => ?_) (fun c31 => ?_)
      · refine xj_return hk hz dX3_readPair_39 ?_
        refine ⟨rfl, ?_⟩
        simp only [pRow]
        rw [if_neg (show ¬ pFa (tp_by t) l p x2 fa = -1 from c31)]
        exact (xw_up_same (show (xw_up G 19 (pR v (nI (nuE (tp_by t) l (nuE (tp_by t) l p))) ws (nuF (tp_by t) l (nuE (tp_by t) l p) 0 x2 (nuF (tp_by t) l p 0 7 fa)))) 3 = pc_B v 3 A from by rw [xw_up_n (by decide), g3])).symm
      · refine xj_aload_n (i := 1) hk dX3_readPair_34 rfl rfl ?_
        refine xj_iload_n (i := 3) hk dX3_readPair_35 rfl rfl ?_
        refine xj_iload hk dX3_readPair_36 rfl ?_
        refine xj_iastore (k := xn (nuV (tp_by t) l p 0 7)) (G2 := xw_up (xw_up G 19 (pR v (nI (nuE (tp_by t) l (nuE (tp_by t) l p))) ws (nuF (tp_by t) l (nuE (tp_by t) l p) 0 x2 (nuF (tp_by t) l p 0 7 fa)))) 3 (pB v 3 (bk_te A) (bk_ho A) (xu (bk_ow A) (xn (nuV (tp_by t) l p 0 7)) (nuV (tp_by t) l (nuE (tp_by t) l p) 0 x2)) (bk_hs A) (bk_ra A) (bk_lo A) (bk_bi A) (bk_st A) (bk_av A) (bk_so A) (bk_pa A) (bk_ln A))) hk dX3_readPair_38 (xw_at (show (xw_up G 19 (pR v (nI (nuE (tp_by t) l (nuE (tp_by t) l p))) ws (nuF (tp_by t) l (nuE (tp_by t) l p) 0 x2 (nuF (tp_by t) l p 0 7 fa)))) 3 = pc_B v 3 A from by rw [xw_up_n (by decide), g3]) rfl) hh0 (xw_wr (show (xw_up G 19 (pR v (nI (nuE (tp_by t) l (nuE (tp_by t) l p))) ws (nuF (tp_by t) l (nuE (tp_by t) l p) 0 x2 (nuF (tp_by t) l p 0 7 fa)))) 3 = pc_B v 3 A from by rw [xw_up_n (by decide), g3]) rfl) ?_
        refine xj_return hk hz dX3_readPair_39 ?_
        refine ⟨rfl, ?_⟩
        simp only [pRow]
        rw [if_pos (show pFa (tp_by t) l p x2 fa = -1 from c31)]
        rfl


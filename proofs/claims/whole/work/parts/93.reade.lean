def bP2 (f : Nat → Int32) (l p : Nat) (r : Bool) : Nat := if r = true then nuE f l (nuE f l p) else nuE f l p
def bR (f : Nat → Int32) (l p : Nat) (r : Bool) : Int32 := if r = true then nuV f l (nuE f l p) 0 999 else -1
def bE3 (f : Nat → Int32) (l p : Nat) (r : Bool) : Nat := wdE f l (bP2 f l p r)
def bL (f : Nat → Int32) (l p : Nat) (r : Bool) : Int32 := nuV f l (bE3 f l p r) 1 1000
def bFa (f : Nat → Int32) (l p : Nat) (r : Bool) (fa : Int32) : Int32 := nuF f l (bE3 f l p r) 1 1000 (exF f l (bP2 f l p r) S11.2.2.2.2 (if r = true then nuF f l (nuE f l p) 0 999 (nuF f l p 0 7 fa) else nuF f l p 0 7 fa))
theorem nu_l {f : Nat → Int32} {l p : Nat} (h : p ≤ l) : p ≤ nuE f l p ∧ nuE f l p ≤ l := by
  have a := sbk_le (f := f) h
  have b := nuE_le (f := f) h
  omega
theorem wd_l {f : Nat → Int32} {l p : Nat} (h : p ≤ l) : p ≤ wdE f l p ∧ wdE f l p ≤ l := by
  have a := sbk_le (f := f) h
  have b := wdE_le (f := f) h
  omega
theorem b_le {f : Nat → Int32} {l p : Nat} (r : Bool) (h : p ≤ l) : nuE f l p ≤ l ∧ bP2 f l p r ≤ l ∧ bE3 f l p r ≤ l ∧ p ≤ bE3 f l p r ∧ nuE f l (bE3 f l p r) ≤ l ∧ p ≤ nuE f l (bE3 f l p r) := by
  have a := nu_l (f := f) h
  have b := nu_l (f := f) a.2
  have c : p ≤ bP2 f l p r ∧ bP2 f l p r ≤ l := by
    simp only [bP2]
    split <;> omega
  have d := wd_l (f := f) c.2
  have e := nu_l (f := f) d.2
  simp only [bE3]
  omega
set_option maxHeartbeats 1000000 in
set_option maxRecDepth 10000 in
theorem c_readBidR {v : xw_V} {G : xw_G} {t : tp_T} {l : Nat} {A : bk_T} {p : Nat} {ws fa : Int32} {n : Nat} (g18 : G 18 = pc_T v t) (htl : tp_le t = nI l) (hl7 : l ≤ 700) (g19 : G 19 = pR v (nI p) ws fa) (g3 : G 3 = pc_B v 3 A) (hp : p ≤ l) (hn : bk_bi A = nI n) (hn30 : n < 30) : xk_Con v yX3_readBid cX3_readBid 5 none 7 149 [.ref (xw_ad v 19 0), .int 1] G (xk_ret none (xw_up (xw_up G 19 (pR v (nI (nuE (tp_by t) l (bE3 (tp_by t) l p true))) (nI (sbk (tp_by t) l (bP2 (tp_by t) l p true))) (bFa (tp_by t) l p true fa))) 3 (pB v 3 (bk_te A) (bk_ho A) (bk_ow A) (insR n n (nuV (tp_by t) l p 0 7) (bk_hs A)) (insR n n (bR (tp_by t) l p true) (bk_ra A)) (insR n n (bL (tp_by t) l p true) (bk_lo A)) (nI (n + 1)) (bk_st A) (bk_av A) (bk_so A) (bk_pa A) (bk_ln A)))) := by
  refine xk_of (ls0 := [some (.ref (xw_ad v 19 0)), some (.int 1), none, none, none]) (by decide) rfl (Nat.le_of_ble_eq_true rfl) ?_
  intro κ z hk hz
  have hb9 := b_le (f := tp_by t) true hp
  simp only [bE3, bP2, if_true, Bool.false_eq_true, if_false] at hb9
  refine xj_aload_n (i := 0) hk dX3_readBid_0 rfl rfl ?_
  refine xj_iconst (x := 0) hk dX3_readBid_1 (by decide) ?_
  refine xj_bipush (x := 7) hk dX3_readBid_2 (by decide) ?_
  refine xj_callV hk hz (fr1 := 2) (lo1 := 43) (r1 := some (.int (nuV (tp_by t) l p 0 7))) (As := [.int 0, .int 7]) (st := []) (st2 := [.int (nuV (tp_by t) l p 0 7)]) (G1 := xw_up G 19 (pR v (nI (nuE (tp_by t) l p)) ws (nuF (tp_by t) l p 0 7 fa))) ml_X3_113 (c_X3_readNumber (p := p) (ws := ws) (fa := fa) (show G 18 = pc_T v t from g18) htl hl7 (show G 19 = pR v (nI p) ws fa from g19) (by omega) 0 7) (xw_at g19 rfl) rfl dX3_readBid_4 ⟨Nat.le_of_ble_eq_true rfl, Nat.le_of_ble_eq_true rfl⟩ rfl (Nat.le_of_ble_eq_true rfl) rfl rfl ?_
  refine xj_istore_n (i := 2) (ls2 := [some (.ref (xw_ad v 19 0)), some (.int 1), some (.int (nuV (tp_by t) l p 0 7)), none, none]) hk dX3_readBid_7 rfl (by decide) rfl rfl ?_
  refine xj_iload_n (i := 1) hk dX3_readBid_8 rfl rfl ?_
  refine xj_if_eq (tgt := 23) hk dX3_readBid_9 (by decide) (fun c9 => False.elim (by revert c9; decide)) (fun c9 => ?_)
  refine xj_aload_n (i := 0) hk dX3_readBid_12 rfl rfl ?_
  refine xj_iconst (x := 0) hk dX3_readBid_13 (by decide) ?_
  refine xj_sipush (x := 999) hk dX3_readBid_14 (by decide) ?_
  refine xj_callV hk hz (fr1 := 2) (lo1 := 43) (r1 := some (.int (nuV (tp_by t) l (nuE (tp_by t) l p) 0 999))) (As := [.int 0, .int 999]) (st := []) (st2 := [.int (nuV (tp_by t) l (nuE (tp_by t) l p) 0 999)]) (G1 := xw_up G 19 (pR v (nI (nuE (tp_by t) l (nuE (tp_by t) l p))) ws (nuF (tp_by t) l (nuE (tp_by t) l p) 0 999 (nuF (tp_by t) l p 0 7 fa)))) ml_X3_113 (xk_cg (by rw [xw_up_u] <;> rfl) (c_X3_readNumber (p := nuE (tp_by t) l p) (ws := ws) (fa := nuF (tp_by t) l p 0 7 fa) (show (xw_up G 19 (pR v (nI (nuE (tp_by t) l p)) ws (nuF (tp_by t) l p 0 7 fa))) 18 = pc_T v t from (show (xw_up G 19 (pR v (nI (nuE (tp_by t) l p)) ws (nuF (tp_by t) l p 0 7 fa))) 18 = pc_T v t from by rw [xw_up_n (by decide), g18])) htl hl7 (show (xw_up G 19 (pR v (nI (nuE (tp_by t) l p)) ws (nuF (tp_by t) l p 0 7 fa))) 19 = pR v (nI (nuE (tp_by t) l p)) ws (nuF (tp_by t) l p 0 7 fa) from xw_up_s) (by omega) 0 999)) (xw_at xw_up_s rfl) rfl dX3_readBid_17 ⟨Nat.le_of_ble_eq_true rfl, Nat.le_of_ble_eq_true rfl⟩ rfl (Nat.le_of_ble_eq_true rfl) rfl rfl ?_
  refine xj_goto (tgt := 24) hk dX3_readBid_20 (by decide) ?_
  refine xj_istore_n (i := 3) (ls2 := [some (.ref (xw_ad v 19 0)), some (.int 1), some (.int (nuV (tp_by t) l p 0 7)), some (.int (nuV (tp_by t) l (nuE (tp_by t) l p) 0 999)), none]) hk dX3_readBid_24 rfl (by decide) rfl rfl ?_
  refine xj_aload_n (i := 0) hk dX3_readBid_25 rfl rfl ?_
  refine xj_ldcS hk (q := S11) S11_in rfl dX3_readBid_26 ?_
  refine xj_callV hk hz (fr1 := 6) (lo1 := 128) (r1 := none) (As := [.ref (xw_ad v (40 + S11.1) 0)]) (st := []) (st2 := []) (G1 := xw_up G 19 (pR v (nI (wdE (tp_by t) l (nuE (tp_by t) l (nuE (tp_by t) l p)))) (nI (sbk (tp_by t) l (nuE (tp_by t) l (nuE (tp_by t) l p)))) (if wIs (tp_by t) (sbk (tp_by t) l (nuE (tp_by t) l (nuE (tp_by t) l p))) (wdE (tp_by t) l (nuE (tp_by t) l (nuE (tp_by t) l p))) S11.2.2.2.2 = true then nuF (tp_by t) l (nuE (tp_by t) l p) 0 999 (nuF (tp_by t) l p 0 7 fa) else ffa (nuF (tp_by t) l (nuE (tp_by t) l p) 0 999 (nuF (tp_by t) l p 0 7 fa)) (nI (sbk (tp_by t) l (nuE (tp_by t) l (nuE (tp_by t) l p))))))) ml_X3_119 (xk_cg (by rw [xw_up_u] <;> rfl) (c_X3_expectWord (p := nuE (tp_by t) l (nuE (tp_by t) l p)) (ws := ws) (fa := nuF (tp_by t) l (nuE (tp_by t) l p) 0 999 (nuF (tp_by t) l p 0 7 fa)) (q := S11) (show (xw_up G 19 (pR v (nI (nuE (tp_by t) l (nuE (tp_by t) l p))) ws (nuF (tp_by t) l (nuE (tp_by t) l p) 0 999 (nuF (tp_by t) l p 0 7 fa)))) 18 = pc_T v t from (show (xw_up G 19 (pR v (nI (nuE (tp_by t) l (nuE (tp_by t) l p))) ws (nuF (tp_by t) l (nuE (tp_by t) l p) 0 999 (nuF (tp_by t) l p 0 7 fa)))) 18 = pc_T v t from by rw [xw_up_n (by decide), g18])) htl hl7 (show (xw_up G 19 (pR v (nI (nuE (tp_by t) l (nuE (tp_by t) l p))) ws (nuF (tp_by t) l (nuE (tp_by t) l p) 0 999 (nuF (tp_by t) l p 0 7 fa)))) 19 = pR v (nI (nuE (tp_by t) l (nuE (tp_by t) l p))) ws (nuF (tp_by t) l (nuE (tp_by t) l p) 0 999 (nuF (tp_by t) l p 0 7 fa)) from xw_up_s) S11_in (by omega))) (xw_at xw_up_s rfl) rfl dX3_readBid_28 ⟨Nat.le_of_ble_eq_true rfl, Nat.le_of_ble_eq_true rfl⟩ rfl (Nat.le_of_ble_eq_true rfl) rfl rfl ?_
  refine xj_aload_n (i := 0) hk dX3_readBid_31 rfl rfl ?_
  refine xj_iconst (x := 1) hk dX3_readBid_32 (by decide) ?_
  refine xj_sipush (x := 1000) hk dX3_readBid_33 (by decide) ?_
  refine xj_callV hk hz (fr1 := 2) (lo1 := 43) (r1 := some (.int (nuV (tp_by t) l (wdE (tp_by t) l (nuE (tp_by t) l (nuE (tp_by t) l p))) 1 1000))) (As := [.int 1, .int 1000]) (st := []) (st2 := [.int (nuV (tp_by t) l (wdE (tp_by t) l (nuE (tp_by t) l (nuE (tp_by t) l p))) 1 1000)]) (G1 := xw_up G 19 (pR v (nI (nuE (tp_by t) l (wdE (tp_by t) l (nuE (tp_by t) l (nuE (tp_by t) l p))))) (nI (sbk (tp_by t) l (nuE (tp_by t) l (nuE (tp_by t) l p)))) (nuF (tp_by t) l (wdE (tp_by t) l (nuE (tp_by t) l (nuE (tp_by t) l p))) 1 1000 (if wIs (tp_by t) (sbk (tp_by t) l (nuE (tp_by t) l (nuE (tp_by t) l p))) (wdE (tp_by t) l (nuE (tp_by t) l (nuE (tp_by t) l p))) S11.2.2.2.2 = true then nuF (tp_by t) l (nuE (tp_by t) l p) 0 999 (nuF (tp_by t) l p 0 7 fa) else ffa (nuF (tp_by t) l (nuE (tp_by t) l p) 0 999 (nuF (tp_by t) l p 0 7 fa)) (nI (sbk (tp_by t) l (nuE (tp_by t) l (nuE (tp_by t) l p)))))))) ml_X3_113 (xk_cg (by rw [xw_up_u] <;> rfl) (c_X3_readNumber (p := wdE (tp_by t) l (nuE (tp_by t) l (nuE (tp_by t) l p))) (ws := nI (sbk (tp_by t) l (nuE (tp_by t) l (nuE (tp_by t) l p)))) (fa := if wIs (tp_by t) (sbk (tp_by t) l (nuE (tp_by t) l (nuE (tp_by t) l p))) (wdE (tp_by t) l (nuE (tp_by t) l (nuE (tp_by t) l p))) S11.2.2.2.2 = true then nuF (tp_by t) l (nuE (tp_by t) l p) 0 999 (nuF (tp_by t) l p 0 7 fa) else ffa (nuF (tp_by t) l (nuE (tp_by t) l p) 0 999 (nuF (tp_by t) l p 0 7 fa)) (nI (sbk (tp_by t) l (nuE (tp_by t) l (nuE (tp_by t) l p))))) (show (xw_up G 19 (pR v (nI (wdE (tp_by t) l (nuE (tp_by t) l (nuE (tp_by t) l p)))) (nI (sbk (tp_by t) l (nuE (tp_by t) l (nuE (tp_by t) l p)))) (if wIs (tp_by t) (sbk (tp_by t) l (nuE (tp_by t) l (nuE (tp_by t) l p))) (wdE (tp_by t) l (nuE (tp_by t) l (nuE (tp_by t) l p))) S11.2.2.2.2 = true then nuF (tp_by t) l (nuE (tp_by t) l p) 0 999 (nuF (tp_by t) l p 0 7 fa) else ffa (nuF (tp_by t) l (nuE (tp_by t) l p) 0 999 (nuF (tp_by t) l p 0 7 fa)) (nI (sbk (tp_by t) l (nuE (tp_by t) l (nuE (tp_by t) l p))))))) 18 = pc_T v t from (show (xw_up G 19 (pR v (nI (wdE (tp_by t) l (nuE (tp_by t) l (nuE (tp_by t) l p)))) (nI (sbk (tp_by t) l (nuE (tp_by t) l (nuE (tp_by t) l p)))) (if wIs (tp_by t) (sbk (tp_by t) l (nuE (tp_by t) l (nuE (tp_by t) l p))) (wdE (tp_by t) l (nuE (tp_by t) l (nuE (tp_by t) l p))) S11.2.2.2.2 = true then nuF (tp_by t) l (nuE (tp_by t) l p) 0 999 (nuF (tp_by t) l p 0 7 fa) else ffa (nuF (tp_by t) l (nuE (tp_by t) l p) 0 999 (nuF (tp_by t) l p 0 7 fa)) (nI (sbk (tp_by t) l (nuE (tp_by t) l (nuE (tp_by t) l p))))))) 18 = pc_T v t from by rw [xw_up_n (by decide), g18])) htl hl7 (show (xw_up G 19 (pR v (nI (wdE (tp_by t) l (nuE (tp_by t) l (nuE (tp_by t) l p)))) (nI (sbk (tp_by t) l (nuE (tp_by t) l (nuE (tp_by t) l p)))) (if wIs (tp_by t) (sbk (tp_by t) l (nuE (tp_by t) l (nuE (tp_by t) l p))) (wdE (tp_by t) l (nuE (tp_by t) l (nuE (tp_by t) l p))) S11.2.2.2.2 = true then nuF (tp_by t) l (nuE (tp_by t) l p) 0 999 (nuF (tp_by t) l p 0 7 fa) else ffa (nuF (tp_by t) l (nuE (tp_by t) l p) 0 999 (nuF (tp_by t) l p 0 7 fa)) (nI (sbk (tp_by t) l (nuE (tp_by t) l (nuE (tp_by t) l p))))))) 19 = pR v (nI (wdE (tp_by t) l (nuE (tp_by t) l (nuE (tp_by t) l p)))) (nI (sbk (tp_by t) l (nuE (tp_by t) l (nuE (tp_by t) l p)))) (if wIs (tp_by t) (sbk (tp_by t) l (nuE (tp_by t) l (nuE (tp_by t) l p))) (wdE (tp_by t) l (nuE (tp_by t) l (nuE (tp_by t) l p))) S11.2.2.2.2 = true then nuF (tp_by t) l (nuE (tp_by t) l p) 0 999 (nuF (tp_by t) l p 0 7 fa) else ffa (nuF (tp_by t) l (nuE (tp_by t) l p) 0 999 (nuF (tp_by t) l p 0 7 fa)) (nI (sbk (tp_by t) l (nuE (tp_by t) l (nuE (tp_by t) l p))))) from xw_up_s) (by omega) 1 1000)) (xw_at xw_up_s rfl) rfl dX3_readBid_36 ⟨Nat.le_of_ble_eq_true rfl, Nat.le_of_ble_eq_true rfl⟩ rfl (Nat.le_of_ble_eq_true rfl) rfl rfl ?_
  refine xj_istore (i := 4) (ls2 := [some (.ref (xw_ad v 19 0)), some (.int 1), some (.int (nuV (tp_by t) l p 0 7)), some (.int (nuV (tp_by t) l (nuE (tp_by t) l p) 0 999)), some (.int (nuV (tp_by t) l (wdE (tp_by t) l (nuE (tp_by t) l (nuE (tp_by t) l p))) 1 1000))]) hk dX3_readBid_39 (by decide) rfl rfl ?_
  refine xj_aload_n (i := 0) hk dX3_readBid_41 rfl rfl ?_
  refine xj_getfield hk dX3_readBid_42 fl_X3_15 (xw_at xw_up_s rfl) rfl ?_
  refine xj_aload_n (i := 0) hk dX3_readBid_45 rfl rfl ?_
  refine xj_getfield hk dX3_readBid_46 fl_X3_15 (xw_at xw_up_s rfl) rfl ?_
  refine xj_getfield hk dX3_readBid_49 fl_X3_92 (xw_at (show (xw_up G 19 (pR v (nI (nuE (tp_by t) l (wdE (tp_by t) l (nuE (tp_by t) l (nuE (tp_by t) l p))))) (nI (sbk (tp_by t) l (nuE (tp_by t) l (nuE (tp_by t) l p)))) (nuF (tp_by t) l (wdE (tp_by t) l (nuE (tp_by t) l (nuE (tp_by t) l p))) 1 1000 (if wIs (tp_by t) (sbk (tp_by t) l (nuE (tp_by t) l (nuE (tp_by t) l p))) (wdE (tp_by t) l (nuE (tp_by t) l (nuE (tp_by t) l p))) S11.2.2.2.2 = true then nuF (tp_by t) l (nuE (tp_by t) l p) 0 999 (nuF (tp_by t) l p 0 7 fa) else ffa (nuF (tp_by t) l (nuE (tp_by t) l p) 0 999 (nuF (tp_by t) l p 0 7 fa)) (nI (sbk (tp_by t) l (nuE (tp_by t) l (nuE (tp_by t) l p)))))))) 3 = pc_B v 3 A from by rw [xw_up_n (by decide), g3]) rfl) rfl ?_
  refine xj.eqi (x' := nI n) hn ?_
  refine xj_iload_n (i := 2) hk dX3_readBid_52 rfl rfl ?_
  refine xj_iload_n (i := 3) hk dX3_readBid_53 rfl rfl ?_
  refine xj_iload hk dX3_readBid_54 rfl ?_
  refine xj_callV hk hz (fr1 := 0) (lo1 := 0) (r1 := none) (As := [.int (nI n), .int (nuV (tp_by t) l p 0 7), .int (nuV (tp_by t) l (nuE (tp_by t) l p) 0 999), .int (nuV (tp_by t) l (wdE (tp_by t) l (nuE (tp_by t) l (nuE (tp_by t) l p))) 1 1000)]) (st := []) (st2 := []) (G1 := xw_up (xw_up G 19 (pR v (nI (nuE (tp_by t) l (wdE (tp_by t) l (nuE (tp_by t) l (nuE (tp_by t) l p))))) (nI (sbk (tp_by t) l (nuE (tp_by t) l (nuE (tp_by t) l p)))) (nuF (tp_by t) l (wdE (tp_by t) l (nuE (tp_by t) l (nuE (tp_by t) l p))) 1 1000 (if wIs (tp_by t) (sbk (tp_by t) l (nuE (tp_by t) l (nuE (tp_by t) l p))) (wdE (tp_by t) l (nuE (tp_by t) l (nuE (tp_by t) l p))) S11.2.2.2.2 = true then nuF (tp_by t) l (nuE (tp_by t) l p) 0 999 (nuF (tp_by t) l p 0 7 fa) else ffa (nuF (tp_by t) l (nuE (tp_by t) l p) 0 999 (nuF (tp_by t) l p 0 7 fa)) (nI (sbk (tp_by t) l (nuE (tp_by t) l (nuE (tp_by t) l p)))))))) 3 (pB v 3 (bk_te A) (bk_ho A) (bk_ow A) (insR n n (nuV (tp_by t) l p 0 7) (bk_hs A)) (insR n n (nuV (tp_by t) l (nuE (tp_by t) l p) 0 999) (bk_ra A)) (insR n n (nuV (tp_by t) l (wdE (tp_by t) l (nuE (tp_by t) l (nuE (tp_by t) l p))) 1 1000) (bk_lo A)) (nI (n + 1)) (bk_st A) (bk_av A) (bk_so A) (bk_pa A) (bk_ln A))) ml_X3_125 (c_X0_insert (n := n) (a := n) (show (xw_up G 19 (pR v (nI (nuE (tp_by t) l (wdE (tp_by t) l (nuE (tp_by t) l (nuE (tp_by t) l p))))) (nI (sbk (tp_by t) l (nuE (tp_by t) l (nuE (tp_by t) l p)))) (nuF (tp_by t) l (wdE (tp_by t) l (nuE (tp_by t) l (nuE (tp_by t) l p))) 1 1000 (if wIs (tp_by t) (sbk (tp_by t) l (nuE (tp_by t) l (nuE (tp_by t) l p))) (wdE (tp_by t) l (nuE (tp_by t) l (nuE (tp_by t) l p))) S11.2.2.2.2 = true then nuF (tp_by t) l (nuE (tp_by t) l p) 0 999 (nuF (tp_by t) l p 0 7 fa) else ffa (nuF (tp_by t) l (nuE (tp_by t) l p) 0 999 (nuF (tp_by t) l p 0 7 fa)) (nI (sbk (tp_by t) l (nuE (tp_by t) l (nuE (tp_by t) l p)))))))) 3 = pc_B v 3 A from (show (xw_up G 19 (pR v (nI (nuE (tp_by t) l (wdE (tp_by t) l (nuE (tp_by t) l (nuE (tp_by t) l p))))) (nI (sbk (tp_by t) l (nuE (tp_by t) l (nuE (tp_by t) l p)))) (nuF (tp_by t) l (wdE (tp_by t) l (nuE (tp_by t) l (nuE (tp_by t) l p))) 1 1000 (if wIs (tp_by t) (sbk (tp_by t) l (nuE (tp_by t) l (nuE (tp_by t) l p))) (wdE (tp_by t) l (nuE (tp_by t) l (nuE (tp_by t) l p))) S11.2.2.2.2 = true then nuF (tp_by t) l (nuE (tp_by t) l p) 0 999 (nuF (tp_by t) l p 0 7 fa) else ffa (nuF (tp_by t) l (nuE (tp_by t) l p) 0 999 (nuF (tp_by t) l p 0 7 fa)) (nI (sbk (tp_by t) l (nuE (tp_by t) l (nuE (tp_by t) l p)))))))) 3 = pc_B v 3 A from by rw [xw_up_n (by decide), g3])) hn hn30 (Nat.le_refl n) (nuV (tp_by t) l p 0 7) (nuV (tp_by t) l (nuE (tp_by t) l p) 0 999) (nuV (tp_by t) l (wdE (tp_by t) l (nuE (tp_by t) l (nuE (tp_by t) l p))) 1 1000)) (xw_at (show (xw_up G 19 (pR v (nI (nuE (tp_by t) l (wdE (tp_by t) l (nuE (tp_by t) l (nuE (tp_by t) l p))))) (nI (sbk (tp_by t) l (nuE (tp_by t) l (nuE (tp_by t) l p)))) (nuF (tp_by t) l (wdE (tp_by t) l (nuE (tp_by t) l (nuE (tp_by t) l p))) 1 1000 (if wIs (tp_by t) (sbk (tp_by t) l (nuE (tp_by t) l (nuE (tp_by t) l p))) (wdE (tp_by t) l (nuE (tp_by t) l (nuE (tp_by t) l p))) S11.2.2.2.2 = true then nuF (tp_by t) l (nuE (tp_by t) l p) 0 999 (nuF (tp_by t) l p 0 7 fa) else ffa (nuF (tp_by t) l (nuE (tp_by t) l p) 0 999 (nuF (tp_by t) l p 0 7 fa)) (nI (sbk (tp_by t) l (nuE (tp_by t) l (nuE (tp_by t) l p)))))))) 3 = pc_B v 3 A from by rw [xw_up_n (by decide), g3]) rfl) rfl dX3_readBid_56 ⟨Nat.le_of_ble_eq_true rfl, Nat.le_of_ble_eq_true rfl⟩ rfl (Nat.le_of_ble_eq_true rfl) rfl rfl ?_
  refine xj_return hk hz dX3_readBid_59 ?_
  exact ⟨rfl, rfl⟩

set_option maxHeartbeats 1000000 in
set_option maxRecDepth 10000 in
theorem c_readBidP {v : xw_V} {G : xw_G} {t : tp_T} {l : Nat} {A : bk_T} {p : Nat} {ws fa : Int32} {n : Nat} (g18 : G 18 = pc_T v t) (htl : tp_le t = nI l) (hl7 : l ≤ 700) (g19 : G 19 = pR v (nI p) ws fa) (g3 : G 3 = pc_B v 3 A) (hp : p ≤ l) (hn : bk_bi A = nI n) (hn30 : n < 30) : xk_Con v yX3_readBid cX3_readBid 5 none 7 149 [.ref (xw_ad v 19 0), .int 0] G (xk_ret none (xw_up (xw_up G 19 (pR v (nI (nuE (tp_by t) l (bE3 (tp_by t) l p false))) (nI (sbk (tp_by t) l (bP2 (tp_by t) l p false))) (bFa (tp_by t) l p false fa))) 3 (pB v 3 (bk_te A) (bk_ho A) (bk_ow A) (insR n n (nuV (tp_by t) l p 0 7) (bk_hs A)) (insR n n (bR (tp_by t) l p false) (bk_ra A)) (insR n n (bL (tp_by t) l p false) (bk_lo A)) (nI (n + 1)) (bk_st A) (bk_av A) (bk_so A) (bk_pa A) (bk_ln A)))) := by
  refine xk_of (ls0 := [some (.ref (xw_ad v 19 0)), some (.int 0), none, none, none]) (by decide) rfl (Nat.le_of_ble_eq_true rfl) ?_
  intro κ z hk hz
  have hb9 := b_le (f := tp_by t) false hp
  simp only [bE3, bP2, if_true, Bool.false_eq_true, if_false] at hb9
  refine xj_aload_n (i := 0) hk dX3_readBid_0 rfl rfl ?_
  refine xj_iconst (x := 0) hk dX3_readBid_1 (by decide) ?_
  refine xj_bipush (x := 7) hk dX3_readBid_2 (by decide) ?_
  refine xj_callV hk hz (fr1 := 2) (lo1 := 43) (r1 := some (.int (nuV (tp_by t) l p 0 7))) (As := [.int 0, .int 7]) (st := []) (st2 := [.int (nuV (tp_by t) l p 0 7)]) (G1 := xw_up G 19 (pR v (nI (nuE (tp_by t) l p)) ws (nuF (tp_by t) l p 0 7 fa))) ml_X3_113 (c_X3_readNumber (p := p) (ws := ws) (fa := fa) (show G 18 = pc_T v t from g18) htl hl7 (show G 19 = pR v (nI p) ws fa from g19) (by omega) 0 7) (xw_at g19 rfl) rfl dX3_readBid_4 ⟨Nat.le_of_ble_eq_true rfl, Nat.le_of_ble_eq_true rfl⟩ rfl (Nat.le_of_ble_eq_true rfl) rfl rfl ?_
  refine xj_istore_n (i := 2) (ls2 := [some (.ref (xw_ad v 19 0)), some (.int 0), some (.int (nuV (tp_by t) l p 0 7)), none, none]) hk dX3_readBid_7 rfl (by decide) rfl rfl ?_
  refine xj_iload_n (i := 1) hk dX3_readBid_8 rfl rfl ?_
  refine xj_if_eq (tgt := 23) hk dX3_readBid_9 (by decide) (fun c9 => ?_) (fun c9 => False.elim (by revert c9; decide))
  refine xj_iconst (x := (-1)) hk dX3_readBid_23 (by decide) ?_
  refine xj_istore_n (i := 3) (ls2 := [some (.ref (xw_ad v 19 0)), some (.int 0), some (.int (nuV (tp_by t) l p 0 7)), some (.int ((-1))), none]) hk dX3_readBid_24 rfl (by decide) rfl rfl ?_
  refine xj_aload_n (i := 0) hk dX3_readBid_25 rfl rfl ?_
  refine xj_ldcS hk (q := S11) S11_in rfl dX3_readBid_26 ?_
  refine xj_callV hk hz (fr1 := 6) (lo1 := 128) (r1 := none) (As := [.ref (xw_ad v (40 + S11.1) 0)]) (st := []) (st2 := []) (G1 := xw_up G 19 (pR v (nI (wdE (tp_by t) l (nuE (tp_by t) l p))) (nI (sbk (tp_by t) l (nuE (tp_by t) l p))) (if wIs (tp_by t) (sbk (tp_by t) l (nuE (tp_by t) l p)) (wdE (tp_by t) l (nuE (tp_by t) l p)) S11.2.2.2.2 = true then nuF (tp_by t) l p 0 7 fa else ffa (nuF (tp_by t) l p 0 7 fa) (nI (sbk (tp_by t) l (nuE (tp_by t) l p)))))) ml_X3_119 (xk_cg (by rw [xw_up_u] <;> rfl) (c_X3_expectWord (p := nuE (tp_by t) l p) (ws := ws) (fa := nuF (tp_by t) l p 0 7 fa) (q := S11) (show (xw_up G 19 (pR v (nI (nuE (tp_by t) l p)) ws (nuF (tp_by t) l p 0 7 fa))) 18 = pc_T v t from (show (xw_up G 19 (pR v (nI (nuE (tp_by t) l p)) ws (nuF (tp_by t) l p 0 7 fa))) 18 = pc_T v t from by rw [xw_up_n (by decide), g18])) htl hl7 (show (xw_up G 19 (pR v (nI (nuE (tp_by t) l p)) ws (nuF (tp_by t) l p 0 7 fa))) 19 = pR v (nI (nuE (tp_by t) l p)) ws (nuF (tp_by t) l p 0 7 fa) from xw_up_s) S11_in (by omega))) (xw_at xw_up_s rfl) rfl dX3_readBid_28 ⟨Nat.le_of_ble_eq_true rfl, Nat.le_of_ble_eq_true rfl⟩ rfl (Nat.le_of_ble_eq_true rfl) rfl rfl ?_
  refine xj_aload_n (i := 0) hk dX3_readBid_31 rfl rfl ?_
  refine xj_iconst (x := 1) hk dX3_readBid_32 (by decide) ?_
  refine xj_sipush (x := 1000) hk dX3_readBid_33 (by decide) ?_
  refine xj_callV hk hz (fr1 := 2) (lo1 := 43) (r1 := some (.int (nuV (tp_by t) l (wdE (tp_by t) l (nuE (tp_by t) l p)) 1 1000))) (As := [.int 1, .int 1000]) (st := []) (st2 := [.int (nuV (tp_by t) l (wdE (tp_by t) l (nuE (tp_by t) l p)) 1 1000)]) (G1 := xw_up G 19 (pR v (nI (nuE (tp_by t) l (wdE (tp_by t) l (nuE (tp_by t) l p)))) (nI (sbk (tp_by t) l (nuE (tp_by t) l p))) (nuF (tp_by t) l (wdE (tp_by t) l (nuE (tp_by t) l p)) 1 1000 (if wIs (tp_by t) (sbk (tp_by t) l (nuE (tp_by t) l p)) (wdE (tp_by t) l (nuE (tp_by t) l p)) S11.2.2.2.2 = true then nuF (tp_by t) l p 0 7 fa else ffa (nuF (tp_by t) l p 0 7 fa) (nI (sbk (tp_by t) l (nuE (tp_by t) l p))))))) ml_X3_113 (xk_cg (by rw [xw_up_u] <;> rfl) (c_X3_readNumber (p := wdE (tp_by t) l (nuE (tp_by t) l p)) (ws := nI (sbk (tp_by t) l (nuE (tp_by t) l p))) (fa := if wIs (tp_by t) (sbk (tp_by t) l (nuE (tp_by t) l p)) (wdE (tp_by t) l (nuE (tp_by t) l p)) S11.2.2.2.2 = true then nuF (tp_by t) l p 0 7 fa else ffa (nuF (tp_by t) l p 0 7 fa) (nI (sbk (tp_by t) l (nuE (tp_by t) l p)))) (show (xw_up G 19 (pR v (nI (wdE (tp_by t) l (nuE (tp_by t) l p))) (nI (sbk (tp_by t) l (nuE (tp_by t) l p))) (if wIs (tp_by t) (sbk (tp_by t) l (nuE (tp_by t) l p)) (wdE (tp_by t) l (nuE (tp_by t) l p)) S11.2.2.2.2 = true then nuF (tp_by t) l p 0 7 fa else ffa (nuF (tp_by t) l p 0 7 fa) (nI (sbk (tp_by t) l (nuE (tp_by t) l p)))))) 18 = pc_T v t from (show (xw_up G 19 (pR v (nI (wdE (tp_by t) l (nuE (tp_by t) l p))) (nI (sbk (tp_by t) l (nuE (tp_by t) l p))) (if wIs (tp_by t) (sbk (tp_by t) l (nuE (tp_by t) l p)) (wdE (tp_by t) l (nuE (tp_by t) l p)) S11.2.2.2.2 = true then nuF (tp_by t) l p 0 7 fa else ffa (nuF (tp_by t) l p 0 7 fa) (nI (sbk (tp_by t) l (nuE (tp_by t) l p)))))) 18 = pc_T v t from by rw [xw_up_n (by decide), g18])) htl hl7 (show (xw_up G 19 (pR v (nI (wdE (tp_by t) l (nuE (tp_by t) l p))) (nI (sbk (tp_by t) l (nuE (tp_by t) l p))) (if wIs (tp_by t) (sbk (tp_by t) l (nuE (tp_by t) l p)) (wdE (tp_by t) l (nuE (tp_by t) l p)) S11.2.2.2.2 = true then nuF (tp_by t) l p 0 7 fa else ffa (nuF (tp_by t) l p 0 7 fa) (nI (sbk (tp_by t) l (nuE (tp_by t) l p)))))) 19 = pR v (nI (wdE (tp_by t) l (nuE (tp_by t) l p))) (nI (sbk (tp_by t) l (nuE (tp_by t) l p))) (if wIs (tp_by t) (sbk (tp_by t) l (nuE (tp_by t) l p)) (wdE (tp_by t) l (nuE (tp_by t) l p)) S11.2.2.2.2 = true then nuF (tp_by t) l p 0 7 fa else ffa (nuF (tp_by t) l p 0 7 fa) (nI (sbk (tp_by t) l (nuE (tp_by t) l p)))) from xw_up_s) (by omega) 1 1000)) (xw_at xw_up_s rfl) rfl dX3_readBid_36 ⟨Nat.le_of_ble_eq_true rfl, Nat.le_of_ble_eq_true rfl⟩ rfl (Nat.le_of_ble_eq_true rfl) rfl rfl ?_
  refine xj_istore (i := 4) (ls2 := [some (.ref (xw_ad v 19 0)), some (.int 0), some (.int (nuV (tp_by t) l p 0 7)), some (.int ((-1))), some (.int (nuV (tp_by t) l (wdE (tp_by t) l (nuE (tp_by t) l p)) 1 1000))]) hk dX3_readBid_39 (by decide) rfl rfl ?_
  refine xj_aload_n (i := 0) hk dX3_readBid_41 rfl rfl ?_
  refine xj_getfield hk dX3_readBid_42 fl_X3_15 (xw_at xw_up_s rfl) rfl ?_
  refine xj_aload_n (i := 0) hk dX3_readBid_45 rfl rfl ?_
  refine xj_getfield hk dX3_readBid_46 fl_X3_15 (xw_at xw_up_s rfl) rfl ?_
  refine xj_getfield hk dX3_readBid_49 fl_X3_92 (xw_at (show (xw_up G 19 (pR v (nI (nuE (tp_by t) l (wdE (tp_by t) l (nuE (tp_by t) l p)))) (nI (sbk (tp_by t) l (nuE (tp_by t) l p))) (nuF (tp_by t) l (wdE (tp_by t) l (nuE (tp_by t) l p)) 1 1000 (if wIs (tp_by t) (sbk (tp_by t) l (nuE (tp_by t) l p)) (wdE (tp_by t) l (nuE (tp_by t) l p)) S11.2.2.2.2 = true then nuF (tp_by t) l p 0 7 fa else ffa (nuF (tp_by t) l p 0 7 fa) (nI (sbk (tp_by t) l (nuE (tp_by t) l p))))))) 3 = pc_B v 3 A from by rw [xw_up_n (by decide), g3]) rfl) rfl ?_
  refine xj.eqi (x' := nI n) hn ?_
  refine xj_iload_n (i := 2) hk dX3_readBid_52 rfl rfl ?_
  refine xj_iload_n (i := 3) hk dX3_readBid_53 rfl rfl ?_
  refine xj_iload hk dX3_readBid_54 rfl ?_
  refine xj_callV hk hz (fr1 := 0) (lo1 := 0) (r1 := none) (As := [.int (nI n), .int (nuV (tp_by t) l p 0 7), .int ((-1)), .int (nuV (tp_by t) l (wdE (tp_by t) l (nuE (tp_by t) l p)) 1 1000)]) (st := []) (st2 := []) (G1 := xw_up (xw_up G 19 (pR v (nI (nuE (tp_by t) l (wdE (tp_by t) l (nuE (tp_by t) l p)))) (nI (sbk (tp_by t) l (nuE (tp_by t) l p))) (nuF (tp_by t) l (wdE (tp_by t) l (nuE (tp_by t) l p)) 1 1000 (if wIs (tp_by t) (sbk (tp_by t) l (nuE (tp_by t) l p)) (wdE (tp_by t) l (nuE (tp_by t) l p)) S11.2.2.2.2 = true then nuF (tp_by t) l p 0 7 fa else ffa (nuF (tp_by t) l p 0 7 fa) (nI (sbk (tp_by t) l (nuE (tp_by t) l p))))))) 3 (pB v 3 (bk_te A) (bk_ho A) (bk_ow A) (insR n n (nuV (tp_by t) l p 0 7) (bk_hs A)) (insR n n ((-1)) (bk_ra A)) (insR n n (nuV (tp_by t) l (wdE (tp_by t) l (nuE (tp_by t) l p)) 1 1000) (bk_lo A)) (nI (n + 1)) (bk_st A) (bk_av A) (bk_so A) (bk_pa A) (bk_ln A))) ml_X3_125 (c_X0_insert (n := n) (a := n) (show (xw_up G 19 (pR v (nI (nuE (tp_by t) l (wdE (tp_by t) l (nuE (tp_by t) l p)))) (nI (sbk (tp_by t) l (nuE (tp_by t) l p))) (nuF (tp_by t) l (wdE (tp_by t) l (nuE (tp_by t) l p)) 1 1000 (if wIs (tp_by t) (sbk (tp_by t) l (nuE (tp_by t) l p)) (wdE (tp_by t) l (nuE (tp_by t) l p)) S11.2.2.2.2 = true then nuF (tp_by t) l p 0 7 fa else ffa (nuF (tp_by t) l p 0 7 fa) (nI (sbk (tp_by t) l (nuE (tp_by t) l p))))))) 3 = pc_B v 3 A from (show (xw_up G 19 (pR v (nI (nuE (tp_by t) l (wdE (tp_by t) l (nuE (tp_by t) l p)))) (nI (sbk (tp_by t) l (nuE (tp_by t) l p))) (nuF (tp_by t) l (wdE (tp_by t) l (nuE (tp_by t) l p)) 1 1000 (if wIs (tp_by t) (sbk (tp_by t) l (nuE (tp_by t) l p)) (wdE (tp_by t) l (nuE (tp_by t) l p)) S11.2.2.2.2 = true then nuF (tp_by t) l p 0 7 fa else ffa (nuF (tp_by t) l p 0 7 fa) (nI (sbk (tp_by t) l (nuE (tp_by t) l p))))))) 3 = pc_B v 3 A from by rw [xw_up_n (by decide), g3])) hn hn30 (Nat.le_refl n) (nuV (tp_by t) l p 0 7) ((-1)) (nuV (tp_by t) l (wdE (tp_by t) l (nuE (tp_by t) l p)) 1 1000)) (xw_at (show (xw_up G 19 (pR v (nI (nuE (tp_by t) l (wdE (tp_by t) l (nuE (tp_by t) l p)))) (nI (sbk (tp_by t) l (nuE (tp_by t) l p))) (nuF (tp_by t) l (wdE (tp_by t) l (nuE (tp_by t) l p)) 1 1000 (if wIs (tp_by t) (sbk (tp_by t) l (nuE (tp_by t) l p)) (wdE (tp_by t) l (nuE (tp_by t) l p)) S11.2.2.2.2 = true then nuF (tp_by t) l p 0 7 fa else ffa (nuF (tp_by t) l p 0 7 fa) (nI (sbk (tp_by t) l (nuE (tp_by t) l p))))))) 3 = pc_B v 3 A from by rw [xw_up_n (by decide), g3]) rfl) rfl dX3_readBid_56 ⟨Nat.le_of_ble_eq_true rfl, Nat.le_of_ble_eq_true rfl⟩ rfl (Nat.le_of_ble_eq_true rfl) rfl rfl ?_
  refine xj_return hk hz dX3_readBid_59 ?_
  exact ⟨rfl, rfl⟩

def rsT (f : Nat → Int32) (l e j : Nat) (fa : Int32) (n : Nat) (A : bk_T) : Nat × Int32 × Nat × bk_T := (nuE f l e, nuF f l e (st_LEAST j) (st_MOST j) fa, n, bk_wte A (xu (bk_te A) j (nuV f l e (st_LEAST j) (st_MOST j))))
def rsB (f : Nat → Int32) (l e : Nat) (r : Bool) (fa : Int32) (n : Nat) (A : bk_T) : Nat × Int32 × Nat × bk_T := (nuE f l (bE3 f l e r), bFa f l e r fa, n + 1, bk_w3 A (insR n n (nuV f l e 0 7) (bk_hs A)) (insR n n (bR f l e r) (bk_ra A)) (insR n n (bL f l e r) (bk_lo A)) (nI (n + 1)))
def RS2 (f : Nat → Int32) (l b e : Nat) (fa : Int32) (n : Nat) (A : bk_T) : Nat × Int32 × Nat × bk_T := if wIs f b e S10.2.2.2.2 = true ∧ n < 30 then rsB f l e true fa n A else if wIs f b e S12.2.2.2.2 = true ∧ n < 30 then rsB f l e false fa n A else (e, ffa fa (nI b), n, A)
def RS1 (f : Nat → Int32) (l b e : Nat) (fa : Int32) (n : Nat) (A : bk_T) : Nat × Int32 × Nat × bk_T := if wIs f b e S6.2.2.2.2 = true then (e, fa, n, bk_wte A (xu (bk_te A) 6 0)) else if wIs f b e S7.2.2.2.2 = true then (e, fa, n, bk_wte A (xu (bk_te A) 6 1))
  else if wIs f b e S8.2.2.2.2 = true then (nuE f l (nuE f l e), pFa f l e 9999 fa, n, bk_who A (pRow f l e 9999 fa (bk_ho A))) else if wIs f b e S9.2.2.2.2 = true then (nuE f l (nuE f l e), pFa f l e 7 fa, n, bk_wow A (pRow f l e 7 fa (bk_ow A))) else RS2 f l b e fa n A
def RS0 (f : Nat → Int32) (l b e : Nat) (fa : Int32) (n : Nat) (A : bk_T) : Nat × Int32 × Nat × bk_T :=
  if wIs f b e S0.2.2.2.2 = true then rsT f l e 0 fa n A else if wIs f b e S1.2.2.2.2 = true then rsT f l e 1 fa n A else if wIs f b e S2.2.2.2.2 = true then rsT f l e 2 fa n A
  else if wIs f b e S3.2.2.2.2 = true then (nuE f l (yE2 f l e), yFa f l e fa, n, bk_wte A (xu (xu (bk_te A) 4 (yV2 f l e)) 3 (yV1 f l e))) else if wIs f b e S5.2.2.2.2 = true then rsT f l e 5 fa n A else RS1 f l b e fa n A
def RS (f : Nat → Int32) (l p : Nat) (fa : Int32) (n : Nat) (A : bk_T) : Nat × Int32 × Nat × bk_T := RS0 f l (sbk f l p) (wdE f l p) fa n A
set_option maxHeartbeats 1000000 in
set_option maxRecDepth 10000 in
theorem l_rsC {v : xw_V} {κ : xk_K} {post : Option Value → xw_G → Prop} {z : Nat × Nat × Nat} {G : xw_G} {t : tp_T} {l : Nat} {A : bk_T} {fa : Int32} {n b e : Nat} (hk : xk_Ok v κ yX3_readStatement cX3_readStatement 1 none 8 173) (hz : xk_zf κ = z) (g18 : G 18 = pc_T v t) (htl : tp_le t = nI l) (hl7 : l ≤ 700) (g19 : G 19 = pR v (nI e) (nI b) fa) (g3 : G 3 = pc_B v 3 A) (hbe : b ≤ e ∧ e ≤ l) (hn : bk_bi A = nI n) (hn30 : n ≤ 30) (hpost : ∀ (ws9 : Int32) (G9 : xw_G), G9 = xw_up (xw_up G 19 (pR v (nI (RS2 (tp_by t) l b e fa n A).1) ws9 (RS2 (tp_by t) l b e fa n A).2.1)) 3 (pc_B v 3 (RS2 (tp_by t) l b e fa n A).2.2.2) → post none G9) : xj v κ post z G 185 [some (.ref (xw_ad v 19 0))] [] := by
  refine xj_aload_n (i := 0) hk dX3_readStatement_185 rfl rfl ?_
  refine xj_ldcS hk (q := S10) S10_in rfl dX3_readStatement_186 ?_
  refine xj_callV hk hz (fr1 := 5) (lo1 := 106) (r1 := some (.int (xb (wIs (tp_by t) b e S10.2.2.2.2)))) (As := [.ref (xw_ad v (40 + S10.1) 0)]) (st := []) (st2 := [.int (xb (wIs (tp_by t) b e S10.2.2.2.2))]) (G1 := G) ml_X3_50 (c_X3_wordIs (b := b) (e := e) (fa := fa) (q := S10) (show G 18 = pc_T v t from g18) htl hl7 (show G 19 = pR v (nI e) (nI b) fa from g19) S10_in (by omega) (by omega)) (xw_at g19 rfl) rfl dX3_readStatement_188 ⟨Nat.le_of_ble_eq_true rfl, Nat.le_of_ble_eq_true rfl⟩ rfl (Nat.le_of_ble_eq_true rfl) rfl rfl ?_
  refine xj_ifb_eq (tgt := 214) hk dX3_readStatement_191 (by decide) (fun c191 => ?_) (fun c191 => ?_)
  · refine xj_aload_n (i := 0) hk dX3_readStatement_214 rfl rfl ?_
    refine xj_ldcS hk (q := S12) S12_in rfl dX3_readStatement_215 ?_
    refine xj_callV hk hz (fr1 := 5) (lo1 := 106) (r1 := some (.int (xb (wIs (tp_by t) b e S12.2.2.2.2)))) (As := [.ref (xw_ad v (40 + S12.1) 0)]) (st := []) (st2 := [.int (xb (wIs (tp_by t) b e S12.2.2.2.2))]) (G1 := G) ml_X3_50 (c_X3_wordIs (b := b) (e := e) (fa := fa) (q := S12) (show G 18 = pc_T v t from g18) htl hl7 (show G 19 = pR v (nI e) (nI b) fa from g19) S12_in (by omega) (by omega)) (xw_at g19 rfl) rfl dX3_readStatement_217 ⟨Nat.le_of_ble_eq_true rfl, Nat.le_of_ble_eq_true rfl⟩ rfl (Nat.le_of_ble_eq_true rfl) rfl rfl ?_
    refine xj_ifb_eq (tgt := 243) hk dX3_readStatement_220 (by decide) (fun c220 => ?_) (fun c220 => ?_)
    · refine xj_aload_n (i := 0) hk dX3_readStatement_243 rfl rfl ?_
      refine xj_aload_n (i := 0) hk dX3_readStatement_244 rfl rfl ?_
      refine xj_getfield hk dX3_readStatement_245 fl_X3_101 (xw_at g19 rfl) rfl ?_
      refine xj_callV hk hz (fr1 := 0) (lo1 := 0) (r1 := none) (As := [.int (nI b)]) (st := []) (st2 := []) (G1 := xw_up G 19 (pR v (nI e) (nI b) (ffa fa (nI b)))) ml_X3_104 (c_X3_fail (pl := nI e) (ws := nI b) (fa := fa) (show G 18 = pc_T v t from g18) htl hl7 (show G 19 = pR v (nI e) (nI b) fa from g19) (nI b)) (xw_at g19 rfl) rfl dX3_readStatement_248 ⟨Nat.le_of_ble_eq_true rfl, Nat.le_of_ble_eq_true rfl⟩ rfl (Nat.le_of_ble_eq_true rfl) rfl rfl ?_
      refine xj_return hk hz dX3_readStatement_251 ?_
      refine hpost (nI b) _ ?_
      simp only [RS2]
      rw [if_neg (fun q9 => by have := q9.1; rw [c191] at this; cases this), if_neg (fun q9 => by have := q9.1; rw [c220] at this; cases this)]
      exact (xw_up_same (show (xw_up G 19 (pR v (nI e) (nI b) (ffa fa (nI b)))) 3 = pc_B v 3 A from (show (xw_up G 19 (pR v (nI e) (nI b) (ffa fa (nI b)))) 3 = pc_B v 3 A from by rw [xw_up_n (by decide), g3]))).symm
    · refine xj_aload_n (i := 0) hk dX3_readStatement_223 rfl rfl ?_
      refine xj_getfield hk dX3_readStatement_224 fl_X3_15 (xw_at g19 rfl) rfl ?_
      refine xj_getfield hk dX3_readStatement_227 fl_X3_92 (xw_at g3 rfl) rfl ?_
      refine xj.eqi (x' := nI n) hn ?_
      refine xj_bipush (x := 30) hk dX3_readStatement_230 (by decide) ?_
      refine xj_icmp_ge (tgt := 243) hk dX3_readStatement_232 (by decide) (fun c232 => ?_) (fun c232 => ?_)
      · have c232 : 30 ≤ n := (nI_leI (a := 30) (b := n) (by omega) (by omega)).mp c232
        refine xj_aload_n (i := 0) hk dX3_readStatement_243 rfl rfl ?_
        refine xj_aload_n (i := 0) hk dX3_readStatement_244 rfl rfl ?_
        refine xj_getfield hk dX3_readStatement_245 fl_X3_101 (xw_at g19 rfl) rfl ?_
        refine xj_callV hk hz (fr1 := 0) (lo1 := 0) (r1 := none) (As := [.int (nI b)]) (st := []) (st2 := []) (G1 := xw_up G 19 (pR v (nI e) (nI b) (ffa fa (nI b)))) ml_X3_104 (c_X3_fail (pl := nI e) (ws := nI b) (fa := fa) (show G 18 = pc_T v t from g18) htl hl7 (show G 19 = pR v (nI e) (nI b) fa from g19) (nI b)) (xw_at g19 rfl) rfl dX3_readStatement_248 ⟨Nat.le_of_ble_eq_true rfl, Nat.le_of_ble_eq_true rfl⟩ rfl (Nat.le_of_ble_eq_true rfl) rfl rfl ?_
        refine xj_return hk hz dX3_readStatement_251 ?_
        refine hpost (nI b) _ ?_
        simp only [RS2]
        rw [if_neg (fun q9 => by have := q9.1; rw [c191] at this; cases this), if_neg (fun q9 => absurd q9.2 (by omega))]
        exact (xw_up_same (show (xw_up G 19 (pR v (nI e) (nI b) (ffa fa (nI b)))) 3 = pc_B v 3 A from (show (xw_up G 19 (pR v (nI e) (nI b) (ffa fa (nI b)))) 3 = pc_B v 3 A from by rw [xw_up_n (by decide), g3]))).symm
      · have c232 : ¬ 30 ≤ n := fun q => c232 ((nI_leI (a := 30) (b := n) (by omega) (by omega)).mpr q)
        refine xj_aload_n (i := 0) hk dX3_readStatement_235 rfl rfl ?_
        refine xj_iconst (x := 0) hk dX3_readStatement_236 (by decide) ?_
        refine xj_callV hk hz (fr1 := 7) (lo1 := 149) (r1 := none) (As := [.int 0]) (st := []) (st2 := []) (G1 := xw_up (xw_up G 19 (pR v (nI (nuE (tp_by t) l (bE3 (tp_by t) l e false))) (nI (sbk (tp_by t) l (bP2 (tp_by t) l e false))) (bFa (tp_by t) l e false fa))) 3 (pB v 3 (bk_te A) (bk_ho A) (bk_ow A) (insR n n (nuV (tp_by t) l e 0 7) (bk_hs A)) (insR n n (bR (tp_by t) l e false) (bk_ra A)) (insR n n (bL (tp_by t) l e false) (bk_lo A)) (nI (n + 1)) (bk_st A) (bk_av A) (bk_so A) (bk_pa A) (bk_ln A))) ml_X3_95 (c_readBidP (p := e) (ws := nI b) (fa := fa) (n := n) (show G 18 = pc_T v t from g18) htl hl7 (show G 19 = pR v (nI e) (nI b) fa from g19) (show G 3 = pc_B v 3 A from g3) (by omega) hn (by omega)) (xw_at g19 rfl) rfl dX3_readStatement_237 ⟨Nat.le_of_ble_eq_true rfl, Nat.le_of_ble_eq_true rfl⟩ rfl (Nat.le_of_ble_eq_true rfl) rfl rfl ?_
        refine xj_goto (tgt := 251) hk dX3_readStatement_240 (by decide) ?_
        refine xj_return hk hz dX3_readStatement_251 ?_
        refine hpost (nI (sbk (tp_by t) l (bP2 (tp_by t) l e false))) _ ?_
        simp only [RS2]
        rw [if_neg (fun q9 => by have := q9.1; rw [c191] at this; cases this), if_pos ⟨c220, by omega⟩]
        simp only [rsB, rsT, pc_B, bk_w3, bk_wte, bk_who, bk_wow, bk_te, bk_ho, bk_ow, bk_hs, bk_ra, bk_lo, bk_bi, bk_st, bk_av, bk_so, bk_pa, bk_ln]
  · refine xj_aload_n (i := 0) hk dX3_readStatement_194 rfl rfl ?_
    refine xj_getfield hk dX3_readStatement_195 fl_X3_15 (xw_at g19 rfl) rfl ?_
    refine xj_getfield hk dX3_readStatement_198 fl_X3_92 (xw_at g3 rfl) rfl ?_
    refine xj.eqi (x' := nI n) hn ?_
    refine xj_bipush (x := 30) hk dX3_readStatement_201 (by decide) ?_
    refine xj_icmp_ge (tgt := 214) hk dX3_readStatement_203 (by decide) (fun c203 => ?_) (fun c203 => ?_)
    · have c203 : 30 ≤ n := (nI_leI (a := 30) (b := n) (by omega) (by omega)).mp c203
      refine xj_aload_n (i := 0) hk dX3_readStatement_214 rfl rfl ?_
      refine xj_ldcS hk (q := S12) S12_in rfl dX3_readStatement_215 ?_
      refine xj_callV hk hz (fr1 := 5) (lo1 := 106) (r1 := some (.int (xb (wIs (tp_by t) b e S12.2.2.2.2)))) (As := [.ref (xw_ad v (40 + S12.1) 0)]) (st := []) (st2 := [.int (xb (wIs (tp_by t) b e S12.2.2.2.2))]) (G1 := G) ml_X3_50 (c_X3_wordIs (b := b) (e := e) (fa := fa) (q := S12) (show G 18 = pc_T v t from g18) htl hl7 (show G 19 = pR v (nI e) (nI b) fa from g19) S12_in (by omega) (by omega)) (xw_at g19 rfl) rfl dX3_readStatement_217 ⟨Nat.le_of_ble_eq_true rfl, Nat.le_of_ble_eq_true rfl⟩ rfl (Nat.le_of_ble_eq_true rfl) rfl rfl ?_
      refine xj_ifb_eq (tgt := 243) hk dX3_readStatement_220 (by decide) (fun c220 => ?_) (fun c220 => ?_)
      · refine xj_aload_n (i := 0) hk dX3_readStatement_243 rfl rfl ?_
        refine xj_aload_n (i := 0) hk dX3_readStatement_244 rfl rfl ?_
        refine xj_getfield hk dX3_readStatement_245 fl_X3_101 (xw_at g19 rfl) rfl ?_
        refine xj_callV hk hz (fr1 := 0) (lo1 := 0) (r1 := none) (As := [.int (nI b)]) (st := []) (st2 := []) (G1 := xw_up G 19 (pR v (nI e) (nI b) (ffa fa (nI b)))) ml_X3_104 (c_X3_fail (pl := nI e) (ws := nI b) (fa := fa) (show G 18 = pc_T v t from g18) htl hl7 (show G 19 = pR v (nI e) (nI b) fa from g19) (nI b)) (xw_at g19 rfl) rfl dX3_readStatement_248 ⟨Nat.le_of_ble_eq_true rfl, Nat.le_of_ble_eq_true rfl⟩ rfl (Nat.le_of_ble_eq_true rfl) rfl rfl ?_
        refine xj_return hk hz dX3_readStatement_251 ?_
        refine hpost (nI b) _ ?_
        simp only [RS2]
        rw [if_neg (fun q9 => absurd q9.2 (by omega)), if_neg (fun q9 => by have := q9.1; rw [c220] at this; cases this)]
        exact (xw_up_same (show (xw_up G 19 (pR v (nI e) (nI b) (ffa fa (nI b)))) 3 = pc_B v 3 A from (show (xw_up G 19 (pR v (nI e) (nI b) (ffa fa (nI b)))) 3 = pc_B v 3 A from by rw [xw_up_n (by decide), g3]))).symm
      · refine xj_aload_n (i := 0) hk dX3_readStatement_223 rfl rfl ?_
        refine xj_getfield hk dX3_readStatement_224 fl_X3_15 (xw_at g19 rfl) rfl ?_
        refine xj_getfield hk dX3_readStatement_227 fl_X3_92 (xw_at g3 rfl) rfl ?_
        refine xj.eqi (x' := nI n) hn ?_
        refine xj_bipush (x := 30) hk dX3_readStatement_230 (by decide) ?_
        refine xj_icmp_ge (tgt := 243) hk dX3_readStatement_232 (by decide) (fun c232 => ?_) (fun c232 => ?_)
        · have c232 : 30 ≤ n := (nI_leI (a := 30) (b := n) (by omega) (by omega)).mp c232
          refine xj_aload_n (i := 0) hk dX3_readStatement_243 rfl rfl ?_
          refine xj_aload_n (i := 0) hk dX3_readStatement_244 rfl rfl ?_
          refine xj_getfield hk dX3_readStatement_245 fl_X3_101 (xw_at g19 rfl) rfl ?_
          refine xj_callV hk hz (fr1 := 0) (lo1 := 0) (r1 := none) (As := [.int (nI b)]) (st := []) (st2 := []) (G1 := xw_up G 19 (pR v (nI e) (nI b) (ffa fa (nI b)))) ml_X3_104 (c_X3_fail (pl := nI e) (ws := nI b) (fa := fa) (show G 18 = pc_T v t from g18) htl hl7 (show G 19 = pR v (nI e) (nI b) fa from g19) (nI b)) (xw_at g19 rfl) rfl dX3_readStatement_248 ⟨Nat.le_of_ble_eq_true rfl, Nat.le_of_ble_eq_true rfl⟩ rfl (Nat.le_of_ble_eq_true rfl) rfl rfl ?_
          refine xj_return hk hz dX3_readStatement_251 ?_
          refine hpost (nI b) _ ?_
          simp only [RS2]
          rw [if_neg (fun q9 => absurd q9.2 (by omega)), if_neg (fun q9 => absurd q9.2 (by omega))]
          exact (xw_up_same (show (xw_up G 19 (pR v (nI e) (nI b) (ffa fa (nI b)))) 3 = pc_B v 3 A from (show (xw_up G 19 (pR v (nI e) (nI b) (ffa fa (nI b)))) 3 = pc_B v 3 A from by rw [xw_up_n (by decide), g3]))).symm
        · have c232 : ¬ 30 ≤ n := fun q => c232 ((nI_leI (a := 30) (b := n) (by omega) (by omega)).mpr q)
          refine xj_aload_n (i := 0) hk dX3_readStatement_235 rfl rfl ?_
          refine xj_iconst (x := 0) hk dX3_readStatement_236 (by decide) ?_
          refine xj_callV hk hz (fr1 := 7) (lo1 := 149) (r1 := none) (As := [.int 0]) (st := []) (st2 := []) (G1 := xw_up (xw_up G 19 (pR v (nI (nuE (tp_by t) l (bE3 (tp_by t) l e false))) (nI (sbk (tp_by t) l (bP2 (tp_by t) l e false))) (bFa (tp_by t) l e false fa))) 3 (pB v 3 (bk_te A) (bk_ho A) (bk_ow A) (insR n n (nuV (tp_by t) l e 0 7) (bk_hs A)) (insR n n (bR (tp_by t) l e false) (bk_ra A)) (insR n n (bL (tp_by t) l e false) (bk_lo A)) (nI (n + 1)) (bk_st A) (bk_av A) (bk_so A) (bk_pa A) (bk_ln A))) ml_X3_95 (c_readBidP (p := e) (ws := nI b) (fa := fa) (n := n) (show G 18 = pc_T v t from g18) htl hl7 (show G 19 = pR v (nI e) (nI b) fa from g19) (show G 3 = pc_B v 3 A from g3) (by omega) hn (by omega)) (xw_at g19 rfl) rfl dX3_readStatement_237 ⟨Nat.le_of_ble_eq_true rfl, Nat.le_of_ble_eq_true rfl⟩ rfl (Nat.le_of_ble_eq_true rfl) rfl rfl ?_
          refine xj_goto (tgt := 251) hk dX3_readStatement_240 (by decide) ?_
          refine xj_return hk hz dX3_readStatement_251 ?_
          refine hpost (nI (sbk (tp_by t) l (bP2 (tp_by t) l e false))) _ ?_
          simp only [RS2]
          rw [if_neg (fun q9 => absurd q9.2 (by omega)), if_pos ⟨c220, by omega⟩]
          simp only [rsB, rsT, pc_B, bk_w3, bk_wte, bk_who, bk_wow, bk_te, bk_ho, bk_ow, bk_hs, bk_ra, bk_lo, bk_bi, bk_st, bk_av, bk_so, bk_pa, bk_ln]
    · have c203 : ¬ 30 ≤ n := fun q => c203 ((nI_leI (a := 30) (b := n) (by omega) (by omega)).mpr q)
      refine xj_aload_n (i := 0) hk dX3_readStatement_206 rfl rfl ?_
      refine xj_iconst (x := 1) hk dX3_readStatement_207 (by decide) ?_
      refine xj_callV hk hz (fr1 := 7) (lo1 := 149) (r1 := none) (As := [.int 1]) (st := []) (st2 := []) (G1 := xw_up (xw_up G 19 (pR v (nI (nuE (tp_by t) l (bE3 (tp_by t) l e true))) (nI (sbk (tp_by t) l (bP2 (tp_by t) l e true))) (bFa (tp_by t) l e true fa))) 3 (pB v 3 (bk_te A) (bk_ho A) (bk_ow A) (insR n n (nuV (tp_by t) l e 0 7) (bk_hs A)) (insR n n (bR (tp_by t) l e true) (bk_ra A)) (insR n n (bL (tp_by t) l e true) (bk_lo A)) (nI (n + 1)) (bk_st A) (bk_av A) (bk_so A) (bk_pa A) (bk_ln A))) ml_X3_95 (c_readBidR (p := e) (ws := nI b) (fa := fa) (n := n) (show G 18 = pc_T v t from g18) htl hl7 (show G 19 = pR v (nI e) (nI b) fa from g19) (show G 3 = pc_B v 3 A from g3) (by omega) hn (by omega)) (xw_at g19 rfl) rfl dX3_readStatement_208 ⟨Nat.le_of_ble_eq_true rfl, Nat.le_of_ble_eq_true rfl⟩ rfl (Nat.le_of_ble_eq_true rfl) rfl rfl ?_
      refine xj_goto (tgt := 251) hk dX3_readStatement_211 (by decide) ?_
      refine xj_return hk hz dX3_readStatement_251 ?_
      refine hpost (nI (sbk (tp_by t) l (bP2 (tp_by t) l e true))) _ ?_
      simp only [RS2]
      rw [if_pos ⟨c191, by omega⟩]
      simp only [rsB, rsT, pc_B, bk_w3, bk_wte, bk_who, bk_wow, bk_te, bk_ho, bk_ow, bk_hs, bk_ra, bk_lo, bk_bi, bk_st, bk_av, bk_so, bk_pa, bk_ln]
set_option maxHeartbeats 1000000 in
set_option maxRecDepth 10000 in
theorem l_rsB {v : xw_V} {κ : xk_K} {post : Option Value → xw_G → Prop} {z : Nat × Nat × Nat} {G : xw_G} {t : tp_T} {l : Nat} {A : bk_T} {fa : Int32} {n b e : Nat} (hk : xk_Ok v κ yX3_readStatement cX3_readStatement 1 none 8 173) (hz : xk_zf κ = z) (g18 : G 18 = pc_T v t) (htl : tp_le t = nI l) (hl7 : l ≤ 700) (g19 : G 19 = pR v (nI e) (nI b) fa) (g3 : G 3 = pc_B v 3 A) (hbe : b ≤ e ∧ e ≤ l) (hn : bk_bi A = nI n) (hn30 : n ≤ 30) (hpost : ∀ (ws9 : Int32) (G9 : xw_G), G9 = xw_up (xw_up G 19 (pR v (nI (RS1 (tp_by t) l b e fa n A).1) ws9 (RS1 (tp_by t) l b e fa n A).2.1)) 3 (pc_B v 3 (RS1 (tp_by t) l b e fa n A).2.2.2) → post none G9) : xj v κ post z G 88 [some (.ref (xw_ad v 19 0))] [] := by
  refine xj_aload_n (i := 0) hk dX3_readStatement_88 rfl rfl ?_
  refine xj_ldcS hk (q := S6) S6_in rfl dX3_readStatement_89 ?_
  refine xj_callV hk hz (fr1 := 5) (lo1 := 106) (r1 := some (.int (xb (wIs (tp_by t) b e S6.2.2.2.2)))) (As := [.ref (xw_ad v (40 + S6.1) 0)]) (st := []) (st2 := [.int (xb (wIs (tp_by t) b e S6.2.2.2.2))]) (G1 := G) ml_X3_50 (c_X3_wordIs (b := b) (e := e) (fa := fa) (q := S6) (show G 18 = pc_T v t from g18) htl hl7 (show G 19 = pR v (nI e) (nI b) fa from g19) S6_in (by omega) (by omega)) (xw_at g19 rfl) rfl dX3_readStatement_91 ⟨Nat.le_of_ble_eq_true rfl, Nat.le_of_ble_eq_true rfl⟩ rfl (Nat.le_of_ble_eq_true rfl) rfl rfl ?_
  refine xj_ifb_eq (tgt := 111) hk dX3_readStatement_94 (by decide) (fun c94 => ?_) (fun c94 => ?_)
  · refine xj_aload_n (i := 0) hk dX3_readStatement_111 rfl rfl ?_
    refine xj_ldcS hk (q := S7) S7_in rfl dX3_readStatement_112 ?_
    refine xj_callV hk hz (fr1 := 5) (lo1 := 106) (r1 := some (.int (xb (wIs (tp_by t) b e S7.2.2.2.2)))) (As := [.ref (xw_ad v (40 + S7.1) 0)]) (st := []) (st2 := [.int (xb (wIs (tp_by t) b e S7.2.2.2.2))]) (G1 := G) ml_X3_50 (c_X3_wordIs (b := b) (e := e) (fa := fa) (q := S7) (show G 18 = pc_T v t from g18) htl hl7 (show G 19 = pR v (nI e) (nI b) fa from g19) S7_in (by omega) (by omega)) (xw_at g19 rfl) rfl dX3_readStatement_114 ⟨Nat.le_of_ble_eq_true rfl, Nat.le_of_ble_eq_true rfl⟩ rfl (Nat.le_of_ble_eq_true rfl) rfl rfl ?_
    refine xj_ifb_eq (tgt := 134) hk dX3_readStatement_117 (by decide) (fun c117 => ?_) (fun c117 => ?_)
    · refine xj_aload_n (i := 0) hk dX3_readStatement_134 rfl rfl ?_
      refine xj_ldcS hk (q := S8) S8_in rfl dX3_readStatement_135 ?_
      refine xj_callV hk hz (fr1 := 5) (lo1 := 106) (r1 := some (.int (xb (wIs (tp_by t) b e S8.2.2.2.2)))) (As := [.ref (xw_ad v (40 + S8.1) 0)]) (st := []) (st2 := [.int (xb (wIs (tp_by t) b e S8.2.2.2.2))]) (G1 := G) ml_X3_50 (c_X3_wordIs (b := b) (e := e) (fa := fa) (q := S8) (show G 18 = pc_T v t from g18) htl hl7 (show G 19 = pR v (nI e) (nI b) fa from g19) S8_in (by omega) (by omega)) (xw_at g19 rfl) rfl dX3_readStatement_137 ⟨Nat.le_of_ble_eq_true rfl, Nat.le_of_ble_eq_true rfl⟩ rfl (Nat.le_of_ble_eq_true rfl) rfl rfl ?_
      refine xj_ifb_eq (tgt := 160) hk dX3_readStatement_140 (by decide) (fun c140 => ?_) (fun c140 => ?_)
      · refine xj_aload_n (i := 0) hk dX3_readStatement_160 rfl rfl ?_
        refine xj_ldcS hk (q := S9) S9_in rfl dX3_readStatement_161 ?_
        refine xj_callV hk hz (fr1 := 5) (lo1 := 106) (r1 := some (.int (xb (wIs (tp_by t) b e S9.2.2.2.2)))) (As := [.ref (xw_ad v (40 + S9.1) 0)]) (st := []) (st2 := [.int (xb (wIs (tp_by t) b e S9.2.2.2.2))]) (G1 := G) ml_X3_50 (c_X3_wordIs (b := b) (e := e) (fa := fa) (q := S9) (show G 18 = pc_T v t from g18) htl hl7 (show G 19 = pR v (nI e) (nI b) fa from g19) S9_in (by omega) (by omega)) (xw_at g19 rfl) rfl dX3_readStatement_163 ⟨Nat.le_of_ble_eq_true rfl, Nat.le_of_ble_eq_true rfl⟩ rfl (Nat.le_of_ble_eq_true rfl) rfl rfl ?_
        refine xj_ifb_eq (tgt := 185) hk dX3_readStatement_166 (by decide) (fun c166 => ?_) (fun c166 => ?_)
        · refine l_rsC hk hz g18 htl hl7 g19 g3 hbe hn hn30 (fun ws9 G9 h9 => hpost ws9 G9 ?_)
          rw [h9]
          simp only [RS1]
          rw [if_neg (show ¬ _ = true from by rw [c94]; decide), if_neg (show ¬ _ = true from by rw [c117]; decide), if_neg (show ¬ _ = true from by rw [c140]; decide), if_neg (show ¬ _ = true from by rw [c166]; decide)]
        · refine xj_aload_n (i := 0) hk dX3_readStatement_169 rfl rfl ?_
          refine xj_aload_n (i := 0) hk dX3_readStatement_170 rfl rfl ?_
          refine xj_getfield hk dX3_readStatement_171 fl_X3_15 (xw_at g19 rfl) rfl ?_
          refine xj_getfield hk dX3_readStatement_174 fl_X3_87 (xw_at g3 rfl) rfl ?_
          refine xj_bipush (x := 7) hk dX3_readStatement_177 (by decide) ?_
          refine xj_callV hk hz (fr1 := 3) (lo1 := 69) (r1 := none) (As := [.ref (xw_ad v 3 3), .int 7]) (st := []) (st2 := []) (G1 := xw_up (xw_up G 19 (pR v (nI (nuE (tp_by t) l (nuE (tp_by t) l e))) (nI b) (pFa (tp_by t) l e 7 fa))) 3 (pB v 3 (bk_te A) (bk_ho A) (pRow (tp_by t) l e 7 fa (bk_ow A)) (bk_hs A) (bk_ra A) (bk_lo A) (bk_bi A) (bk_st A) (bk_av A) (bk_so A) (bk_pa A) (bk_ln A))) ml_X3_81 (c_readPairO (p := e) (ws := nI b) (fa := fa) (show G 18 = pc_T v t from g18) htl hl7 (show G 19 = pR v (nI e) (nI b) fa from g19) (show G 3 = pc_B v 3 A from g3) (by omega) 7) (xw_at g19 rfl) rfl dX3_readStatement_179 ⟨Nat.le_of_ble_eq_true rfl, Nat.le_of_ble_eq_true rfl⟩ rfl (Nat.le_of_ble_eq_true rfl) rfl rfl ?_
          refine xj_goto (tgt := 251) hk dX3_readStatement_182 (by decide) ?_
          refine xj_return hk hz dX3_readStatement_251 ?_
          refine hpost (nI b) _ ?_
          simp only [RS1]
          rw [if_neg (show ¬ _ = true from by rw [c94]; decide), if_neg (show ¬ _ = true from by rw [c117]; decide), if_neg (show ¬ _ = true from by rw [c140]; decide), if_pos c166]
          simp only [rsB, rsT, pc_B, bk_w3, bk_wte, bk_who, bk_wow, bk_te, bk_ho, bk_ow, bk_hs, bk_ra, bk_lo, bk_bi, bk_st, bk_av, bk_so, bk_pa, bk_ln]
      · refine xj_aload_n (i := 0) hk dX3_readStatement_143 rfl rfl ?_
        refine xj_aload_n (i := 0) hk dX3_readStatement_144 rfl rfl ?_
        refine xj_getfield hk dX3_readStatement_145 fl_X3_15 (xw_at g19 rfl) rfl ?_
        refine xj_getfield hk dX3_readStatement_148 fl_X3_79 (xw_at g3 rfl) rfl ?_
        refine xj_sipush (x := 9999) hk dX3_readStatement_151 (by decide) ?_
        refine xj_callV hk hz (fr1 := 3) (lo1 := 69) (r1 := none) (As := [.ref (xw_ad v 3 2), .int 9999]) (st := []) (st2 := []) (G1 := xw_up (xw_up G 19 (pR v (nI (nuE (tp_by t) l (nuE (tp_by t) l e))) (nI b) (pFa (tp_by t) l e 9999 fa))) 3 (pB v 3 (bk_te A) (pRow (tp_by t) l e 9999 fa (bk_ho A)) (bk_ow A) (bk_hs A) (bk_ra A) (bk_lo A) (bk_bi A) (bk_st A) (bk_av A) (bk_so A) (bk_pa A) (bk_ln A))) ml_X3_81 (c_readPairH (p := e) (ws := nI b) (fa := fa) (show G 18 = pc_T v t from g18) htl hl7 (show G 19 = pR v (nI e) (nI b) fa from g19) (show G 3 = pc_B v 3 A from g3) (by omega) 9999) (xw_at g19 rfl) rfl dX3_readStatement_154 ⟨Nat.le_of_ble_eq_true rfl, Nat.le_of_ble_eq_true rfl⟩ rfl (Nat.le_of_ble_eq_true rfl) rfl rfl ?_
        refine xj_goto (tgt := 251) hk dX3_readStatement_157 (by decide) ?_
        refine xj_return hk hz dX3_readStatement_251 ?_
        refine hpost (nI b) _ ?_
        simp only [RS1]
        rw [if_neg (show ¬ _ = true from by rw [c94]; decide), if_neg (show ¬ _ = true from by rw [c117]; decide), if_pos c140]
        simp only [rsB, rsT, pc_B, bk_w3, bk_wte, bk_who, bk_wow, bk_te, bk_ho, bk_ow, bk_hs, bk_ra, bk_lo, bk_bi, bk_st, bk_av, bk_so, bk_pa, bk_ln]
    · refine xj_aload_n (i := 0) hk dX3_readStatement_120 rfl rfl ?_
      refine xj_getfield hk dX3_readStatement_121 fl_X3_15 (xw_at g19 rfl) rfl ?_
      refine xj_getfield hk dX3_readStatement_124 fl_X3_71 (xw_at g3 rfl) rfl ?_
      refine xj_bipush (x := 6) hk dX3_readStatement_127 (by decide) ?_
      refine xj_iconst (x := 1) hk dX3_readStatement_129 (by decide) ?_
      refine xj_iastore (k := 6) (G2 := xw_up G 3 (pB v 3 (xu (bk_te A) 6 1) (bk_ho A) (bk_ow A) (bk_hs A) (bk_ra A) (bk_lo A) (bk_bi A) (bk_st A) (bk_av A) (bk_so A) (bk_pa A) (bk_ln A))) hk dX3_readStatement_130 (xw_at g3 rfl) (xi_d 6 7 (by decide)) (xw_wr g3 rfl) ?_
      refine xj_goto (tgt := 251) hk dX3_readStatement_131 (by decide) ?_
      refine xj_return hk hz dX3_readStatement_251 ?_
      refine hpost (nI b) _ ?_
      simp only [RS1]
      rw [if_neg (show ¬ _ = true from by rw [c94]; decide), if_pos c117]
      rw [show xw_up G 19 (pR v (nI e) (nI b) fa) = G from xw_up_same g19]
      simp only [rsB, rsT, pc_B, bk_w3, bk_wte, bk_who, bk_wow, bk_te, bk_ho, bk_ow, bk_hs, bk_ra, bk_lo, bk_bi, bk_st, bk_av, bk_so, bk_pa, bk_ln]
  · refine xj_aload_n (i := 0) hk dX3_readStatement_97 rfl rfl ?_
    refine xj_getfield hk dX3_readStatement_98 fl_X3_15 (xw_at g19 rfl) rfl ?_
    refine xj_getfield hk dX3_readStatement_101 fl_X3_71 (xw_at g3 rfl) rfl ?_
    refine xj_bipush (x := 6) hk dX3_readStatement_104 (by decide) ?_
    refine xj_iconst (x := 0) hk dX3_readStatement_106 (by decide) ?_
    refine xj_iastore (k := 6) (G2 := xw_up G 3 (pB v 3 (xu (bk_te A) 6 0) (bk_ho A) (bk_ow A) (bk_hs A) (bk_ra A) (bk_lo A) (bk_bi A) (bk_st A) (bk_av A) (bk_so A) (bk_pa A) (bk_ln A))) hk dX3_readStatement_107 (xw_at g3 rfl) (xi_d 6 7 (by decide)) (xw_wr g3 rfl) ?_
    refine xj_goto (tgt := 251) hk dX3_readStatement_108 (by decide) ?_
    refine xj_return hk hz dX3_readStatement_251 ?_
    refine hpost (nI b) _ ?_
    simp only [RS1]
    rw [if_pos c94]
    rw [show xw_up G 19 (pR v (nI e) (nI b) fa) = G from xw_up_same g19]
    simp only [rsB, rsT, pc_B, bk_w3, bk_wte, bk_who, bk_wow, bk_te, bk_ho, bk_ow, bk_hs, bk_ra, bk_lo, bk_bi, bk_st, bk_av, bk_so, bk_pa, bk_ln]
set_option maxHeartbeats 1000000 in
set_option maxRecDepth 10000 in
theorem l_rsA {v : xw_V} {κ : xk_K} {post : Option Value → xw_G → Prop} {z : Nat × Nat × Nat} {G : xw_G} {t : tp_T} {l : Nat} {A : bk_T} {fa : Int32} {n b e : Nat} (hk : xk_Ok v κ yX3_readStatement cX3_readStatement 1 none 8 173) (hz : xk_zf κ = z) (g18 : G 18 = pc_T v t) (htl : tp_le t = nI l) (hl7 : l ≤ 700) (g19 : G 19 = pR v (nI e) (nI b) fa) (g3 : G 3 = pc_B v 3 A) (hbe : b ≤ e ∧ e ≤ l) (hn : bk_bi A = nI n) (hn30 : n ≤ 30) (hpost : ∀ (ws9 : Int32) (G9 : xw_G), G9 = xw_up (xw_up G 19 (pR v (nI (RS0 (tp_by t) l b e fa n A).1) ws9 (RS0 (tp_by t) l b e fa n A).2.1)) 3 (pc_B v 3 (RS0 (tp_by t) l b e fa n A).2.2.2) → post none G9) : xj v κ post z G 4 [some (.ref (xw_ad v 19 0))] [] := by
  refine xj_aload_n (i := 0) hk dX3_readStatement_4 rfl rfl ?_
  refine xj_ldcS hk (q := S0) S0_in rfl dX3_readStatement_5 ?_
  refine xj_callV hk hz (fr1 := 5) (lo1 := 106) (r1 := some (.int (xb (wIs (tp_by t) b e S0.2.2.2.2)))) (As := [.ref (xw_ad v (40 + S0.1) 0)]) (st := []) (st2 := [.int (xb (wIs (tp_by t) b e S0.2.2.2.2))]) (G1 := G) ml_X3_50 (c_X3_wordIs (b := b) (e := e) (fa := fa) (q := S0) (show G 18 = pc_T v t from g18) htl hl7 (show G 19 = pR v (nI e) (nI b) fa from g19) S0_in (by omega) (by omega)) (xw_at g19 rfl) rfl dX3_readStatement_7 ⟨Nat.le_of_ble_eq_true rfl, Nat.le_of_ble_eq_true rfl⟩ rfl (Nat.le_of_ble_eq_true rfl) rfl rfl ?_
  refine xj_ifb_eq (tgt := 21) hk dX3_readStatement_10 (by decide) (fun c10 => ?_) (fun c10 => ?_)
  · refine xj_aload_n (i := 0) hk dX3_readStatement_21 rfl rfl ?_
    refine xj_ldcS hk (q := S1) S1_in rfl dX3_readStatement_22 ?_
    refine xj_callV hk hz (fr1 := 5) (lo1 := 106) (r1 := some (.int (xb (wIs (tp_by t) b e S1.2.2.2.2)))) (As := [.ref (xw_ad v (40 + S1.1) 0)]) (st := []) (st2 := [.int (xb (wIs (tp_by t) b e S1.2.2.2.2))]) (G1 := G) ml_X3_50 (c_X3_wordIs (b := b) (e := e) (fa := fa) (q := S1) (show G 18 = pc_T v t from g18) htl hl7 (show G 19 = pR v (nI e) (nI b) fa from g19) S1_in (by omega) (by omega)) (xw_at g19 rfl) rfl dX3_readStatement_24 ⟨Nat.le_of_ble_eq_true rfl, Nat.le_of_ble_eq_true rfl⟩ rfl (Nat.le_of_ble_eq_true rfl) rfl rfl ?_
    refine xj_ifb_eq (tgt := 38) hk dX3_readStatement_27 (by decide) (fun c27 => ?_) (fun c27 => ?_)
    · refine xj_aload_n (i := 0) hk dX3_readStatement_38 rfl rfl ?_
      refine xj_ldcS hk (q := S2) S2_in rfl dX3_readStatement_39 ?_
      refine xj_callV hk hz (fr1 := 5) (lo1 := 106) (r1 := some (.int (xb (wIs (tp_by t) b e S2.2.2.2.2)))) (As := [.ref (xw_ad v (40 + S2.1) 0)]) (st := []) (st2 := [.int (xb (wIs (tp_by t) b e S2.2.2.2.2))]) (G1 := G) ml_X3_50 (c_X3_wordIs (b := b) (e := e) (fa := fa) (q := S2) (show G 18 = pc_T v t from g18) htl hl7 (show G 19 = pR v (nI e) (nI b) fa from g19) S2_in (by omega) (by omega)) (xw_at g19 rfl) rfl dX3_readStatement_41 ⟨Nat.le_of_ble_eq_true rfl, Nat.le_of_ble_eq_true rfl⟩ rfl (Nat.le_of_ble_eq_true rfl) rfl rfl ?_
      refine xj_ifb_eq (tgt := 55) hk dX3_readStatement_44 (by decide) (fun c44 => ?_) (fun c44 => ?_)
      · refine xj_aload_n (i := 0) hk dX3_readStatement_55 rfl rfl ?_
        refine xj_ldcS hk (q := S3) S3_in rfl dX3_readStatement_56 ?_
        refine xj_callV hk hz (fr1 := 5) (lo1 := 106) (r1 := some (.int (xb (wIs (tp_by t) b e S3.2.2.2.2)))) (As := [.ref (xw_ad v (40 + S3.1) 0)]) (st := []) (st2 := [.int (xb (wIs (tp_by t) b e S3.2.2.2.2))]) (G1 := G) ml_X3_50 (c_X3_wordIs (b := b) (e := e) (fa := fa) (q := S3) (show G 18 = pc_T v t from g18) htl hl7 (show G 19 = pR v (nI e) (nI b) fa from g19) S3_in (by omega) (by omega)) (xw_at g19 rfl) rfl dX3_readStatement_58 ⟨Nat.le_of_ble_eq_true rfl, Nat.le_of_ble_eq_true rfl⟩ rfl (Nat.le_of_ble_eq_true rfl) rfl rfl ?_
        refine xj_ifb_eq (tgt := 71) hk dX3_readStatement_61 (by decide) (fun c61 => ?_) (fun c61 => ?_)
        · refine xj_aload_n (i := 0) hk dX3_readStatement_71 rfl rfl ?_
          refine xj_ldcS hk (q := S5) S5_in rfl dX3_readStatement_72 ?_
          refine xj_callV hk hz (fr1 := 5) (lo1 := 106) (r1 := some (.int (xb (wIs (tp_by t) b e S5.2.2.2.2)))) (As := [.ref (xw_ad v (40 + S5.1) 0)]) (st := []) (st2 := [.int (xb (wIs (tp_by t) b e S5.2.2.2.2))]) (G1 := G) ml_X3_50 (c_X3_wordIs (b := b) (e := e) (fa := fa) (q := S5) (show G 18 = pc_T v t from g18) htl hl7 (show G 19 = pR v (nI e) (nI b) fa from g19) S5_in (by omega) (by omega)) (xw_at g19 rfl) rfl dX3_readStatement_74 ⟨Nat.le_of_ble_eq_true rfl, Nat.le_of_ble_eq_true rfl⟩ rfl (Nat.le_of_ble_eq_true rfl) rfl rfl ?_
          refine xj_ifb_eq (tgt := 88) hk dX3_readStatement_77 (by decide) (fun c77 => ?_) (fun c77 => ?_)
          · refine l_rsB hk hz g18 htl hl7 g19 g3 hbe hn hn30 (fun ws9 G9 h9 => hpost ws9 G9 ?_)
            rw [h9]
            simp only [RS0]
            rw [if_neg (show ¬ _ = true from by rw [c10]; decide), if_neg (show ¬ _ = true from by rw [c27]; decide), if_neg (show ¬ _ = true from by rw [c44]; decide), if_neg (show ¬ _ = true from by rw [c61]; decide), if_neg (show ¬ _ = true from by rw [c77]; decide)]
          · refine xj_aload_n (i := 0) hk dX3_readStatement_80 rfl rfl ?_
            refine xj_iconst (x := 5) hk dX3_readStatement_81 (by decide) ?_
            refine xj_callV hk hz (fr1 := 3) (lo1 := 69) (r1 := none) (As := [.int 5]) (st := []) (st2 := []) (G1 := xw_up (xw_up G 19 (pR v (nI (nuE (tp_by t) l e)) (nI b) (nuF (tp_by t) l e (st_LEAST 5) (st_MOST 5) fa))) 3 (pB v 3 (xu (bk_te A) 5 (nuV (tp_by t) l e (st_LEAST 5) (st_MOST 5))) (bk_ho A) (bk_ow A) (bk_hs A) (bk_ra A) (bk_lo A) (bk_bi A) (bk_st A) (bk_av A) (bk_so A) (bk_pa A) (bk_ln A))) ml_X3_54 (c_X3_readTerm (p := e) (ws := nI b) (fa := fa) (j := 5) (show G 18 = pc_T v t from g18) htl hl7 (show G 19 = pR v (nI e) (nI b) fa from g19) (show G 3 = pc_B v 3 A from g3) (by omega) (by omega)) (xw_at g19 rfl) rfl dX3_readStatement_82 ⟨Nat.le_of_ble_eq_true rfl, Nat.le_of_ble_eq_true rfl⟩ rfl (Nat.le_of_ble_eq_true rfl) rfl rfl ?_
            refine xj_goto (tgt := 251) hk dX3_readStatement_85 (by decide) ?_
            refine xj_return hk hz dX3_readStatement_251 ?_
            refine hpost (nI b) _ ?_
            simp only [RS0]
            rw [if_neg (show ¬ _ = true from by rw [c10]; decide), if_neg (show ¬ _ = true from by rw [c27]; decide), if_neg (show ¬ _ = true from by rw [c44]; decide), if_neg (show ¬ _ = true from by rw [c61]; decide), if_pos c77]
            simp only [rsB, rsT, pc_B, bk_w3, bk_wte, bk_who, bk_wow, bk_te, bk_ho, bk_ow, bk_hs, bk_ra, bk_lo, bk_bi, bk_st, bk_av, bk_so, bk_pa, bk_ln]
        · refine xj_aload_n (i := 0) hk dX3_readStatement_64 rfl rfl ?_
          refine xj_callV hk hz (fr1 := 7) (lo1 := 149) (r1 := none) (As := []) (st := []) (st2 := []) (G1 := xw_up (xw_up G 19 (pR v (nI (nuE (tp_by t) l (yE2 (tp_by t) l e))) (nI (sbk (tp_by t) l (nuE (tp_by t) l e))) (yFa (tp_by t) l e fa))) 3 (pB v 3 (xu (xu (bk_te A) 4 (yV2 (tp_by t) l e)) 3 (yV1 (tp_by t) l e)) (bk_ho A) (bk_ow A) (bk_hs A) (bk_ra A) (bk_lo A) (bk_bi A) (bk_st A) (bk_av A) (bk_so A) (bk_pa A) (bk_ln A))) ml_X3_64 (c_X3_readYields (p := e) (ws := nI b) (fa := fa) (show G 18 = pc_T v t from g18) htl hl7 (show G 19 = pR v (nI e) (nI b) fa from g19) (show G 3 = pc_B v 3 A from g3) (by omega)) (xw_at g19 rfl) rfl dX3_readStatement_65 ⟨Nat.le_of_ble_eq_true rfl, Nat.le_of_ble_eq_true rfl⟩ rfl (Nat.le_of_ble_eq_true rfl) rfl rfl ?_
          refine xj_goto (tgt := 251) hk dX3_readStatement_68 (by decide) ?_
          refine xj_return hk hz dX3_readStatement_251 ?_
          refine hpost (nI (sbk (tp_by t) l (nuE (tp_by t) l e))) _ ?_
          simp only [RS0]
          rw [if_neg (show ¬ _ = true from by rw [c10]; decide), if_neg (show ¬ _ = true from by rw [c27]; decide), if_neg (show ¬ _ = true from by rw [c44]; decide), if_pos c61]
          simp only [rsB, rsT, pc_B, bk_w3, bk_wte, bk_who, bk_wow, bk_te, bk_ho, bk_ow, bk_hs, bk_ra, bk_lo, bk_bi, bk_st, bk_av, bk_so, bk_pa, bk_ln]
      · refine xj_aload_n (i := 0) hk dX3_readStatement_47 rfl rfl ?_
        refine xj_iconst (x := 2) hk dX3_readStatement_48 (by decide) ?_
        refine xj_callV hk hz (fr1 := 3) (lo1 := 69) (r1 := none) (As := [.int 2]) (st := []) (st2 := []) (G1 := xw_up (xw_up G 19 (pR v (nI (nuE (tp_by t) l e)) (nI b) (nuF (tp_by t) l e (st_LEAST 2) (st_MOST 2) fa))) 3 (pB v 3 (xu (bk_te A) 2 (nuV (tp_by t) l e (st_LEAST 2) (st_MOST 2))) (bk_ho A) (bk_ow A) (bk_hs A) (bk_ra A) (bk_lo A) (bk_bi A) (bk_st A) (bk_av A) (bk_so A) (bk_pa A) (bk_ln A))) ml_X3_54 (c_X3_readTerm (p := e) (ws := nI b) (fa := fa) (j := 2) (show G 18 = pc_T v t from g18) htl hl7 (show G 19 = pR v (nI e) (nI b) fa from g19) (show G 3 = pc_B v 3 A from g3) (by omega) (by omega)) (xw_at g19 rfl) rfl dX3_readStatement_49 ⟨Nat.le_of_ble_eq_true rfl, Nat.le_of_ble_eq_true rfl⟩ rfl (Nat.le_of_ble_eq_true rfl) rfl rfl ?_
        refine xj_goto (tgt := 251) hk dX3_readStatement_52 (by decide) ?_
        refine xj_return hk hz dX3_readStatement_251 ?_
        refine hpost (nI b) _ ?_
        simp only [RS0]
        rw [if_neg (show ¬ _ = true from by rw [c10]; decide), if_neg (show ¬ _ = true from by rw [c27]; decide), if_pos c44]
        simp only [rsB, rsT, pc_B, bk_w3, bk_wte, bk_who, bk_wow, bk_te, bk_ho, bk_ow, bk_hs, bk_ra, bk_lo, bk_bi, bk_st, bk_av, bk_so, bk_pa, bk_ln]
    · refine xj_aload_n (i := 0) hk dX3_readStatement_30 rfl rfl ?_
      refine xj_iconst (x := 1) hk dX3_readStatement_31 (by decide) ?_
      refine xj_callV hk hz (fr1 := 3) (lo1 := 69) (r1 := none) (As := [.int 1]) (st := []) (st2 := []) (G1 := xw_up (xw_up G 19 (pR v (nI (nuE (tp_by t) l e)) (nI b) (nuF (tp_by t) l e (st_LEAST 1) (st_MOST 1) fa))) 3 (pB v 3 (xu (bk_te A) 1 (nuV (tp_by t) l e (st_LEAST 1) (st_MOST 1))) (bk_ho A) (bk_ow A) (bk_hs A) (bk_ra A) (bk_lo A) (bk_bi A) (bk_st A) (bk_av A) (bk_so A) (bk_pa A) (bk_ln A))) ml_X3_54 (c_X3_readTerm (p := e) (ws := nI b) (fa := fa) (j := 1) (show G 18 = pc_T v t from g18) htl hl7 (show G 19 = pR v (nI e) (nI b) fa from g19) (show G 3 = pc_B v 3 A from g3) (by omega) (by omega)) (xw_at g19 rfl) rfl dX3_readStatement_32 ⟨Nat.le_of_ble_eq_true rfl, Nat.le_of_ble_eq_true rfl⟩ rfl (Nat.le_of_ble_eq_true rfl) rfl rfl ?_
      refine xj_goto (tgt := 251) hk dX3_readStatement_35 (by decide) ?_
      refine xj_return hk hz dX3_readStatement_251 ?_
      refine hpost (nI b) _ ?_
      simp only [RS0]
      rw [if_neg (show ¬ _ = true from by rw [c10]; decide), if_pos c27]
      simp only [rsB, rsT, pc_B, bk_w3, bk_wte, bk_who, bk_wow, bk_te, bk_ho, bk_ow, bk_hs, bk_ra, bk_lo, bk_bi, bk_st, bk_av, bk_so, bk_pa, bk_ln]
  · refine xj_aload_n (i := 0) hk dX3_readStatement_13 rfl rfl ?_
    refine xj_iconst (x := 0) hk dX3_readStatement_14 (by decide) ?_
    refine xj_callV hk hz (fr1 := 3) (lo1 := 69) (r1 := none) (As := [.int 0]) (st := []) (st2 := []) (G1 := xw_up (xw_up G 19 (pR v (nI (nuE (tp_by t) l e)) (nI b) (nuF (tp_by t) l e (st_LEAST 0) (st_MOST 0) fa))) 3 (pB v 3 (xu (bk_te A) 0 (nuV (tp_by t) l e (st_LEAST 0) (st_MOST 0))) (bk_ho A) (bk_ow A) (bk_hs A) (bk_ra A) (bk_lo A) (bk_bi A) (bk_st A) (bk_av A) (bk_so A) (bk_pa A) (bk_ln A))) ml_X3_54 (c_X3_readTerm (p := e) (ws := nI b) (fa := fa) (j := 0) (show G 18 = pc_T v t from g18) htl hl7 (show G 19 = pR v (nI e) (nI b) fa from g19) (show G 3 = pc_B v 3 A from g3) (by omega) (by omega)) (xw_at g19 rfl) rfl dX3_readStatement_15 ⟨Nat.le_of_ble_eq_true rfl, Nat.le_of_ble_eq_true rfl⟩ rfl (Nat.le_of_ble_eq_true rfl) rfl rfl ?_
    refine xj_goto (tgt := 251) hk dX3_readStatement_18 (by decide) ?_
    refine xj_return hk hz dX3_readStatement_251 ?_
    refine hpost (nI b) _ ?_
    simp only [RS0]
    rw [if_pos c10]
    simp only [rsB, rsT, pc_B, bk_w3, bk_wte, bk_who, bk_wow, bk_te, bk_ho, bk_ow, bk_hs, bk_ra, bk_lo, bk_bi, bk_st, bk_av, bk_so, bk_pa, bk_ln]
set_option maxHeartbeats 1000000 in
set_option maxRecDepth 10000 in
theorem c_X3_readStatement {v : xw_V} {G : xw_G} {t : tp_T} {l : Nat} {A : bk_T} {p : Nat} {ws fa : Int32} {n : Nat} (g18 : G 18 = pc_T v t) (htl : tp_le t = nI l) (hl7 : l ≤ 700) (g19 : G 19 = pR v (nI p) ws fa) (g3 : G 3 = pc_B v 3 A) (hp : p ≤ l) (hn : bk_bi A = nI n) (hn30 : n ≤ 30) : xk_Con v yX3_readStatement cX3_readStatement 1 none 8 173 [.ref (xw_ad v 19 0)] G (fun r9 G' => r9 = none ∧ ∃ ws9 : Int32, G' = xw_up (xw_up G 19 (pR v (nI (RS (tp_by t) l p fa n A).1) ws9 (RS (tp_by t) l p fa n A).2.1)) 3 (pc_B v 3 (RS (tp_by t) l p fa n A).2.2.2)) := by
  refine xk_of (ls0 := [some (.ref (xw_ad v 19 0))]) (by decide) rfl (Nat.le_of_ble_eq_true rfl) ?_
  intro κ z hk hz
  refine xj_aload_n (i := 0) hk dX3_readStatement_0 rfl rfl ?_
  refine xj_callV hk hz (fr1 := 2) (lo1 := 43) (r1 := none) (As := []) (st := []) (st2 := []) (G1 := xw_up G 19 (pR v (nI (wdE (tp_by t) l p)) (nI (sbk (tp_by t) l p)) fa)) ml_X3_45 (c_X3_takeWord (p := p) (ws := ws) (fa := fa) (show G 18 = pc_T v t from g18) htl hl7 (show G 19 = pR v (nI p) ws fa from g19) (by omega)) (xw_at g19 rfl) rfl dX3_readStatement_1 ⟨Nat.le_of_ble_eq_true rfl, Nat.le_of_ble_eq_true rfl⟩ rfl (Nat.le_of_ble_eq_true rfl) rfl rfl ?_
  obtain ⟨b, e_b⟩ : ∃ q9, q9 = sbk (tp_by t) l p := ⟨_, rfl⟩
  obtain ⟨e, e_e⟩ : ∃ q9, q9 = wdE (tp_by t) l p := ⟨_, rfl⟩
  have h_b : b ≤ e ∧ e ≤ l := by rw [e_b, e_e]; exact wdE_le (by omega)
  refine xj.eqG (G' := xw_up G 19 (pR v (nI e) (nI b) fa)) (by rw [e_b, e_e]) ?_
  refine l_rsA hk hz (show (xw_up G 19 (pR v (nI e) (nI b) fa)) 18 = pc_T v t from (show (xw_up G 19 (pR v (nI e) (nI b) fa)) 18 = pc_T v t from by rw [xw_up_n (by decide), g18])) htl hl7 (show (xw_up G 19 (pR v (nI e) (nI b) fa)) 19 = pR v (nI e) (nI b) fa from xw_up_s) (show (xw_up G 19 (pR v (nI e) (nI b) fa)) 3 = pc_B v 3 A from (show (xw_up G 19 (pR v (nI e) (nI b) fa)) 3 = pc_B v 3 A from by rw [xw_up_n (by decide), g3])) h_b hn hn30 (fun ws9 G9 h9 => ⟨rfl, ws9, ?_⟩)
  rw [h9, xw_up_u]
  simp only [RS]
  rw [← e_b, ← e_e]


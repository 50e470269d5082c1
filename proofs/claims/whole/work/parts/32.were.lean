theorem Rec_at {B : bk_T} {n : Nat} {p : Nat → Nat} (a2 : inj n p) (a3 : srt (bk_ra B) n p) (R : sl_T) : ∃ R', RecS B n R R' := by
  obtain ⟨⟨ad, wy, rl, ap, ar⟩, hA⟩ : ∃ x, aI (bk_te B) (bk_ow B) (bk_hs B) (bk_ra B) (bk_lo B) p (sl_ad R, sl_wy R, cpN 8 (rm8 (bk_te B) (bk_ho B) (bk_ow B)) (sl_rl R), 0, 0) n = x := ⟨_, rfl⟩
  obtain ⟨po, hpo⟩ : ∃ x, x = bk_te B 2 * bk_te B 0 / 100 := ⟨_, rfl⟩
  obtain ⟨⟨s1, r1⟩, h1⟩ : ∃ x, atS n (bk_ra B) ad (sl_so R) (sl_re R) (-1) po ap = x := ⟨_, rfl⟩
  obtain ⟨sp, hsp⟩ : ∃ x : Int32, x = (if ap < po then ap else po) := ⟨_, rfl⟩
  obtain ⟨rs, hrs⟩ : ∃ x, x = bk_te B 0 - sp := ⟨_, rfl⟩
  obtain ⟨st, hst⟩ : ∃ x, x = fsG (bk_ra B) ad p rs n := ⟨_, rfl⟩
  obtain ⟨⟨so, re⟩, h2⟩ : ∃ x, atS n (bk_ra B) ad (cpN n (rtS (bk_ra B) ad s1 st) s1) r1 st (rs - sm (blw (bk_ra B) ad st) n) (sm (ats (bk_ra B) ad st) n) = x := ⟨_, rfl⟩
  obtain ⟨pt, hpt⟩ : ∃ x : Int32, x = (if sm (ats (bk_ra B) ad st) n ≤ rs - sm (blw (bk_ra B) ad st) n then 0 else 1) := ⟨_, rfl⟩
  obtain ⟨sr, hsr⟩ : ∃ x : Int32, x = sm (blw (bk_ra B) ad st) n + (if sm (ats (bk_ra B) ad st) n < rs - sm (blw (bk_ra B) ad st) n then sm (ats (bk_ra B) ad st) n else rs - sm (blw (bk_ra B) ad st) n) := ⟨_, rfl⟩
  obtain ⟨av, hav⟩ : ∃ x, x = avr n (bk_te B) (bk_ra B) so sr := ⟨_, rfl⟩
  obtain ⟨ro, hro⟩ : ∃ x, x = orR (bk_te B) (bk_ho B) (bk_ow B) (sl_ro R) := ⟨_, rfl⟩
  exact ⟨(fun k => nI (p k), ad, wy, so, re, ro, rl, nI n, ap, ar, po, sp, rs, st, sr, pt, av), p, s1, r1, fun j _ => rfl, a2, a3, rfl, hA, hro, hpo, h1, hsp, hrs, hst, h2, hpt, hsr, hav⟩
theorem Rec_any2 {B A : bk_T} {n : Nat} {S S' : sl_T} (he : eqB n B A) (h : RecS A n S S') (R : sl_T) : ∃ R', RecS B n R R' := by
  obtain ⟨p, so1, re1, a1, a2, a3, a4, -⟩ := h
  refine Rec_at a2 (fun i j hij hj => ?_) R
  have := a3 i j hij hj
  simp only [ahd] at this ⊢
  rw [(he.2.2 (p i) (a2.1 i (by omega))).2.1, (he.2.2 (p j) (a2.1 j hj)).2.1]
  exact this
theorem eqB_ow {n : Nat} {B A : bk_T} (he : eqB n B A) (h : okOw (bk_ow B)) : okOw (bk_ow A) := fun j hj => by rw [← (he.2.1 j hj).2]; exact h j hj
theorem eqB_hs {n : Nat} {B A : bk_T} (he : eqB n B A) (h : okHs (bk_hs B) n) : okHs (bk_hs A) n := fun j hj => by rw [← (he.2.2 j hj).1]; exact h j hj
theorem kR_ag2 {B A : bk_T} {n : Nat} {S S' : sl_T} (he : eqB n B A) (okw : okOw (bk_ow B)) (okh : okHs (bk_hs B) n) (h : RecS A n S S') : agS n S' (kR B n) := by
  obtain ⟨R', hR⟩ := Rec_any2 he h S
  exact Rec_uniq he.symm (eqB_ow he okw) (eqB_hs he okh) h (kR_rec hR)
theorem fig_eq {X A : bk_T} {n : Nat} {S : sl_T} (he : eqB n X A) (w : Int32) : fig A S n w = fig X S n w := by
  have e : sm (fun j => if bk_ra A j = sl_st S then (if sl_ad S j ≤ 0 then 0 else 1) else 0) n = sm (fun j => if bk_ra X j = sl_st S then (if sl_ad S j ≤ 0 then 0 else 1) else 0) n := sm_congr (fun j hj => by rw [(he.2.2 j hj).2.1])
  simp only [fig]
  rw [e, he.1 0 (by omega)]
theorem payF_eq {X A : bk_T} {n j : Nat} {S : sl_T} (he : eqB n X A) (hj : j < n) : payF A S j = payF X S j := by
  simp only [payF, rateP, pric]
  rw [he.1 6 (by omega), he.1 3 (by omega), he.1 5 (by omega), (he.2.2 j hj).2.1]
theorem pa_eq {X A : bk_T} {n : Nat} {S R : sl_T} (he : eqB n X A) (h : agS n S R) : sml (payF A S) n = sml (payF X R) n := by
  rw [← pa_ag h]; exact sml_congr (fun j hj => payF_eq he hj)
theorem selso_eq {X A : bk_T} {n : Nat} {S R : sl_T} {x : Int32} (he : eqB n X A) (h : agS n S R) : sm (sel (bk_hs A) x (sl_so S)) n = sm (sel (bk_hs X) x (sl_so R)) n := sm_congr (fun j hj => by simp only [sel, (h.1 j hj).2.2.2, (he.2.2 j hj).1])
theorem figs_eq {X A : bk_T} {n : Nat} {S R : sl_T} (w : Int32) (he : eqB n X A) (h : agS n S R) : fig A S n w = fig X R n w := (fig_eq he w).trans (fig_ag w h)
def bk_wra (B : bk_T) (ra : Nat → Int32) : bk_T := bk_w3 B (bk_hs B) ra (bk_lo B) (bk_bi B)
def bk_wlo (B : bk_T) (lo : Nat → Int32) : bk_T := bk_w3 B (bk_hs B) (bk_ra B) lo (bk_bi B)
theorem xu_self {f : Nat → Int32} {k : Nat} : xu f k (f k) = f := by funext j; by_cases h : j = k <;> simp [xu, h]
theorem wte_self (B : bk_T) (k : Nat) : bk_wte B (xu (bk_te B) k (bk_te B k)) = B := by rw [xu_self]; rfl
theorem wra_self (B : bk_T) (k : Nat) : bk_wra B (xu (bk_ra B) k (bk_ra B k)) = B := by rw [xu_self]; rfl
theorem wlo_self (B : bk_T) (k : Nat) : bk_wlo B (xu (bk_lo B) k (bk_lo B k)) = B := by rw [xu_self]; rfl
theorem xu_swap {f g : Nat → Int32} {k j : Nat} {x0 x : Int32} (h : xu f k x0 j = g j) : xu f k x j = xu g k x j := by
  by_cases q : j = k
  · subst q; rw [xu_s, xu_s]
  · rw [xu_n q] at h ⊢; rw [xu_n q]; exact h
theorem eqB_te {n k : Nat} {B A : bk_T} {x0 : Int32} (x : Int32) (h : eqB n (bk_wte B (xu (bk_te B) k x0)) A) : eqB n (bk_wte B (xu (bk_te B) k x)) (bk_wte A (xu (bk_te A) k x)) := ⟨fun j hj => xu_swap (h.1 j hj), h.2.1, h.2.2⟩
theorem eqB_ra {n k : Nat} {B A : bk_T} {x0 : Int32} (x : Int32) (h : eqB n (bk_wra B (xu (bk_ra B) k x0)) A) : eqB n (bk_wra B (xu (bk_ra B) k x)) (bk_wra A (xu (bk_ra A) k x)) := ⟨h.1, h.2.1, fun j hj => ⟨(h.2.2 j hj).1, xu_swap (h.2.2 j hj).2.1, (h.2.2 j hj).2.2⟩⟩
theorem eqB_lo {n k : Nat} {B A : bk_T} {x0 : Int32} (x : Int32) (h : eqB n (bk_wlo B (xu (bk_lo B) k x0)) A) : eqB n (bk_wlo B (xu (bk_lo B) k x)) (bk_wlo A (xu (bk_lo A) k x)) := ⟨h.1, h.2.1, fun j hj => ⟨(h.2.2 j hj).1, (h.2.2 j hj).2.1, xu_swap (h.2.2 j hj).2.2⟩⟩
theorem xi_of {w : Int32} {k m : Nat} (h : xi w k m) : w = nI k := by
  obtain ⟨j, hj, rfl⟩ := nI_of h.2.1
  have := h.1
  rw [nI_clamp hj] at this
  rw [this]
/-- what is left by a trial of the book X -/
def TP (v : xw_V) (G : xw_G) (X : bk_T) (n : Nat) (r : Option Value) (G' : xw_G) : Prop := ∃ (A1 : bk_T) (S1 : sl_T), eqB n X A1 ∧ bk_bi A1 = nI n ∧ agS n S1 (kR X n) ∧ okO S1 ∧ sl_io S1 = nI n ∧ r = some (.ref (xw_ad v 4 0)) ∧ G' = xw_up (xw_up G 3 (pc_B v 3 A1)) 4 (pc_S v 4 3 S1)
theorem up43 {G : xw_G} {a a' q s : List va_E} : xw_up (xw_up (xw_up (xw_up G 3 a) 4 q) 3 a') 4 s = xw_up (xw_up G 3 a') 4 s := by rw [xw_up_c (show 4 ≠ 3 by decide), xw_up_u, xw_up_u]
theorem up33 {G : xw_G} {a a' s : List va_E} : xw_up (xw_up (xw_up G 3 a) 3 a') 4 s = xw_up (xw_up G 3 a') 4 s := by rw [xw_up_u]
theorem up4s {G : xw_G} {a' s p : List va_E} (h : G 3 = a') : xw_up G 4 s = xw_up (xw_up G 3 a') 4 s := by rw [xw_up_same h]
set_option maxHeartbeats 1000000 in
set_option maxRecDepth 10000 in
theorem c_X7_tryTerm {v : xw_V} {G : xw_G} {A B : bk_T} {Q : sl_T} {n : Nat} {k : Nat} {x0 : Int32} (g0 : G 0 = pc_X v) (g3 : G 3 = pc_B v 3 A) (g4 : G 4 = pc_S v 4 3 Q) (okQ : okO Q) (hnA : bk_bi A = nI n) (hn30 : n ≤ 30) (how : okOw (bk_ow B)) (hhs : okHs (bk_hs B) n) (he : eqB n (bk_wte B (xu (bk_te B) k x0)) A) (hk7 : k < 7) (x : Int32) : xk_Con v yX7_tryTerm cX7_tryTerm 3 (some (.object "BillTender$Sale")) 6 137 [.ref (xw_ad v 0 0), .int (nI k), .int x] G (TP v G (bk_wte B (xu (bk_te B) k x)) n) := by
  refine xk_of (ls0 := [some (.ref (xw_ad v 0 0)), some (.int (nI k)), some (.int x)]) (by decide) rfl (Nat.le_of_ble_eq_true rfl) ?_
  intro κ z hk hz
  refine xj_iload_n (i := 1) hk dX7_tryTerm_0 rfl rfl ?_
  refine xj_if_lt (tgt := 20) hk dX7_tryTerm_1 (by decide) (fun c1 => ?_) (fun c1 => ?_)
  · exact absurd c1 (nI_pos (by omega))
  · refine xj_iload_n (i := 1) hk dX7_tryTerm_4 rfl rfl ?_
    refine xj_bipush (x := 7) hk dX7_tryTerm_5 (by decide) ?_
    refine xj_icmp_ge (tgt := 20) hk dX7_tryTerm_7 (by decide) (fun c7 => ?_) (fun c7 => ?_)
    · exact absurd c7 (nI_ge hk7 (by decide))
    · refine xj_aload_n (i := 0) hk dX7_tryTerm_10 rfl rfl ?_
      refine xj_getfield hk dX7_tryTerm_11 fl_X7_25 (xw_at g0 rfl) rfl ?_
      refine xj_getfield hk dX7_tryTerm_14 fl_X7_127 (xw_at g3 rfl) rfl ?_
      refine xj_iload_n (i := 1) hk dX7_tryTerm_17 rfl rfl ?_
      refine xj_iload_n (i := 2) hk dX7_tryTerm_18 rfl rfl ?_
      refine xj_iastore (k := k) (G2 := xw_up G 3 (pB v 3 (xu (bk_te A) k x) (bk_ho A) (bk_ow A) (bk_hs A) (bk_ra A) (bk_lo A) (bk_bi A) (bk_st A) (bk_av A) (bk_so A) (bk_pa A) (bk_ln A))) hk dX7_tryTerm_19 (xw_at g3 rfl) (xi_n (by omega) (by decide)) (xw_wr g3 rfl) ?_
      refine xj_aload_n (i := 0) hk dX7_tryTerm_20 rfl rfl ?_
      refine xj_callVE hk hz (fr1 := 5) (lo1 := 117) (As := []) (st := []) ml_X7_251 (c_X7_tried (n := n) (show (xw_up G 3 (pB v 3 (xu (bk_te A) k x) (bk_ho A) (bk_ow A) (bk_hs A) (bk_ra A) (bk_lo A) (bk_bi A) (bk_st A) (bk_av A) (bk_so A) (bk_pa A) (bk_ln A))) 0 = pc_X v from (show (xw_up G 3 (pB v 3 (xu (bk_te A) k x) (bk_ho A) (bk_ow A) (bk_hs A) (bk_ra A) (bk_lo A) (bk_bi A) (bk_st A) (bk_av A) (bk_so A) (bk_pa A) (bk_ln A))) 0 = pc_X v from by rw [xw_up_n (by decide), g0])) (show (xw_up G 3 (pB v 3 (xu (bk_te A) k x) (bk_ho A) (bk_ow A) (bk_hs A) (bk_ra A) (bk_lo A) (bk_bi A) (bk_st A) (bk_av A) (bk_so A) (bk_pa A) (bk_ln A))) 3 = pc_B v 3 (xu (bk_te A) k x, bk_ho A, bk_ow A, bk_hs A, bk_ra A, bk_lo A, bk_bi A, bk_st A, bk_av A, bk_so A, bk_pa A, bk_ln A) from xw_up_s) (show (xw_up G 3 (pB v 3 (xu (bk_te A) k x) (bk_ho A) (bk_ow A) (bk_hs A) (bk_ra A) (bk_lo A) (bk_bi A) (bk_st A) (bk_av A) (bk_so A) (bk_pa A) (bk_ln A))) 4 = pc_S v 4 3 Q from (show (xw_up G 3 (pB v 3 (xu (bk_te A) k x) (bk_ho A) (bk_ow A) (bk_hs A) (bk_ra A) (bk_lo A) (bk_bi A) (bk_st A) (bk_av A) (bk_so A) (bk_pa A) (bk_ln A))) 4 = pc_S v 4 3 Q from by rw [xw_up_n (by decide), g4])) okQ hnA hn30 (eqB_ow (eqB_te x he) how) (eqB_hs (eqB_te x he) hhs)) (xw_at (show (xw_up G 3 (pB v 3 (xu (bk_te A) k x) (bk_ho A) (bk_ow A) (bk_hs A) (bk_ra A) (bk_lo A) (bk_bi A) (bk_st A) (bk_av A) (bk_so A) (bk_pa A) (bk_ln A))) 0 = pc_X v from by rw [xw_up_n (by decide), g0]) rfl) rfl dX7_tryTerm_21 ⟨Nat.le_of_ble_eq_true rfl, Nat.le_of_ble_eq_true rfl⟩ rfl (Nat.le_of_ble_eq_true rfl) rfl ?_
      rintro _ _ ⟨S1, hS1, rfl, rfl⟩
      have hag := kR_ag2 (B := (bk_wte B (xu (bk_te B) k x))) (eqB_te x he) how hhs hS1
      have hio1 := RecS_io hS1
      show xj v κ _ z (xw_up (xw_up G 3 (pB v 3 (xu (bk_te A) k x) (bk_ho A) (bk_ow A) (bk_hs A) (bk_ra A) (bk_lo A) (bk_bi A) (bk_st A) (bk_av A) (bk_so A) (bk_pa A) (bk_ln A))) 4 (pc_S v 4 3 S1)) 24 _ [.ref (xw_ad v 4 0)]
      refine xj_areturn hk hz dX7_tryTerm_24 ?_
      exact ⟨_, S1, eqB_te x he, hnA, hag, Rec_okO hn30 hS1, hio1, rfl, rfl⟩

set_option maxHeartbeats 1000000 in
set_option maxRecDepth 10000 in
theorem c_X7_tryRate {v : xw_V} {G : xw_G} {A B : bk_T} {Q : sl_T} {n : Nat} {k : Nat} {x0 : Int32} (g0 : G 0 = pc_X v) (g3 : G 3 = pc_B v 3 A) (g4 : G 4 = pc_S v 4 3 Q) (okQ : okO Q) (hnA : bk_bi A = nI n) (hn30 : n ≤ 30) (how : okOw (bk_ow B)) (hhs : okHs (bk_hs B) n) (he : eqB n (bk_wra B (xu (bk_ra B) k x0)) A) (hkn : k < n) (x : Int32) : xk_Con v yX7_tryRate cX7_tryRate 3 (some (.object "BillTender$Sale")) 6 137 [.ref (xw_ad v 0 0), .int (nI k), .int x] G (TP v G (bk_wra B (xu (bk_ra B) k x)) n) := by
  refine xk_of (ls0 := [some (.ref (xw_ad v 0 0)), some (.int (nI k)), some (.int x)]) (by decide) rfl (Nat.le_of_ble_eq_true rfl) ?_
  intro κ z hk hz
  refine xj_aload_n (i := 0) hk dX7_tryRate_0 rfl rfl ?_
  refine xj_getfield hk dX7_tryRate_1 fl_X7_25 (xw_at g0 rfl) rfl ?_
  refine xj_iload_n (i := 1) hk dX7_tryRate_4 rfl rfl ?_
  refine xj_callV hk hz (fr1 := 0) (lo1 := 0) (r1 := some (.int (xb (hasB (bk_bi A) (nI k))))) (As := [.int (nI k)]) (st := []) (st2 := [.int (xb (hasB (bk_bi A) (nI k)))]) (G1 := G) ml_X7_103 (c_X0_hasBid (show G 3 = pc_B v 3 A from g3) (nI k)) (xw_at g3 rfl) rfl dX7_tryRate_5 ⟨Nat.le_of_ble_eq_true rfl, Nat.le_of_ble_eq_true rfl⟩ rfl (Nat.le_of_ble_eq_true rfl) rfl rfl ?_
  refine xj_ifb_eq (tgt := 21) hk dX7_tryRate_8 (by decide) (fun c8 => ?_) (fun c8 => ?_)
  · exact absurd (hasB_nI hnA hn30 hkn) (by rw [c8]; decide)
  · refine xj_aload_n (i := 0) hk dX7_tryRate_11 rfl rfl ?_
    refine xj_getfield hk dX7_tryRate_12 fl_X7_25 (xw_at g0 rfl) rfl ?_
    refine xj_getfield hk dX7_tryRate_15 fl_X7_120 (xw_at g3 rfl) rfl ?_
    refine xj_iload_n (i := 1) hk dX7_tryRate_18 rfl rfl ?_
    refine xj_iload_n (i := 2) hk dX7_tryRate_19 rfl rfl ?_
    refine xj_iastore (k := k) (G2 := xw_up G 3 (pB v 3 (bk_te A) (bk_ho A) (bk_ow A) (bk_hs A) (xu (bk_ra A) k x) (bk_lo A) (bk_bi A) (bk_st A) (bk_av A) (bk_so A) (bk_pa A) (bk_ln A))) hk dX7_tryRate_20 (xw_at g3 rfl) (xi_n (by omega) (by decide)) (xw_wr g3 rfl) ?_
    refine xj_aload_n (i := 0) hk dX7_tryRate_21 rfl rfl ?_
    refine xj_callVE hk hz (fr1 := 5) (lo1 := 117) (As := []) (st := []) ml_X7_251 (c_X7_tried (n := n) (show (xw_up G 3 (pB v 3 (bk_te A) (bk_ho A) (bk_ow A) (bk_hs A) (xu (bk_ra A) k x) (bk_lo A) (bk_bi A) (bk_st A) (bk_av A) (bk_so A) (bk_pa A) (bk_ln A))) 0 = pc_X v from (show (xw_up G 3 (pB v 3 (bk_te A) (bk_ho A) (bk_ow A) (bk_hs A) (xu (bk_ra A) k x) (bk_lo A) (bk_bi A) (bk_st A) (bk_av A) (bk_so A) (bk_pa A) (bk_ln A))) 0 = pc_X v from by rw [xw_up_n (by decide), g0])) (show (xw_up G 3 (pB v 3 (bk_te A) (bk_ho A) (bk_ow A) (bk_hs A) (xu (bk_ra A) k x) (bk_lo A) (bk_bi A) (bk_st A) (bk_av A) (bk_so A) (bk_pa A) (bk_ln A))) 3 = pc_B v 3 (bk_te A, bk_ho A, bk_ow A, bk_hs A, xu (bk_ra A) k x, bk_lo A, bk_bi A, bk_st A, bk_av A, bk_so A, bk_pa A, bk_ln A) from xw_up_s) (show (xw_up G 3 (pB v 3 (bk_te A) (bk_ho A) (bk_ow A) (bk_hs A) (xu (bk_ra A) k x) (bk_lo A) (bk_bi A) (bk_st A) (bk_av A) (bk_so A) (bk_pa A) (bk_ln A))) 4 = pc_S v 4 3 Q from (show (xw_up G 3 (pB v 3 (bk_te A) (bk_ho A) (bk_ow A) (bk_hs A) (xu (bk_ra A) k x) (bk_lo A) (bk_bi A) (bk_st A) (bk_av A) (bk_so A) (bk_pa A) (bk_ln A))) 4 = pc_S v 4 3 Q from by rw [xw_up_n (by decide), g4])) okQ hnA hn30 (eqB_ow (eqB_ra x he) how) (eqB_hs (eqB_ra x he) hhs)) (xw_at (show (xw_up G 3 (pB v 3 (bk_te A) (bk_ho A) (bk_ow A) (bk_hs A) (xu (bk_ra A) k x) (bk_lo A) (bk_bi A) (bk_st A) (bk_av A) (bk_so A) (bk_pa A) (bk_ln A))) 0 = pc_X v from by rw [xw_up_n (by decide), g0]) rfl) rfl dX7_tryRate_22 ⟨Nat.le_of_ble_eq_true rfl, Nat.le_of_ble_eq_true rfl⟩ rfl (Nat.le_of_ble_eq_true rfl) rfl ?_
    rintro _ _ ⟨S1, hS1, rfl, rfl⟩
    have hag := kR_ag2 (B := (bk_wra B (xu (bk_ra B) k x))) (eqB_ra x he) how hhs hS1
    have hio1 := RecS_io hS1
    show xj v κ _ z (xw_up (xw_up G 3 (pB v 3 (bk_te A) (bk_ho A) (bk_ow A) (bk_hs A) (xu (bk_ra A) k x) (bk_lo A) (bk_bi A) (bk_st A) (bk_av A) (bk_so A) (bk_pa A) (bk_ln A))) 4 (pc_S v 4 3 S1)) 25 _ [.ref (xw_ad v 4 0)]
    refine xj_areturn hk hz dX7_tryRate_25 ?_
    exact ⟨_, S1, eqB_ra x he, hnA, hag, Rec_okO hn30 hS1, hio1, rfl, rfl⟩

noncomputable def q_figBy (B : bk_T) (n : Nat) (w x y : Int32) : Int32 := if tfit (bk_te B) w x then fig (bk_wte B (xu (bk_te B) (xn w) x)) (kR (bk_wte B (xu (bk_te B) (xn w) x)) n) n y else -1
noncomputable def q_paidBy (B : bk_T) (n : Nat) (x : Int32) : Int64 := if tfit (bk_te B) 6 x then sml (payF (bk_wte B (xu (bk_te B) 6 x)) (kR (bk_wte B (xu (bk_te B) 6 x)) n)) n else -1
noncomputable def q_soldAt (B : bk_T) (n : Nat) (b x : Int32) : Int32 := if hasB (bk_bi B) b && !(decide (bk_ra B (xn b) = -1)) && isR x then sl_so (kR (bk_wra B (xu (bk_ra B) (xn b) x)) n) (xn b) else -1
noncomputable def q_without (B : bk_T) (n : Nat) (b : Int32) : Int32 := if hasB (bk_bi B) b then sl_st (kR (bk_wbd B (bd_rm (bk_bd B n) (xn b))) (n - 1)) else -1
set_option maxHeartbeats 1000000 in
set_option maxRecDepth 10000 in
theorem c_X7_paidBy {v : xw_V} {G : xw_G} {B : bk_T} {n r e a l : Nat} {K : Nat → bk_T} {t : tp_T} (hX : XB v G B n r e a K t l) (x : Int32) : xk_Con v yX7_paidBy cX7_paidBy 2 (some .long) 7 159 [.ref (xw_ad v 0 0), .int x] G (fun r9 G' => r9 = some (.long (q_paidBy B n x)) ∧ XB v G' B n r e a K t l ∧ XF G G') := by
  refine xk_of (ls0 := [some (.ref (xw_ad v 0 0)), some (.int x)]) (by decide) rfl (Nat.le_of_ble_eq_true rfl) ?_
  intro κ z hk hz
  obtain ⟨okb, he12, ha12, hK0, hl700, htl, S, A, Q, rd, sw, okS, okQ, g0, g1, g2, g3, g4, g5, gK, g18, g19, g20⟩ := hX
  obtain ⟨hn, hn30, how, hhs, hr, hr8⟩ := id okb
  refine xj_aload_n (i := 0) hk dX7_paidBy_0 rfl rfl ?_
  refine xj_getfield hk dX7_paidBy_1 fl_X7_10 (xw_at g0 rfl) rfl ?_
  refine xj_bipush (x := 6) hk dX7_paidBy_4 (by decide) ?_
  refine xj_iload_n (i := 1) hk dX7_paidBy_6 rfl rfl ?_
  refine xj_callV hk hz (fr1 := 0) (lo1 := 0) (r1 := some (.int (xb (tfit (bk_te B) 6 x)))) (As := [.int 6, .int x]) (st := []) (st2 := [.int (xb (tfit (bk_te B) 6 x))]) (G1 := G) ml_X7_123 (c_X0_termFits (show G 1 = pc_B v 1 B from g1) 6 x) (xw_at g1 rfl) rfl dX7_paidBy_7 ⟨Nat.le_of_ble_eq_true rfl, Nat.le_of_ble_eq_true rfl⟩ rfl (Nat.le_of_ble_eq_true rfl) rfl rfl ?_
  refine xj_ifb_ne (tgt := 17) hk dX7_paidBy_10 (by decide) (fun c10 => ?_) (fun c10 => ?_)
  · refine xj_aload_n (i := 0) hk dX7_paidBy_17 rfl rfl ?_
    refine xj_getfield hk dX7_paidBy_18 fl_X7_25 (xw_at g0 rfl) rfl ?_
    refine xj_aload_n (i := 0) hk dX7_paidBy_21 rfl rfl ?_
    refine xj_getfield hk dX7_paidBy_22 fl_X7_10 (xw_at g0 rfl) rfl ?_
    refine xj_callVE hk hz (fr1 := 1) (lo1 := 22) (As := [.ref (xw_ad v 1 0)]) (st := []) ml_X7_77 (c_X0_copyFromE (n := n) (show G 3 = pc_B v 3 A from g3) (show G 1 = pc_B v 1 B from g1) (by decide) hn hn30) (xw_at g3 rfl) rfl dX7_paidBy_25 ⟨Nat.le_of_ble_eq_true rfl, Nat.le_of_ble_eq_true rfl⟩ rfl (Nat.le_of_ble_eq_true rfl) rfl ?_
    rintro _ _ ⟨rfl, C, hC, rfl⟩
    show xj v κ _ z (xw_up G 3 (pc_B v 3 C)) 28 _ []
    refine xj_aload_n (i := 0) hk dX7_paidBy_28 rfl rfl ?_
    refine xj_bipush (x := 6) hk dX7_paidBy_29 (by decide) ?_
    refine xj.eqi (x' := nI 6) rfl ?_
    refine xj_iload_n (i := 1) hk dX7_paidBy_31 rfl rfl ?_
    refine xj_callVE hk hz (fr1 := 6) (lo1 := 137) (As := [.int (nI 6), .int x]) (st := []) ml_X7_247 (c_X7_tryTerm (n := n) (k := 6) (B := B) (show (xw_up G 3 (pc_B v 3 C)) 0 = pc_X v from (show (xw_up G 3 (pc_B v 3 C)) 0 = pc_X v from by rw [xw_up_n (by decide), g0])) (show (xw_up G 3 (pc_B v 3 C)) 3 = pc_B v 3 C from xw_up_s) (show (xw_up G 3 (pc_B v 3 C)) 4 = pc_S v 4 3 Q from (show (xw_up G 3 (pc_B v 3 C)) 4 = pc_S v 4 3 Q from by rw [xw_up_n (by decide), g4])) okQ hC.2.1 hn30 how hhs (show eqB n (bk_wte B (xu (bk_te B) 6 (bk_te B 6))) C from by rw [wte_self]; exact hC.1) (by decide) x) (xw_at (show (xw_up G 3 (pc_B v 3 C)) 0 = pc_X v from by rw [xw_up_n (by decide), g0]) rfl) rfl dX7_paidBy_32 ⟨Nat.le_of_ble_eq_true rfl, Nat.le_of_ble_eq_true rfl⟩ rfl (Nat.le_of_ble_eq_true rfl) rfl ?_
    rintro _ _ ⟨A1, S1, hA1, hnA1, hag, okQ1, hio1, rfl, rfl⟩
    refine xj.eqG (G' := xw_up (xw_up G 3 (pc_B v 3 A1)) 4 (pc_S v 4 3 S1)) (by first | exact up43 | exact up33) ?_
    show xj v κ _ z (xw_up (xw_up G 3 (pc_B v 3 A1)) 4 (pc_S v 4 3 S1)) 35 _ [.ref (xw_ad v 4 0)]
    refine xj_callV hk hz (fr1 := 2) (lo1 := 43) (r1 := some (.long (sml (payF A1 S1) n))) (As := []) (st := []) (st2 := [.long (sml (payF A1 S1) n)]) (G1 := xw_up (xw_up G 3 (pc_B v 3 A1)) 4 (pc_S v 4 3 S1)) ml_X7_159 (c_X4_paysInAll (n := n) (show (xw_up (xw_up G 3 (pc_B v 3 A1)) 4 (pc_S v 4 3 S1)) 4 = pc_S v 4 3 S1 from xw_up_s) (show (xw_up (xw_up G 3 (pc_B v 3 A1)) 4 (pc_S v 4 3 S1)) 3 = pc_B v 3 A1 from (show (xw_up (xw_up G 3 (pc_B v 3 A1)) 4 (pc_S v 4 3 S1)) 3 = pc_B v 3 A1 from by rw [xw_up_n (by decide), xw_up_s])) (by decide) hio1 hn30 ) (xw_at xw_up_s rfl) rfl dX7_paidBy_35 ⟨Nat.le_of_ble_eq_true rfl, Nat.le_of_ble_eq_true rfl⟩ rfl (Nat.le_of_ble_eq_true rfl) rfl rfl ?_
    refine xj_lreturn hk hz dX7_paidBy_38 ?_
    refine ⟨?_, ⟨okb, he12, ha12, hK0, hl700, htl, S, A1, S1, rd, sw, okS, okQ1, (show (xw_up (xw_up G 3 (pc_B v 3 A1)) 4 (pc_S v 4 3 S1)) 0 = pc_X v from (show (xw_up (xw_up G 3 (pc_B v 3 A1)) 4 (pc_S v 4 3 S1)) 0 = pc_X v from by rw [xw_up_n (by decide), xw_up_n (by decide), g0])), (show (xw_up (xw_up G 3 (pc_B v 3 A1)) 4 (pc_S v 4 3 S1)) 1 = pc_B v 1 B from (show (xw_up (xw_up G 3 (pc_B v 3 A1)) 4 (pc_S v 4 3 S1)) 1 = pc_B v 1 B from by rw [xw_up_n (by decide), xw_up_n (by decide), g1])), (show (xw_up (xw_up G 3 (pc_B v 3 A1)) 4 (pc_S v 4 3 S1)) 2 = pc_S v 2 1 S from (show (xw_up (xw_up G 3 (pc_B v 3 A1)) 4 (pc_S v 4 3 S1)) 2 = pc_S v 2 1 S from by rw [xw_up_n (by decide), xw_up_n (by decide), g2])), (show (xw_up (xw_up G 3 (pc_B v 3 A1)) 4 (pc_S v 4 3 S1)) 3 = pc_B v 3 A1 from (show (xw_up (xw_up G 3 (pc_B v 3 A1)) 4 (pc_S v 4 3 S1)) 3 = pc_B v 3 A1 from by rw [xw_up_n (by decide), xw_up_s])), (show (xw_up (xw_up G 3 (pc_B v 3 A1)) 4 (pc_S v 4 3 S1)) 4 = pc_S v 4 3 S1 from xw_up_s), (show (xw_up (xw_up G 3 (pc_B v 3 A1)) 4 (pc_S v 4 3 S1)) 5 = pc_P v (nI e, nI a) from (show (xw_up (xw_up G 3 (pc_B v 3 A1)) 4 (pc_S v 4 3 S1)) 5 = pP v (nI e) (nI a) from by rw [xw_up_n (by decide), xw_up_n (by decide), g5])), (fun j9 h9 => by rw [xw_up_n (by omega), xw_up_n (by omega)]; exact gK j9 h9), (show (xw_up (xw_up G 3 (pc_B v 3 A1)) 4 (pc_S v 4 3 S1)) 18 = pc_T v t from (show (xw_up (xw_up G 3 (pc_B v 3 A1)) 4 (pc_S v 4 3 S1)) 18 = pc_T v t from by rw [xw_up_n (by decide), xw_up_n (by decide), g18])), (show (xw_up (xw_up G 3 (pc_B v 3 A1)) 4 (pc_S v 4 3 S1)) 19 = pc_R v rd from (show (xw_up (xw_up G 3 (pc_B v 3 A1)) 4 (pc_S v 4 3 S1)) 19 = pc_R v rd from by rw [xw_up_n (by decide), xw_up_n (by decide), g19])), (show (xw_up (xw_up G 3 (pc_B v 3 A1)) 4 (pc_S v 4 3 S1)) 20 = pc_W  sw from (show (xw_up (xw_up G 3 (pc_B v 3 A1)) 4 (pc_S v 4 3 S1)) 20 = pc_W  sw from by rw [xw_up_n (by decide), xw_up_n (by decide), g20]))⟩, (fun g h9 => by rw [xw_up_n (by omega), xw_up_n (by omega)])⟩
    rw [pa_eq hA1 hag]; simp [q_paidBy, c10]
  · refine xj_ldc2 (x := -1) hk dX7_paidBy_13 kl_X7_197 ?_
    refine xj_lreturn hk hz dX7_paidBy_16 ?_
    refine ⟨?_, ⟨okb, he12, ha12, hK0, hl700, htl, S, A, Q, rd, sw, okS, okQ, (show G 0 = pc_X v from g0), (show G 1 = pc_B v 1 B from g1), (show G 2 = pc_S v 2 1 S from g2), (show G 3 = pc_B v 3 A from g3), (show G 4 = pc_S v 4 3 Q from g4), (show G 5 = pc_P v (nI e, nI a) from g5), gK, (show G 18 = pc_T v t from g18), (show G 19 = pc_R v rd from g19), (show G 20 = pc_W  sw from g20)⟩, (fun _ _ => rfl)⟩
    simp [q_paidBy, c10]

set_option maxHeartbeats 1000000 in
set_option maxRecDepth 10000 in
theorem c_X7_soldAt {v : xw_V} {G : xw_G} {B : bk_T} {n r e a l : Nat} {K : Nat → bk_T} {t : tp_T} (hX : XB v G B n r e a K t l) (b : Int32) (x : Int32) : xk_Con v yX7_soldAt cX7_soldAt 3 (some .int) 7 159 [.ref (xw_ad v 0 0), .int b, .int x] G (fun r9 G' => r9 = some (.int (q_soldAt B n b x)) ∧ XB v G' B n r e a K t l ∧ XF G G') := by
  refine xk_of (ls0 := [some (.ref (xw_ad v 0 0)), some (.int b), some (.int x)]) (by decide) rfl (Nat.le_of_ble_eq_true rfl) ?_
  intro κ z hk hz
  obtain ⟨okb, he12, ha12, hK0, hl700, htl, S, A, Q, rd, sw, okS, okQ, g0, g1, g2, g3, g4, g5, gK, g18, g19, g20⟩ := hX
  obtain ⟨hn, hn30, how, hhs, hr, hr8⟩ := id okb
  refine xj_aload_n (i := 0) hk dX7_soldAt_0 rfl rfl ?_
  refine xj_getfield hk dX7_soldAt_1 fl_X7_10 (xw_at g0 rfl) rfl ?_
  refine xj_iload_n (i := 1) hk dX7_soldAt_4 rfl rfl ?_
  refine xj_callV hk hz (fr1 := 0) (lo1 := 0) (r1 := some (.int (xb (hasB (bk_bi B) b)))) (As := [.int b]) (st := []) (st2 := [.int (xb (hasB (bk_bi B) b))]) (G1 := G) ml_X7_103 (c_X0_hasBid (show G 1 = pc_B v 1 B from g1) b) (xw_at g1 rfl) rfl dX7_soldAt_5 ⟨Nat.le_of_ble_eq_true rfl, Nat.le_of_ble_eq_true rfl⟩ rfl (Nat.le_of_ble_eq_true rfl) rfl rfl ?_
  refine xj_ifb_eq (tgt := 31) hk dX7_soldAt_8 (by decide) (fun c8 => ?_) (fun c8 => ?_)
  · refine xj_iconst (x := (-1)) hk dX7_soldAt_31 (by decide) ?_
    refine xj_ireturn hk hz dX7_soldAt_32 ?_
    refine ⟨?_, ⟨okb, he12, ha12, hK0, hl700, htl, S, A, Q, rd, sw, okS, okQ, (show G 0 = pc_X v from g0), (show G 1 = pc_B v 1 B from g1), (show G 2 = pc_S v 2 1 S from g2), (show G 3 = pc_B v 3 A from g3), (show G 4 = pc_S v 4 3 Q from g4), (show G 5 = pc_P v (nI e, nI a) from g5), gK, (show G 18 = pc_T v t from g18), (show G 19 = pc_R v rd from g19), (show G 20 = pc_W  sw from g20)⟩, (fun _ _ => rfl)⟩
    simp [q_soldAt, c8]
  · obtain ⟨j, hj_j, rfl⟩ := hasB_of hn hn30 c8
    refine xj_aload_n (i := 0) hk dX7_soldAt_11 rfl rfl ?_
    refine xj_getfield hk dX7_soldAt_12 fl_X7_10 (xw_at g0 rfl) rfl ?_
    refine xj_getfield hk dX7_soldAt_15 fl_X7_120 (xw_at g1 rfl) rfl ?_
    refine xj_iload_n (i := 1) hk dX7_soldAt_18 rfl rfl ?_
    refine xj_iaload (k := j) hk dX7_soldAt_19 (xw_at g1 rfl) (xi_n (by omega) (by decide)) ?_
    refine xj_iconst (x := (-1)) hk dX7_soldAt_20 (by decide) ?_
    refine xj_icmp_eq (tgt := 31) hk dX7_soldAt_21 (by decide) (fun c21 => ?_) (fun c21 => ?_)
    · refine xj_iconst (x := (-1)) hk dX7_soldAt_31 (by decide) ?_
      refine xj_ireturn hk hz dX7_soldAt_32 ?_
      refine ⟨?_, ⟨okb, he12, ha12, hK0, hl700, htl, S, A, Q, rd, sw, okS, okQ, (show G 0 = pc_X v from g0), (show G 1 = pc_B v 1 B from g1), (show G 2 = pc_S v 2 1 S from g2), (show G 3 = pc_B v 3 A from g3), (show G 4 = pc_S v 4 3 Q from g4), (show G 5 = pc_P v (nI e, nI a) from g5), gK, (show G 18 = pc_T v t from g18), (show G 19 = pc_R v rd from g19), (show G 20 = pc_W  sw from g20)⟩, (fun _ _ => rfl)⟩
      simp [q_soldAt, c8, xn_nI (show j < 2 ^ 31 by omega), c21]
    · refine xj_iload_n (i := 2) hk dX7_soldAt_24 rfl rfl ?_
      refine xj_callS hk hz (fr1 := 0) (lo1 := 0) (r1 := some (.int (xb (isR x)))) (As := [.int x]) (st := []) (st2 := [.int (xb (isR x))]) (G1 := G) ml_X7_86 (c_X7_isRate x) dX7_soldAt_25 ⟨Nat.le_of_ble_eq_true rfl, Nat.le_of_ble_eq_true rfl⟩ rfl (Nat.le_of_ble_eq_true rfl) rfl rfl ?_
      refine xj_ifb_ne (tgt := 33) hk dX7_soldAt_28 (by decide) (fun c28 => ?_) (fun c28 => ?_)
      · refine xj_aload_n (i := 0) hk dX7_soldAt_33 rfl rfl ?_
        refine xj_getfield hk dX7_soldAt_34 fl_X7_25 (xw_at g0 rfl) rfl ?_
        refine xj_aload_n (i := 0) hk dX7_soldAt_37 rfl rfl ?_
        refine xj_getfield hk dX7_soldAt_38 fl_X7_10 (xw_at g0 rfl) rfl ?_
        refine xj_callVE hk hz (fr1 := 1) (lo1 := 22) (As := [.ref (xw_ad v 1 0)]) (st := []) ml_X7_77 (c_X0_copyFromE (n := n) (show G 3 = pc_B v 3 A from g3) (show G 1 = pc_B v 1 B from g1) (by decide) hn hn30) (xw_at g3 rfl) rfl dX7_soldAt_41 ⟨Nat.le_of_ble_eq_true rfl, Nat.le_of_ble_eq_true rfl⟩ rfl (Nat.le_of_ble_eq_true rfl) rfl ?_
        rintro _ _ ⟨rfl, C, hC, rfl⟩
        show xj v κ _ z (xw_up G 3 (pc_B v 3 C)) 44 _ []
        refine xj_aload_n (i := 0) hk dX7_soldAt_44 rfl rfl ?_
        refine xj_iload_n (i := 1) hk dX7_soldAt_45 rfl rfl ?_
        refine xj_iload_n (i := 2) hk dX7_soldAt_46 rfl rfl ?_
        refine xj_callVE hk hz (fr1 := 6) (lo1 := 137) (As := [.int (nI j), .int x]) (st := []) ml_X7_263 (c_X7_tryRate (n := n) (k := j) (B := B) (show (xw_up G 3 (pc_B v 3 C)) 0 = pc_X v from (show (xw_up G 3 (pc_B v 3 C)) 0 = pc_X v from by rw [xw_up_n (by decide), g0])) (show (xw_up G 3 (pc_B v 3 C)) 3 = pc_B v 3 C from xw_up_s) (show (xw_up G 3 (pc_B v 3 C)) 4 = pc_S v 4 3 Q from (show (xw_up G 3 (pc_B v 3 C)) 4 = pc_S v 4 3 Q from by rw [xw_up_n (by decide), g4])) okQ hC.2.1 hn30 how hhs (show eqB n (bk_wra B (xu (bk_ra B) j (bk_ra B j))) C from by rw [wra_self]; exact hC.1) hj_j x) (xw_at (show (xw_up G 3 (pc_B v 3 C)) 0 = pc_X v from by rw [xw_up_n (by decide), g0]) rfl) rfl dX7_soldAt_47 ⟨Nat.le_of_ble_eq_true rfl, Nat.le_of_ble_eq_true rfl⟩ rfl (Nat.le_of_ble_eq_true rfl) rfl ?_
        rintro _ _ ⟨A1, S1, hA1, hnA1, hag, okQ1, hio1, rfl, rfl⟩
        refine xj.eqG (G' := xw_up (xw_up G 3 (pc_B v 3 A1)) 4 (pc_S v 4 3 S1)) (by first | exact up43 | exact up33) ?_
        show xj v κ _ z (xw_up (xw_up G 3 (pc_B v 3 A1)) 4 (pc_S v 4 3 S1)) 50 _ [.ref (xw_ad v 4 0)]
        refine xj_getfield hk dX7_soldAt_50 fl_X7_190 (xw_at xw_up_s rfl) rfl ?_
        refine xj_iload_n (i := 1) hk dX7_soldAt_53 rfl rfl ?_
        refine xj_iaload (k := j) hk dX7_soldAt_54 (xw_at xw_up_s rfl) (xi_n (by omega) (by decide)) ?_
        refine xj_ireturn hk hz dX7_soldAt_55 ?_
        refine ⟨?_, ⟨okb, he12, ha12, hK0, hl700, htl, S, A1, S1, rd, sw, okS, okQ1, (show (xw_up (xw_up G 3 (pc_B v 3 A1)) 4 (pc_S v 4 3 S1)) 0 = pc_X v from (show (xw_up (xw_up G 3 (pc_B v 3 A1)) 4 (pc_S v 4 3 S1)) 0 = pc_X v from by rw [xw_up_n (by decide), xw_up_n (by decide), g0])), (show (xw_up (xw_up G 3 (pc_B v 3 A1)) 4 (pc_S v 4 3 S1)) 1 = pc_B v 1 B from (show (xw_up (xw_up G 3 (pc_B v 3 A1)) 4 (pc_S v 4 3 S1)) 1 = pc_B v 1 B from by rw [xw_up_n (by decide), xw_up_n (by decide), g1])), (show (xw_up (xw_up G 3 (pc_B v 3 A1)) 4 (pc_S v 4 3 S1)) 2 = pc_S v 2 1 S from (show (xw_up (xw_up G 3 (pc_B v 3 A1)) 4 (pc_S v 4 3 S1)) 2 = pc_S v 2 1 S from by rw [xw_up_n (by decide), xw_up_n (by decide), g2])), (show (xw_up (xw_up G 3 (pc_B v 3 A1)) 4 (pc_S v 4 3 S1)) 3 = pc_B v 3 A1 from (show (xw_up (xw_up G 3 (pc_B v 3 A1)) 4 (pc_S v 4 3 S1)) 3 = pc_B v 3 A1 from by rw [xw_up_n (by decide), xw_up_s])), (show (xw_up (xw_up G 3 (pc_B v 3 A1)) 4 (pc_S v 4 3 S1)) 4 = pc_S v 4 3 S1 from xw_up_s), (show (xw_up (xw_up G 3 (pc_B v 3 A1)) 4 (pc_S v 4 3 S1)) 5 = pc_P v (nI e, nI a) from (show (xw_up (xw_up G 3 (pc_B v 3 A1)) 4 (pc_S v 4 3 S1)) 5 = pP v (nI e) (nI a) from by rw [xw_up_n (by decide), xw_up_n (by decide), g5])), (fun j9 h9 => by rw [xw_up_n (by omega), xw_up_n (by omega)]; exact gK j9 h9), (show (xw_up (xw_up G 3 (pc_B v 3 A1)) 4 (pc_S v 4 3 S1)) 18 = pc_T v t from (show (xw_up (xw_up G 3 (pc_B v 3 A1)) 4 (pc_S v 4 3 S1)) 18 = pc_T v t from by rw [xw_up_n (by decide), xw_up_n (by decide), g18])), (show (xw_up (xw_up G 3 (pc_B v 3 A1)) 4 (pc_S v 4 3 S1)) 19 = pc_R v rd from (show (xw_up (xw_up G 3 (pc_B v 3 A1)) 4 (pc_S v 4 3 S1)) 19 = pc_R v rd from by rw [xw_up_n (by decide), xw_up_n (by decide), g19])), (show (xw_up (xw_up G 3 (pc_B v 3 A1)) 4 (pc_S v 4 3 S1)) 20 = pc_W  sw from (show (xw_up (xw_up G 3 (pc_B v 3 A1)) 4 (pc_S v 4 3 S1)) 20 = pc_W  sw from by rw [xw_up_n (by decide), xw_up_n (by decide), g20]))⟩, (fun g h9 => by rw [xw_up_n (by omega), xw_up_n (by omega)])⟩
        simp [q_soldAt, xn_nI (show j < 2 ^ 31 by omega), hasB_nI hn hn30 hj_j, c21, c28, (hag.1 j hj_j).2.2.2]
      · refine xj_iconst (x := (-1)) hk dX7_soldAt_31 (by decide) ?_
        refine xj_ireturn hk hz dX7_soldAt_32 ?_
        refine ⟨?_, ⟨okb, he12, ha12, hK0, hl700, htl, S, A, Q, rd, sw, okS, okQ, (show G 0 = pc_X v from g0), (show G 1 = pc_B v 1 B from g1), (show G 2 = pc_S v 2 1 S from g2), (show G 3 = pc_B v 3 A from g3), (show G 4 = pc_S v 4 3 Q from g4), (show G 5 = pc_P v (nI e, nI a) from g5), gK, (show G 18 = pc_T v t from g18), (show G 19 = pc_R v rd from g19), (show G 20 = pc_W  sw from g20)⟩, (fun _ _ => rfl)⟩
        simp [q_soldAt, c8, xn_nI (show j < 2 ^ 31 by omega), c21, c28]

theorem rm_eqB {B C : bk_T} {n : Nat} {a : Nat} (h : eqB n B C) : eqB (n - 1) (bk_wbd B (bd_rm (bk_bd B n) a)) (bk_wbd C (bd_rm (bk_bd C n) a)) := ⟨h.1, h.2.1, fun j hj => (rm_ag (a := a) (bd_of h)).2 j hj⟩
theorem rm_okHs {B : bk_T} {n a : Nat} (h : okHs (bk_hs B) n) (ha : a < n) : okHs (bk_hs (bk_wbd B (bd_rm (bk_bd B n) a))) (n - 1) := okHs_rm h ha
set_option maxHeartbeats 1000000 in
set_option maxRecDepth 10000 in
theorem c_X7_figureBy {v : xw_V} {G : xw_G} {B : bk_T} {n r e a l : Nat} {K : Nat → bk_T} {t : tp_T} (hX : XB v G B n r e a K t l) (w1 : Int32) (x : Int32) (y : Int32) : xk_Con v yX7_figureBy cX7_figureBy 4 (some .int) 6 137 [.ref (xw_ad v 0 0), .int w1, .int x, .int y] G (fun r9 G' => r9 = some (.int (q_figBy B n w1 x y)) ∧ XB v G' B n r e a K t l ∧ XF G G') := by
  refine xk_of (ls0 := [some (.ref (xw_ad v 0 0)), some (.int w1), some (.int x), some (.int y)]) (by decide) rfl (Nat.le_of_ble_eq_true rfl) ?_
  intro κ z hk hz
  obtain ⟨okb, he12, ha12, hK0, hl700, htl, S, A, Q, rd, sw, okS, okQ, g0, g1, g2, g3, g4, g5, gK, g18, g19, g20⟩ := hX
  obtain ⟨hn, hn30, how, hhs, hr, hr8⟩ := id okb
  refine xj_aload_n (i := 0) hk dX7_figureBy_0 rfl rfl ?_
  refine xj_getfield hk dX7_figureBy_1 fl_X7_10 (xw_at g0 rfl) rfl ?_
  refine xj_iload_n (i := 1) hk dX7_figureBy_4 rfl rfl ?_
  refine xj_iload_n (i := 2) hk dX7_figureBy_5 rfl rfl ?_
  refine xj_callV hk hz (fr1 := 0) (lo1 := 0) (r1 := some (.int (xb (tfit (bk_te B) w1 x)))) (As := [.int w1, .int x]) (st := []) (st2 := [.int (xb (tfit (bk_te B) w1 x))]) (G1 := G) ml_X7_123 (c_X0_termFits (show G 1 = pc_B v 1 B from g1) w1 x) (xw_at g1 rfl) rfl dX7_figureBy_6 ⟨Nat.le_of_ble_eq_true rfl, Nat.le_of_ble_eq_true rfl⟩ rfl (Nat.le_of_ble_eq_true rfl) rfl rfl ?_
  refine xj_ifb_ne (tgt := 14) hk dX7_figureBy_9 (by decide) (fun c9 => ?_) (fun c9 => ?_)
  · obtain ⟨k, hk7, rfl⟩ : ∃ k, k < 7 ∧ w1 = nI k := ⟨xn w1, (tf_7 c9).2.2, xi_of (tf_7 c9)⟩
    refine xj_aload_n (i := 0) hk dX7_figureBy_14 rfl rfl ?_
    refine xj_getfield hk dX7_figureBy_15 fl_X7_25 (xw_at g0 rfl) rfl ?_
    refine xj_aload_n (i := 0) hk dX7_figureBy_18 rfl rfl ?_
    refine xj_getfield hk dX7_figureBy_19 fl_X7_10 (xw_at g0 rfl) rfl ?_
    refine xj_callVE hk hz (fr1 := 1) (lo1 := 22) (As := [.ref (xw_ad v 1 0)]) (st := []) ml_X7_77 (c_X0_copyFromE (n := n) (show G 3 = pc_B v 3 A from g3) (show G 1 = pc_B v 1 B from g1) (by decide) hn hn30) (xw_at g3 rfl) rfl dX7_figureBy_22 ⟨Nat.le_of_ble_eq_true rfl, Nat.le_of_ble_eq_true rfl⟩ rfl (Nat.le_of_ble_eq_true rfl) rfl ?_
    rintro _ _ ⟨rfl, C, hC, rfl⟩
    show xj v κ _ z (xw_up G 3 (pc_B v 3 C)) 25 _ []
    refine xj_aload_n (i := 0) hk dX7_figureBy_25 rfl rfl ?_
    refine xj_getfield hk dX7_figureBy_26 fl_X7_25 (xw_at (show (xw_up G 3 (pc_B v 3 C)) 0 = pc_X v from by rw [xw_up_n (by decide), g0]) rfl) rfl ?_
    refine xj_getfield hk dX7_figureBy_29 fl_X7_127 (xw_at xw_up_s rfl) rfl ?_
    refine xj_iload_n (i := 1) hk dX7_figureBy_32 rfl rfl ?_
    refine xj_iload_n (i := 2) hk dX7_figureBy_33 rfl rfl ?_
    refine xj_iastore (k := k) (G2 := xw_up G 3 (pB v 3 (xu (bk_te C) k x) (bk_ho C) (bk_ow C) (bk_hs C) (bk_ra C) (bk_lo C) (bk_bi C) (bk_st C) (bk_av C) (bk_so C) (bk_pa C) (bk_ln C))) hk dX7_figureBy_34 (xw_at xw_up_s rfl) (xi_n (by omega) (by decide)) (xw_wr2 rfl) ?_
    refine xj_aload_n (i := 0) hk dX7_figureBy_35 rfl rfl ?_
    refine xj_callVE hk hz (fr1 := 5) (lo1 := 117) (As := []) (st := []) ml_X7_251 (c_X7_tried (n := n) (show (xw_up G 3 (pB v 3 (xu (bk_te C) k x) (bk_ho C) (bk_ow C) (bk_hs C) (bk_ra C) (bk_lo C) (bk_bi C) (bk_st C) (bk_av C) (bk_so C) (bk_pa C) (bk_ln C))) 0 = pc_X v from (show (xw_up G 3 (pB v 3 (xu (bk_te C) k x) (bk_ho C) (bk_ow C) (bk_hs C) (bk_ra C) (bk_lo C) (bk_bi C) (bk_st C) (bk_av C) (bk_so C) (bk_pa C) (bk_ln C))) 0 = pc_X v from by rw [xw_up_n (by decide), g0])) (show (xw_up G 3 (pB v 3 (xu (bk_te C) k x) (bk_ho C) (bk_ow C) (bk_hs C) (bk_ra C) (bk_lo C) (bk_bi C) (bk_st C) (bk_av C) (bk_so C) (bk_pa C) (bk_ln C))) 3 = pc_B v 3 (xu (bk_te C) k x, bk_ho C, bk_ow C, bk_hs C, bk_ra C, bk_lo C, bk_bi C, bk_st C, bk_av C, bk_so C, bk_pa C, bk_ln C) from xw_up_s) (show (xw_up G 3 (pB v 3 (xu (bk_te C) k x) (bk_ho C) (bk_ow C) (bk_hs C) (bk_ra C) (bk_lo C) (bk_bi C) (bk_st C) (bk_av C) (bk_so C) (bk_pa C) (bk_ln C))) 4 = pc_S v 4 3 Q from (show (xw_up G 3 (pB v 3 (xu (bk_te C) k x) (bk_ho C) (bk_ow C) (bk_hs C) (bk_ra C) (bk_lo C) (bk_bi C) (bk_st C) (bk_av C) (bk_so C) (bk_pa C) (bk_ln C))) 4 = pc_S v 4 3 Q from by rw [xw_up_n (by decide), g4])) okQ hC.2.1 hn30 (eqB_ow (eqB_te x (show eqB n (bk_wte B (xu (bk_te B) k (bk_te B k))) C from by rw [wte_self]; exact hC.1)) how) (eqB_hs (eqB_te x (show eqB n (bk_wte B (xu (bk_te B) k (bk_te B k))) C from by rw [wte_self]; exact hC.1)) hhs)) (xw_at (show (xw_up G 3 (pB v 3 (xu (bk_te C) k x) (bk_ho C) (bk_ow C) (bk_hs C) (bk_ra C) (bk_lo C) (bk_bi C) (bk_st C) (bk_av C) (bk_so C) (bk_pa C) (bk_ln C))) 0 = pc_X v from by rw [xw_up_n (by decide), g0]) rfl) rfl dX7_figureBy_36 ⟨Nat.le_of_ble_eq_true rfl, Nat.le_of_ble_eq_true rfl⟩ rfl (Nat.le_of_ble_eq_true rfl) rfl ?_
    rintro _ _ ⟨S1, hS1, rfl, rfl⟩
    have hag := kR_ag2 (B := (bk_wte B (xu (bk_te B) k x))) (eqB_te x (show eqB n (bk_wte B (xu (bk_te B) k (bk_te B k))) C from by rw [wte_self]; exact hC.1)) how hhs hS1
    have hio1 := RecS_io hS1
    have okQ1 : okO S1 := Rec_okO hn30 hS1
    show xj v κ _ z (xw_up (xw_up G 3 (pB v 3 (xu (bk_te C) k x) (bk_ho C) (bk_ow C) (bk_hs C) (bk_ra C) (bk_lo C) (bk_bi C) (bk_st C) (bk_av C) (bk_so C) (bk_pa C) (bk_ln C))) 4 (pc_S v 4 3 S1)) 39 _ [.ref (xw_ad v 4 0)]
    refine xj_iload_n (i := 3) hk dX7_figureBy_39 rfl rfl ?_
    refine xj_callV hk hz (fr1 := 1) (lo1 := 23) (r1 := some (.int (fig ((xu (bk_te C) k x, bk_ho C, bk_ow C, bk_hs C, bk_ra C, bk_lo C, bk_bi C, bk_st C, bk_av C, bk_so C, bk_pa C, bk_ln C)) S1 n y))) (As := [.int y]) (st := []) (st2 := [.int (fig ((xu (bk_te C) k x, bk_ho C, bk_ow C, bk_hs C, bk_ra C, bk_lo C, bk_bi C, bk_st C, bk_av C, bk_so C, bk_pa C, bk_ln C)) S1 n y)]) (G1 := xw_up (xw_up G 3 (pB v 3 (xu (bk_te C) k x) (bk_ho C) (bk_ow C) (bk_hs C) (bk_ra C) (bk_lo C) (bk_bi C) (bk_st C) (bk_av C) (bk_so C) (bk_pa C) (bk_ln C))) 4 (pc_S v 4 3 S1)) ml_X7_214 (c_X4_figure (n := n) (show (xw_up (xw_up G 3 (pB v 3 (xu (bk_te C) k x) (bk_ho C) (bk_ow C) (bk_hs C) (bk_ra C) (bk_lo C) (bk_bi C) (bk_st C) (bk_av C) (bk_so C) (bk_pa C) (bk_ln C))) 4 (pc_S v 4 3 S1)) 4 = pc_S v 4 3 S1 from xw_up_s) (show (xw_up (xw_up G 3 (pB v 3 (xu (bk_te C) k x) (bk_ho C) (bk_ow C) (bk_hs C) (bk_ra C) (bk_lo C) (bk_bi C) (bk_st C) (bk_av C) (bk_so C) (bk_pa C) (bk_ln C))) 4 (pc_S v 4 3 S1)) 3 = pc_B v 3 (xu (bk_te C) k x, bk_ho C, bk_ow C, bk_hs C, bk_ra C, bk_lo C, bk_bi C, bk_st C, bk_av C, bk_so C, bk_pa C, bk_ln C) from (show (xw_up (xw_up G 3 (pB v 3 (xu (bk_te C) k x) (bk_ho C) (bk_ow C) (bk_hs C) (bk_ra C) (bk_lo C) (bk_bi C) (bk_st C) (bk_av C) (bk_so C) (bk_pa C) (bk_ln C))) 4 (pc_S v 4 3 S1)) 3 = pB v 3 (xu (bk_te C) k x) (bk_ho C) (bk_ow C) (bk_hs C) (bk_ra C) (bk_lo C) (bk_bi C) (bk_st C) (bk_av C) (bk_so C) (bk_pa C) (bk_ln C) from by rw [xw_up_n (by decide), xw_up_s])) (by decide) hio1 hn30 y) (xw_at xw_up_s rfl) rfl dX7_figureBy_40 ⟨Nat.le_of_ble_eq_true rfl, Nat.le_of_ble_eq_true rfl⟩ rfl (Nat.le_of_ble_eq_true rfl) rfl rfl ?_
    refine xj_ireturn hk hz dX7_figureBy_43 ?_
    refine ⟨?_, ⟨okb, he12, ha12, hK0, hl700, htl, S, (xu (bk_te C) k x, bk_ho C, bk_ow C, bk_hs C, bk_ra C, bk_lo C, bk_bi C, bk_st C, bk_av C, bk_so C, bk_pa C, bk_ln C), S1, rd, sw, okS, okQ1, (show (xw_up (xw_up G 3 (pB v 3 (xu (bk_te C) k x) (bk_ho C) (bk_ow C) (bk_hs C) (bk_ra C) (bk_lo C) (bk_bi C) (bk_st C) (bk_av C) (bk_so C) (bk_pa C) (bk_ln C))) 4 (pc_S v 4 3 S1)) 0 = pc_X v from (show (xw_up (xw_up G 3 (pB v 3 (xu (bk_te C) k x) (bk_ho C) (bk_ow C) (bk_hs C) (bk_ra C) (bk_lo C) (bk_bi C) (bk_st C) (bk_av C) (bk_so C) (bk_pa C) (bk_ln C))) 4 (pc_S v 4 3 S1)) 0 = pc_X v from by rw [xw_up_n (by decide), xw_up_n (by decide), g0])), (show (xw_up (xw_up G 3 (pB v 3 (xu (bk_te C) k x) (bk_ho C) (bk_ow C) (bk_hs C) (bk_ra C) (bk_lo C) (bk_bi C) (bk_st C) (bk_av C) (bk_so C) (bk_pa C) (bk_ln C))) 4 (pc_S v 4 3 S1)) 1 = pc_B v 1 B from (show (xw_up (xw_up G 3 (pB v 3 (xu (bk_te C) k x) (bk_ho C) (bk_ow C) (bk_hs C) (bk_ra C) (bk_lo C) (bk_bi C) (bk_st C) (bk_av C) (bk_so C) (bk_pa C) (bk_ln C))) 4 (pc_S v 4 3 S1)) 1 = pc_B v 1 B from by rw [xw_up_n (by decide), xw_up_n (by decide), g1])), (show (xw_up (xw_up G 3 (pB v 3 (xu (bk_te C) k x) (bk_ho C) (bk_ow C) (bk_hs C) (bk_ra C) (bk_lo C) (bk_bi C) (bk_st C) (bk_av C) (bk_so C) (bk_pa C) (bk_ln C))) 4 (pc_S v 4 3 S1)) 2 = pc_S v 2 1 S from (show (xw_up (xw_up G 3 (pB v 3 (xu (bk_te C) k x) (bk_ho C) (bk_ow C) (bk_hs C) (bk_ra C) (bk_lo C) (bk_bi C) (bk_st C) (bk_av C) (bk_so C) (bk_pa C) (bk_ln C))) 4 (pc_S v 4 3 S1)) 2 = pc_S v 2 1 S from by rw [xw_up_n (by decide), xw_up_n (by decide), g2])), (show (xw_up (xw_up G 3 (pB v 3 (xu (bk_te C) k x) (bk_ho C) (bk_ow C) (bk_hs C) (bk_ra C) (bk_lo C) (bk_bi C) (bk_st C) (bk_av C) (bk_so C) (bk_pa C) (bk_ln C))) 4 (pc_S v 4 3 S1)) 3 = pc_B v 3 (xu (bk_te C) k x, bk_ho C, bk_ow C, bk_hs C, bk_ra C, bk_lo C, bk_bi C, bk_st C, bk_av C, bk_so C, bk_pa C, bk_ln C) from (show (xw_up (xw_up G 3 (pB v 3 (xu (bk_te C) k x) (bk_ho C) (bk_ow C) (bk_hs C) (bk_ra C) (bk_lo C) (bk_bi C) (bk_st C) (bk_av C) (bk_so C) (bk_pa C) (bk_ln C))) 4 (pc_S v 4 3 S1)) 3 = pB v 3 (xu (bk_te C) k x) (bk_ho C) (bk_ow C) (bk_hs C) (bk_ra C) (bk_lo C) (bk_bi C) (bk_st C) (bk_av C) (bk_so C) (bk_pa C) (bk_ln C) from by rw [xw_up_n (by decide), xw_up_s])), (show (xw_up (xw_up G 3 (pB v 3 (xu (bk_te C) k x) (bk_ho C) (bk_ow C) (bk_hs C) (bk_ra C) (bk_lo C) (bk_bi C) (bk_st C) (bk_av C) (bk_so C) (bk_pa C) (bk_ln C))) 4 (pc_S v 4 3 S1)) 4 = pc_S v 4 3 S1 from xw_up_s), (show (xw_up (xw_up G 3 (pB v 3 (xu (bk_te C) k x) (bk_ho C) (bk_ow C) (bk_hs C) (bk_ra C) (bk_lo C) (bk_bi C) (bk_st C) (bk_av C) (bk_so C) (bk_pa C) (bk_ln C))) 4 (pc_S v 4 3 S1)) 5 = pc_P v (nI e, nI a) from (show (xw_up (xw_up G 3 (pB v 3 (xu (bk_te C) k x) (bk_ho C) (bk_ow C) (bk_hs C) (bk_ra C) (bk_lo C) (bk_bi C) (bk_st C) (bk_av C) (bk_so C) (bk_pa C) (bk_ln C))) 4 (pc_S v 4 3 S1)) 5 = pP v (nI e) (nI a) from by rw [xw_up_n (by decide), xw_up_n (by decide), g5])), (fun j9 h9 => by rw [xw_up_n (by omega), xw_up_n (by omega)]; exact gK j9 h9), (show (xw_up (xw_up G 3 (pB v 3 (xu (bk_te C) k x) (bk_ho C) (bk_ow C) (bk_hs C) (bk_ra C) (bk_lo C) (bk_bi C) (bk_st C) (bk_av C) (bk_so C) (bk_pa C) (bk_ln C))) 4 (pc_S v 4 3 S1)) 18 = pc_T v t from (show (xw_up (xw_up G 3 (pB v 3 (xu (bk_te C) k x) (bk_ho C) (bk_ow C) (bk_hs C) (bk_ra C) (bk_lo C) (bk_bi C) (bk_st C) (bk_av C) (bk_so C) (bk_pa C) (bk_ln C))) 4 (pc_S v 4 3 S1)) 18 = pc_T v t from by rw [xw_up_n (by decide), xw_up_n (by decide), g18])), (show (xw_up (xw_up G 3 (pB v 3 (xu (bk_te C) k x) (bk_ho C) (bk_ow C) (bk_hs C) (bk_ra C) (bk_lo C) (bk_bi C) (bk_st C) (bk_av C) (bk_so C) (bk_pa C) (bk_ln C))) 4 (pc_S v 4 3 S1)) 19 = pc_R v rd from (show (xw_up (xw_up G 3 (pB v 3 (xu (bk_te C) k x) (bk_ho C) (bk_ow C) (bk_hs C) (bk_ra C) (bk_lo C) (bk_bi C) (bk_st C) (bk_av C) (bk_so C) (bk_pa C) (bk_ln C))) 4 (pc_S v 4 3 S1)) 19 = pc_R v rd from by rw [xw_up_n (by decide), xw_up_n (by decide), g19])), (show (xw_up (xw_up G 3 (pB v 3 (xu (bk_te C) k x) (bk_ho C) (bk_ow C) (bk_hs C) (bk_ra C) (bk_lo C) (bk_bi C) (bk_st C) (bk_av C) (bk_so C) (bk_pa C) (bk_ln C))) 4 (pc_S v 4 3 S1)) 20 = pc_W  sw from (show (xw_up (xw_up G 3 (pB v 3 (xu (bk_te C) k x) (bk_ho C) (bk_ow C) (bk_hs C) (bk_ra C) (bk_lo C) (bk_bi C) (bk_st C) (bk_av C) (bk_so C) (bk_pa C) (bk_ln C))) 4 (pc_S v 4 3 S1)) 20 = pc_W  sw from by rw [xw_up_n (by decide), xw_up_n (by decide), g20]))⟩, (fun g h9 => by rw [xw_up_n (by omega), xw_up_n (by omega)])⟩
    rw [show fig ((xu (bk_te C) k x, bk_ho C, bk_ow C, bk_hs C, bk_ra C, bk_lo C, bk_bi C, bk_st C, bk_av C, bk_so C, bk_pa C, bk_ln C)) S1 n y = fig (bk_wte B (xu (bk_te B) k x)) (kR (bk_wte B (xu (bk_te B) k x)) n) n y from figs_eq y (eqB_te x (show eqB n (bk_wte B (xu (bk_te B) k (bk_te B k))) C from by rw [wte_self]; exact hC.1)) hag]; simp [q_figBy, c9, xn_nI (show k < 2 ^ 31 by omega)]
  · refine xj_iconst (x := (-1)) hk dX7_figureBy_12 (by decide) ?_
    refine xj_ireturn hk hz dX7_figureBy_13 ?_
    refine ⟨?_, ⟨okb, he12, ha12, hK0, hl700, htl, S, A, Q, rd, sw, okS, okQ, (show G 0 = pc_X v from g0), (show G 1 = pc_B v 1 B from g1), (show G 2 = pc_S v 2 1 S from g2), (show G 3 = pc_B v 3 A from g3), (show G 4 = pc_S v 4 3 Q from g4), (show G 5 = pc_P v (nI e, nI a) from g5), gK, (show G 18 = pc_T v t from g18), (show G 19 = pc_R v rd from g19), (show G 20 = pc_W  sw from g20)⟩, (fun _ _ => rfl)⟩
    simp [q_figBy, c9]

set_option maxHeartbeats 1000000 in
set_option maxRecDepth 10000 in
theorem c_X7_byOffer {v : xw_V} {G : xw_G} {B : bk_T} {n r e a l : Nat} {K : Nat → bk_T} {t : tp_T} (hX : XB v G B n r e a K t l) (x : Int32) (y : Int32) : xk_Con v yX7_byOffer cX7_byOffer 3 (some .int) 7 160 [.ref (xw_ad v 0 0), .int x, .int y] G (fun r9 G' => r9 = some (.int (q_figBy B n 0 x y)) ∧ XB v G' B n r e a K t l ∧ XF G G') := by
  refine xk_of (ls0 := [some (.ref (xw_ad v 0 0)), some (.int x), some (.int y)]) (by decide) rfl (Nat.le_of_ble_eq_true rfl) ?_
  intro κ z hk hz
  have hX0 := hX
  obtain ⟨okb, he12, ha12, hK0, hl700, htl, S, A, Q, rd, sw, okS, okQ, g0, g1, g2, g3, g4, g5, gK, g18, g19, g20⟩ := hX
  obtain ⟨hn, hn30, how, hhs, hr, hr8⟩ := id okb
  refine xj_aload_n (i := 0) hk dX7_byOffer_0 rfl rfl ?_
  refine xj_iconst (x := 0) hk dX7_byOffer_1 (by decide) ?_
  refine xj_iload_n (i := 1) hk dX7_byOffer_2 rfl rfl ?_
  refine xj_iload_n (i := 2) hk dX7_byOffer_3 rfl rfl ?_
  refine xj_callVE hk hz (fr1 := 6) (lo1 := 137) (As := [.int 0, .int x, .int y]) (st := []) ml_X7_243 (c_X7_figureBy hX0 0 x y) (xw_at g0 rfl) rfl dX7_byOffer_4 ⟨Nat.le_of_ble_eq_true rfl, Nat.le_of_ble_eq_true rfl⟩ rfl (Nat.le_of_ble_eq_true rfl) rfl ?_
  rintro _ G9 ⟨rfl, h8, h9⟩
  show xj v κ _ z G9 7 _ [.int (q_figBy B n 0 x y)]
  refine xj_ireturn hk hz dX7_byOffer_7 ?_
  exact ⟨rfl, h8, h9⟩

set_option maxHeartbeats 1000000 in
set_option maxRecDepth 10000 in
theorem c_X7_byTerm {v : xw_V} {G : xw_G} {B : bk_T} {n r e a l : Nat} {K : Nat → bk_T} {t : tp_T} (hX : XB v G B n r e a K t l) (w1 : Int32) (x : Int32) (y : Int32) : xk_Con v yX7_byTerm cX7_byTerm 4 (some .int) 7 160 [.ref (xw_ad v 0 0), .int w1, .int x, .int y] G (fun r9 G' => r9 = some (.int (q_figBy B n w1 x y)) ∧ XB v G' B n r e a K t l ∧ XF G G') := by
  refine xk_of (ls0 := [some (.ref (xw_ad v 0 0)), some (.int w1), some (.int x), some (.int y)]) (by decide) rfl (Nat.le_of_ble_eq_true rfl) ?_
  intro κ z hk hz
  have hX0 := hX
  obtain ⟨okb, he12, ha12, hK0, hl700, htl, S, A, Q, rd, sw, okS, okQ, g0, g1, g2, g3, g4, g5, gK, g18, g19, g20⟩ := hX
  obtain ⟨hn, hn30, how, hhs, hr, hr8⟩ := id okb
  refine xj_aload_n (i := 0) hk dX7_byTerm_0 rfl rfl ?_
  refine xj_iload_n (i := 1) hk dX7_byTerm_1 rfl rfl ?_
  refine xj_iload_n (i := 2) hk dX7_byTerm_2 rfl rfl ?_
  refine xj_iload_n (i := 3) hk dX7_byTerm_3 rfl rfl ?_
  refine xj_callVE hk hz (fr1 := 6) (lo1 := 137) (As := [.int w1, .int x, .int y]) (st := []) ml_X7_243 (c_X7_figureBy hX0 w1 x y) (xw_at g0 rfl) rfl dX7_byTerm_4 ⟨Nat.le_of_ble_eq_true rfl, Nat.le_of_ble_eq_true rfl⟩ rfl (Nat.le_of_ble_eq_true rfl) rfl ?_
  rintro _ G9 ⟨rfl, h8, h9⟩
  show xj v κ _ z G9 7 _ [.int (q_figBy B n w1 x y)]
  refine xj_ireturn hk hz dX7_byTerm_7 ?_
  exact ⟨rfl, h8, h9⟩

set_option maxHeartbeats 1000000 in
set_option maxRecDepth 10000 in
theorem c_X7_stopWithout {v : xw_V} {G : xw_G} {B : bk_T} {n r e a l : Nat} {K : Nat → bk_T} {t : tp_T} (hX : XB v G B n r e a K t l) (b : Int32) : xk_Con v yX7_stopWithout cX7_stopWithout 2 (some .int) 6 137 [.ref (xw_ad v 0 0), .int b] G (fun r9 G' => r9 = some (.int (q_without B n b)) ∧ XB v G' B n r e a K t l ∧ XF G G') := by
  refine xk_of (ls0 := [some (.ref (xw_ad v 0 0)), some (.int b)]) (by decide) rfl (Nat.le_of_ble_eq_true rfl) ?_
  intro κ z hk hz
  obtain ⟨okb, he12, ha12, hK0, hl700, htl, S, A, Q, rd, sw, okS, okQ, g0, g1, g2, g3, g4, g5, gK, g18, g19, g20⟩ := hX
  obtain ⟨hn, hn30, how, hhs, hr, hr8⟩ := id okb
  refine xj_aload_n (i := 0) hk dX7_stopWithout_0 rfl rfl ?_
  refine xj_getfield hk dX7_stopWithout_1 fl_X7_10 (xw_at g0 rfl) rfl ?_
  refine xj_iload_n (i := 1) hk dX7_stopWithout_4 rfl rfl ?_
  refine xj_callV hk hz (fr1 := 0) (lo1 := 0) (r1 := some (.int (xb (hasB (bk_bi B) b)))) (As := [.int b]) (st := []) (st2 := [.int (xb (hasB (bk_bi B) b))]) (G1 := G) ml_X7_103 (c_X0_hasBid (show G 1 = pc_B v 1 B from g1) b) (xw_at g1 rfl) rfl dX7_stopWithout_5 ⟨Nat.le_of_ble_eq_true rfl, Nat.le_of_ble_eq_true rfl⟩ rfl (Nat.le_of_ble_eq_true rfl) rfl rfl ?_
  refine xj_ifb_ne (tgt := 13) hk dX7_stopWithout_8 (by decide) (fun c8 => ?_) (fun c8 => ?_)
  · obtain ⟨j, hj_j, rfl⟩ := hasB_of hn hn30 c8
    refine xj_aload_n (i := 0) hk dX7_stopWithout_13 rfl rfl ?_
    refine xj_getfield hk dX7_stopWithout_14 fl_X7_25 (xw_at g0 rfl) rfl ?_
    refine xj_aload_n (i := 0) hk dX7_stopWithout_17 rfl rfl ?_
    refine xj_getfield hk dX7_stopWithout_18 fl_X7_10 (xw_at g0 rfl) rfl ?_
    refine xj_callVE hk hz (fr1 := 1) (lo1 := 22) (As := [.ref (xw_ad v 1 0)]) (st := []) ml_X7_77 (c_X0_copyFromE (n := n) (show G 3 = pc_B v 3 A from g3) (show G 1 = pc_B v 1 B from g1) (by decide) hn hn30) (xw_at g3 rfl) rfl dX7_stopWithout_21 ⟨Nat.le_of_ble_eq_true rfl, Nat.le_of_ble_eq_true rfl⟩ rfl (Nat.le_of_ble_eq_true rfl) rfl ?_
    rintro _ _ ⟨rfl, C, hC, rfl⟩
    show xj v κ _ z (xw_up G 3 (pc_B v 3 C)) 24 _ []
    refine xj_aload_n (i := 0) hk dX7_stopWithout_24 rfl rfl ?_
    refine xj_getfield hk dX7_stopWithout_25 fl_X7_25 (xw_at (show (xw_up G 3 (pc_B v 3 C)) 0 = pc_X v from by rw [xw_up_n (by decide), g0]) rfl) rfl ?_
    refine xj_iload_n (i := 1) hk dX7_stopWithout_28 rfl rfl ?_
    refine xj_callV hk hz (fr1 := 1) (lo1 := 21) (r1 := none) (As := [.int (nI j)]) (st := []) (st2 := []) (G1 := xw_up G 3 (pB v 3 (bk_te C) (bk_ho C) (bk_ow C) (shD j (n - 1) (bk_hs C)) (shD j (n - 1) (bk_ra C)) (shD j (n - 1) (bk_lo C)) (nI (n - 1)) (bk_st C) (bk_av C) (bk_so C) (bk_pa C) (bk_ln C))) ml_X7_106 (xk_cg (by rw [xw_up_u] <;> rfl) (c_X0_remove (n := n) (a := j) (show (xw_up G 3 (pc_B v 3 C)) 3 = pc_B v 3 C from xw_up_s) hC.2.1 (by omega) (by omega))) (xw_at xw_up_s rfl) rfl dX7_stopWithout_29 ⟨Nat.le_of_ble_eq_true rfl, Nat.le_of_ble_eq_true rfl⟩ rfl (Nat.le_of_ble_eq_true rfl) rfl rfl ?_
    refine xj_aload_n (i := 0) hk dX7_stopWithout_32 rfl rfl ?_
    refine xj_callVE hk hz (fr1 := 5) (lo1 := 117) (As := []) (st := []) ml_X7_251 (c_X7_tried (n := (n - 1)) (show (xw_up G 3 (pB v 3 (bk_te C) (bk_ho C) (bk_ow C) (shD j (n - 1) (bk_hs C)) (shD j (n - 1) (bk_ra C)) (shD j (n - 1) (bk_lo C)) (nI (n - 1)) (bk_st C) (bk_av C) (bk_so C) (bk_pa C) (bk_ln C))) 0 = pc_X v from (show (xw_up G 3 (pB v 3 (bk_te C) (bk_ho C) (bk_ow C) (shD j (n - 1) (bk_hs C)) (shD j (n - 1) (bk_ra C)) (shD j (n - 1) (bk_lo C)) (nI (n - 1)) (bk_st C) (bk_av C) (bk_so C) (bk_pa C) (bk_ln C))) 0 = pc_X v from by rw [xw_up_n (by decide), g0])) (show (xw_up G 3 (pB v 3 (bk_te C) (bk_ho C) (bk_ow C) (shD j (n - 1) (bk_hs C)) (shD j (n - 1) (bk_ra C)) (shD j (n - 1) (bk_lo C)) (nI (n - 1)) (bk_st C) (bk_av C) (bk_so C) (bk_pa C) (bk_ln C))) 3 = pc_B v 3 (bk_te C, bk_ho C, bk_ow C, shD j (n - 1) (bk_hs C), shD j (n - 1) (bk_ra C), shD j (n - 1) (bk_lo C), nI (n - 1), bk_st C, bk_av C, bk_so C, bk_pa C, bk_ln C) from xw_up_s) (show (xw_up G 3 (pB v 3 (bk_te C) (bk_ho C) (bk_ow C) (shD j (n - 1) (bk_hs C)) (shD j (n - 1) (bk_ra C)) (shD j (n - 1) (bk_lo C)) (nI (n - 1)) (bk_st C) (bk_av C) (bk_so C) (bk_pa C) (bk_ln C))) 4 = pc_S v 4 3 Q from (show (xw_up G 3 (pB v 3 (bk_te C) (bk_ho C) (bk_ow C) (shD j (n - 1) (bk_hs C)) (shD j (n - 1) (bk_ra C)) (shD j (n - 1) (bk_lo C)) (nI (n - 1)) (bk_st C) (bk_av C) (bk_so C) (bk_pa C) (bk_ln C))) 4 = pc_S v 4 3 Q from by rw [xw_up_n (by decide), g4])) okQ rfl (by omega) (eqB_ow (rm_eqB (a := j) hC.1) how) (eqB_hs (rm_eqB (a := j) hC.1) (rm_okHs hhs hj_j))) (xw_at (show (xw_up G 3 (pB v 3 (bk_te C) (bk_ho C) (bk_ow C) (shD j (n - 1) (bk_hs C)) (shD j (n - 1) (bk_ra C)) (shD j (n - 1) (bk_lo C)) (nI (n - 1)) (bk_st C) (bk_av C) (bk_so C) (bk_pa C) (bk_ln C))) 0 = pc_X v from by rw [xw_up_n (by decide), g0]) rfl) rfl dX7_stopWithout_33 ⟨Nat.le_of_ble_eq_true rfl, Nat.le_of_ble_eq_true rfl⟩ rfl (Nat.le_of_ble_eq_true rfl) rfl ?_
    rintro _ _ ⟨S1, hS1, rfl, rfl⟩
    have hag := kR_ag2 (B := (bk_wbd B (bd_rm (bk_bd B n) j))) (rm_eqB (a := j) hC.1) how (rm_okHs hhs hj_j) hS1
    have hio1 := RecS_io hS1
    have okQ1 : okO S1 := Rec_okO (by omega) hS1
    show xj v κ _ z (xw_up (xw_up G 3 (pB v 3 (bk_te C) (bk_ho C) (bk_ow C) (shD j (n - 1) (bk_hs C)) (shD j (n - 1) (bk_ra C)) (shD j (n - 1) (bk_lo C)) (nI (n - 1)) (bk_st C) (bk_av C) (bk_so C) (bk_pa C) (bk_ln C))) 4 (pc_S v 4 3 S1)) 36 _ [.ref (xw_ad v 4 0)]
    refine xj_getfield hk dX7_stopWithout_36 fl_X7_153 (xw_at xw_up_s rfl) rfl ?_
    refine xj_ireturn hk hz dX7_stopWithout_39 ?_
    refine ⟨?_, ⟨okb, he12, ha12, hK0, hl700, htl, S, (bk_te C, bk_ho C, bk_ow C, shD j (n - 1) (bk_hs C), shD j (n - 1) (bk_ra C), shD j (n - 1) (bk_lo C), nI (n - 1), bk_st C, bk_av C, bk_so C, bk_pa C, bk_ln C), S1, rd, sw, okS, okQ1, (show (xw_up (xw_up G 3 (pB v 3 (bk_te C) (bk_ho C) (bk_ow C) (shD j (n - 1) (bk_hs C)) (shD j (n - 1) (bk_ra C)) (shD j (n - 1) (bk_lo C)) (nI (n - 1)) (bk_st C) (bk_av C) (bk_so C) (bk_pa C) (bk_ln C))) 4 (pc_S v 4 3 S1)) 0 = pc_X v from (show (xw_up (xw_up G 3 (pB v 3 (bk_te C) (bk_ho C) (bk_ow C) (shD j (n - 1) (bk_hs C)) (shD j (n - 1) (bk_ra C)) (shD j (n - 1) (bk_lo C)) (nI (n - 1)) (bk_st C) (bk_av C) (bk_so C) (bk_pa C) (bk_ln C))) 4 (pc_S v 4 3 S1)) 0 = pc_X v from by rw [xw_up_n (by decide), xw_up_n (by decide), g0])), (show (xw_up (xw_up G 3 (pB v 3 (bk_te C) (bk_ho C) (bk_ow C) (shD j (n - 1) (bk_hs C)) (shD j (n - 1) (bk_ra C)) (shD j (n - 1) (bk_lo C)) (nI (n - 1)) (bk_st C) (bk_av C) (bk_so C) (bk_pa C) (bk_ln C))) 4 (pc_S v 4 3 S1)) 1 = pc_B v 1 B from (show (xw_up (xw_up G 3 (pB v 3 (bk_te C) (bk_ho C) (bk_ow C) (shD j (n - 1) (bk_hs C)) (shD j (n - 1) (bk_ra C)) (shD j (n - 1) (bk_lo C)) (nI (n - 1)) (bk_st C) (bk_av C) (bk_so C) (bk_pa C) (bk_ln C))) 4 (pc_S v 4 3 S1)) 1 = pc_B v 1 B from by rw [xw_up_n (by decide), xw_up_n (by decide), g1])), (show (xw_up (xw_up G 3 (pB v 3 (bk_te C) (bk_ho C) (bk_ow C) (shD j (n - 1) (bk_hs C)) (shD j (n - 1) (bk_ra C)) (shD j (n - 1) (bk_lo C)) (nI (n - 1)) (bk_st C) (bk_av C) (bk_so C) (bk_pa C) (bk_ln C))) 4 (pc_S v 4 3 S1)) 2 = pc_S v 2 1 S from (show (xw_up (xw_up G 3 (pB v 3 (bk_te C) (bk_ho C) (bk_ow C) (shD j (n - 1) (bk_hs C)) (shD j (n - 1) (bk_ra C)) (shD j (n - 1) (bk_lo C)) (nI (n - 1)) (bk_st C) (bk_av C) (bk_so C) (bk_pa C) (bk_ln C))) 4 (pc_S v 4 3 S1)) 2 = pc_S v 2 1 S from by rw [xw_up_n (by decide), xw_up_n (by decide), g2])), (show (xw_up (xw_up G 3 (pB v 3 (bk_te C) (bk_ho C) (bk_ow C) (shD j (n - 1) (bk_hs C)) (shD j (n - 1) (bk_ra C)) (shD j (n - 1) (bk_lo C)) (nI (n - 1)) (bk_st C) (bk_av C) (bk_so C) (bk_pa C) (bk_ln C))) 4 (pc_S v 4 3 S1)) 3 = pc_B v 3 (bk_te C, bk_ho C, bk_ow C, shD j (n - 1) (bk_hs C), shD j (n - 1) (bk_ra C), shD j (n - 1) (bk_lo C), nI (n - 1), bk_st C, bk_av C, bk_so C, bk_pa C, bk_ln C) from (show (xw_up (xw_up G 3 (pB v 3 (bk_te C) (bk_ho C) (bk_ow C) (shD j (n - 1) (bk_hs C)) (shD j (n - 1) (bk_ra C)) (shD j (n - 1) (bk_lo C)) (nI (n - 1)) (bk_st C) (bk_av C) (bk_so C) (bk_pa C) (bk_ln C))) 4 (pc_S v 4 3 S1)) 3 = pB v 3 (bk_te C) (bk_ho C) (bk_ow C) (shD j (n - 1) (bk_hs C)) (shD j (n - 1) (bk_ra C)) (shD j (n - 1) (bk_lo C)) (nI (n - 1)) (bk_st C) (bk_av C) (bk_so C) (bk_pa C) (bk_ln C) from by rw [xw_up_n (by decide), xw_up_s])), (show (xw_up (xw_up G 3 (pB v 3 (bk_te C) (bk_ho C) (bk_ow C) (shD j (n - 1) (bk_hs C)) (shD j (n - 1) (bk_ra C)) (shD j (n - 1) (bk_lo C)) (nI (n - 1)) (bk_st C) (bk_av C) (bk_so C) (bk_pa C) (bk_ln C))) 4 (pc_S v 4 3 S1)) 4 = pc_S v 4 3 S1 from xw_up_s), (show (xw_up (xw_up G 3 (pB v 3 (bk_te C) (bk_ho C) (bk_ow C) (shD j (n - 1) (bk_hs C)) (shD j (n - 1) (bk_ra C)) (shD j (n - 1) (bk_lo C)) (nI (n - 1)) (bk_st C) (bk_av C) (bk_so C) (bk_pa C) (bk_ln C))) 4 (pc_S v 4 3 S1)) 5 = pc_P v (nI e, nI a) from (show (xw_up (xw_up G 3 (pB v 3 (bk_te C) (bk_ho C) (bk_ow C) (shD j (n - 1) (bk_hs C)) (shD j (n - 1) (bk_ra C)) (shD j (n - 1) (bk_lo C)) (nI (n - 1)) (bk_st C) (bk_av C) (bk_so C) (bk_pa C) (bk_ln C))) 4 (pc_S v 4 3 S1)) 5 = pP v (nI e) (nI a) from by rw [xw_up_n (by decide), xw_up_n (by decide), g5])), (fun j9 h9 => by rw [xw_up_n (by omega), xw_up_n (by omega)]; exact gK j9 h9), (show (xw_up (xw_up G 3 (pB v 3 (bk_te C) (bk_ho C) (bk_ow C) (shD j (n - 1) (bk_hs C)) (shD j (n - 1) (bk_ra C)) (shD j (n - 1) (bk_lo C)) (nI (n - 1)) (bk_st C) (bk_av C) (bk_so C) (bk_pa C) (bk_ln C))) 4 (pc_S v 4 3 S1)) 18 = pc_T v t from (show (xw_up (xw_up G 3 (pB v 3 (bk_te C) (bk_ho C) (bk_ow C) (shD j (n - 1) (bk_hs C)) (shD j (n - 1) (bk_ra C)) (shD j (n - 1) (bk_lo C)) (nI (n - 1)) (bk_st C) (bk_av C) (bk_so C) (bk_pa C) (bk_ln C))) 4 (pc_S v 4 3 S1)) 18 = pc_T v t from by rw [xw_up_n (by decide), xw_up_n (by decide), g18])), (show (xw_up (xw_up G 3 (pB v 3 (bk_te C) (bk_ho C) (bk_ow C) (shD j (n - 1) (bk_hs C)) (shD j (n - 1) (bk_ra C)) (shD j (n - 1) (bk_lo C)) (nI (n - 1)) (bk_st C) (bk_av C) (bk_so C) (bk_pa C) (bk_ln C))) 4 (pc_S v 4 3 S1)) 19 = pc_R v rd from (show (xw_up (xw_up G 3 (pB v 3 (bk_te C) (bk_ho C) (bk_ow C) (shD j (n - 1) (bk_hs C)) (shD j (n - 1) (bk_ra C)) (shD j (n - 1) (bk_lo C)) (nI (n - 1)) (bk_st C) (bk_av C) (bk_so C) (bk_pa C) (bk_ln C))) 4 (pc_S v 4 3 S1)) 19 = pc_R v rd from by rw [xw_up_n (by decide), xw_up_n (by decide), g19])), (show (xw_up (xw_up G 3 (pB v 3 (bk_te C) (bk_ho C) (bk_ow C) (shD j (n - 1) (bk_hs C)) (shD j (n - 1) (bk_ra C)) (shD j (n - 1) (bk_lo C)) (nI (n - 1)) (bk_st C) (bk_av C) (bk_so C) (bk_pa C) (bk_ln C))) 4 (pc_S v 4 3 S1)) 20 = pc_W  sw from (show (xw_up (xw_up G 3 (pB v 3 (bk_te C) (bk_ho C) (bk_ow C) (shD j (n - 1) (bk_hs C)) (shD j (n - 1) (bk_ra C)) (shD j (n - 1) (bk_lo C)) (nI (n - 1)) (bk_st C) (bk_av C) (bk_so C) (bk_pa C) (bk_ln C))) 4 (pc_S v 4 3 S1)) 20 = pc_W  sw from by rw [xw_up_n (by decide), xw_up_n (by decide), g20]))⟩, (fun g h9 => by rw [xw_up_n (by omega), xw_up_n (by omega)])⟩
    simp [q_without, xn_nI (show j < 2 ^ 31 by omega), hasB_nI hn hn30 hj_j, hag.2.2.2.2.2.2.2.2.1]
  · refine xj_iconst (x := (-1)) hk dX7_stopWithout_11 (by decide) ?_
    refine xj_ireturn hk hz dX7_stopWithout_12 ?_
    refine ⟨?_, ⟨okb, he12, ha12, hK0, hl700, htl, S, A, Q, rd, sw, okS, okQ, (show G 0 = pc_X v from g0), (show G 1 = pc_B v 1 B from g1), (show G 2 = pc_S v 2 1 S from g2), (show G 3 = pc_B v 3 A from g3), (show G 4 = pc_S v 4 3 Q from g4), (show G 5 = pc_P v (nI e, nI a) from g5), gK, (show G 18 = pc_T v t from g18), (show G 19 = pc_R v rd from g19), (show G 20 = pc_W  sw from g20)⟩, (fun _ _ => rfl)⟩
    simp [q_without, c8]

def alAt (hs ra : Nat → Int32) (h x : Int32) : Nat → Int32 := fun j => if hs j = h then (if ra j = -1 then ra j else x) else ra j
noncomputable def q_allAt (B : bk_T) (n : Nat) (h x : Int32) : Int32 := if isH h && isR x then sm (sel (bk_hs B) h (sl_so (kR (bk_wra B (alAt (bk_hs B) (bk_ra B) h x)) n))) n else -1
theorem al_eqB {n : Nat} {B C : bk_T} {h x : Int32} {f : Nat → Int32} (he : eqB n B C) : eqB n (bk_wra B (alAt (bk_hs B) (bk_ra B) h x)) (bk_wra C (cpN n (alAt (bk_hs C) (bk_ra C) h x) f)) := ⟨he.1, he.2.1, fun j hj => ⟨(he.2.2 j hj).1, by show alAt (bk_hs B) (bk_ra B) h x j = cpN n (alAt (bk_hs C) (bk_ra C) h x) f j; simp only [cpN, if_pos hj, alAt, (he.2.2 j hj).1, (he.2.2 j hj).2.1], (he.2.2 j hj).2.2⟩⟩
set_option maxHeartbeats 1000000 in
set_option maxRecDepth 10000 in
theorem l_X7_soldAllAt_29 {v : xw_V} {κ : xk_K} {post : Option Value → xw_G → Prop} {z : Nat × Nat × Nat} {G : xw_G} {C : bk_T} {n : Nat} (hk : xk_Ok v κ yX7_soldAllAt cX7_soldAllAt 4 (some .int) 6 137) (hz : xk_zf κ = z) (g0 : G 0 = pc_X v) (g3 : G 3 = pc_B v 3 C) (hnC : bk_bi C = nI n) (hn30 : n ≤ 30) (h x : Int32) (kx : xj v κ post z (xw_up G 3 (pB v 3 (bk_te C) (bk_ho C) (bk_ow C) (bk_hs C) (cpN n (alAt (bk_hs C) (bk_ra C) h x) (bk_ra C)) (bk_lo C) (bk_bi C) (bk_st C) (bk_av C) (bk_so C) (bk_pa C) (bk_ln C))) 82 [some (.ref (xw_ad v 0 0)), some (.int h), some (.int x), some (.int (nI n))] []) : ∀ (m : Nat) (k : Nat), n - k < m → k ≤ n → xj v κ post z (xw_up G 3 (pB v 3 (bk_te C) (bk_ho C) (bk_ow C) (bk_hs C) (cpN k (alAt (bk_hs C) (bk_ra C) h x) (bk_ra C)) (bk_lo C) (bk_bi C) (bk_st C) (bk_av C) (bk_so C) (bk_pa C) (bk_ln C))) 29 [some (.ref (xw_ad v 0 0)), some (.int h), some (.int x), some (.int (nI k))] [] := by
  intro m
  induction m with
  | zero => intro k h; exact absurd h (Nat.not_lt_zero _)
  | succ m ih =>
    intro k hm hi
    refine xj_iload_n (i := 3) hk dX7_soldAllAt_29 rfl rfl ?_
    refine xj_aload_n (i := 0) hk dX7_soldAllAt_30 rfl rfl ?_
    refine xj_getfield hk dX7_soldAllAt_31 fl_X7_25 (xw_at (show (xw_up G 3 (pB v 3 (bk_te C) (bk_ho C) (bk_ow C) (bk_hs C) (cpN k (alAt (bk_hs C) (bk_ra C) h x) (bk_ra C)) (bk_lo C) (bk_bi C) (bk_st C) (bk_av C) (bk_so C) (bk_pa C) (bk_ln C))) 0 = pc_X v from by rw [xw_up_n (by decide), g0]) rfl) rfl ?_
    refine xj_getfield hk dX7_soldAllAt_34 fl_X7_83 (xw_at xw_up_s rfl) rfl ?_
    refine xj.eqi (x' := nI n) hnC ?_
    refine xj_icmp_ge (tgt := 82) hk dX7_soldAllAt_37 (by decide) (fun c37 => ?_) (fun c37 => ?_)
    · have c37 : n ≤ k := (nI_leI (a := n) (b := k) (by omega) (by omega)).mp c37
      have e9 : k = n := by omega
      subst e9
      exact kx
    · have c37 : ¬ n ≤ k := fun q => c37 ((nI_leI (a := n) (b := k) (by omega) (by omega)).mpr q)
      refine xj_aload_n (i := 0) hk dX7_soldAllAt_40 rfl rfl ?_
      refine xj_getfield hk dX7_soldAllAt_41 fl_X7_25 (xw_at (show (xw_up G 3 (pB v 3 (bk_te C) (bk_ho C) (bk_ow C) (bk_hs C) (cpN k (alAt (bk_hs C) (bk_ra C) h x) (bk_ra C)) (bk_lo C) (bk_bi C) (bk_st C) (bk_av C) (bk_so C) (bk_pa C) (bk_ln C))) 0 = pc_X v from by rw [xw_up_n (by decide), g0]) rfl) rfl ?_
      refine xj_getfield hk dX7_soldAllAt_44 fl_X7_133 (xw_at xw_up_s rfl) rfl ?_
      refine xj_iload_n (i := 3) hk dX7_soldAllAt_47 rfl rfl ?_
      refine xj_iaload (k := k) hk dX7_soldAllAt_48 (xw_at xw_up_s rfl) (xi_n (by omega) (by decide)) ?_
      refine xj_iload_n (i := 1) hk dX7_soldAllAt_49 rfl rfl ?_
      refine xj_icmp_ne (tgt := 76) hk dX7_soldAllAt_50 (by decide) (fun c50 => ?_) (fun c50 => ?_)
      · refine xj_iinc (i := 3) (x2 := nI (k + 1)) (ls2 := [some (.ref (xw_ad v 0 0)), some (.int h), some (.int x), some (.int (nI (k + 1)))]) hk dX7_soldAllAt_76 rfl (nI_1 k) (by decide) rfl rfl ?_
        refine xj_goto (tgt := 29) hk dX7_soldAllAt_79 (by decide) ?_
        refine xj.eqG (G' := xw_up G 3 (pB v 3 (bk_te C) (bk_ho C) (bk_ow C) (bk_hs C) (cpN ((k + 1)) (alAt (bk_hs C) (bk_ra C) h x) (bk_ra C)) (bk_lo C) (bk_bi C) (bk_st C) (bk_av C) (bk_so C) (bk_pa C) (bk_ln C))) (by first | rw [cp_e (show alAt (bk_hs C) (bk_ra C) h x k = x by simp [alAt, *])] | rw [cp_n (show alAt (bk_hs C) (bk_ra C) h x k = bk_ra C k by simp [alAt, *])]) (ih (k + 1) (by omega) (by omega))
      · refine xj_aload_n (i := 0) hk dX7_soldAllAt_53 rfl rfl ?_
        refine xj_getfield hk dX7_soldAllAt_54 fl_X7_25 (xw_at (show (xw_up G 3 (pB v 3 (bk_te C) (bk_ho C) (bk_ow C) (bk_hs C) (cpN k (alAt (bk_hs C) (bk_ra C) h x) (bk_ra C)) (bk_lo C) (bk_bi C) (bk_st C) (bk_av C) (bk_so C) (bk_pa C) (bk_ln C))) 0 = pc_X v from by rw [xw_up_n (by decide), g0]) rfl) rfl ?_
        refine xj_getfield hk dX7_soldAllAt_57 fl_X7_120 (xw_at xw_up_s rfl) rfl ?_
        refine xj_iload_n (i := 3) hk dX7_soldAllAt_60 rfl rfl ?_
        refine xj_iaload (k := k) hk dX7_soldAllAt_61 (xw_at xw_up_s rfl) (xi_n (by omega) (by decide)) ?_
        refine xj.eqi (x' := bk_ra C k) cp_ge ?_
        refine xj_iconst (x := (-1)) hk dX7_soldAllAt_62 (by decide) ?_
        refine xj_icmp_eq (tgt := 76) hk dX7_soldAllAt_63 (by decide) (fun c63 => ?_) (fun c63 => ?_)
        · refine xj_iinc (i := 3) (x2 := nI (k + 1)) (ls2 := [some (.ref (xw_ad v 0 0)), some (.int h), some (.int x), some (.int (nI (k + 1)))]) hk dX7_soldAllAt_76 rfl (nI_1 k) (by decide) rfl rfl ?_
          refine xj_goto (tgt := 29) hk dX7_soldAllAt_79 (by decide) ?_
          refine xj.eqG (G' := xw_up G 3 (pB v 3 (bk_te C) (bk_ho C) (bk_ow C) (bk_hs C) (cpN ((k + 1)) (alAt (bk_hs C) (bk_ra C) h x) (bk_ra C)) (bk_lo C) (bk_bi C) (bk_st C) (bk_av C) (bk_so C) (bk_pa C) (bk_ln C))) (by first | rw [cp_e (show alAt (bk_hs C) (bk_ra C) h x k = x by simp [alAt, *])] | rw [cp_n (show alAt (bk_hs C) (bk_ra C) h x k = bk_ra C k by simp [alAt, *])]) (ih (k + 1) (by omega) (by omega))
        · refine xj_aload_n (i := 0) hk dX7_soldAllAt_66 rfl rfl ?_
          refine xj_getfield hk dX7_soldAllAt_67 fl_X7_25 (xw_at (show (xw_up G 3 (pB v 3 (bk_te C) (bk_ho C) (bk_ow C) (bk_hs C) (cpN k (alAt (bk_hs C) (bk_ra C) h x) (bk_ra C)) (bk_lo C) (bk_bi C) (bk_st C) (bk_av C) (bk_so C) (bk_pa C) (bk_ln C))) 0 = pc_X v from by rw [xw_up_n (by decide), g0]) rfl) rfl ?_
          refine xj_getfield hk dX7_soldAllAt_70 fl_X7_120 (xw_at xw_up_s rfl) rfl ?_
          refine xj_iload_n (i := 3) hk dX7_soldAllAt_73 rfl rfl ?_
          refine xj_iload_n (i := 2) hk dX7_soldAllAt_74 rfl rfl ?_
          refine xj_iastore (k := k) (G2 := xw_up G 3 (pB v 3 (bk_te C) (bk_ho C) (bk_ow C) (bk_hs C) (xu (cpN k (alAt (bk_hs C) (bk_ra C) h x) (bk_ra C)) k x) (bk_lo C) (bk_bi C) (bk_st C) (bk_av C) (bk_so C) (bk_pa C) (bk_ln C))) hk dX7_soldAllAt_75 (xw_at xw_up_s rfl) (xi_n (by omega) (by decide)) (xw_wr2 rfl) ?_
          refine xj_iinc (i := 3) (x2 := nI (k + 1)) (ls2 := [some (.ref (xw_ad v 0 0)), some (.int h), some (.int x), some (.int (nI (k + 1)))]) hk dX7_soldAllAt_76 rfl (nI_1 k) (by decide) rfl rfl ?_
          refine xj_goto (tgt := 29) hk dX7_soldAllAt_79 (by decide) ?_
          refine xj.eqG (G' := xw_up G 3 (pB v 3 (bk_te C) (bk_ho C) (bk_ow C) (bk_hs C) (cpN ((k + 1)) (alAt (bk_hs C) (bk_ra C) h x) (bk_ra C)) (bk_lo C) (bk_bi C) (bk_st C) (bk_av C) (bk_so C) (bk_pa C) (bk_ln C))) (by first | rw [cp_e (show alAt (bk_hs C) (bk_ra C) h x k = x by simp [alAt, *])] | rw [cp_n (show alAt (bk_hs C) (bk_ra C) h x k = bk_ra C k by simp [alAt, *])]) (ih (k + 1) (by omega) (by omega))

set_option maxHeartbeats 1000000 in
set_option maxRecDepth 10000 in
theorem c_X7_soldAllAt {v : xw_V} {G : xw_G} {B : bk_T} {n r e a l : Nat} {K : Nat → bk_T} {t : tp_T} (hX : XB v G B n r e a K t l) (h : Int32) (x : Int32) : xk_Con v yX7_soldAllAt cX7_soldAllAt 4 (some .int) 6 137 [.ref (xw_ad v 0 0), .int h, .int x] G (fun r9 G' => r9 = some (.int (q_allAt B n h x)) ∧ XB v G' B n r e a K t l ∧ XF G G') := by
  refine xk_of (ls0 := [some (.ref (xw_ad v 0 0)), some (.int h), some (.int x), none]) (by decide) rfl (Nat.le_of_ble_eq_true rfl) ?_
  intro κ z hk hz
  obtain ⟨okb, he12, ha12, hK0, hl700, htl, S, A, Q, rd, sw, okS, okQ, g0, g1, g2, g3, g4, g5, gK, g18, g19, g20⟩ := hX
  obtain ⟨hn, hn30, how, hhs, hr, hr8⟩ := id okb
  refine xj_iload_n (i := 1) hk dX7_soldAllAt_0 rfl rfl ?_
  refine xj_callS hk hz (fr1 := 0) (lo1 := 0) (r1 := some (.int (xb (isH h)))) (As := [.int h]) (st := []) (st2 := [.int (xb (isH h))]) (G1 := G) ml_X7_90 (c_X7_isHouse h) dX7_soldAllAt_1 ⟨Nat.le_of_ble_eq_true rfl, Nat.le_of_ble_eq_true rfl⟩ rfl (Nat.le_of_ble_eq_true rfl) rfl rfl ?_
  refine xj_ifb_eq (tgt := 14) hk dX7_soldAllAt_4 (by decide) (fun c4 => ?_) (fun c4 => ?_)
  · refine xj_iconst (x := (-1)) hk dX7_soldAllAt_14 (by decide) ?_
    refine xj_ireturn hk hz dX7_soldAllAt_15 ?_
    refine ⟨?_, ⟨okb, he12, ha12, hK0, hl700, htl, S, A, Q, rd, sw, okS, okQ, (show G 0 = pc_X v from g0), (show G 1 = pc_B v 1 B from g1), (show G 2 = pc_S v 2 1 S from g2), (show G 3 = pc_B v 3 A from g3), (show G 4 = pc_S v 4 3 Q from g4), (show G 5 = pc_P v (nI e, nI a) from g5), gK, (show G 18 = pc_T v t from g18), (show G 19 = pc_R v rd from g19), (show G 20 = pc_W  sw from g20)⟩, (fun _ _ => rfl)⟩
    simp [q_allAt, c4]
  · refine xj_iload_n (i := 2) hk dX7_soldAllAt_7 rfl rfl ?_
    refine xj_callS hk hz (fr1 := 0) (lo1 := 0) (r1 := some (.int (xb (isR x)))) (As := [.int x]) (st := []) (st2 := [.int (xb (isR x))]) (G1 := G) ml_X7_86 (c_X7_isRate x) dX7_soldAllAt_8 ⟨Nat.le_of_ble_eq_true rfl, Nat.le_of_ble_eq_true rfl⟩ rfl (Nat.le_of_ble_eq_true rfl) rfl rfl ?_
    refine xj_ifb_ne (tgt := 16) hk dX7_soldAllAt_11 (by decide) (fun c11 => ?_) (fun c11 => ?_)
    · refine xj_aload_n (i := 0) hk dX7_soldAllAt_16 rfl rfl ?_
      refine xj_getfield hk dX7_soldAllAt_17 fl_X7_25 (xw_at g0 rfl) rfl ?_
      refine xj_aload_n (i := 0) hk dX7_soldAllAt_20 rfl rfl ?_
      refine xj_getfield hk dX7_soldAllAt_21 fl_X7_10 (xw_at g0 rfl) rfl ?_
      refine xj_callVE hk hz (fr1 := 1) (lo1 := 22) (As := [.ref (xw_ad v 1 0)]) (st := []) ml_X7_77 (c_X0_copyFromE (n := n) (show G 3 = pc_B v 3 A from g3) (show G 1 = pc_B v 1 B from g1) (by decide) hn hn30) (xw_at g3 rfl) rfl dX7_soldAllAt_24 ⟨Nat.le_of_ble_eq_true rfl, Nat.le_of_ble_eq_true rfl⟩ rfl (Nat.le_of_ble_eq_true rfl) rfl ?_
      rintro _ _ ⟨rfl, C, hC, rfl⟩
      show xj v κ _ z (xw_up G 3 (pc_B v 3 C)) 27 _ []
      refine xj_iconst (x := 0) hk dX7_soldAllAt_27 (by decide) ?_
      refine xj_istore_n (i := 3) (ls2 := [some (.ref (xw_ad v 0 0)), some (.int h), some (.int x), some (.int 0)]) hk dX7_soldAllAt_28 rfl (by decide) rfl rfl ?_
      refine xj.eqG (G' := xw_up (xw_up G 3 (pc_B v 3 C)) 3 (pB v 3 (bk_te C) (bk_ho C) (bk_ow C) (bk_hs C) (cpN 0 (alAt (bk_hs C) (bk_ra C) h x) (bk_ra C)) (bk_lo C) (bk_bi C) (bk_st C) (bk_av C) (bk_so C) (bk_pa C) (bk_ln C))) (by simp only [cp_0]; exact (xw_up_same (show (xw_up G 3 (pc_B v 3 C)) 3 = pc_B v 3 C from xw_up_s)).symm) ?_
      refine l_X7_soldAllAt_29 (C := C) (n := n) hk hz (show (xw_up G 3 (pc_B v 3 C)) 0 = pc_X v from (show (xw_up G 3 (pc_B v 3 C)) 0 = pc_X v from by rw [xw_up_n (by decide), g0])) (show (xw_up G 3 (pc_B v 3 C)) 3 = pc_B v 3 C from xw_up_s) hC.2.1 hn30 h x ?_ (n + 1) 0 (by omega) (by omega)
      refine xj.eqG (G' := xw_up G 3 (pB v 3 (bk_te C) (bk_ho C) (bk_ow C) (bk_hs C) (cpN n (alAt (bk_hs C) (bk_ra C) h x) (bk_ra C)) (bk_lo C) (bk_bi C) (bk_st C) (bk_av C) (bk_so C) (bk_pa C) (bk_ln C))) (by rw [xw_up_u]) ?_
      refine xj_aload_n (i := 0) hk dX7_soldAllAt_82 rfl rfl ?_
      refine xj_callVE hk hz (fr1 := 5) (lo1 := 117) (As := []) (st := []) ml_X7_251 (c_X7_tried (n := n) (show (xw_up G 3 (pB v 3 (bk_te C) (bk_ho C) (bk_ow C) (bk_hs C) (cpN n (alAt (bk_hs C) (bk_ra C) h x) (bk_ra C)) (bk_lo C) (bk_bi C) (bk_st C) (bk_av C) (bk_so C) (bk_pa C) (bk_ln C))) 0 = pc_X v from (show (xw_up G 3 (pB v 3 (bk_te C) (bk_ho C) (bk_ow C) (bk_hs C) (cpN n (alAt (bk_hs C) (bk_ra C) h x) (bk_ra C)) (bk_lo C) (bk_bi C) (bk_st C) (bk_av C) (bk_so C) (bk_pa C) (bk_ln C))) 0 = pc_X v from by rw [xw_up_n (by decide), g0])) (show (xw_up G 3 (pB v 3 (bk_te C) (bk_ho C) (bk_ow C) (bk_hs C) (cpN n (alAt (bk_hs C) (bk_ra C) h x) (bk_ra C)) (bk_lo C) (bk_bi C) (bk_st C) (bk_av C) (bk_so C) (bk_pa C) (bk_ln C))) 3 = pc_B v 3 (bk_te C, bk_ho C, bk_ow C, bk_hs C, cpN n (alAt (bk_hs C) (bk_ra C) h x) (bk_ra C), bk_lo C, bk_bi C, bk_st C, bk_av C, bk_so C, bk_pa C, bk_ln C) from xw_up_s) (show (xw_up G 3 (pB v 3 (bk_te C) (bk_ho C) (bk_ow C) (bk_hs C) (cpN n (alAt (bk_hs C) (bk_ra C) h x) (bk_ra C)) (bk_lo C) (bk_bi C) (bk_st C) (bk_av C) (bk_so C) (bk_pa C) (bk_ln C))) 4 = pc_S v 4 3 Q from (show (xw_up G 3 (pB v 3 (bk_te C) (bk_ho C) (bk_ow C) (bk_hs C) (cpN n (alAt (bk_hs C) (bk_ra C) h x) (bk_ra C)) (bk_lo C) (bk_bi C) (bk_st C) (bk_av C) (bk_so C) (bk_pa C) (bk_ln C))) 4 = pc_S v 4 3 Q from by rw [xw_up_n (by decide), g4])) okQ hC.2.1 hn30 (eqB_ow (al_eqB (h := h) (x := x) (f := bk_ra C) hC.1) how) (eqB_hs (al_eqB (h := h) (x := x) (f := bk_ra C) hC.1) hhs)) (xw_at (show (xw_up G 3 (pB v 3 (bk_te C) (bk_ho C) (bk_ow C) (bk_hs C) (cpN n (alAt (bk_hs C) (bk_ra C) h x) (bk_ra C)) (bk_lo C) (bk_bi C) (bk_st C) (bk_av C) (bk_so C) (bk_pa C) (bk_ln C))) 0 = pc_X v from by rw [xw_up_n (by decide), g0]) rfl) rfl dX7_soldAllAt_83 ⟨Nat.le_of_ble_eq_true rfl, Nat.le_of_ble_eq_true rfl⟩ rfl (Nat.le_of_ble_eq_true rfl) rfl ?_
      rintro _ _ ⟨S1, hS1, rfl, rfl⟩
      have hag := kR_ag2 (B := (bk_wra B (alAt (bk_hs B) (bk_ra B) h x))) (al_eqB (h := h) (x := x) (f := bk_ra C) hC.1) how hhs hS1
      have hio1 := RecS_io hS1
      have okQ1 : okO S1 := Rec_okO hn30 hS1
      show xj v κ _ z (xw_up (xw_up G 3 (pB v 3 (bk_te C) (bk_ho C) (bk_ow C) (bk_hs C) (cpN n (alAt (bk_hs C) (bk_ra C) h x) (bk_ra C)) (bk_lo C) (bk_bi C) (bk_st C) (bk_av C) (bk_so C) (bk_pa C) (bk_ln C))) 4 (pc_S v 4 3 S1)) 86 _ [.ref (xw_ad v 4 0)]
      refine xj_iload_n (i := 1) hk dX7_soldAllAt_86 rfl rfl ?_
      refine xj_callV hk hz (fr1 := 1) (lo1 := 25) (r1 := some (.int (sm (sel (bk_hs C) h (sl_so S1)) n))) (As := [.int h]) (st := []) (st2 := [.int (sm (sel (bk_hs C) h (sl_so S1)) n)]) (G1 := xw_up (xw_up G 3 (pB v 3 (bk_te C) (bk_ho C) (bk_ow C) (bk_hs C) (cpN n (alAt (bk_hs C) (bk_ra C) h x) (bk_ra C)) (bk_lo C) (bk_bi C) (bk_st C) (bk_av C) (bk_so C) (bk_pa C) (bk_ln C))) 4 (pc_S v 4 3 S1)) ml_X7_169 (c_X4_soldTo (n := n) (show (xw_up (xw_up G 3 (pB v 3 (bk_te C) (bk_ho C) (bk_ow C) (bk_hs C) (cpN n (alAt (bk_hs C) (bk_ra C) h x) (bk_ra C)) (bk_lo C) (bk_bi C) (bk_st C) (bk_av C) (bk_so C) (bk_pa C) (bk_ln C))) 4 (pc_S v 4 3 S1)) 4 = pc_S v 4 3 S1 from xw_up_s) (show (xw_up (xw_up G 3 (pB v 3 (bk_te C) (bk_ho C) (bk_ow C) (bk_hs C) (cpN n (alAt (bk_hs C) (bk_ra C) h x) (bk_ra C)) (bk_lo C) (bk_bi C) (bk_st C) (bk_av C) (bk_so C) (bk_pa C) (bk_ln C))) 4 (pc_S v 4 3 S1)) 3 = pc_B v 3 (bk_te C, bk_ho C, bk_ow C, bk_hs C, cpN n (alAt (bk_hs C) (bk_ra C) h x) (bk_ra C), bk_lo C, bk_bi C, bk_st C, bk_av C, bk_so C, bk_pa C, bk_ln C) from (show (xw_up (xw_up G 3 (pB v 3 (bk_te C) (bk_ho C) (bk_ow C) (bk_hs C) (cpN n (alAt (bk_hs C) (bk_ra C) h x) (bk_ra C)) (bk_lo C) (bk_bi C) (bk_st C) (bk_av C) (bk_so C) (bk_pa C) (bk_ln C))) 4 (pc_S v 4 3 S1)) 3 = pB v 3 (bk_te C) (bk_ho C) (bk_ow C) (bk_hs C) (cpN n (alAt (bk_hs C) (bk_ra C) h x) (bk_ra C)) (bk_lo C) (bk_bi C) (bk_st C) (bk_av C) (bk_so C) (bk_pa C) (bk_ln C) from by rw [xw_up_n (by decide), xw_up_s])) (by decide) hio1 hn30 h) (xw_at xw_up_s rfl) rfl dX7_soldAllAt_87 ⟨Nat.le_of_ble_eq_true rfl, Nat.le_of_ble_eq_true rfl⟩ rfl (Nat.le_of_ble_eq_true rfl) rfl rfl ?_
      refine xj_ireturn hk hz dX7_soldAllAt_90 ?_
      refine ⟨?_, ⟨okb, he12, ha12, hK0, hl700, htl, S, (bk_te C, bk_ho C, bk_ow C, bk_hs C, cpN n (alAt (bk_hs C) (bk_ra C) h x) (bk_ra C), bk_lo C, bk_bi C, bk_st C, bk_av C, bk_so C, bk_pa C, bk_ln C), S1, rd, sw, okS, okQ1, (show (xw_up (xw_up G 3 (pB v 3 (bk_te C) (bk_ho C) (bk_ow C) (bk_hs C) (cpN n (alAt (bk_hs C) (bk_ra C) h x) (bk_ra C)) (bk_lo C) (bk_bi C) (bk_st C) (bk_av C) (bk_so C) (bk_pa C) (bk_ln C))) 4 (pc_S v 4 3 S1)) 0 = pc_X v from (show (xw_up (xw_up G 3 (pB v 3 (bk_te C) (bk_ho C) (bk_ow C) (bk_hs C) (cpN n (alAt (bk_hs C) (bk_ra C) h x) (bk_ra C)) (bk_lo C) (bk_bi C) (bk_st C) (bk_av C) (bk_so C) (bk_pa C) (bk_ln C))) 4 (pc_S v 4 3 S1)) 0 = pc_X v from by rw [xw_up_n (by decide), xw_up_n (by decide), g0])), (show (xw_up (xw_up G 3 (pB v 3 (bk_te C) (bk_ho C) (bk_ow C) (bk_hs C) (cpN n (alAt (bk_hs C) (bk_ra C) h x) (bk_ra C)) (bk_lo C) (bk_bi C) (bk_st C) (bk_av C) (bk_so C) (bk_pa C) (bk_ln C))) 4 (pc_S v 4 3 S1)) 1 = pc_B v 1 B from (show (xw_up (xw_up G 3 (pB v 3 (bk_te C) (bk_ho C) (bk_ow C) (bk_hs C) (cpN n (alAt (bk_hs C) (bk_ra C) h x) (bk_ra C)) (bk_lo C) (bk_bi C) (bk_st C) (bk_av C) (bk_so C) (bk_pa C) (bk_ln C))) 4 (pc_S v 4 3 S1)) 1 = pc_B v 1 B from by rw [xw_up_n (by decide), xw_up_n (by decide), g1])), (show (xw_up (xw_up G 3 (pB v 3 (bk_te C) (bk_ho C) (bk_ow C) (bk_hs C) (cpN n (alAt (bk_hs C) (bk_ra C) h x) (bk_ra C)) (bk_lo C) (bk_bi C) (bk_st C) (bk_av C) (bk_so C) (bk_pa C) (bk_ln C))) 4 (pc_S v 4 3 S1)) 2 = pc_S v 2 1 S from (show (xw_up (xw_up G 3 (pB v 3 (bk_te C) (bk_ho C) (bk_ow C) (bk_hs C) (cpN n (alAt (bk_hs C) (bk_ra C) h x) (bk_ra C)) (bk_lo C) (bk_bi C) (bk_st C) (bk_av C) (bk_so C) (bk_pa C) (bk_ln C))) 4 (pc_S v 4 3 S1)) 2 = pc_S v 2 1 S from by rw [xw_up_n (by decide), xw_up_n (by decide), g2])), (show (xw_up (xw_up G 3 (pB v 3 (bk_te C) (bk_ho C) (bk_ow C) (bk_hs C) (cpN n (alAt (bk_hs C) (bk_ra C) h x) (bk_ra C)) (bk_lo C) (bk_bi C) (bk_st C) (bk_av C) (bk_so C) (bk_pa C) (bk_ln C))) 4 (pc_S v 4 3 S1)) 3 = pc_B v 3 (bk_te C, bk_ho C, bk_ow C, bk_hs C, cpN n (alAt (bk_hs C) (bk_ra C) h x) (bk_ra C), bk_lo C, bk_bi C, bk_st C, bk_av C, bk_so C, bk_pa C, bk_ln C) from (show (xw_up (xw_up G 3 (pB v 3 (bk_te C) (bk_ho C) (bk_ow C) (bk_hs C) (cpN n (alAt (bk_hs C) (bk_ra C) h x) (bk_ra C)) (bk_lo C) (bk_bi C) (bk_st C) (bk_av C) (bk_so C) (bk_pa C) (bk_ln C))) 4 (pc_S v 4 3 S1)) 3 = pB v 3 (bk_te C) (bk_ho C) (bk_ow C) (bk_hs C) (cpN n (alAt (bk_hs C) (bk_ra C) h x) (bk_ra C)) (bk_lo C) (bk_bi C) (bk_st C) (bk_av C) (bk_so C) (bk_pa C) (bk_ln C) from by rw [xw_up_n (by decide), xw_up_s])), (show (xw_up (xw_up G 3 (pB v 3 (bk_te C) (bk_ho C) (bk_ow C) (bk_hs C) (cpN n (alAt (bk_hs C) (bk_ra C) h x) (bk_ra C)) (bk_lo C) (bk_bi C) (bk_st C) (bk_av C) (bk_so C) (bk_pa C) (bk_ln C))) 4 (pc_S v 4 3 S1)) 4 = pc_S v 4 3 S1 from xw_up_s), (show (xw_up (xw_up G 3 (pB v 3 (bk_te C) (bk_ho C) (bk_ow C) (bk_hs C) (cpN n (alAt (bk_hs C) (bk_ra C) h x) (bk_ra C)) (bk_lo C) (bk_bi C) (bk_st C) (bk_av C) (bk_so C) (bk_pa C) (bk_ln C))) 4 (pc_S v 4 3 S1)) 5 = pc_P v (nI e, nI a) from (show (xw_up (xw_up G 3 (pB v 3 (bk_te C) (bk_ho C) (bk_ow C) (bk_hs C) (cpN n (alAt (bk_hs C) (bk_ra C) h x) (bk_ra C)) (bk_lo C) (bk_bi C) (bk_st C) (bk_av C) (bk_so C) (bk_pa C) (bk_ln C))) 4 (pc_S v 4 3 S1)) 5 = pP v (nI e) (nI a) from by rw [xw_up_n (by decide), xw_up_n (by decide), g5])), (fun j9 h9 => by rw [xw_up_n (by omega), xw_up_n (by omega)]; exact gK j9 h9), (show (xw_up (xw_up G 3 (pB v 3 (bk_te C) (bk_ho C) (bk_ow C) (bk_hs C) (cpN n (alAt (bk_hs C) (bk_ra C) h x) (bk_ra C)) (bk_lo C) (bk_bi C) (bk_st C) (bk_av C) (bk_so C) (bk_pa C) (bk_ln C))) 4 (pc_S v 4 3 S1)) 18 = pc_T v t from (show (xw_up (xw_up G 3 (pB v 3 (bk_te C) (bk_ho C) (bk_ow C) (bk_hs C) (cpN n (alAt (bk_hs C) (bk_ra C) h x) (bk_ra C)) (bk_lo C) (bk_bi C) (bk_st C) (bk_av C) (bk_so C) (bk_pa C) (bk_ln C))) 4 (pc_S v 4 3 S1)) 18 = pc_T v t from by rw [xw_up_n (by decide), xw_up_n (by decide), g18])), (show (xw_up (xw_up G 3 (pB v 3 (bk_te C) (bk_ho C) (bk_ow C) (bk_hs C) (cpN n (alAt (bk_hs C) (bk_ra C) h x) (bk_ra C)) (bk_lo C) (bk_bi C) (bk_st C) (bk_av C) (bk_so C) (bk_pa C) (bk_ln C))) 4 (pc_S v 4 3 S1)) 19 = pc_R v rd from (show (xw_up (xw_up G 3 (pB v 3 (bk_te C) (bk_ho C) (bk_ow C) (bk_hs C) (cpN n (alAt (bk_hs C) (bk_ra C) h x) (bk_ra C)) (bk_lo C) (bk_bi C) (bk_st C) (bk_av C) (bk_so C) (bk_pa C) (bk_ln C))) 4 (pc_S v 4 3 S1)) 19 = pc_R v rd from by rw [xw_up_n (by decide), xw_up_n (by decide), g19])), (show (xw_up (xw_up G 3 (pB v 3 (bk_te C) (bk_ho C) (bk_ow C) (bk_hs C) (cpN n (alAt (bk_hs C) (bk_ra C) h x) (bk_ra C)) (bk_lo C) (bk_bi C) (bk_st C) (bk_av C) (bk_so C) (bk_pa C) (bk_ln C))) 4 (pc_S v 4 3 S1)) 20 = pc_W  sw from (show (xw_up (xw_up G 3 (pB v 3 (bk_te C) (bk_ho C) (bk_ow C) (bk_hs C) (cpN n (alAt (bk_hs C) (bk_ra C) h x) (bk_ra C)) (bk_lo C) (bk_bi C) (bk_st C) (bk_av C) (bk_so C) (bk_pa C) (bk_ln C))) 4 (pc_S v 4 3 S1)) 20 = pc_W  sw from by rw [xw_up_n (by decide), xw_up_n (by decide), g20]))⟩, (fun g h9 => by rw [xw_up_n (by omega), xw_up_n (by omega)])⟩
      rw [show sm (sel (bk_hs C) h (sl_so S1)) n = sm (sel (bk_hs B) h (sl_so (kR (bk_wra B (alAt (bk_hs B) (bk_ra B) h x)) n))) n from selso_eq hC.1 hag]; simp [q_allAt, c4, c11]
    · refine xj_iconst (x := (-1)) hk dX7_soldAllAt_14 (by decide) ?_
      refine xj_ireturn hk hz dX7_soldAllAt_15 ?_
      refine ⟨?_, ⟨okb, he12, ha12, hK0, hl700, htl, S, A, Q, rd, sw, okS, okQ, (show G 0 = pc_X v from g0), (show G 1 = pc_B v 1 B from g1), (show G 2 = pc_S v 2 1 S from g2), (show G 3 = pc_B v 3 A from g3), (show G 4 = pc_S v 4 3 Q from g4), (show G 5 = pc_P v (nI e, nI a) from g5), gK, (show G 18 = pc_T v t from g18), (show G 19 = pc_R v rd from g19), (show G 20 = pc_W  sw from g20)⟩, (fun _ _ => rfl)⟩
      simp [q_allAt, c4, c11]


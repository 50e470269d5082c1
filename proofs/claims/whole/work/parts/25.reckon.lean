theorem xk_mono {v : xw_V} {y : MethodName} {cc : ByteArray} {nL : Nat} {ret : Option FieldType} {fr lo : Nat} {av : List Value} {G : xw_G} {p1 p2 : Option Value → xw_G → Prop} (h : ∀ r G', p1 r G' → p2 r G') (c : xk_Con v y cc nL ret fr lo av G p1) : xk_Con v y cc nL ret fr lo av G p2 := by
  intro zi l D base p e ha hc hk s m args below hf hp hq hr
  obtain ⟨k, o, h1, h2, h3, ⟨⟨⟨r, G', e1, e2, e3⟩, h5⟩, h6⟩⟩ := c zi l D base p e ha hc hk s m args below hf hp hq hr
  exact ⟨k, o, h1, h2, h3, ⟨⟨r, G', e1, h r G' e2, e3⟩, h5⟩, h6⟩
/-- what reckon() leaves in the sale -/
def RecS (B : bk_T) (n : Nat) (S S' : sl_T) : Prop := ∃ (p : Nat → Nat) (so1 re1 : Nat → Int32), pls n (sl_od S') p ∧ inj n p ∧ srt (bk_ra B) n p ∧ sl_io S' = nI n ∧
  aI (bk_te B) (bk_ow B) (bk_hs B) (bk_ra B) (bk_lo B) p (sl_ad S, sl_wy S, cpN 8 (rm8 (bk_te B) (bk_ho B) (bk_ow B)) (sl_rl S), 0, 0) n = (sl_ad S', sl_wy S', sl_rl S', sl_ap S', sl_ar S') ∧ sl_ro S' = orR (bk_te B) (bk_ho B) (bk_ow B) (sl_ro S) ∧
  sl_po S' = bk_te B 2 * bk_te B 0 / 100 ∧ atS n (bk_ra B) (sl_ad S') (sl_so S) (sl_re S) (-1) (sl_po S') (sl_ap S') = (so1, re1) ∧ sl_sp S' = (if sl_ap S' < sl_po S' then sl_ap S' else sl_po S') ∧ sl_rs S' = bk_te B 0 - sl_sp S' ∧
  sl_st S' = fsG (bk_ra B) (sl_ad S') p (sl_rs S') n ∧ atS n (bk_ra B) (sl_ad S') (cpN n (rtS (bk_ra B) (sl_ad S') so1 (sl_st S')) so1) re1 (sl_st S') (sl_rs S' - sm (blw (bk_ra B) (sl_ad S') (sl_st S')) n) (sm (ats (bk_ra B) (sl_ad S') (sl_st S')) n) = (sl_so S', sl_re S') ∧
  sl_pt S' = (if sm (ats (bk_ra B) (sl_ad S') (sl_st S')) n ≤ sl_rs S' - sm (blw (bk_ra B) (sl_ad S') (sl_st S')) n then 0 else 1) ∧
  sl_sr S' = sm (blw (bk_ra B) (sl_ad S') (sl_st S')) n + (if sm (ats (bk_ra B) (sl_ad S') (sl_st S')) n < sl_rs S' - sm (blw (bk_ra B) (sl_ad S') (sl_st S')) n then sm (ats (bk_ra B) (sl_ad S') (sl_st S')) n else sl_rs S' - sm (blw (bk_ra B) (sl_ad S') (sl_st S')) n) ∧
  sl_av S' = avr n (bk_te B) (bk_ra B) (sl_so S') (sl_sr S')
def fig (B : bk_T) (S : sl_T) (n : Nat) (w : Int32) : Int32 :=
  if w = 0 then sl_st S else if w = 1 then sl_av S else if w = 2 then (if sl_st S = -2 then -2 else sl_st S - sl_av S) else if w = 3 then sl_sp S + sl_sr S else if w = 4 then sl_sp S else if w = 5 then sl_po S else if w = 6 then sl_rs S else if w = 7 then sl_ar S
  else if w = 8 then (if bk_te B 0 ≤ 0 then 0 else (sl_ap S + sl_ar S) * 100 / bk_te B 0) else if w = 9 then sm (fun j => if bk_ra B j = sl_st S then (if sl_ad S j ≤ 0 then 0 else 1) else 0) n else if w = 10 then (if sl_pt S = 0 then 0 else 1) else if w = 11 then bk_te B 0 - (sl_sp S + sl_sr S) else -1
def rateP (B : bk_T) (S : sl_T) (j : Nat) : Int32 := if bk_te B 6 = 1 then (if bk_ra B j = -1 then sl_av S else bk_ra B j) else if sl_st S = -2 then bk_te B 3 else sl_st S
def payF (B : bk_T) (S : sl_T) (j : Nat) : Int64 := (sl_so S j).toInt64 * (pric (bk_te B) (rateP B S j)).toInt64
/-- the steps of the order: how many, the latest rate -/
def rsK (ra ad : Nat → Int32) (p : Nat → Nat) : Nat → Int32 × Int32
  | 0 => (0, -1)
  | i + 1 => if ra (p i) = -1 then rsK ra ad p i else if ra (p i) = (rsK ra ad p i).2 then rsK ra ad p i else if ad (p i) = 0 then rsK ra ad p i else ((rsK ra ad p i).1 + 1, ra (p i))
/-- the k-th step's place: where it begins -/
def rsP (ra ad : Nat → Int32) (p : Nat → Nat) (k : Int32) (i : Nat) : Bool := !(decide (ra (p i) = -1)) && !(decide (ra (p i) = (rsK ra ad p i).2)) && !(decide (ad (p i) = 0)) && decide ((rsK ra ad p i).1 = k)
def rsV (ra ad : Nat → Int32) (p : Nat → Nat) (k : Int32) (n : Nat) : Int32 := if fnd (rsP ra ad p k) n < n then ra (p (fnd (rsP ra ad p k) n)) else -1
theorem sw_out12 {x : Int32} (h0 : ¬ x = 0) (h1 : ¬ x = 1) (h2 : ¬ x = 2) (h3 : ¬ x = 3) (h4 : ¬ x = 4) (h5 : ¬ x = 5) (h6 : ¬ x = 6) (h7 : ¬ x = 7) (h8 : ¬ x = 8) (h9 : ¬ x = 9) (h10 : ¬ x = 10) (h11 : ¬ x = 11) : x.toInt < 0 ∨ 11 < x.toInt := by
  simp only [← Int32.toInt_inj] at h0 h1 h2 h3 h4 h5 h6 h7 h8 h9 h10 h11
  simp at h0 h1 h2 h3 h4 h5 h6 h7 h8 h9 h10 h11
  omega
set_option maxHeartbeats 1000000 in
set_option maxRecDepth 10000 in
theorem c_X4_reckon {v : xw_V} {G : xw_G} {s b : Nat} {S : sl_T} {B : bk_T} {n : Nat} (hS : G s = pc_S v s b S) (hB : G b = pc_B v b B) (hsb : s ≠ b) (hn : bk_bi B = nI n) (hn30 : n ≤ 30) (hok : okO S) (how : okOw (bk_ow B)) (hhs : okHs (bk_hs B) n) : xk_Con v yX4_reckon cX4_reckon 1 none 4 97 [.ref (xw_ad v s 0)] G (fun r G' => r = none ∧ ∃ S' : sl_T, RecS B n S S' ∧ G' = xw_up G s (pc_S v s b S')) := by
  refine xk_of (ls0 := [some (.ref (xw_ad v s 0))]) (by decide) rfl (Nat.le_of_ble_eq_true rfl) ?_
  intro κ z hk hz
  refine xj_aload_n (i := 0) hk dX4_reckon_0 rfl rfl ?_
  refine xj_callVE hk hz (fr1 := 1) (lo1 := 24) (As := []) (st := []) ml_X4_41 (c_X4_rank (n := n) (show G s = pc_S v s b S from hS) (show G b = pc_B v b B from hB) hsb hn hn30 hok) (xw_at hS rfl) rfl dX4_reckon_1 ⟨Nat.le_of_ble_eq_true rfl, Nat.le_of_ble_eq_true rfl⟩ rfl (Nat.le_of_ble_eq_true rfl) rfl ?_
  rintro _ _ ⟨rfl, od, p, hod, hp, hs, rfl⟩
  have hio : nI n = nI n := rfl
  show xj v κ _ z (xw_up G s (pS v s b od (sl_ad S) (sl_wy S) (sl_so S) (sl_re S) (sl_ro S) (sl_rl S) (nI n) (sl_ap S) (sl_ar S) (sl_po S) (sl_sp S) (sl_rs S) (sl_st S) (sl_sr S) (sl_pt S) (sl_av S))) 4 _ []
  refine xj_aload_n (i := 0) hk dX4_reckon_4 rfl rfl ?_
  refine xj_callVE hk hz (fr1 := 1) (lo1 := 21) (As := []) (st := []) ml_X4_44 (xk_mono (p2 := (fun r G' => r = none ∧ ∃ (ro : Nat → Int32) (rl0 : Nat → Int32), ro = orR (bk_te B) (bk_ho B) (bk_ow B) (sl_ro S) ∧ rl0 = cpN 8 (rm8 (bk_te B) (bk_ho B) (bk_ow B)) (sl_rl S) ∧ G' = xw_up G s (pS v s b od (sl_ad S) (sl_wy S) (sl_so S) (sl_re S) ro rl0 (nI n) (sl_ap S) (sl_ar S) (sl_po S) (sl_sp S) (sl_rs S) (sl_st S) (sl_sr S) (sl_pt S) (sl_av S)))) (by rintro _ _ ⟨rfl, rfl⟩; exact ⟨rfl, _, _, rfl, rfl, xw_up_u⟩) (c_X4_openRooms (show (xw_up G s (pS v s b od (sl_ad S) (sl_wy S) (sl_so S) (sl_re S) (sl_ro S) (sl_rl S) (nI n) (sl_ap S) (sl_ar S) (sl_po S) (sl_sp S) (sl_rs S) (sl_st S) (sl_sr S) (sl_pt S) (sl_av S))) s = pc_S v s b (od, sl_ad S, sl_wy S, sl_so S, sl_re S, sl_ro S, sl_rl S, nI n, sl_ap S, sl_ar S, sl_po S, sl_sp S, sl_rs S, sl_st S, sl_sr S, sl_pt S, sl_av S) from xw_up_s) (show (xw_up G s (pS v s b od (sl_ad S) (sl_wy S) (sl_so S) (sl_re S) (sl_ro S) (sl_rl S) (nI n) (sl_ap S) (sl_ar S) (sl_po S) (sl_sp S) (sl_rs S) (sl_st S) (sl_sr S) (sl_pt S) (sl_av S))) b = pc_B v b B from (show (xw_up G s (pS v s b od (sl_ad S) (sl_wy S) (sl_so S) (sl_re S) (sl_ro S) (sl_rl S) (nI n) (sl_ap S) (sl_ar S) (sl_po S) (sl_sp S) (sl_rs S) (sl_st S) (sl_sr S) (sl_pt S) (sl_av S))) b = pc_B v b B from by rw [xw_up_n (Ne.symm hsb), hB])) hsb how)) (xw_at xw_up_s rfl) rfl dX4_reckon_5 ⟨Nat.le_of_ble_eq_true rfl, Nat.le_of_ble_eq_true rfl⟩ rfl (Nat.le_of_ble_eq_true rfl) rfl ?_
  rintro _ _ ⟨rfl, ro, rl0, e_ro0, e_ro1, rfl⟩
  show xj v κ _ z (xw_up G s (pS v s b od (sl_ad S) (sl_wy S) (sl_so S) (sl_re S) ro rl0 (nI n) (sl_ap S) (sl_ar S) (sl_po S) (sl_sp S) (sl_rs S) (sl_st S) (sl_sr S) (sl_pt S) (sl_av S))) 8 _ []
  refine xj_aload_n (i := 0) hk dX4_reckon_8 rfl rfl ?_
  refine xj_callVE hk hz (fr1 := 2) (lo1 := 43) (As := []) (st := []) ml_X4_47 (xk_mono (p2 := (fun r G' => r = none ∧ ∃ (ad : Nat → Int32) (wy : Nat → Int32) (rl : Nat → Int32) (ap : Int32) (ar : Int32), aI (bk_te B) (bk_ow B) (bk_hs B) (bk_ra B) (bk_lo B) p (sl_ad S, sl_wy S, rl0, 0, 0) n = (ad, wy, rl, ap, ar) ∧ G' = xw_up G s (pS v s b od ad wy (sl_so S) (sl_re S) ro rl (nI n) ap ar (sl_po S) (sl_sp S) (sl_rs S) (sl_st S) (sl_sr S) (sl_pt S) (sl_av S)))) (by rintro _ _ ⟨rfl, rfl⟩; exact ⟨rfl, _, _, _, _, _, rfl, xw_up_u⟩) (c_X4_admit (n := n) (p := p) (show (xw_up G s (pS v s b od (sl_ad S) (sl_wy S) (sl_so S) (sl_re S) ro rl0 (nI n) (sl_ap S) (sl_ar S) (sl_po S) (sl_sp S) (sl_rs S) (sl_st S) (sl_sr S) (sl_pt S) (sl_av S))) s = pc_S v s b (od, sl_ad S, sl_wy S, sl_so S, sl_re S, ro, rl0, nI n, sl_ap S, sl_ar S, sl_po S, sl_sp S, sl_rs S, sl_st S, sl_sr S, sl_pt S, sl_av S) from xw_up_s) (show (xw_up G s (pS v s b od (sl_ad S) (sl_wy S) (sl_so S) (sl_re S) ro rl0 (nI n) (sl_ap S) (sl_ar S) (sl_po S) (sl_sp S) (sl_rs S) (sl_st S) (sl_sr S) (sl_pt S) (sl_av S))) b = pc_B v b B from (show (xw_up G s (pS v s b od (sl_ad S) (sl_wy S) (sl_so S) (sl_re S) ro rl0 (nI n) (sl_ap S) (sl_ar S) (sl_po S) (sl_sp S) (sl_rs S) (sl_st S) (sl_sr S) (sl_pt S) (sl_av S))) b = pc_B v b B from by rw [xw_up_n (Ne.symm hsb), hB])) hsb hn hn30 rfl how hhs hod hp)) (xw_at xw_up_s rfl) rfl dX4_reckon_9 ⟨Nat.le_of_ble_eq_true rfl, Nat.le_of_ble_eq_true rfl⟩ rfl (Nat.le_of_ble_eq_true rfl) rfl ?_
  rintro _ _ ⟨rfl, ad, wy, rl, ap, ar, e_ad0, rfl⟩
  show xj v κ _ z (xw_up G s (pS v s b od ad wy (sl_so S) (sl_re S) ro rl (nI n) ap ar (sl_po S) (sl_sp S) (sl_rs S) (sl_st S) (sl_sr S) (sl_pt S) (sl_av S))) 12 _ []
  refine xj_aload_n (i := 0) hk dX4_reckon_12 rfl rfl ?_
  refine xj_callVE hk hz (fr1 := 3) (lo1 := 73) (As := []) (st := []) ml_X4_50 (xk_mono (p2 := (fun r G' => r = none ∧ ∃ (po : Int32) (so1 : Nat → Int32) (re1 : Nat → Int32) (sp : Int32) (rs : Int32), po = bk_te B 2 * bk_te B 0 / 100 ∧ atS n (bk_ra B) ad (sl_so S) (sl_re S) (-1) po ap = (so1, re1) ∧ sp = (if ap < po then ap else po) ∧ rs = bk_te B 0 - sp ∧ G' = xw_up G s (pS v s b od ad wy so1 re1 ro rl (nI n) ap ar po sp rs (sl_st S) (sl_sr S) (sl_pt S) (sl_av S)))) (by rintro _ _ ⟨rfl, rfl⟩; exact ⟨rfl, _, _, _, _, _, rfl, rfl, rfl, rfl, xw_up_u⟩) (c_X4_sellPlain (n := n) (show (xw_up G s (pS v s b od ad wy (sl_so S) (sl_re S) ro rl (nI n) ap ar (sl_po S) (sl_sp S) (sl_rs S) (sl_st S) (sl_sr S) (sl_pt S) (sl_av S))) s = pc_S v s b (od, ad, wy, sl_so S, sl_re S, ro, rl, nI n, ap, ar, sl_po S, sl_sp S, sl_rs S, sl_st S, sl_sr S, sl_pt S, sl_av S) from xw_up_s) (show (xw_up G s (pS v s b od ad wy (sl_so S) (sl_re S) ro rl (nI n) ap ar (sl_po S) (sl_sp S) (sl_rs S) (sl_st S) (sl_sr S) (sl_pt S) (sl_av S))) b = pc_B v b B from (show (xw_up G s (pS v s b od ad wy (sl_so S) (sl_re S) ro rl (nI n) ap ar (sl_po S) (sl_sp S) (sl_rs S) (sl_st S) (sl_sr S) (sl_pt S) (sl_av S))) b = pc_B v b B from by rw [xw_up_n (Ne.symm hsb), hB])) hsb rfl hn30)) (xw_at xw_up_s rfl) rfl dX4_reckon_13 ⟨Nat.le_of_ble_eq_true rfl, Nat.le_of_ble_eq_true rfl⟩ rfl (Nat.le_of_ble_eq_true rfl) rfl ?_
  rintro _ _ ⟨rfl, po, so1, re1, sp, rs, e_po0, e_po1, e_po2, e_po3, rfl⟩
  show xj v κ _ z (xw_up G s (pS v s b od ad wy so1 re1 ro rl (nI n) ap ar po sp rs (sl_st S) (sl_sr S) (sl_pt S) (sl_av S))) 16 _ []
  refine xj_aload_n (i := 0) hk dX4_reckon_16 rfl rfl ?_
  refine xj_callVE hk hz (fr1 := 3) (lo1 := 73) (As := []) (st := []) ml_X4_53 (xk_mono (p2 := (fun r G' => r = none ∧ ∃ (st : Int32) (so : Nat → Int32) (re : Nat → Int32) (pt : Int32) (sr : Int32), st = fsG (bk_ra B) ad p rs n ∧ atS n (bk_ra B) ad (cpN n (rtS (bk_ra B) ad so1 st) so1) re1 st (rs - sm (blw (bk_ra B) ad st) n) (sm (ats (bk_ra B) ad st) n) = (so, re) ∧ pt = (if sm (ats (bk_ra B) ad st) n ≤ rs - sm (blw (bk_ra B) ad st) n then 0 else 1) ∧ sr = sm (blw (bk_ra B) ad st) n + (if sm (ats (bk_ra B) ad st) n < rs - sm (blw (bk_ra B) ad st) n then sm (ats (bk_ra B) ad st) n else rs - sm (blw (bk_ra B) ad st) n) ∧ G' = xw_up G s (pS v s b od ad wy so re ro rl (nI n) ap ar po sp rs st sr pt (sl_av S)))) (by rintro _ _ ⟨rfl, rfl⟩; exact ⟨rfl, _, _, _, _, _, rfl, rfl, rfl, rfl, xw_up_u⟩) (c_X4_sellRated (n := n) (p := p) (show (xw_up G s (pS v s b od ad wy so1 re1 ro rl (nI n) ap ar po sp rs (sl_st S) (sl_sr S) (sl_pt S) (sl_av S))) s = pc_S v s b (od, ad, wy, so1, re1, ro, rl, nI n, ap, ar, po, sp, rs, sl_st S, sl_sr S, sl_pt S, sl_av S) from xw_up_s) (show (xw_up G s (pS v s b od ad wy so1 re1 ro rl (nI n) ap ar po sp rs (sl_st S) (sl_sr S) (sl_pt S) (sl_av S))) b = pc_B v b B from (show (xw_up G s (pS v s b od ad wy so1 re1 ro rl (nI n) ap ar po sp rs (sl_st S) (sl_sr S) (sl_pt S) (sl_av S))) b = pc_B v b B from by rw [xw_up_n (Ne.symm hsb), hB])) hsb rfl hn30 hod hp)) (xw_at xw_up_s rfl) rfl dX4_reckon_17 ⟨Nat.le_of_ble_eq_true rfl, Nat.le_of_ble_eq_true rfl⟩ rfl (Nat.le_of_ble_eq_true rfl) rfl ?_
  rintro _ _ ⟨rfl, st, so, re, pt, sr, e_st0, e_st1, e_st2, e_st3, rfl⟩
  show xj v κ _ z (xw_up G s (pS v s b od ad wy so re ro rl (nI n) ap ar po sp rs st sr pt (sl_av S))) 20 _ []
  refine xj_aload_n (i := 0) hk dX4_reckon_20 rfl rfl ?_
  refine xj_aload_n (i := 0) hk dX4_reckon_21 rfl rfl ?_
  refine xj_callVE hk hz (fr1 := 0) (lo1 := 0) (As := []) (st := [.ref (xw_ad v s 0)]) ml_X4_56 (xk_mono (p2 := (fun r G' => ∃ av : Int32, r = some (.int av) ∧ av = avr n (bk_te B) (bk_ra B) so sr ∧ G' = xw_up G s (pS v s b od ad wy so re ro rl (nI n) ap ar po sp rs st sr pt (sl_av S)))) (by rintro _ _ ⟨rfl, rfl⟩; exact ⟨_, rfl, rfl, rfl⟩) (c_X4_averageRate (n := n) (show (xw_up G s (pS v s b od ad wy so re ro rl (nI n) ap ar po sp rs st sr pt (sl_av S))) s = pc_S v s b (od, ad, wy, so, re, ro, rl, nI n, ap, ar, po, sp, rs, st, sr, pt, sl_av S) from xw_up_s) (show (xw_up G s (pS v s b od ad wy so re ro rl (nI n) ap ar po sp rs st sr pt (sl_av S))) b = pc_B v b B from (show (xw_up G s (pS v s b od ad wy so re ro rl (nI n) ap ar po sp rs st sr pt (sl_av S))) b = pc_B v b B from by rw [xw_up_n (Ne.symm hsb), hB])) hsb rfl hn30)) (xw_at xw_up_s rfl) rfl dX4_reckon_22 ⟨Nat.le_of_ble_eq_true rfl, Nat.le_of_ble_eq_true rfl⟩ rfl (Nat.le_of_ble_eq_true rfl) rfl ?_
  rintro _ _ ⟨av, rfl, e_av, rfl⟩
  show xj v κ _ z (xw_up G s (pS v s b od ad wy so re ro rl (nI n) ap ar po sp rs st sr pt (sl_av S))) 25 _ [.int av, .ref (xw_ad v s 0)]
  refine xj_putfield (G2 := xw_up G s (pS v s b od ad wy so re ro rl (nI n) ap ar po sp rs st sr pt av)) hk dX4_reckon_25 fl_X4_60 rfl rfl (xw_at xw_up_s rfl) (Nat.le_of_ble_eq_true rfl) (xw_wr2 rfl) ?_
  refine xj_return hk hz dX4_reckon_28 ?_
  refine ⟨rfl, (od, ad, wy, so, re, ro, rl, nI n, ap, ar, po, sp, rs, st, sr, pt, av), ⟨p, so1, re1, hod, hp, hs, rfl, ?_, e_ro0, e_po0, e_po1, e_po2, e_po3, e_st0, e_st1, e_st2, e_st3, e_av⟩, rfl⟩
  rw [← e_ro1]; exact e_ad0

set_option maxHeartbeats 1000000 in
set_option maxRecDepth 10000 in
theorem c_X4_soldInAll {v : xw_V} {G : xw_G} {s b : Nat} {S : sl_T} {B : bk_T} (hS : G s = pc_S v s b S) (hB : G b = pc_B v b B) (hsb : s ≠ b) : xk_Con v yX4_soldInAll cX4_soldInAll 1 (some .int) 0 0 [.ref (xw_ad v s 0)] G (xk_ret (some (.int (sl_sp S + sl_sr S))) G) := by
  refine xk_of (ls0 := [some (.ref (xw_ad v s 0))]) (by decide) rfl (Nat.le_of_ble_eq_true rfl) ?_
  intro κ z hk hz
  refine xj_aload_n (i := 0) hk dX4_soldInAll_0 rfl rfl ?_
  refine xj_getfield hk dX4_soldInAll_1 fl_X4_116 (xw_at hS rfl) rfl ?_
  refine xj_aload_n (i := 0) hk dX4_soldInAll_4 rfl rfl ?_
  refine xj_getfield hk dX4_soldInAll_5 fl_X4_136 (xw_at hS rfl) rfl ?_
  refine xj_iadd hk dX4_soldInAll_8 ?_
  refine xj_ireturn hk hz dX4_soldInAll_9 ?_
  exact ⟨rfl, rfl⟩

set_option maxHeartbeats 1000000 in
set_option maxRecDepth 10000 in
theorem c_X4_soldTo {v : xw_V} {G : xw_G} {s b : Nat} {S : sl_T} {B : bk_T} {n : Nat} (hS : G s = pc_S v s b S) (hB : G b = pc_B v b B) (hsb : s ≠ b) (hio : sl_io S = nI n) (hn30 : n ≤ 30) (x : Int32) : xk_Con v yX4_soldTo cX4_soldTo 2 (some .int) 1 25 [.ref (xw_ad v s 0), .int x] G (xk_ret (some (.int (sm (sel (bk_hs B) x (sl_so S)) n))) G) := by
  refine xk_of (ls0 := [some (.ref (xw_ad v s 0)), some (.int x)]) (by decide) rfl (Nat.le_of_ble_eq_true rfl) ?_
  intro κ z hk hz
  refine xj_aload_n (i := 0) hk dX4_soldTo_0 rfl rfl ?_
  refine xj_getfield hk dX4_soldTo_1 fl_X4_21 (xw_at hS rfl) rfl ?_
  refine xj_aload_n (i := 0) hk dX4_soldTo_4 rfl rfl ?_
  refine xj_getfield hk dX4_soldTo_5 fl_X4_37 (xw_at hS rfl) rfl ?_
  refine xj_getfield hk dX4_soldTo_8 fl_X4_104 (xw_at hB rfl) rfl ?_
  refine xj_iload_n (i := 1) hk dX4_soldTo_11 rfl rfl ?_
  refine xj_aload_n (i := 0) hk dX4_soldTo_12 rfl rfl ?_
  refine xj_getfield hk dX4_soldTo_13 fl_X4_33 (xw_at hS rfl) rfl ?_
  refine xj.eqi (x' := nI n) hio ?_
  refine xj_callS hk hz (fr1 := 0) (lo1 := 0) (r1 := some (.int (sm (sel (bk_hs B) x (sl_so S)) n))) (As := [.ref (xw_ad v s 4), .ref (xw_ad v b 4), .int x, .int (nI n)]) (st := []) (st2 := [.int (sm (sel (bk_hs B) x (sl_so S)) n)]) (G1 := G) ml_X4_145 (c_X7_sumWhere (n := n) (xw_at (c := xw_ei v 30 (sl_so S)) hS rfl) (xw_at (c := xw_ei v 30 (bk_hs B)) hB rfl) (by omega) (by omega) (by omega) (by omega) (by omega)) dX4_soldTo_16 ⟨Nat.le_of_ble_eq_true rfl, Nat.le_of_ble_eq_true rfl⟩ rfl (Nat.le_of_ble_eq_true rfl) rfl rfl ?_
  refine xj_ireturn hk hz dX4_soldTo_19 ?_
  exact ⟨rfl, rfl⟩

set_option maxHeartbeats 1000000 in
set_option maxRecDepth 10000 in
theorem c_X4_soldAtRate {v : xw_V} {G : xw_G} {s b : Nat} {S : sl_T} {B : bk_T} {n : Nat} (hS : G s = pc_S v s b S) (hB : G b = pc_B v b B) (hsb : s ≠ b) (hio : sl_io S = nI n) (hn30 : n ≤ 30) (x : Int32) : xk_Con v yX4_soldAtRate cX4_soldAtRate 2 (some .int) 1 25 [.ref (xw_ad v s 0), .int x] G (xk_ret (some (.int (sm (sel (bk_ra B) x (sl_so S)) n))) G) := by
  refine xk_of (ls0 := [some (.ref (xw_ad v s 0)), some (.int x)]) (by decide) rfl (Nat.le_of_ble_eq_true rfl) ?_
  intro κ z hk hz
  refine xj_aload_n (i := 0) hk dX4_soldAtRate_0 rfl rfl ?_
  refine xj_getfield hk dX4_soldAtRate_1 fl_X4_21 (xw_at hS rfl) rfl ?_
  refine xj_aload_n (i := 0) hk dX4_soldAtRate_4 rfl rfl ?_
  refine xj_getfield hk dX4_soldAtRate_5 fl_X4_37 (xw_at hS rfl) rfl ?_
  refine xj_getfield hk dX4_soldAtRate_8 fl_X4_72 (xw_at hB rfl) rfl ?_
  refine xj_iload_n (i := 1) hk dX4_soldAtRate_11 rfl rfl ?_
  refine xj_aload_n (i := 0) hk dX4_soldAtRate_12 rfl rfl ?_
  refine xj_getfield hk dX4_soldAtRate_13 fl_X4_33 (xw_at hS rfl) rfl ?_
  refine xj.eqi (x' := nI n) hio ?_
  refine xj_callS hk hz (fr1 := 0) (lo1 := 0) (r1 := some (.int (sm (sel (bk_ra B) x (sl_so S)) n))) (As := [.ref (xw_ad v s 4), .ref (xw_ad v b 5), .int x, .int (nI n)]) (st := []) (st2 := [.int (sm (sel (bk_ra B) x (sl_so S)) n)]) (G1 := G) ml_X4_145 (c_X7_sumWhere (n := n) (xw_at (c := xw_ei v 30 (sl_so S)) hS rfl) (xw_at (c := xw_ei v 30 (bk_ra B)) hB rfl) (by omega) (by omega) (by omega) (by omega) (by omega)) dX4_soldAtRate_16 ⟨Nat.le_of_ble_eq_true rfl, Nat.le_of_ble_eq_true rfl⟩ rfl (Nat.le_of_ble_eq_true rfl) rfl rfl ?_
  refine xj_ireturn hk hz dX4_soldAtRate_19 ?_
  exact ⟨rfl, rfl⟩

set_option maxHeartbeats 1000000 in
set_option maxRecDepth 10000 in
theorem c_X4_admittedOf {v : xw_V} {G : xw_G} {s b : Nat} {S : sl_T} {B : bk_T} {n : Nat} (hS : G s = pc_S v s b S) (hB : G b = pc_B v b B) (hsb : s ≠ b) (hio : sl_io S = nI n) (hn30 : n ≤ 30) (x : Int32) : xk_Con v yX4_admittedOf cX4_admittedOf 2 (some .int) 1 25 [.ref (xw_ad v s 0), .int x] G (xk_ret (some (.int (sm (sel (bk_hs B) x (sl_ad S)) n))) G) := by
  refine xk_of (ls0 := [some (.ref (xw_ad v s 0)), some (.int x)]) (by decide) rfl (Nat.le_of_ble_eq_true rfl) ?_
  intro κ z hk hz
  refine xj_aload_n (i := 0) hk dX4_admittedOf_0 rfl rfl ?_
  refine xj_getfield hk dX4_admittedOf_1 fl_X4_15 (xw_at hS rfl) rfl ?_
  refine xj_aload_n (i := 0) hk dX4_admittedOf_4 rfl rfl ?_
  refine xj_getfield hk dX4_admittedOf_5 fl_X4_37 (xw_at hS rfl) rfl ?_
  refine xj_getfield hk dX4_admittedOf_8 fl_X4_104 (xw_at hB rfl) rfl ?_
  refine xj_iload_n (i := 1) hk dX4_admittedOf_11 rfl rfl ?_
  refine xj_aload_n (i := 0) hk dX4_admittedOf_12 rfl rfl ?_
  refine xj_getfield hk dX4_admittedOf_13 fl_X4_33 (xw_at hS rfl) rfl ?_
  refine xj.eqi (x' := nI n) hio ?_
  refine xj_callS hk hz (fr1 := 0) (lo1 := 0) (r1 := some (.int (sm (sel (bk_hs B) x (sl_ad S)) n))) (As := [.ref (xw_ad v s 2), .ref (xw_ad v b 4), .int x, .int (nI n)]) (st := []) (st2 := [.int (sm (sel (bk_hs B) x (sl_ad S)) n)]) (G1 := G) ml_X4_145 (c_X7_sumWhere (n := n) (xw_at (c := xw_ei v 30 (sl_ad S)) hS rfl) (xw_at (c := xw_ei v 30 (bk_hs B)) hB rfl) (by omega) (by omega) (by omega) (by omega) (by omega)) dX4_admittedOf_16 ⟨Nat.le_of_ble_eq_true rfl, Nat.le_of_ble_eq_true rfl⟩ rfl (Nat.le_of_ble_eq_true rfl) rfl rfl ?_
  refine xj_ireturn hk hz dX4_admittedOf_19 ?_
  exact ⟨rfl, rfl⟩

set_option maxHeartbeats 1000000 in
set_option maxRecDepth 10000 in
theorem c_X4_admittedAt {v : xw_V} {G : xw_G} {s b : Nat} {S : sl_T} {B : bk_T} {n : Nat} (hS : G s = pc_S v s b S) (hB : G b = pc_B v b B) (hsb : s ≠ b) (hio : sl_io S = nI n) (hn30 : n ≤ 30) (x : Int32) : xk_Con v yX4_admittedAt cX4_admittedAt 2 (some .int) 1 25 [.ref (xw_ad v s 0), .int x] G (xk_ret (some (.int (sm (sel (bk_ra B) x (sl_ad S)) n))) G) := by
  refine xk_of (ls0 := [some (.ref (xw_ad v s 0)), some (.int x)]) (by decide) rfl (Nat.le_of_ble_eq_true rfl) ?_
  intro κ z hk hz
  refine xj_aload_n (i := 0) hk dX4_admittedAt_0 rfl rfl ?_
  refine xj_getfield hk dX4_admittedAt_1 fl_X4_15 (xw_at hS rfl) rfl ?_
  refine xj_aload_n (i := 0) hk dX4_admittedAt_4 rfl rfl ?_
  refine xj_getfield hk dX4_admittedAt_5 fl_X4_37 (xw_at hS rfl) rfl ?_
  refine xj_getfield hk dX4_admittedAt_8 fl_X4_72 (xw_at hB rfl) rfl ?_
  refine xj_iload_n (i := 1) hk dX4_admittedAt_11 rfl rfl ?_
  refine xj_aload_n (i := 0) hk dX4_admittedAt_12 rfl rfl ?_
  refine xj_getfield hk dX4_admittedAt_13 fl_X4_33 (xw_at hS rfl) rfl ?_
  refine xj.eqi (x' := nI n) hio ?_
  refine xj_callS hk hz (fr1 := 0) (lo1 := 0) (r1 := some (.int (sm (sel (bk_ra B) x (sl_ad S)) n))) (As := [.ref (xw_ad v s 2), .ref (xw_ad v b 5), .int x, .int (nI n)]) (st := []) (st2 := [.int (sm (sel (bk_ra B) x (sl_ad S)) n)]) (G1 := G) ml_X4_145 (c_X7_sumWhere (n := n) (xw_at (c := xw_ei v 30 (sl_ad S)) hS rfl) (xw_at (c := xw_ei v 30 (bk_ra B)) hB rfl) (by omega) (by omega) (by omega) (by omega) (by omega)) dX4_admittedAt_16 ⟨Nat.le_of_ble_eq_true rfl, Nat.le_of_ble_eq_true rfl⟩ rfl (Nat.le_of_ble_eq_true rfl) rfl rfl ?_
  refine xj_ireturn hk hz dX4_admittedAt_19 ?_
  exact ⟨rfl, rfl⟩

set_option maxHeartbeats 1000000 in
set_option maxRecDepth 10000 in
theorem l_X4_soldUnder_4 {v : xw_V} {κ : xk_K} {post : Option Value → xw_G → Prop} {z : Nat × Nat × Nat} {G : xw_G} {s b : Nat} {S : sl_T} {B : bk_T} {n : Nat} (hk : xk_Ok v κ yX4_soldUnder cX4_soldUnder 4 (some .int) 0 0) (hz : xk_zf κ = z) (hS : G s = pc_S v s b S) (hB : G b = pc_B v b B) (hsb : s ≠ b) (hio : sl_io S = nI n) (hn30 : n ≤ 30) (hhs : okHs (bk_hs B) n) (x : Int32) (kx : xj v κ post z G 48 [some (.ref (xw_ad v s 0)), some (.int x), some (.int (sm (fun j => if bk_ow B (xn (bk_hs B j)) = x then sl_so S j else 0) n)), some (.int (nI n))] []) : ∀ (m : Nat) (k : Nat), n - k < m → k ≤ n → xj v κ post z G 4 [some (.ref (xw_ad v s 0)), some (.int x), some (.int (sm (fun j => if bk_ow B (xn (bk_hs B j)) = x then sl_so S j else 0) k)), some (.int (nI k))] [] := by
  intro m
  induction m with
  | zero => intro k h; exact absurd h (Nat.not_lt_zero _)
  | succ m ih =>
    intro k hm hi
    refine xj_iload_n (i := 3) hk dX4_soldUnder_4 rfl rfl ?_
    refine xj_aload_n (i := 0) hk dX4_soldUnder_5 rfl rfl ?_
    refine xj_getfield hk dX4_soldUnder_6 fl_X4_33 (xw_at hS rfl) rfl ?_
    refine xj.eqi (x' := nI n) hio ?_
    refine xj_icmp_ge (tgt := 48) hk dX4_soldUnder_9 (by decide) (fun c9 => ?_) (fun c9 => ?_)
    · have c9 : n ≤ k := (nI_leI (a := n) (b := k) (by omega) (by omega)).mp c9
      have e9 : k = n := by omega
      subst e9
      exact kx
    · have c9 : ¬ n ≤ k := fun q => c9 ((nI_leI (a := n) (b := k) (by omega) (by omega)).mpr q)
      refine xj_aload_n (i := 0) hk dX4_soldUnder_12 rfl rfl ?_
      refine xj_getfield hk dX4_soldUnder_13 fl_X4_37 (xw_at hS rfl) rfl ?_
      refine xj_getfield hk dX4_soldUnder_16 fl_X4_78 (xw_at hB rfl) rfl ?_
      refine xj_aload_n (i := 0) hk dX4_soldUnder_19 rfl rfl ?_
      refine xj_getfield hk dX4_soldUnder_20 fl_X4_37 (xw_at hS rfl) rfl ?_
      refine xj_getfield hk dX4_soldUnder_23 fl_X4_104 (xw_at hB rfl) rfl ?_
      refine xj_iload_n (i := 3) hk dX4_soldUnder_26 rfl rfl ?_
      refine xj_iaload (k := k) hk dX4_soldUnder_27 (xw_at hB rfl) (xi_n (by omega) (by decide)) ?_
      refine xj_iaload (k := xn (bk_hs B k)) hk dX4_soldUnder_28 (xw_at hB rfl) (hhs k (by omega)) ?_
      refine xj_iload_n (i := 1) hk dX4_soldUnder_29 rfl rfl ?_
      refine xj_icmp_ne (tgt := 42) hk dX4_soldUnder_30 (by decide) (fun c30 => ?_) (fun c30 => ?_)
      · refine xj_iinc (i := 3) (x2 := nI (k + 1)) (ls2 := [some (.ref (xw_ad v s 0)), some (.int x), some (.int (sm (fun j => if bk_ow B (xn (bk_hs B j)) = x then sl_so S j else 0) k)), some (.int (nI (k + 1)))]) hk dX4_soldUnder_42 rfl (nI_1 k) (by decide) rfl rfl ?_
        refine xj_goto (tgt := 4) hk dX4_soldUnder_45 (by decide) ?_
        refine xj.to (ls' := [some (.ref (xw_ad v s 0)), some (.int x), some (.int (sm (fun j => if bk_ow B (xn (bk_hs B j)) = x then sl_so S j else 0) ((k + 1)))), some (.int (nI ((k + 1))))]) (by simp [sm, *]) (ih (k + 1) (by omega) (by omega))
      · refine xj_iload_n (i := 2) hk dX4_soldUnder_33 rfl rfl ?_
        refine xj_aload_n (i := 0) hk dX4_soldUnder_34 rfl rfl ?_
        refine xj_getfield hk dX4_soldUnder_35 fl_X4_21 (xw_at hS rfl) rfl ?_
        refine xj_iload_n (i := 3) hk dX4_soldUnder_38 rfl rfl ?_
        refine xj_iaload (k := k) hk dX4_soldUnder_39 (xw_at hS rfl) (xi_n (by omega) (by decide)) ?_
        refine xj_iadd hk dX4_soldUnder_40 ?_
        refine xj_istore_n (i := 2) (ls2 := [some (.ref (xw_ad v s 0)), some (.int x), some (.int ((sm (fun j => if bk_ow B (xn (bk_hs B j)) = x then sl_so S j else 0) k) + (sl_so S k))), some (.int (nI k))]) hk dX4_soldUnder_41 rfl (by decide) rfl rfl ?_
        refine xj_iinc (i := 3) (x2 := nI (k + 1)) (ls2 := [some (.ref (xw_ad v s 0)), some (.int x), some (.int ((sm (fun j => if bk_ow B (xn (bk_hs B j)) = x then sl_so S j else 0) k) + (sl_so S k))), some (.int (nI (k + 1)))]) hk dX4_soldUnder_42 rfl (nI_1 k) (by decide) rfl rfl ?_
        refine xj_goto (tgt := 4) hk dX4_soldUnder_45 (by decide) ?_
        refine xj.to (ls' := [some (.ref (xw_ad v s 0)), some (.int x), some (.int (sm (fun j => if bk_ow B (xn (bk_hs B j)) = x then sl_so S j else 0) ((k + 1)))), some (.int (nI ((k + 1))))]) (by simp [sm, *]) (ih (k + 1) (by omega) (by omega))

set_option maxHeartbeats 1000000 in
set_option maxRecDepth 10000 in
theorem c_X4_soldUnder {v : xw_V} {G : xw_G} {s b : Nat} {S : sl_T} {B : bk_T} {n : Nat} (hS : G s = pc_S v s b S) (hB : G b = pc_B v b B) (hsb : s ≠ b) (hio : sl_io S = nI n) (hn30 : n ≤ 30) (hhs : okHs (bk_hs B) n) (x : Int32) : xk_Con v yX4_soldUnder cX4_soldUnder 4 (some .int) 0 0 [.ref (xw_ad v s 0), .int x] G (xk_ret (some (.int (sm (fun j => if bk_ow B (xn (bk_hs B j)) = x then sl_so S j else 0) n))) G) := by
  refine xk_of (ls0 := [some (.ref (xw_ad v s 0)), some (.int x), none, none]) (by decide) rfl (Nat.le_of_ble_eq_true rfl) ?_
  intro κ z hk hz
  refine xj_iconst (x := 0) hk dX4_soldUnder_0 (by decide) ?_
  refine xj_istore_n (i := 2) (ls2 := [some (.ref (xw_ad v s 0)), some (.int x), some (.int 0), none]) hk dX4_soldUnder_1 rfl (by decide) rfl rfl ?_
  refine xj_iconst (x := 0) hk dX4_soldUnder_2 (by decide) ?_
  refine xj_istore_n (i := 3) (ls2 := [some (.ref (xw_ad v s 0)), some (.int x), some (.int 0), some (.int 0)]) hk dX4_soldUnder_3 rfl (by decide) rfl rfl ?_
  refine l_X4_soldUnder_4 hk hz hS hB hsb hio hn30 hhs x ?_ (n + 1) 0 (by omega) (by omega)
  refine xj_iload_n (i := 2) hk dX4_soldUnder_48 rfl rfl ?_
  refine xj_ireturn hk hz dX4_soldUnder_49 ?_
  exact ⟨rfl, rfl⟩

set_option maxHeartbeats 1000000 in
set_option maxRecDepth 10000 in
theorem l_X4_admittedUpTo_4 {v : xw_V} {κ : xk_K} {post : Option Value → xw_G → Prop} {z : Nat × Nat × Nat} {G : xw_G} {s b : Nat} {S : sl_T} {B : bk_T} {n : Nat} (hk : xk_Ok v κ yX4_admittedUpTo cX4_admittedUpTo 4 (some .int) 0 0) (hz : xk_zf κ = z) (hS : G s = pc_S v s b S) (hB : G b = pc_B v b B) (hsb : s ≠ b) (hio : sl_io S = nI n) (hn30 : n ≤ 30) (x : Int32) (kx : xj v κ post z G 53 [some (.ref (xw_ad v s 0)), some (.int x), some (.int (sm (fun j => if bk_ra B j = -1 then 0 else if x < bk_ra B j then 0 else sl_ad S j) n)), some (.int (nI n))] []) : ∀ (m : Nat) (k : Nat), n - k < m → k ≤ n → xj v κ post z G 4 [some (.ref (xw_ad v s 0)), some (.int x), some (.int (sm (fun j => if bk_ra B j = -1 then 0 else if x < bk_ra B j then 0 else sl_ad S j) k)), some (.int (nI k))] [] := by
  intro m
  induction m with
  | zero => intro k h; exact absurd h (Nat.not_lt_zero _)
  | succ m ih =>
    intro k hm hi
    refine xj_iload_n (i := 3) hk dX4_admittedUpTo_4 rfl rfl ?_
    refine xj_aload_n (i := 0) hk dX4_admittedUpTo_5 rfl rfl ?_
    refine xj_getfield hk dX4_admittedUpTo_6 fl_X4_33 (xw_at hS rfl) rfl ?_
    refine xj.eqi (x' := nI n) hio ?_
    refine xj_icmp_ge (tgt := 53) hk dX4_admittedUpTo_9 (by decide) (fun c9 => ?_) (fun c9 => ?_)
    · have c9 : n ≤ k := (nI_leI (a := n) (b := k) (by omega) (by omega)).mp c9
      have e9 : k = n := by omega
      subst e9
      exact kx
    · have c9 : ¬ n ≤ k := fun q => c9 ((nI_leI (a := n) (b := k) (by omega) (by omega)).mpr q)
      refine xj_aload_n (i := 0) hk dX4_admittedUpTo_12 rfl rfl ?_
      refine xj_getfield hk dX4_admittedUpTo_13 fl_X4_37 (xw_at hS rfl) rfl ?_
      refine xj_getfield hk dX4_admittedUpTo_16 fl_X4_72 (xw_at hB rfl) rfl ?_
      refine xj_iload_n (i := 3) hk dX4_admittedUpTo_19 rfl rfl ?_
      refine xj_iaload (k := k) hk dX4_admittedUpTo_20 (xw_at hB rfl) (xi_n (by omega) (by decide)) ?_
      refine xj_iconst (x := (-1)) hk dX4_admittedUpTo_21 (by decide) ?_
      refine xj_icmp_eq (tgt := 47) hk dX4_admittedUpTo_22 (by decide) (fun c22 => ?_) (fun c22 => ?_)
      · refine xj_iinc (i := 3) (x2 := nI (k + 1)) (ls2 := [some (.ref (xw_ad v s 0)), some (.int x), some (.int (sm (fun j => if bk_ra B j = -1 then 0 else if x < bk_ra B j then 0 else sl_ad S j) k)), some (.int (nI (k + 1)))]) hk dX4_admittedUpTo_47 rfl (nI_1 k) (by decide) rfl rfl ?_
        refine xj_goto (tgt := 4) hk dX4_admittedUpTo_50 (by decide) ?_
        refine xj.to (ls' := [some (.ref (xw_ad v s 0)), some (.int x), some (.int (sm (fun j => if bk_ra B j = -1 then 0 else if x < bk_ra B j then 0 else sl_ad S j) ((k + 1)))), some (.int (nI ((k + 1))))]) (by simp [sm, *]) (ih (k + 1) (by omega) (by omega))
      · refine xj_aload_n (i := 0) hk dX4_admittedUpTo_25 rfl rfl ?_
        refine xj_getfield hk dX4_admittedUpTo_26 fl_X4_37 (xw_at hS rfl) rfl ?_
        refine xj_getfield hk dX4_admittedUpTo_29 fl_X4_72 (xw_at hB rfl) rfl ?_
        refine xj_iload_n (i := 3) hk dX4_admittedUpTo_32 rfl rfl ?_
        refine xj_iaload (k := k) hk dX4_admittedUpTo_33 (xw_at hB rfl) (xi_n (by omega) (by decide)) ?_
        refine xj_iload_n (i := 1) hk dX4_admittedUpTo_34 rfl rfl ?_
        refine xj_icmp_gt (tgt := 47) hk dX4_admittedUpTo_35 (by decide) (fun c35 => ?_) (fun c35 => ?_)
        · refine xj_iinc (i := 3) (x2 := nI (k + 1)) (ls2 := [some (.ref (xw_ad v s 0)), some (.int x), some (.int (sm (fun j => if bk_ra B j = -1 then 0 else if x < bk_ra B j then 0 else sl_ad S j) k)), some (.int (nI (k + 1)))]) hk dX4_admittedUpTo_47 rfl (nI_1 k) (by decide) rfl rfl ?_
          refine xj_goto (tgt := 4) hk dX4_admittedUpTo_50 (by decide) ?_
          refine xj.to (ls' := [some (.ref (xw_ad v s 0)), some (.int x), some (.int (sm (fun j => if bk_ra B j = -1 then 0 else if x < bk_ra B j then 0 else sl_ad S j) ((k + 1)))), some (.int (nI ((k + 1))))]) (by simp [sm, *]) (ih (k + 1) (by omega) (by omega))
        · refine xj_iload_n (i := 2) hk dX4_admittedUpTo_38 rfl rfl ?_
          refine xj_aload_n (i := 0) hk dX4_admittedUpTo_39 rfl rfl ?_
          refine xj_getfield hk dX4_admittedUpTo_40 fl_X4_15 (xw_at hS rfl) rfl ?_
          refine xj_iload_n (i := 3) hk dX4_admittedUpTo_43 rfl rfl ?_
          refine xj_iaload (k := k) hk dX4_admittedUpTo_44 (xw_at hS rfl) (xi_n (by omega) (by decide)) ?_
          refine xj_iadd hk dX4_admittedUpTo_45 ?_
          refine xj_istore_n (i := 2) (ls2 := [some (.ref (xw_ad v s 0)), some (.int x), some (.int ((sm (fun j => if bk_ra B j = -1 then 0 else if x < bk_ra B j then 0 else sl_ad S j) k) + (sl_ad S k))), some (.int (nI k))]) hk dX4_admittedUpTo_46 rfl (by decide) rfl rfl ?_
          refine xj_iinc (i := 3) (x2 := nI (k + 1)) (ls2 := [some (.ref (xw_ad v s 0)), some (.int x), some (.int ((sm (fun j => if bk_ra B j = -1 then 0 else if x < bk_ra B j then 0 else sl_ad S j) k) + (sl_ad S k))), some (.int (nI (k + 1)))]) hk dX4_admittedUpTo_47 rfl (nI_1 k) (by decide) rfl rfl ?_
          refine xj_goto (tgt := 4) hk dX4_admittedUpTo_50 (by decide) ?_
          refine xj.to (ls' := [some (.ref (xw_ad v s 0)), some (.int x), some (.int (sm (fun j => if bk_ra B j = -1 then 0 else if x < bk_ra B j then 0 else sl_ad S j) ((k + 1)))), some (.int (nI ((k + 1))))]) (by simp [sm, *]) (ih (k + 1) (by omega) (by omega))

set_option maxHeartbeats 1000000 in
set_option maxRecDepth 10000 in
theorem c_X4_admittedUpTo {v : xw_V} {G : xw_G} {s b : Nat} {S : sl_T} {B : bk_T} {n : Nat} (hS : G s = pc_S v s b S) (hB : G b = pc_B v b B) (hsb : s ≠ b) (hio : sl_io S = nI n) (hn30 : n ≤ 30) (x : Int32) : xk_Con v yX4_admittedUpTo cX4_admittedUpTo 4 (some .int) 0 0 [.ref (xw_ad v s 0), .int x] G (xk_ret (some (.int (sm (fun j => if bk_ra B j = -1 then 0 else if x < bk_ra B j then 0 else sl_ad S j) n))) G) := by
  refine xk_of (ls0 := [some (.ref (xw_ad v s 0)), some (.int x), none, none]) (by decide) rfl (Nat.le_of_ble_eq_true rfl) ?_
  intro κ z hk hz
  refine xj_iconst (x := 0) hk dX4_admittedUpTo_0 (by decide) ?_
  refine xj_istore_n (i := 2) (ls2 := [some (.ref (xw_ad v s 0)), some (.int x), some (.int 0), none]) hk dX4_admittedUpTo_1 rfl (by decide) rfl rfl ?_
  refine xj_iconst (x := 0) hk dX4_admittedUpTo_2 (by decide) ?_
  refine xj_istore_n (i := 3) (ls2 := [some (.ref (xw_ad v s 0)), some (.int x), some (.int 0), some (.int 0)]) hk dX4_admittedUpTo_3 rfl (by decide) rfl rfl ?_
  refine l_X4_admittedUpTo_4 hk hz hS hB hsb hio hn30 x ?_ (n + 1) 0 (by omega) (by omega)
  refine xj_iload_n (i := 2) hk dX4_admittedUpTo_53 rfl rfl ?_
  refine xj_ireturn hk hz dX4_admittedUpTo_54 ?_
  exact ⟨rfl, rfl⟩

set_option maxHeartbeats 1000000 in
set_option maxRecDepth 10000 in
theorem l_X4_bidsAt_4 {v : xw_V} {κ : xk_K} {post : Option Value → xw_G → Prop} {z : Nat × Nat × Nat} {G : xw_G} {s b : Nat} {S : sl_T} {B : bk_T} {n : Nat} (hk : xk_Ok v κ yX4_bidsAt cX4_bidsAt 4 (some .int) 0 0) (hz : xk_zf κ = z) (hS : G s = pc_S v s b S) (hB : G b = pc_B v b B) (hsb : s ≠ b) (hio : sl_io S = nI n) (hn30 : n ≤ 30) (x : Int32) (kx : xj v κ post z G 43 [some (.ref (xw_ad v s 0)), some (.int x), some (.int (sm (fun j => if bk_ra B j = x then (if sl_ad S j ≤ 0 then 0 else 1) else 0) n)), some (.int (nI n))] []) : ∀ (m : Nat) (k : Nat), n - k < m → k ≤ n → xj v κ post z G 4 [some (.ref (xw_ad v s 0)), some (.int x), some (.int (sm (fun j => if bk_ra B j = x then (if sl_ad S j ≤ 0 then 0 else 1) else 0) k)), some (.int (nI k))] [] := by
  intro m
  induction m with
  | zero => intro k h; exact absurd h (Nat.not_lt_zero _)
  | succ m ih =>
    intro k hm hi
    refine xj_iload_n (i := 3) hk dX4_bidsAt_4 rfl rfl ?_
    refine xj_aload_n (i := 0) hk dX4_bidsAt_5 rfl rfl ?_
    refine xj_getfield hk dX4_bidsAt_6 fl_X4_33 (xw_at hS rfl) rfl ?_
    refine xj.eqi (x' := nI n) hio ?_
    refine xj_icmp_ge (tgt := 43) hk dX4_bidsAt_9 (by decide) (fun c9 => ?_) (fun c9 => ?_)
    · have c9 : n ≤ k := (nI_leI (a := n) (b := k) (by omega) (by omega)).mp c9
      have e9 : k = n := by omega
      subst e9
      exact kx
    · have c9 : ¬ n ≤ k := fun q => c9 ((nI_leI (a := n) (b := k) (by omega) (by omega)).mpr q)
      refine xj_aload_n (i := 0) hk dX4_bidsAt_12 rfl rfl ?_
      refine xj_getfield hk dX4_bidsAt_13 fl_X4_37 (xw_at hS rfl) rfl ?_
      refine xj_getfield hk dX4_bidsAt_16 fl_X4_72 (xw_at hB rfl) rfl ?_
      refine xj_iload_n (i := 3) hk dX4_bidsAt_19 rfl rfl ?_
      refine xj_iaload (k := k) hk dX4_bidsAt_20 (xw_at hB rfl) (xi_n (by omega) (by decide)) ?_
      refine xj_iload_n (i := 1) hk dX4_bidsAt_21 rfl rfl ?_
      refine xj_icmp_ne (tgt := 37) hk dX4_bidsAt_22 (by decide) (fun c22 => ?_) (fun c22 => ?_)
      · refine xj_iinc (i := 3) (x2 := nI (k + 1)) (ls2 := [some (.ref (xw_ad v s 0)), some (.int x), some (.int (sm (fun j => if bk_ra B j = x then (if sl_ad S j ≤ 0 then 0 else 1) else 0) k)), some (.int (nI (k + 1)))]) hk dX4_bidsAt_37 rfl (nI_1 k) (by decide) rfl rfl ?_
        refine xj_goto (tgt := 4) hk dX4_bidsAt_40 (by decide) ?_
        refine xj.to (ls' := [some (.ref (xw_ad v s 0)), some (.int x), some (.int (sm (fun j => if bk_ra B j = x then (if sl_ad S j ≤ 0 then 0 else 1) else 0) ((k + 1)))), some (.int (nI ((k + 1))))]) (by simp [sm, *]) (ih (k + 1) (by omega) (by omega))
      · refine xj_aload_n (i := 0) hk dX4_bidsAt_25 rfl rfl ?_
        refine xj_getfield hk dX4_bidsAt_26 fl_X4_15 (xw_at hS rfl) rfl ?_
        refine xj_iload_n (i := 3) hk dX4_bidsAt_29 rfl rfl ?_
        refine xj_iaload (k := k) hk dX4_bidsAt_30 (xw_at hS rfl) (xi_n (by omega) (by decide)) ?_
        refine xj_if_le (tgt := 37) hk dX4_bidsAt_31 (by decide) (fun c31 => ?_) (fun c31 => ?_)
        · refine xj_iinc (i := 3) (x2 := nI (k + 1)) (ls2 := [some (.ref (xw_ad v s 0)), some (.int x), some (.int (sm (fun j => if bk_ra B j = x then (if sl_ad S j ≤ 0 then 0 else 1) else 0) k)), some (.int (nI (k + 1)))]) hk dX4_bidsAt_37 rfl (nI_1 k) (by decide) rfl rfl ?_
          refine xj_goto (tgt := 4) hk dX4_bidsAt_40 (by decide) ?_
          refine xj.to (ls' := [some (.ref (xw_ad v s 0)), some (.int x), some (.int (sm (fun j => if bk_ra B j = x then (if sl_ad S j ≤ 0 then 0 else 1) else 0) ((k + 1)))), some (.int (nI ((k + 1))))]) (by simp [sm, *]) (ih (k + 1) (by omega) (by omega))
        · refine xj_iinc (i := 2) (x2 := (sm (fun j => if bk_ra B j = x then (if sl_ad S j ≤ 0 then 0 else 1) else 0) k) + 1) (ls2 := [some (.ref (xw_ad v s 0)), some (.int x), some (.int ((sm (fun j => if bk_ra B j = x then (if sl_ad S j ≤ 0 then 0 else 1) else 0) k) + 1)), some (.int (nI k))]) hk dX4_bidsAt_34 rfl rfl (by decide) rfl rfl ?_
          refine xj_iinc (i := 3) (x2 := nI (k + 1)) (ls2 := [some (.ref (xw_ad v s 0)), some (.int x), some (.int ((sm (fun j => if bk_ra B j = x then (if sl_ad S j ≤ 0 then 0 else 1) else 0) k) + 1)), some (.int (nI (k + 1)))]) hk dX4_bidsAt_37 rfl (nI_1 k) (by decide) rfl rfl ?_
          refine xj_goto (tgt := 4) hk dX4_bidsAt_40 (by decide) ?_
          refine xj.to (ls' := [some (.ref (xw_ad v s 0)), some (.int x), some (.int (sm (fun j => if bk_ra B j = x then (if sl_ad S j ≤ 0 then 0 else 1) else 0) ((k + 1)))), some (.int (nI ((k + 1))))]) (by simp [sm, *]) (ih (k + 1) (by omega) (by omega))

set_option maxHeartbeats 1000000 in
set_option maxRecDepth 10000 in
theorem c_X4_bidsAt {v : xw_V} {G : xw_G} {s b : Nat} {S : sl_T} {B : bk_T} {n : Nat} (hS : G s = pc_S v s b S) (hB : G b = pc_B v b B) (hsb : s ≠ b) (hio : sl_io S = nI n) (hn30 : n ≤ 30) (x : Int32) : xk_Con v yX4_bidsAt cX4_bidsAt 4 (some .int) 0 0 [.ref (xw_ad v s 0), .int x] G (xk_ret (some (.int (sm (fun j => if bk_ra B j = x then (if sl_ad S j ≤ 0 then 0 else 1) else 0) n))) G) := by
  refine xk_of (ls0 := [some (.ref (xw_ad v s 0)), some (.int x), none, none]) (by decide) rfl (Nat.le_of_ble_eq_true rfl) ?_
  intro κ z hk hz
  refine xj_iconst (x := 0) hk dX4_bidsAt_0 (by decide) ?_
  refine xj_istore_n (i := 2) (ls2 := [some (.ref (xw_ad v s 0)), some (.int x), some (.int 0), none]) hk dX4_bidsAt_1 rfl (by decide) rfl rfl ?_
  refine xj_iconst (x := 0) hk dX4_bidsAt_2 (by decide) ?_
  refine xj_istore_n (i := 3) (ls2 := [some (.ref (xw_ad v s 0)), some (.int x), some (.int 0), some (.int 0)]) hk dX4_bidsAt_3 rfl (by decide) rfl rfl ?_
  refine l_X4_bidsAt_4 hk hz hS hB hsb hio hn30 x ?_ (n + 1) 0 (by omega) (by omega)
  refine xj_iload_n (i := 2) hk dX4_bidsAt_43 rfl rfl ?_
  refine xj_ireturn hk hz dX4_bidsAt_44 ?_
  exact ⟨rfl, rfl⟩

set_option maxHeartbeats 1000000 in
set_option maxRecDepth 10000 in
theorem l_X4_bidsWithWhy_4 {v : xw_V} {κ : xk_K} {post : Option Value → xw_G → Prop} {z : Nat × Nat × Nat} {G : xw_G} {s b : Nat} {S : sl_T} {B : bk_T} {n : Nat} (hk : xk_Ok v κ yX4_bidsWithWhy cX4_bidsWithWhy 4 (some .int) 0 0) (hz : xk_zf κ = z) (hS : G s = pc_S v s b S) (hB : G b = pc_B v b B) (hsb : s ≠ b) (hio : sl_io S = nI n) (hn30 : n ≤ 30) (x : Int32) (kx : xj v κ post z G 31 [some (.ref (xw_ad v s 0)), some (.int x), some (.int (sm (fun j => if sl_wy S j = x then 1 else 0) n)), some (.int (nI n))] []) : ∀ (m : Nat) (k : Nat), n - k < m → k ≤ n → xj v κ post z G 4 [some (.ref (xw_ad v s 0)), some (.int x), some (.int (sm (fun j => if sl_wy S j = x then 1 else 0) k)), some (.int (nI k))] [] := by
  intro m
  induction m with
  | zero => intro k h; exact absurd h (Nat.not_lt_zero _)
  | succ m ih =>
    intro k hm hi
    refine xj_iload_n (i := 3) hk dX4_bidsWithWhy_4 rfl rfl ?_
    refine xj_aload_n (i := 0) hk dX4_bidsWithWhy_5 rfl rfl ?_
    refine xj_getfield hk dX4_bidsWithWhy_6 fl_X4_33 (xw_at hS rfl) rfl ?_
    refine xj.eqi (x' := nI n) hio ?_
    refine xj_icmp_ge (tgt := 31) hk dX4_bidsWithWhy_9 (by decide) (fun c9 => ?_) (fun c9 => ?_)
    · have c9 : n ≤ k := (nI_leI (a := n) (b := k) (by omega) (by omega)).mp c9
      have e9 : k = n := by omega
      subst e9
      exact kx
    · have c9 : ¬ n ≤ k := fun q => c9 ((nI_leI (a := n) (b := k) (by omega) (by omega)).mpr q)
      refine xj_aload_n (i := 0) hk dX4_bidsWithWhy_12 rfl rfl ?_
      refine xj_getfield hk dX4_bidsWithWhy_13 fl_X4_18 (xw_at hS rfl) rfl ?_
      refine xj_iload_n (i := 3) hk dX4_bidsWithWhy_16 rfl rfl ?_
      refine xj_iaload (k := k) hk dX4_bidsWithWhy_17 (xw_at hS rfl) (xi_n (by omega) (by decide)) ?_
      refine xj_iload_n (i := 1) hk dX4_bidsWithWhy_18 rfl rfl ?_
      refine xj_icmp_ne (tgt := 25) hk dX4_bidsWithWhy_19 (by decide) (fun c19 => ?_) (fun c19 => ?_)
      · refine xj_iinc (i := 3) (x2 := nI (k + 1)) (ls2 := [some (.ref (xw_ad v s 0)), some (.int x), some (.int (sm (fun j => if sl_wy S j = x then 1 else 0) k)), some (.int (nI (k + 1)))]) hk dX4_bidsWithWhy_25 rfl (nI_1 k) (by decide) rfl rfl ?_
        refine xj_goto (tgt := 4) hk dX4_bidsWithWhy_28 (by decide) ?_
        refine xj.to (ls' := [some (.ref (xw_ad v s 0)), some (.int x), some (.int (sm (fun j => if sl_wy S j = x then 1 else 0) ((k + 1)))), some (.int (nI ((k + 1))))]) (by simp [sm, *]) (ih (k + 1) (by omega) (by omega))
      · refine xj_iinc (i := 2) (x2 := (sm (fun j => if sl_wy S j = x then 1 else 0) k) + 1) (ls2 := [some (.ref (xw_ad v s 0)), some (.int x), some (.int ((sm (fun j => if sl_wy S j = x then 1 else 0) k) + 1)), some (.int (nI k))]) hk dX4_bidsWithWhy_22 rfl rfl (by decide) rfl rfl ?_
        refine xj_iinc (i := 3) (x2 := nI (k + 1)) (ls2 := [some (.ref (xw_ad v s 0)), some (.int x), some (.int ((sm (fun j => if sl_wy S j = x then 1 else 0) k) + 1)), some (.int (nI (k + 1)))]) hk dX4_bidsWithWhy_25 rfl (nI_1 k) (by decide) rfl rfl ?_
        refine xj_goto (tgt := 4) hk dX4_bidsWithWhy_28 (by decide) ?_
        refine xj.to (ls' := [some (.ref (xw_ad v s 0)), some (.int x), some (.int (sm (fun j => if sl_wy S j = x then 1 else 0) ((k + 1)))), some (.int (nI ((k + 1))))]) (by simp [sm, *]) (ih (k + 1) (by omega) (by omega))

set_option maxHeartbeats 1000000 in
set_option maxRecDepth 10000 in
theorem c_X4_bidsWithWhy {v : xw_V} {G : xw_G} {s b : Nat} {S : sl_T} {B : bk_T} {n : Nat} (hS : G s = pc_S v s b S) (hB : G b = pc_B v b B) (hsb : s ≠ b) (hio : sl_io S = nI n) (hn30 : n ≤ 30) (x : Int32) : xk_Con v yX4_bidsWithWhy cX4_bidsWithWhy 4 (some .int) 0 0 [.ref (xw_ad v s 0), .int x] G (xk_ret (some (.int (sm (fun j => if sl_wy S j = x then 1 else 0) n))) G) := by
  refine xk_of (ls0 := [some (.ref (xw_ad v s 0)), some (.int x), none, none]) (by decide) rfl (Nat.le_of_ble_eq_true rfl) ?_
  intro κ z hk hz
  refine xj_iconst (x := 0) hk dX4_bidsWithWhy_0 (by decide) ?_
  refine xj_istore_n (i := 2) (ls2 := [some (.ref (xw_ad v s 0)), some (.int x), some (.int 0), none]) hk dX4_bidsWithWhy_1 rfl (by decide) rfl rfl ?_
  refine xj_iconst (x := 0) hk dX4_bidsWithWhy_2 (by decide) ?_
  refine xj_istore_n (i := 3) (ls2 := [some (.ref (xw_ad v s 0)), some (.int x), some (.int 0), some (.int 0)]) hk dX4_bidsWithWhy_3 rfl (by decide) rfl rfl ?_
  refine l_X4_bidsWithWhy_4 hk hz hS hB hsb hio hn30 x ?_ (n + 1) 0 (by omega) (by omega)
  refine xj_iload_n (i := 2) hk dX4_bidsWithWhy_31 rfl rfl ?_
  refine xj_ireturn hk hz dX4_bidsWithWhy_32 ?_
  exact ⟨rfl, rfl⟩

set_option maxHeartbeats 1000000 in
set_option maxRecDepth 10000 in
theorem c_X4_paysFor {v : xw_V} {G : xw_G} {s b : Nat} {S : sl_T} {B : bk_T} {j : Nat} (hS : G s = pc_S v s b S) (hB : G b = pc_B v b B) (hsb : s ≠ b) (hj : j < 30) : xk_Con v yX4_paysFor cX4_paysFor 3 (some .long) 1 21 [.ref (xw_ad v s 0), .int (nI j)] G (xk_ret (some (.long (payF B S j))) G) := by
  refine xk_of (ls0 := [some (.ref (xw_ad v s 0)), some (.int (nI j)), none]) (by decide) rfl (Nat.le_of_ble_eq_true rfl) ?_
  intro κ z hk hz
  refine xj_aload_n (i := 0) hk dX4_paysFor_0 rfl rfl ?_
  refine xj_getfield hk dX4_paysFor_1 fl_X4_129 (xw_at hS rfl) rfl ?_
  refine xj_bipush (x := (-2)) hk dX4_paysFor_4 (by decide) ?_
  refine xj_icmp_ne (tgt := 21) hk dX4_paysFor_6 (by decide) (fun c6 => ?_) (fun c6 => ?_)
  · refine xj_aload_n (i := 0) hk dX4_paysFor_21 rfl rfl ?_
    refine xj_getfield hk dX4_paysFor_22 fl_X4_129 (xw_at hS rfl) rfl ?_
    refine xj_istore_n (i := 2) (ls2 := [some (.ref (xw_ad v s 0)), some (.int (nI j)), some (.int (sl_st S))]) hk dX4_paysFor_25 rfl (by decide) rfl rfl ?_
    refine xj_aload_n (i := 0) hk dX4_paysFor_26 rfl rfl ?_
    refine xj_getfield hk dX4_paysFor_27 fl_X4_37 (xw_at hS rfl) rfl ?_
    refine xj_getfield hk dX4_paysFor_30 fl_X4_75 (xw_at hB rfl) rfl ?_
    refine xj_bipush (x := 6) hk dX4_paysFor_33 (by decide) ?_
    refine xj_iaload (k := 6) hk dX4_paysFor_35 (xw_at hB rfl) (xi_d 6 7 (by decide)) ?_
    refine xj_iconst (x := 1) hk dX4_paysFor_36 (by decide) ?_
    refine xj_icmp_ne (tgt := 70) hk dX4_paysFor_37 (by decide) (fun c37 => ?_) (fun c37 => ?_)
    · refine xj_aload_n (i := 0) hk dX4_paysFor_70 rfl rfl ?_
      refine xj_getfield hk dX4_paysFor_71 fl_X4_21 (xw_at hS rfl) rfl ?_
      refine xj_iload_n (i := 1) hk dX4_paysFor_74 rfl rfl ?_
      refine xj_iaload (k := j) hk dX4_paysFor_75 (xw_at hS rfl) (xi_n (by omega) (by decide)) ?_
      refine xj_i2l hk dX4_paysFor_76 ?_
      refine xj_aload_n (i := 0) hk dX4_paysFor_77 rfl rfl ?_
      refine xj_getfield hk dX4_paysFor_78 fl_X4_37 (xw_at hS rfl) rfl ?_
      refine xj_iload_n (i := 2) hk dX4_paysFor_81 rfl rfl ?_
      refine xj_callV hk hz (fr1 := 0) (lo1 := 0) (r1 := some (.int (pric (bk_te B) (sl_st S)))) (As := [.int (sl_st S)]) (st := [.long ((sl_so S j).toInt64)]) (st2 := [.int (pric (bk_te B) (sl_st S)), .long ((sl_so S j).toInt64)]) (G1 := G) ml_X4_149 (c_X0_priceAt (show G b = pc_B v b B from hB) (sl_st S)) (xw_at hB rfl) rfl dX4_paysFor_82 ⟨Nat.le_of_ble_eq_true rfl, Nat.le_of_ble_eq_true rfl⟩ rfl (Nat.le_of_ble_eq_true rfl) rfl rfl ?_
      refine xj_i2l hk dX4_paysFor_85 ?_
      refine xj_lmul hk dX4_paysFor_86 ?_
      refine xj_lreturn hk hz dX4_paysFor_87 ?_
      exact ⟨by simp [payF, rateP, *], rfl⟩
    · refine xj_aload_n (i := 0) hk dX4_paysFor_40 rfl rfl ?_
      refine xj_getfield hk dX4_paysFor_41 fl_X4_37 (xw_at hS rfl) rfl ?_
      refine xj_getfield hk dX4_paysFor_44 fl_X4_72 (xw_at hB rfl) rfl ?_
      refine xj_iload_n (i := 1) hk dX4_paysFor_47 rfl rfl ?_
      refine xj_iaload (k := j) hk dX4_paysFor_48 (xw_at hB rfl) (xi_n (by omega) (by decide)) ?_
      refine xj_iconst (x := (-1)) hk dX4_paysFor_49 (by decide) ?_
      refine xj_icmp_ne (tgt := 60) hk dX4_paysFor_50 (by decide) (fun c50 => ?_) (fun c50 => ?_)
      · refine xj_aload_n (i := 0) hk dX4_paysFor_60 rfl rfl ?_
        refine xj_getfield hk dX4_paysFor_61 fl_X4_37 (xw_at hS rfl) rfl ?_
        refine xj_getfield hk dX4_paysFor_64 fl_X4_72 (xw_at hB rfl) rfl ?_
        refine xj_iload_n (i := 1) hk dX4_paysFor_67 rfl rfl ?_
        refine xj_iaload (k := j) hk dX4_paysFor_68 (xw_at hB rfl) (xi_n (by omega) (by decide)) ?_
        refine xj_istore_n (i := 2) (ls2 := [some (.ref (xw_ad v s 0)), some (.int (nI j)), some (.int (bk_ra B j))]) hk dX4_paysFor_69 rfl (by decide) rfl rfl ?_
        refine xj_aload_n (i := 0) hk dX4_paysFor_70 rfl rfl ?_
        refine xj_getfield hk dX4_paysFor_71 fl_X4_21 (xw_at hS rfl) rfl ?_
        refine xj_iload_n (i := 1) hk dX4_paysFor_74 rfl rfl ?_
        refine xj_iaload (k := j) hk dX4_paysFor_75 (xw_at hS rfl) (xi_n (by omega) (by decide)) ?_
        refine xj_i2l hk dX4_paysFor_76 ?_
        refine xj_aload_n (i := 0) hk dX4_paysFor_77 rfl rfl ?_
        refine xj_getfield hk dX4_paysFor_78 fl_X4_37 (xw_at hS rfl) rfl ?_
        refine xj_iload_n (i := 2) hk dX4_paysFor_81 rfl rfl ?_
        refine xj_callV hk hz (fr1 := 0) (lo1 := 0) (r1 := some (.int (pric (bk_te B) (bk_ra B j)))) (As := [.int (bk_ra B j)]) (st := [.long ((sl_so S j).toInt64)]) (st2 := [.int (pric (bk_te B) (bk_ra B j)), .long ((sl_so S j).toInt64)]) (G1 := G) ml_X4_149 (c_X0_priceAt (show G b = pc_B v b B from hB) (bk_ra B j)) (xw_at hB rfl) rfl dX4_paysFor_82 ⟨Nat.le_of_ble_eq_true rfl, Nat.le_of_ble_eq_true rfl⟩ rfl (Nat.le_of_ble_eq_true rfl) rfl rfl ?_
        refine xj_i2l hk dX4_paysFor_85 ?_
        refine xj_lmul hk dX4_paysFor_86 ?_
        refine xj_lreturn hk hz dX4_paysFor_87 ?_
        exact ⟨by simp [payF, rateP, *], rfl⟩
      · refine xj_aload_n (i := 0) hk dX4_paysFor_53 rfl rfl ?_
        refine xj_getfield hk dX4_paysFor_54 fl_X4_60 (xw_at hS rfl) rfl ?_
        refine xj_goto (tgt := 69) hk dX4_paysFor_57 (by decide) ?_
        refine xj_istore_n (i := 2) (ls2 := [some (.ref (xw_ad v s 0)), some (.int (nI j)), some (.int (sl_av S))]) hk dX4_paysFor_69 rfl (by decide) rfl rfl ?_
        refine xj_aload_n (i := 0) hk dX4_paysFor_70 rfl rfl ?_
        refine xj_getfield hk dX4_paysFor_71 fl_X4_21 (xw_at hS rfl) rfl ?_
        refine xj_iload_n (i := 1) hk dX4_paysFor_74 rfl rfl ?_
        refine xj_iaload (k := j) hk dX4_paysFor_75 (xw_at hS rfl) (xi_n (by omega) (by decide)) ?_
        refine xj_i2l hk dX4_paysFor_76 ?_
        refine xj_aload_n (i := 0) hk dX4_paysFor_77 rfl rfl ?_
        refine xj_getfield hk dX4_paysFor_78 fl_X4_37 (xw_at hS rfl) rfl ?_
        refine xj_iload_n (i := 2) hk dX4_paysFor_81 rfl rfl ?_
        refine xj_callV hk hz (fr1 := 0) (lo1 := 0) (r1 := some (.int (pric (bk_te B) (sl_av S)))) (As := [.int (sl_av S)]) (st := [.long ((sl_so S j).toInt64)]) (st2 := [.int (pric (bk_te B) (sl_av S)), .long ((sl_so S j).toInt64)]) (G1 := G) ml_X4_149 (c_X0_priceAt (show G b = pc_B v b B from hB) (sl_av S)) (xw_at hB rfl) rfl dX4_paysFor_82 ⟨Nat.le_of_ble_eq_true rfl, Nat.le_of_ble_eq_true rfl⟩ rfl (Nat.le_of_ble_eq_true rfl) rfl rfl ?_
        refine xj_i2l hk dX4_paysFor_85 ?_
        refine xj_lmul hk dX4_paysFor_86 ?_
        refine xj_lreturn hk hz dX4_paysFor_87 ?_
        exact ⟨by simp [payF, rateP, *], rfl⟩
  · refine xj_aload_n (i := 0) hk dX4_paysFor_9 rfl rfl ?_
    refine xj_getfield hk dX4_paysFor_10 fl_X4_37 (xw_at hS rfl) rfl ?_
    refine xj_getfield hk dX4_paysFor_13 fl_X4_75 (xw_at hB rfl) rfl ?_
    refine xj_iconst (x := 3) hk dX4_paysFor_16 (by decide) ?_
    refine xj_iaload (k := 3) hk dX4_paysFor_17 (xw_at hB rfl) (xi_d 3 7 (by decide)) ?_
    refine xj_goto (tgt := 25) hk dX4_paysFor_18 (by decide) ?_
    refine xj_istore_n (i := 2) (ls2 := [some (.ref (xw_ad v s 0)), some (.int (nI j)), some (.int (bk_te B 3))]) hk dX4_paysFor_25 rfl (by decide) rfl rfl ?_
    refine xj_aload_n (i := 0) hk dX4_paysFor_26 rfl rfl ?_
    refine xj_getfield hk dX4_paysFor_27 fl_X4_37 (xw_at hS rfl) rfl ?_
    refine xj_getfield hk dX4_paysFor_30 fl_X4_75 (xw_at hB rfl) rfl ?_
    refine xj_bipush (x := 6) hk dX4_paysFor_33 (by decide) ?_
    refine xj_iaload (k := 6) hk dX4_paysFor_35 (xw_at hB rfl) (xi_d 6 7 (by decide)) ?_
    refine xj_iconst (x := 1) hk dX4_paysFor_36 (by decide) ?_
    refine xj_icmp_ne (tgt := 70) hk dX4_paysFor_37 (by decide) (fun c37 => ?_) (fun c37 => ?_)
    · refine xj_aload_n (i := 0) hk dX4_paysFor_70 rfl rfl ?_
      refine xj_getfield hk dX4_paysFor_71 fl_X4_21 (xw_at hS rfl) rfl ?_
      refine xj_iload_n (i := 1) hk dX4_paysFor_74 rfl rfl ?_
      refine xj_iaload (k := j) hk dX4_paysFor_75 (xw_at hS rfl) (xi_n (by omega) (by decide)) ?_
      refine xj_i2l hk dX4_paysFor_76 ?_
      refine xj_aload_n (i := 0) hk dX4_paysFor_77 rfl rfl ?_
      refine xj_getfield hk dX4_paysFor_78 fl_X4_37 (xw_at hS rfl) rfl ?_
      refine xj_iload_n (i := 2) hk dX4_paysFor_81 rfl rfl ?_
      refine xj_callV hk hz (fr1 := 0) (lo1 := 0) (r1 := some (.int (pric (bk_te B) (bk_te B 3)))) (As := [.int (bk_te B 3)]) (st := [.long ((sl_so S j).toInt64)]) (st2 := [.int (pric (bk_te B) (bk_te B 3)), .long ((sl_so S j).toInt64)]) (G1 := G) ml_X4_149 (c_X0_priceAt (show G b = pc_B v b B from hB) (bk_te B 3)) (xw_at hB rfl) rfl dX4_paysFor_82 ⟨Nat.le_of_ble_eq_true rfl, Nat.le_of_ble_eq_true rfl⟩ rfl (Nat.le_of_ble_eq_true rfl) rfl rfl ?_
      refine xj_i2l hk dX4_paysFor_85 ?_
      refine xj_lmul hk dX4_paysFor_86 ?_
      refine xj_lreturn hk hz dX4_paysFor_87 ?_
      exact ⟨by simp [payF, rateP, *], rfl⟩
    · refine xj_aload_n (i := 0) hk dX4_paysFor_40 rfl rfl ?_
      refine xj_getfield hk dX4_paysFor_41 fl_X4_37 (xw_at hS rfl) rfl ?_
      refine xj_getfield hk dX4_paysFor_44 fl_X4_72 (xw_at hB rfl) rfl ?_
      refine xj_iload_n (i := 1) hk dX4_paysFor_47 rfl rfl ?_
      refine xj_iaload (k := j) hk dX4_paysFor_48 (xw_at hB rfl) (xi_n (by omega) (by decide)) ?_
      refine xj_iconst (x := (-1)) hk dX4_paysFor_49 (by decide) ?_
      refine xj_icmp_ne (tgt := 60) hk dX4_paysFor_50 (by decide) (fun c50 => ?_) (fun c50 => ?_)
      · refine xj_aload_n (i := 0) hk dX4_paysFor_60 rfl rfl ?_
        refine xj_getfield hk dX4_paysFor_61 fl_X4_37 (xw_at hS rfl) rfl ?_
        refine xj_getfield hk dX4_paysFor_64 fl_X4_72 (xw_at hB rfl) rfl ?_
        refine xj_iload_n (i := 1) hk dX4_paysFor_67 rfl rfl ?_
        refine xj_iaload (k := j) hk dX4_paysFor_68 (xw_at hB rfl) (xi_n (by omega) (by decide)) ?_
        refine xj_istore_n (i := 2) (ls2 := [some (.ref (xw_ad v s 0)), some (.int (nI j)), some (.int (bk_ra B j))]) hk dX4_paysFor_69 rfl (by decide) rfl rfl ?_
        refine xj_aload_n (i := 0) hk dX4_paysFor_70 rfl rfl ?_
        refine xj_getfield hk dX4_paysFor_71 fl_X4_21 (xw_at hS rfl) rfl ?_
        refine xj_iload_n (i := 1) hk dX4_paysFor_74 rfl rfl ?_
        refine xj_iaload (k := j) hk dX4_paysFor_75 (xw_at hS rfl) (xi_n (by omega) (by decide)) ?_
        refine xj_i2l hk dX4_paysFor_76 ?_
        refine xj_aload_n (i := 0) hk dX4_paysFor_77 rfl rfl ?_
        refine xj_getfield hk dX4_paysFor_78 fl_X4_37 (xw_at hS rfl) rfl ?_
        refine xj_iload_n (i := 2) hk dX4_paysFor_81 rfl rfl ?_
        refine xj_callV hk hz (fr1 := 0) (lo1 := 0) (r1 := some (.int (pric (bk_te B) (bk_ra B j)))) (As := [.int (bk_ra B j)]) (st := [.long ((sl_so S j).toInt64)]) (st2 := [.int (pric (bk_te B) (bk_ra B j)), .long ((sl_so S j).toInt64)]) (G1 := G) ml_X4_149 (c_X0_priceAt (show G b = pc_B v b B from hB) (bk_ra B j)) (xw_at hB rfl) rfl dX4_paysFor_82 ⟨Nat.le_of_ble_eq_true rfl, Nat.le_of_ble_eq_true rfl⟩ rfl (Nat.le_of_ble_eq_true rfl) rfl rfl ?_
        refine xj_i2l hk dX4_paysFor_85 ?_
        refine xj_lmul hk dX4_paysFor_86 ?_
        refine xj_lreturn hk hz dX4_paysFor_87 ?_
        exact ⟨by simp [payF, rateP, *], rfl⟩
      · refine xj_aload_n (i := 0) hk dX4_paysFor_53 rfl rfl ?_
        refine xj_getfield hk dX4_paysFor_54 fl_X4_60 (xw_at hS rfl) rfl ?_
        refine xj_goto (tgt := 69) hk dX4_paysFor_57 (by decide) ?_
        refine xj_istore_n (i := 2) (ls2 := [some (.ref (xw_ad v s 0)), some (.int (nI j)), some (.int (sl_av S))]) hk dX4_paysFor_69 rfl (by decide) rfl rfl ?_
        refine xj_aload_n (i := 0) hk dX4_paysFor_70 rfl rfl ?_
        refine xj_getfield hk dX4_paysFor_71 fl_X4_21 (xw_at hS rfl) rfl ?_
        refine xj_iload_n (i := 1) hk dX4_paysFor_74 rfl rfl ?_
        refine xj_iaload (k := j) hk dX4_paysFor_75 (xw_at hS rfl) (xi_n (by omega) (by decide)) ?_
        refine xj_i2l hk dX4_paysFor_76 ?_
        refine xj_aload_n (i := 0) hk dX4_paysFor_77 rfl rfl ?_
        refine xj_getfield hk dX4_paysFor_78 fl_X4_37 (xw_at hS rfl) rfl ?_
        refine xj_iload_n (i := 2) hk dX4_paysFor_81 rfl rfl ?_
        refine xj_callV hk hz (fr1 := 0) (lo1 := 0) (r1 := some (.int (pric (bk_te B) (sl_av S)))) (As := [.int (sl_av S)]) (st := [.long ((sl_so S j).toInt64)]) (st2 := [.int (pric (bk_te B) (sl_av S)), .long ((sl_so S j).toInt64)]) (G1 := G) ml_X4_149 (c_X0_priceAt (show G b = pc_B v b B from hB) (sl_av S)) (xw_at hB rfl) rfl dX4_paysFor_82 ⟨Nat.le_of_ble_eq_true rfl, Nat.le_of_ble_eq_true rfl⟩ rfl (Nat.le_of_ble_eq_true rfl) rfl rfl ?_
        refine xj_i2l hk dX4_paysFor_85 ?_
        refine xj_lmul hk dX4_paysFor_86 ?_
        refine xj_lreturn hk hz dX4_paysFor_87 ?_
        exact ⟨by simp [payF, rateP, *], rfl⟩

set_option maxHeartbeats 1000000 in
set_option maxRecDepth 10000 in
theorem l_X4_paysOf_5 {v : xw_V} {κ : xk_K} {post : Option Value → xw_G → Prop} {z : Nat × Nat × Nat} {G : xw_G} {s b : Nat} {S : sl_T} {B : bk_T} {n : Nat} (hk : xk_Ok v κ yX4_paysOf cX4_paysOf 5 (some .long) 2 43) (hz : xk_zf κ = z) (hS : G s = pc_S v s b S) (hB : G b = pc_B v b B) (hsb : s ≠ b) (hio : sl_io S = nI n) (hn30 : n ≤ 30) (x : Int32) (kx : xj v κ post z G 43 [some (.ref (xw_ad v s 0)), some (.int x), some (.long (sml (fun j => if bk_hs B j = x then payF B S j else 0) n)), none, some (.int (nI n))] []) : ∀ (m : Nat) (k : Nat), n - k < m → k ≤ n → xj v κ post z G 5 [some (.ref (xw_ad v s 0)), some (.int x), some (.long (sml (fun j => if bk_hs B j = x then payF B S j else 0) k)), none, some (.int (nI k))] [] := by
  intro m
  induction m with
  | zero => intro k h; exact absurd h (Nat.not_lt_zero _)
  | succ m ih =>
    intro k hm hi
    refine xj_iload hk dX4_paysOf_5 rfl ?_
    refine xj_aload_n (i := 0) hk dX4_paysOf_7 rfl rfl ?_
    refine xj_getfield hk dX4_paysOf_8 fl_X4_33 (xw_at hS rfl) rfl ?_
    refine xj.eqi (x' := nI n) hio ?_
    refine xj_icmp_ge (tgt := 43) hk dX4_paysOf_11 (by decide) (fun c11 => ?_) (fun c11 => ?_)
    · have c11 : n ≤ k := (nI_leI (a := n) (b := k) (by omega) (by omega)).mp c11
      have e9 : k = n := by omega
      subst e9
      exact kx
    · have c11 : ¬ n ≤ k := fun q => c11 ((nI_leI (a := n) (b := k) (by omega) (by omega)).mpr q)
      refine xj_aload_n (i := 0) hk dX4_paysOf_14 rfl rfl ?_
      refine xj_getfield hk dX4_paysOf_15 fl_X4_37 (xw_at hS rfl) rfl ?_
      refine xj_getfield hk dX4_paysOf_18 fl_X4_104 (xw_at hB rfl) rfl ?_
      refine xj_iload hk dX4_paysOf_21 rfl ?_
      refine xj_iaload (k := k) hk dX4_paysOf_23 (xw_at hB rfl) (xi_n (by omega) (by decide)) ?_
      refine xj_iload_n (i := 1) hk dX4_paysOf_24 rfl rfl ?_
      refine xj_icmp_ne (tgt := 37) hk dX4_paysOf_25 (by decide) (fun c25 => ?_) (fun c25 => ?_)
      · refine xj_iinc (i := 4) (x2 := nI (k + 1)) (ls2 := [some (.ref (xw_ad v s 0)), some (.int x), some (.long (sml (fun j => if bk_hs B j = x then payF B S j else 0) k)), none, some (.int (nI (k + 1)))]) hk dX4_paysOf_37 rfl (nI_1 k) (by decide) rfl rfl ?_
        refine xj_goto (tgt := 5) hk dX4_paysOf_40 (by decide) ?_
        refine xj.to (ls' := [some (.ref (xw_ad v s 0)), some (.int x), some (.long (sml (fun j => if bk_hs B j = x then payF B S j else 0) ((k + 1)))), none, some (.int (nI ((k + 1))))]) (by simp [sml, *]) (ih (k + 1) (by omega) (by omega))
      · refine xj_lload_n (i := 2) hk dX4_paysOf_28 rfl rfl ?_
        refine xj_aload_n (i := 0) hk dX4_paysOf_29 rfl rfl ?_
        refine xj_iload hk dX4_paysOf_30 rfl ?_
        refine xj_callV hk hz (fr1 := 1) (lo1 := 21) (r1 := some (.long (payF B S k))) (As := [.int (nI k)]) (st := [.long (sml (fun j => if bk_hs B j = x then payF B S j else 0) k)]) (st2 := [.long (payF B S k), .long (sml (fun j => if bk_hs B j = x then payF B S j else 0) k)]) (G1 := G) ml_X4_153 (c_X4_paysFor (j := k) (show G s = pc_S v s b S from hS) (show G b = pc_B v b B from hB) hsb (by omega)) (xw_at hS rfl) rfl dX4_paysOf_32 ⟨Nat.le_of_ble_eq_true rfl, Nat.le_of_ble_eq_true rfl⟩ rfl (Nat.le_of_ble_eq_true rfl) rfl rfl ?_
        refine xj_ladd hk dX4_paysOf_35 ?_
        refine xj_lstore_n (i := 2) (ls2 := [some (.ref (xw_ad v s 0)), some (.int x), some (.long ((sml (fun j => if bk_hs B j = x then payF B S j else 0) k) + (payF B S k))), none, some (.int (nI k))]) hk dX4_paysOf_36 rfl (by decide) rfl rfl ?_
        refine xj_iinc (i := 4) (x2 := nI (k + 1)) (ls2 := [some (.ref (xw_ad v s 0)), some (.int x), some (.long ((sml (fun j => if bk_hs B j = x then payF B S j else 0) k) + (payF B S k))), none, some (.int (nI (k + 1)))]) hk dX4_paysOf_37 rfl (nI_1 k) (by decide) rfl rfl ?_
        refine xj_goto (tgt := 5) hk dX4_paysOf_40 (by decide) ?_
        refine xj.to (ls' := [some (.ref (xw_ad v s 0)), some (.int x), some (.long (sml (fun j => if bk_hs B j = x then payF B S j else 0) ((k + 1)))), none, some (.int (nI ((k + 1))))]) (by simp [sml, *]) (ih (k + 1) (by omega) (by omega))

set_option maxHeartbeats 1000000 in
set_option maxRecDepth 10000 in
theorem c_X4_paysOf {v : xw_V} {G : xw_G} {s b : Nat} {S : sl_T} {B : bk_T} {n : Nat} (hS : G s = pc_S v s b S) (hB : G b = pc_B v b B) (hsb : s ≠ b) (hio : sl_io S = nI n) (hn30 : n ≤ 30) (x : Int32) : xk_Con v yX4_paysOf cX4_paysOf 5 (some .long) 2 43 [.ref (xw_ad v s 0), .int x] G (xk_ret (some (.long (sml (fun j => if bk_hs B j = x then payF B S j else 0) n))) G) := by
  refine xk_of (ls0 := [some (.ref (xw_ad v s 0)), some (.int x), none, none, none]) (by decide) rfl (Nat.le_of_ble_eq_true rfl) ?_
  intro κ z hk hz
  refine xj_lconst (x := 0) hk dX4_paysOf_0 (by decide) ?_
  refine xj_lstore_n (i := 2) (ls2 := [some (.ref (xw_ad v s 0)), some (.int x), some (.long (0)), none, none]) hk dX4_paysOf_1 rfl (by decide) rfl rfl ?_
  refine xj_iconst (x := 0) hk dX4_paysOf_2 (by decide) ?_
  refine xj_istore (i := 4) (ls2 := [some (.ref (xw_ad v s 0)), some (.int x), some (.long (0)), none, some (.int 0)]) hk dX4_paysOf_3 (by decide) rfl rfl ?_
  refine l_X4_paysOf_5 hk hz hS hB hsb hio hn30 x ?_ (n + 1) 0 (by omega) (by omega)
  refine xj_lload_n (i := 2) hk dX4_paysOf_43 rfl rfl ?_
  refine xj_lreturn hk hz dX4_paysOf_44 ?_
  exact ⟨rfl, rfl⟩

set_option maxHeartbeats 1000000 in
set_option maxRecDepth 10000 in
theorem l_X4_paysInAll_4 {v : xw_V} {κ : xk_K} {post : Option Value → xw_G → Prop} {z : Nat × Nat × Nat} {G : xw_G} {s b : Nat} {S : sl_T} {B : bk_T} {n : Nat} (hk : xk_Ok v κ yX4_paysInAll cX4_paysInAll 4 (some .long) 2 43) (hz : xk_zf κ = z) (hS : G s = pc_S v s b S) (hB : G b = pc_B v b B) (hsb : s ≠ b) (hio : sl_io S = nI n) (hn30 : n ≤ 30) (kx : xj v κ post z G 26 [some (.ref (xw_ad v s 0)), some (.long (sml (payF B S) n)), none, some (.int (nI n))] []) : ∀ (m : Nat) (k : Nat), n - k < m → k ≤ n → xj v κ post z G 4 [some (.ref (xw_ad v s 0)), some (.long (sml (payF B S) k)), none, some (.int (nI k))] [] := by
  intro m
  induction m with
  | zero => intro k h; exact absurd h (Nat.not_lt_zero _)
  | succ m ih =>
    intro k hm hi
    refine xj_iload_n (i := 3) hk dX4_paysInAll_4 rfl rfl ?_
    refine xj_aload_n (i := 0) hk dX4_paysInAll_5 rfl rfl ?_
    refine xj_getfield hk dX4_paysInAll_6 fl_X4_33 (xw_at hS rfl) rfl ?_
    refine xj.eqi (x' := nI n) hio ?_
    refine xj_icmp_ge (tgt := 26) hk dX4_paysInAll_9 (by decide) (fun c9 => ?_) (fun c9 => ?_)
    · have c9 : n ≤ k := (nI_leI (a := n) (b := k) (by omega) (by omega)).mp c9
      have e9 : k = n := by omega
      subst e9
      exact kx
    · have c9 : ¬ n ≤ k := fun q => c9 ((nI_leI (a := n) (b := k) (by omega) (by omega)).mpr q)
      refine xj_lload_n (i := 1) hk dX4_paysInAll_12 rfl rfl ?_
      refine xj_aload_n (i := 0) hk dX4_paysInAll_13 rfl rfl ?_
      refine xj_iload_n (i := 3) hk dX4_paysInAll_14 rfl rfl ?_
      refine xj_callV hk hz (fr1 := 1) (lo1 := 21) (r1 := some (.long (payF B S k))) (As := [.int (nI k)]) (st := [.long (sml (payF B S) k)]) (st2 := [.long (payF B S k), .long (sml (payF B S) k)]) (G1 := G) ml_X4_153 (c_X4_paysFor (j := k) (show G s = pc_S v s b S from hS) (show G b = pc_B v b B from hB) hsb (by omega)) (xw_at hS rfl) rfl dX4_paysInAll_15 ⟨Nat.le_of_ble_eq_true rfl, Nat.le_of_ble_eq_true rfl⟩ rfl (Nat.le_of_ble_eq_true rfl) rfl rfl ?_
      refine xj_ladd hk dX4_paysInAll_18 ?_
      refine xj_lstore_n (i := 1) (ls2 := [some (.ref (xw_ad v s 0)), some (.long ((sml (payF B S) k) + (payF B S k))), none, some (.int (nI k))]) hk dX4_paysInAll_19 rfl (by decide) rfl rfl ?_
      refine xj_iinc (i := 3) (x2 := nI (k + 1)) (ls2 := [some (.ref (xw_ad v s 0)), some (.long ((sml (payF B S) k) + (payF B S k))), none, some (.int (nI (k + 1)))]) hk dX4_paysInAll_20 rfl (nI_1 k) (by decide) rfl rfl ?_
      refine xj_goto (tgt := 4) hk dX4_paysInAll_23 (by decide) ?_
      refine xj.to (ls' := [some (.ref (xw_ad v s 0)), some (.long (sml (payF B S) ((k + 1)))), none, some (.int (nI ((k + 1))))]) (by simp [sml, *]) (ih (k + 1) (by omega) (by omega))

set_option maxHeartbeats 1000000 in
set_option maxRecDepth 10000 in
theorem c_X4_paysInAll {v : xw_V} {G : xw_G} {s b : Nat} {S : sl_T} {B : bk_T} {n : Nat} (hS : G s = pc_S v s b S) (hB : G b = pc_B v b B) (hsb : s ≠ b) (hio : sl_io S = nI n) (hn30 : n ≤ 30) : xk_Con v yX4_paysInAll cX4_paysInAll 4 (some .long) 2 43 [.ref (xw_ad v s 0)] G (xk_ret (some (.long (sml (payF B S) n))) G) := by
  refine xk_of (ls0 := [some (.ref (xw_ad v s 0)), none, none, none]) (by decide) rfl (Nat.le_of_ble_eq_true rfl) ?_
  intro κ z hk hz
  refine xj_lconst (x := 0) hk dX4_paysInAll_0 (by decide) ?_
  refine xj_lstore_n (i := 1) (ls2 := [some (.ref (xw_ad v s 0)), some (.long (0)), none, none]) hk dX4_paysInAll_1 rfl (by decide) rfl rfl ?_
  refine xj_iconst (x := 0) hk dX4_paysInAll_2 (by decide) ?_
  refine xj_istore_n (i := 3) (ls2 := [some (.ref (xw_ad v s 0)), some (.long (0)), none, some (.int 0)]) hk dX4_paysInAll_3 rfl (by decide) rfl rfl ?_
  refine l_X4_paysInAll_4 hk hz hS hB hsb hio hn30 ?_ (n + 1) 0 (by omega) (by omega)
  refine xj_lload_n (i := 1) hk dX4_paysInAll_26 rfl rfl ?_
  refine xj_lreturn hk hz dX4_paysInAll_27 ?_
  exact ⟨rfl, rfl⟩

set_option maxHeartbeats 1000000 in
set_option maxRecDepth 10000 in
theorem c_X4_coverOfOffer {v : xw_V} {G : xw_G} {s b : Nat} {S : sl_T} {B : bk_T} (hS : G s = pc_S v s b S) (hB : G b = pc_B v b B) (hsb : s ≠ b) : xk_Con v yX4_coverOfOffer cX4_coverOfOffer 2 (some .int) 0 0 [.ref (xw_ad v s 0)] G (xk_ret (some (.int (if bk_te B 0 ≤ 0 then 0 else (sl_ap S + sl_ar S) * 100 / bk_te B 0))) G) := by
  refine xk_of (ls0 := [some (.ref (xw_ad v s 0)), none]) (by decide) rfl (Nat.le_of_ble_eq_true rfl) ?_
  intro κ z hk hz
  refine xj_aload_n (i := 0) hk dX4_coverOfOffer_0 rfl rfl ?_
  refine xj_getfield hk dX4_coverOfOffer_1 fl_X4_37 (xw_at hS rfl) rfl ?_
  refine xj_getfield hk dX4_coverOfOffer_4 fl_X4_75 (xw_at hB rfl) rfl ?_
  refine xj_iconst (x := 0) hk dX4_coverOfOffer_7 (by decide) ?_
  refine xj_iaload (k := 0) hk dX4_coverOfOffer_8 (xw_at hB rfl) (xi_d 0 7 (by decide)) ?_
  refine xj_istore_n (i := 1) (ls2 := [some (.ref (xw_ad v s 0)), some (.int (bk_te B 0))]) hk dX4_coverOfOffer_9 rfl (by decide) rfl rfl ?_
  refine xj_iload_n (i := 1) hk dX4_coverOfOffer_10 rfl rfl ?_
  refine xj_if_le (tgt := 31) hk dX4_coverOfOffer_11 (by decide) (fun c11 => ?_) (fun c11 => ?_)
  · refine xj_iconst (x := 0) hk dX4_coverOfOffer_31 (by decide) ?_
    refine xj_ireturn hk hz dX4_coverOfOffer_32 ?_
    exact ⟨by simp [*], rfl⟩
  · refine xj_aload_n (i := 0) hk dX4_coverOfOffer_14 rfl rfl ?_
    refine xj_getfield hk dX4_coverOfOffer_15 fl_X4_90 (xw_at hS rfl) rfl ?_
    refine xj_aload_n (i := 0) hk dX4_coverOfOffer_18 rfl rfl ?_
    refine xj_getfield hk dX4_coverOfOffer_19 fl_X4_93 (xw_at hS rfl) rfl ?_
    refine xj_iadd hk dX4_coverOfOffer_22 ?_
    refine xj_bipush (x := 100) hk dX4_coverOfOffer_23 (by decide) ?_
    refine xj_imul hk dX4_coverOfOffer_25 ?_
    refine xj_iload_n (i := 1) hk dX4_coverOfOffer_26 rfl rfl ?_
    refine xj_idiv hk dX4_coverOfOffer_27 (fun q => c11 (by rw [q]; decide)) ?_
    refine xj_goto (tgt := 32) hk dX4_coverOfOffer_28 (by decide) ?_
    refine xj_ireturn hk hz dX4_coverOfOffer_32 ?_
    exact ⟨by simp [*], rfl⟩

set_option maxHeartbeats 1000000 in
set_option maxRecDepth 10000 in
theorem c_X4_figure {v : xw_V} {G : xw_G} {s b : Nat} {S : sl_T} {B : bk_T} {n : Nat} (hS : G s = pc_S v s b S) (hB : G b = pc_B v b B) (hsb : s ≠ b) (hio : sl_io S = nI n) (hn30 : n ≤ 30) (x : Int32) : xk_Con v yX4_figure cX4_figure 2 (some .int) 1 23 [.ref (xw_ad v s 0), .int x] G (xk_ret (some (.int (fig B S n x))) G) := by
  refine xk_of (ls0 := [some (.ref (xw_ad v s 0)), some (.int x)]) (by decide) rfl (Nat.le_of_ble_eq_true rfl) ?_
  intro κ z hk hz
  refine xj_iload_n (i := 1) hk dX4_figure_0 rfl rfl ?_
  by_cases s1_0 : x = 0
  · refine xj_swIn (tgt := 64) (off := 63) hk dX4_figure_1 (by rw [s1_0]; decide) (by rw [s1_0]; decide) (by rw [s1_0]; decide) (by decide) ?_
    refine xj_aload_n (i := 0) hk dX4_figure_64 rfl rfl ?_
    refine xj_getfield hk dX4_figure_65 fl_X4_129 (xw_at hS rfl) rfl ?_
    refine xj_ireturn hk hz dX4_figure_68 ?_
    refine ⟨?_, rfl⟩
    first | (simp only [fig, if_pos s1_0]; done) | (simp only [fig, if_neg s1_0, if_pos s1_1]; done) | (simp only [fig, if_neg s1_0, if_neg s1_1, if_pos s1_2, if_pos c80]; done) | (simp only [fig, if_neg s1_0, if_neg s1_1, if_pos s1_2, if_neg c80]; done) | (simp only [fig, if_neg s1_0, if_neg s1_1, if_neg s1_2, if_pos s1_3]; done) | (simp only [fig, if_neg s1_0, if_neg s1_1, if_neg s1_2, if_neg s1_3, if_pos s1_4]; done) | (simp only [fig, if_neg s1_0, if_neg s1_1, if_neg s1_2, if_neg s1_3, if_neg s1_4, if_pos s1_5]; done) | (simp only [fig, if_neg s1_0, if_neg s1_1, if_neg s1_2, if_neg s1_3, if_neg s1_4, if_neg s1_5, if_pos s1_6]; done) | (simp only [fig, if_neg s1_0, if_neg s1_1, if_neg s1_2, if_neg s1_3, if_neg s1_4, if_neg s1_5, if_neg s1_6, if_pos s1_7]; done) | (simp only [fig, if_neg s1_0, if_neg s1_1, if_neg s1_2, if_neg s1_3, if_neg s1_4, if_neg s1_5, if_neg s1_6, if_neg s1_7, if_pos s1_8]; done) | (simp only [fig, if_neg s1_0, if_neg s1_1, if_neg s1_2, if_neg s1_3, if_neg s1_4, if_neg s1_5, if_neg s1_6, if_neg s1_7, if_neg s1_8, if_pos s1_9]; done) | (simp only [fig, if_neg s1_0, if_neg s1_1, if_neg s1_2, if_neg s1_3, if_neg s1_4, if_neg s1_5, if_neg s1_6, if_neg s1_7, if_neg s1_8, if_neg s1_9, if_pos s1_10, if_pos c141]; done) | (simp only [fig, if_neg s1_0, if_neg s1_1, if_neg s1_2, if_neg s1_3, if_neg s1_4, if_neg s1_5, if_neg s1_6, if_neg s1_7, if_neg s1_8, if_neg s1_9, if_pos s1_10, if_neg c141]; done) | (simp only [fig, if_neg s1_0, if_neg s1_1, if_neg s1_2, if_neg s1_3, if_neg s1_4, if_neg s1_5, if_neg s1_6, if_neg s1_7, if_neg s1_8, if_neg s1_9, if_neg s1_10, if_pos s1_11]; done) | (simp only [fig, if_neg s1_0, if_neg s1_1, if_neg s1_2, if_neg s1_3, if_neg s1_4, if_neg s1_5, if_neg s1_6, if_neg s1_7, if_neg s1_8, if_neg s1_9, if_neg s1_10, if_neg s1_11]; done)
  by_cases s1_1 : x = 1
  · refine xj_swIn (tgt := 69) (off := 68) hk dX4_figure_1 (by rw [s1_1]; decide) (by rw [s1_1]; decide) (by rw [s1_1]; decide) (by decide) ?_
    refine xj_aload_n (i := 0) hk dX4_figure_69 rfl rfl ?_
    refine xj_getfield hk dX4_figure_70 fl_X4_60 (xw_at hS rfl) rfl ?_
    refine xj_ireturn hk hz dX4_figure_73 ?_
    refine ⟨?_, rfl⟩
    first | (simp only [fig, if_pos s1_0]; done) | (simp only [fig, if_neg s1_0, if_pos s1_1]; done) | (simp only [fig, if_neg s1_0, if_neg s1_1, if_pos s1_2, if_pos c80]; done) | (simp only [fig, if_neg s1_0, if_neg s1_1, if_pos s1_2, if_neg c80]; done) | (simp only [fig, if_neg s1_0, if_neg s1_1, if_neg s1_2, if_pos s1_3]; done) | (simp only [fig, if_neg s1_0, if_neg s1_1, if_neg s1_2, if_neg s1_3, if_pos s1_4]; done) | (simp only [fig, if_neg s1_0, if_neg s1_1, if_neg s1_2, if_neg s1_3, if_neg s1_4, if_pos s1_5]; done) | (simp only [fig, if_neg s1_0, if_neg s1_1, if_neg s1_2, if_neg s1_3, if_neg s1_4, if_neg s1_5, if_pos s1_6]; done) | (simp only [fig, if_neg s1_0, if_neg s1_1, if_neg s1_2, if_neg s1_3, if_neg s1_4, if_neg s1_5, if_neg s1_6, if_pos s1_7]; done) | (simp only [fig, if_neg s1_0, if_neg s1_1, if_neg s1_2, if_neg s1_3, if_neg s1_4, if_neg s1_5, if_neg s1_6, if_neg s1_7, if_pos s1_8]; done) | (simp only [fig, if_neg s1_0, if_neg s1_1, if_neg s1_2, if_neg s1_3, if_neg s1_4, if_neg s1_5, if_neg s1_6, if_neg s1_7, if_neg s1_8, if_pos s1_9]; done) | (simp only [fig, if_neg s1_0, if_neg s1_1, if_neg s1_2, if_neg s1_3, if_neg s1_4, if_neg s1_5, if_neg s1_6, if_neg s1_7, if_neg s1_8, if_neg s1_9, if_pos s1_10, if_pos c141]; done) | (simp only [fig, if_neg s1_0, if_neg s1_1, if_neg s1_2, if_neg s1_3, if_neg s1_4, if_neg s1_5, if_neg s1_6, if_neg s1_7, if_neg s1_8, if_neg s1_9, if_pos s1_10, if_neg c141]; done) | (simp only [fig, if_neg s1_0, if_neg s1_1, if_neg s1_2, if_neg s1_3, if_neg s1_4, if_neg s1_5, if_neg s1_6, if_neg s1_7, if_neg s1_8, if_neg s1_9, if_neg s1_10, if_pos s1_11]; done) | (simp only [fig, if_neg s1_0, if_neg s1_1, if_neg s1_2, if_neg s1_3, if_neg s1_4, if_neg s1_5, if_neg s1_6, if_neg s1_7, if_neg s1_8, if_neg s1_9, if_neg s1_10, if_neg s1_11]; done)
  by_cases s1_2 : x = 2
  · refine xj_swIn (tgt := 74) (off := 73) hk dX4_figure_1 (by rw [s1_2]; decide) (by rw [s1_2]; decide) (by rw [s1_2]; decide) (by decide) ?_
    refine xj_aload_n (i := 0) hk dX4_figure_74 rfl rfl ?_
    refine xj_getfield hk dX4_figure_75 fl_X4_129 (xw_at hS rfl) rfl ?_
    refine xj_bipush (x := (-2)) hk dX4_figure_78 (by decide) ?_
    refine xj_icmp_ne (tgt := 88) hk dX4_figure_80 (by decide) (fun c80 => ?_) (fun c80 => ?_)
    · refine xj_aload_n (i := 0) hk dX4_figure_88 rfl rfl ?_
      refine xj_getfield hk dX4_figure_89 fl_X4_129 (xw_at hS rfl) rfl ?_
      refine xj_aload_n (i := 0) hk dX4_figure_92 rfl rfl ?_
      refine xj_getfield hk dX4_figure_93 fl_X4_60 (xw_at hS rfl) rfl ?_
      refine xj_isub hk dX4_figure_96 ?_
      refine xj_ireturn hk hz dX4_figure_97 ?_
      refine ⟨?_, rfl⟩
      first | (simp only [fig, if_pos s1_0]; done) | (simp only [fig, if_neg s1_0, if_pos s1_1]; done) | (simp only [fig, if_neg s1_0, if_neg s1_1, if_pos s1_2, if_pos c80]; done) | (simp only [fig, if_neg s1_0, if_neg s1_1, if_pos s1_2, if_neg c80]; done) | (simp only [fig, if_neg s1_0, if_neg s1_1, if_neg s1_2, if_pos s1_3]; done) | (simp only [fig, if_neg s1_0, if_neg s1_1, if_neg s1_2, if_neg s1_3, if_pos s1_4]; done) | (simp only [fig, if_neg s1_0, if_neg s1_1, if_neg s1_2, if_neg s1_3, if_neg s1_4, if_pos s1_5]; done) | (simp only [fig, if_neg s1_0, if_neg s1_1, if_neg s1_2, if_neg s1_3, if_neg s1_4, if_neg s1_5, if_pos s1_6]; done) | (simp only [fig, if_neg s1_0, if_neg s1_1, if_neg s1_2, if_neg s1_3, if_neg s1_4, if_neg s1_5, if_neg s1_6, if_pos s1_7]; done) | (simp only [fig, if_neg s1_0, if_neg s1_1, if_neg s1_2, if_neg s1_3, if_neg s1_4, if_neg s1_5, if_neg s1_6, if_neg s1_7, if_pos s1_8]; done) | (simp only [fig, if_neg s1_0, if_neg s1_1, if_neg s1_2, if_neg s1_3, if_neg s1_4, if_neg s1_5, if_neg s1_6, if_neg s1_7, if_neg s1_8, if_pos s1_9]; done) | (simp only [fig, if_neg s1_0, if_neg s1_1, if_neg s1_2, if_neg s1_3, if_neg s1_4, if_neg s1_5, if_neg s1_6, if_neg s1_7, if_neg s1_8, if_neg s1_9, if_pos s1_10, if_pos c141]; done) | (simp only [fig, if_neg s1_0, if_neg s1_1, if_neg s1_2, if_neg s1_3, if_neg s1_4, if_neg s1_5, if_neg s1_6, if_neg s1_7, if_neg s1_8, if_neg s1_9, if_pos s1_10, if_neg c141]; done) | (simp only [fig, if_neg s1_0, if_neg s1_1, if_neg s1_2, if_neg s1_3, if_neg s1_4, if_neg s1_5, if_neg s1_6, if_neg s1_7, if_neg s1_8, if_neg s1_9, if_neg s1_10, if_pos s1_11]; done) | (simp only [fig, if_neg s1_0, if_neg s1_1, if_neg s1_2, if_neg s1_3, if_neg s1_4, if_neg s1_5, if_neg s1_6, if_neg s1_7, if_neg s1_8, if_neg s1_9, if_neg s1_10, if_neg s1_11]; done)
    · refine xj_bipush (x := (-2)) hk dX4_figure_83 (by decide) ?_
      refine xj_goto (tgt := 97) hk dX4_figure_85 (by decide) ?_
      refine xj_ireturn hk hz dX4_figure_97 ?_
      refine ⟨?_, rfl⟩
      first | (simp only [fig, if_pos s1_0]; done) | (simp only [fig, if_neg s1_0, if_pos s1_1]; done) | (simp only [fig, if_neg s1_0, if_neg s1_1, if_pos s1_2, if_pos c80]; done) | (simp only [fig, if_neg s1_0, if_neg s1_1, if_pos s1_2, if_neg c80]; done) | (simp only [fig, if_neg s1_0, if_neg s1_1, if_neg s1_2, if_pos s1_3]; done) | (simp only [fig, if_neg s1_0, if_neg s1_1, if_neg s1_2, if_neg s1_3, if_pos s1_4]; done) | (simp only [fig, if_neg s1_0, if_neg s1_1, if_neg s1_2, if_neg s1_3, if_neg s1_4, if_pos s1_5]; done) | (simp only [fig, if_neg s1_0, if_neg s1_1, if_neg s1_2, if_neg s1_3, if_neg s1_4, if_neg s1_5, if_pos s1_6]; done) | (simp only [fig, if_neg s1_0, if_neg s1_1, if_neg s1_2, if_neg s1_3, if_neg s1_4, if_neg s1_5, if_neg s1_6, if_pos s1_7]; done) | (simp only [fig, if_neg s1_0, if_neg s1_1, if_neg s1_2, if_neg s1_3, if_neg s1_4, if_neg s1_5, if_neg s1_6, if_neg s1_7, if_pos s1_8]; done) | (simp only [fig, if_neg s1_0, if_neg s1_1, if_neg s1_2, if_neg s1_3, if_neg s1_4, if_neg s1_5, if_neg s1_6, if_neg s1_7, if_neg s1_8, if_pos s1_9]; done) | (simp only [fig, if_neg s1_0, if_neg s1_1, if_neg s1_2, if_neg s1_3, if_neg s1_4, if_neg s1_5, if_neg s1_6, if_neg s1_7, if_neg s1_8, if_neg s1_9, if_pos s1_10, if_pos c141]; done) | (simp only [fig, if_neg s1_0, if_neg s1_1, if_neg s1_2, if_neg s1_3, if_neg s1_4, if_neg s1_5, if_neg s1_6, if_neg s1_7, if_neg s1_8, if_neg s1_9, if_pos s1_10, if_neg c141]; done) | (simp only [fig, if_neg s1_0, if_neg s1_1, if_neg s1_2, if_neg s1_3, if_neg s1_4, if_neg s1_5, if_neg s1_6, if_neg s1_7, if_neg s1_8, if_neg s1_9, if_neg s1_10, if_pos s1_11]; done) | (simp only [fig, if_neg s1_0, if_neg s1_1, if_neg s1_2, if_neg s1_3, if_neg s1_4, if_neg s1_5, if_neg s1_6, if_neg s1_7, if_neg s1_8, if_neg s1_9, if_neg s1_10, if_neg s1_11]; done)
  by_cases s1_3 : x = 3
  · refine xj_swIn (tgt := 98) (off := 97) hk dX4_figure_1 (by rw [s1_3]; decide) (by rw [s1_3]; decide) (by rw [s1_3]; decide) (by decide) ?_
    refine xj_aload_n (i := 0) hk dX4_figure_98 rfl rfl ?_
    refine xj_callV hk hz (fr1 := 0) (lo1 := 0) (r1 := some (.int ((sl_sp S) + (sl_sr S)))) (As := []) (st := []) (st2 := [.int ((sl_sp S) + (sl_sr S))]) (G1 := G) ml_X4_157 (c_X4_soldInAll (show G s = pc_S v s b S from hS) (show G b = pc_B v b B from hB) hsb  ) (xw_at hS rfl) rfl dX4_figure_99 ⟨Nat.le_of_ble_eq_true rfl, Nat.le_of_ble_eq_true rfl⟩ rfl (Nat.le_of_ble_eq_true rfl) rfl rfl ?_
    refine xj_ireturn hk hz dX4_figure_102 ?_
    refine ⟨?_, rfl⟩
    first | (simp only [fig, if_pos s1_0]; done) | (simp only [fig, if_neg s1_0, if_pos s1_1]; done) | (simp only [fig, if_neg s1_0, if_neg s1_1, if_pos s1_2, if_pos c80]; done) | (simp only [fig, if_neg s1_0, if_neg s1_1, if_pos s1_2, if_neg c80]; done) | (simp only [fig, if_neg s1_0, if_neg s1_1, if_neg s1_2, if_pos s1_3]; done) | (simp only [fig, if_neg s1_0, if_neg s1_1, if_neg s1_2, if_neg s1_3, if_pos s1_4]; done) | (simp only [fig, if_neg s1_0, if_neg s1_1, if_neg s1_2, if_neg s1_3, if_neg s1_4, if_pos s1_5]; done) | (simp only [fig, if_neg s1_0, if_neg s1_1, if_neg s1_2, if_neg s1_3, if_neg s1_4, if_neg s1_5, if_pos s1_6]; done) | (simp only [fig, if_neg s1_0, if_neg s1_1, if_neg s1_2, if_neg s1_3, if_neg s1_4, if_neg s1_5, if_neg s1_6, if_pos s1_7]; done) | (simp only [fig, if_neg s1_0, if_neg s1_1, if_neg s1_2, if_neg s1_3, if_neg s1_4, if_neg s1_5, if_neg s1_6, if_neg s1_7, if_pos s1_8]; done) | (simp only [fig, if_neg s1_0, if_neg s1_1, if_neg s1_2, if_neg s1_3, if_neg s1_4, if_neg s1_5, if_neg s1_6, if_neg s1_7, if_neg s1_8, if_pos s1_9]; done) | (simp only [fig, if_neg s1_0, if_neg s1_1, if_neg s1_2, if_neg s1_3, if_neg s1_4, if_neg s1_5, if_neg s1_6, if_neg s1_7, if_neg s1_8, if_neg s1_9, if_pos s1_10, if_pos c141]; done) | (simp only [fig, if_neg s1_0, if_neg s1_1, if_neg s1_2, if_neg s1_3, if_neg s1_4, if_neg s1_5, if_neg s1_6, if_neg s1_7, if_neg s1_8, if_neg s1_9, if_pos s1_10, if_neg c141]; done) | (simp only [fig, if_neg s1_0, if_neg s1_1, if_neg s1_2, if_neg s1_3, if_neg s1_4, if_neg s1_5, if_neg s1_6, if_neg s1_7, if_neg s1_8, if_neg s1_9, if_neg s1_10, if_pos s1_11]; done) | (simp only [fig, if_neg s1_0, if_neg s1_1, if_neg s1_2, if_neg s1_3, if_neg s1_4, if_neg s1_5, if_neg s1_6, if_neg s1_7, if_neg s1_8, if_neg s1_9, if_neg s1_10, if_neg s1_11]; done)
  by_cases s1_4 : x = 4
  · refine xj_swIn (tgt := 103) (off := 102) hk dX4_figure_1 (by rw [s1_4]; decide) (by rw [s1_4]; decide) (by rw [s1_4]; decide) (by decide) ?_
    refine xj_aload_n (i := 0) hk dX4_figure_103 rfl rfl ?_
    refine xj_getfield hk dX4_figure_104 fl_X4_116 (xw_at hS rfl) rfl ?_
    refine xj_ireturn hk hz dX4_figure_107 ?_
    refine ⟨?_, rfl⟩
    first | (simp only [fig, if_pos s1_0]; done) | (simp only [fig, if_neg s1_0, if_pos s1_1]; done) | (simp only [fig, if_neg s1_0, if_neg s1_1, if_pos s1_2, if_pos c80]; done) | (simp only [fig, if_neg s1_0, if_neg s1_1, if_pos s1_2, if_neg c80]; done) | (simp only [fig, if_neg s1_0, if_neg s1_1, if_neg s1_2, if_pos s1_3]; done) | (simp only [fig, if_neg s1_0, if_neg s1_1, if_neg s1_2, if_neg s1_3, if_pos s1_4]; done) | (simp only [fig, if_neg s1_0, if_neg s1_1, if_neg s1_2, if_neg s1_3, if_neg s1_4, if_pos s1_5]; done) | (simp only [fig, if_neg s1_0, if_neg s1_1, if_neg s1_2, if_neg s1_3, if_neg s1_4, if_neg s1_5, if_pos s1_6]; done) | (simp only [fig, if_neg s1_0, if_neg s1_1, if_neg s1_2, if_neg s1_3, if_neg s1_4, if_neg s1_5, if_neg s1_6, if_pos s1_7]; done) | (simp only [fig, if_neg s1_0, if_neg s1_1, if_neg s1_2, if_neg s1_3, if_neg s1_4, if_neg s1_5, if_neg s1_6, if_neg s1_7, if_pos s1_8]; done) | (simp only [fig, if_neg s1_0, if_neg s1_1, if_neg s1_2, if_neg s1_3, if_neg s1_4, if_neg s1_5, if_neg s1_6, if_neg s1_7, if_neg s1_8, if_pos s1_9]; done) | (simp only [fig, if_neg s1_0, if_neg s1_1, if_neg s1_2, if_neg s1_3, if_neg s1_4, if_neg s1_5, if_neg s1_6, if_neg s1_7, if_neg s1_8, if_neg s1_9, if_pos s1_10, if_pos c141]; done) | (simp only [fig, if_neg s1_0, if_neg s1_1, if_neg s1_2, if_neg s1_3, if_neg s1_4, if_neg s1_5, if_neg s1_6, if_neg s1_7, if_neg s1_8, if_neg s1_9, if_pos s1_10, if_neg c141]; done) | (simp only [fig, if_neg s1_0, if_neg s1_1, if_neg s1_2, if_neg s1_3, if_neg s1_4, if_neg s1_5, if_neg s1_6, if_neg s1_7, if_neg s1_8, if_neg s1_9, if_neg s1_10, if_pos s1_11]; done) | (simp only [fig, if_neg s1_0, if_neg s1_1, if_neg s1_2, if_neg s1_3, if_neg s1_4, if_neg s1_5, if_neg s1_6, if_neg s1_7, if_neg s1_8, if_neg s1_9, if_neg s1_10, if_neg s1_11]; done)
  by_cases s1_5 : x = 5
  · refine xj_swIn (tgt := 108) (off := 107) hk dX4_figure_1 (by rw [s1_5]; decide) (by rw [s1_5]; decide) (by rw [s1_5]; decide) (by decide) ?_
    refine xj_aload_n (i := 0) hk dX4_figure_108 rfl rfl ?_
    refine xj_getfield hk dX4_figure_109 fl_X4_113 (xw_at hS rfl) rfl ?_
    refine xj_ireturn hk hz dX4_figure_112 ?_
    refine ⟨?_, rfl⟩
    first | (simp only [fig, if_pos s1_0]; done) | (simp only [fig, if_neg s1_0, if_pos s1_1]; done) | (simp only [fig, if_neg s1_0, if_neg s1_1, if_pos s1_2, if_pos c80]; done) | (simp only [fig, if_neg s1_0, if_neg s1_1, if_pos s1_2, if_neg c80]; done) | (simp only [fig, if_neg s1_0, if_neg s1_1, if_neg s1_2, if_pos s1_3]; done) | (simp only [fig, if_neg s1_0, if_neg s1_1, if_neg s1_2, if_neg s1_3, if_pos s1_4]; done) | (simp only [fig, if_neg s1_0, if_neg s1_1, if_neg s1_2, if_neg s1_3, if_neg s1_4, if_pos s1_5]; done) | (simp only [fig, if_neg s1_0, if_neg s1_1, if_neg s1_2, if_neg s1_3, if_neg s1_4, if_neg s1_5, if_pos s1_6]; done) | (simp only [fig, if_neg s1_0, if_neg s1_1, if_neg s1_2, if_neg s1_3, if_neg s1_4, if_neg s1_5, if_neg s1_6, if_pos s1_7]; done) | (simp only [fig, if_neg s1_0, if_neg s1_1, if_neg s1_2, if_neg s1_3, if_neg s1_4, if_neg s1_5, if_neg s1_6, if_neg s1_7, if_pos s1_8]; done) | (simp only [fig, if_neg s1_0, if_neg s1_1, if_neg s1_2, if_neg s1_3, if_neg s1_4, if_neg s1_5, if_neg s1_6, if_neg s1_7, if_neg s1_8, if_pos s1_9]; done) | (simp only [fig, if_neg s1_0, if_neg s1_1, if_neg s1_2, if_neg s1_3, if_neg s1_4, if_neg s1_5, if_neg s1_6, if_neg s1_7, if_neg s1_8, if_neg s1_9, if_pos s1_10, if_pos c141]; done) | (simp only [fig, if_neg s1_0, if_neg s1_1, if_neg s1_2, if_neg s1_3, if_neg s1_4, if_neg s1_5, if_neg s1_6, if_neg s1_7, if_neg s1_8, if_neg s1_9, if_pos s1_10, if_neg c141]; done) | (simp only [fig, if_neg s1_0, if_neg s1_1, if_neg s1_2, if_neg s1_3, if_neg s1_4, if_neg s1_5, if_neg s1_6, if_neg s1_7, if_neg s1_8, if_neg s1_9, if_neg s1_10, if_pos s1_11]; done) | (simp only [fig, if_neg s1_0, if_neg s1_1, if_neg s1_2, if_neg s1_3, if_neg s1_4, if_neg s1_5, if_neg s1_6, if_neg s1_7, if_neg s1_8, if_neg s1_9, if_neg s1_10, if_neg s1_11]; done)
  by_cases s1_6 : x = 6
  · refine xj_swIn (tgt := 113) (off := 112) hk dX4_figure_1 (by rw [s1_6]; decide) (by rw [s1_6]; decide) (by rw [s1_6]; decide) (by decide) ?_
    refine xj_aload_n (i := 0) hk dX4_figure_113 rfl rfl ?_
    refine xj_getfield hk dX4_figure_114 fl_X4_123 (xw_at hS rfl) rfl ?_
    refine xj_ireturn hk hz dX4_figure_117 ?_
    refine ⟨?_, rfl⟩
    first | (simp only [fig, if_pos s1_0]; done) | (simp only [fig, if_neg s1_0, if_pos s1_1]; done) | (simp only [fig, if_neg s1_0, if_neg s1_1, if_pos s1_2, if_pos c80]; done) | (simp only [fig, if_neg s1_0, if_neg s1_1, if_pos s1_2, if_neg c80]; done) | (simp only [fig, if_neg s1_0, if_neg s1_1, if_neg s1_2, if_pos s1_3]; done) | (simp only [fig, if_neg s1_0, if_neg s1_1, if_neg s1_2, if_neg s1_3, if_pos s1_4]; done) | (simp only [fig, if_neg s1_0, if_neg s1_1, if_neg s1_2, if_neg s1_3, if_neg s1_4, if_pos s1_5]; done) | (simp only [fig, if_neg s1_0, if_neg s1_1, if_neg s1_2, if_neg s1_3, if_neg s1_4, if_neg s1_5, if_pos s1_6]; done) | (simp only [fig, if_neg s1_0, if_neg s1_1, if_neg s1_2, if_neg s1_3, if_neg s1_4, if_neg s1_5, if_neg s1_6, if_pos s1_7]; done) | (simp only [fig, if_neg s1_0, if_neg s1_1, if_neg s1_2, if_neg s1_3, if_neg s1_4, if_neg s1_5, if_neg s1_6, if_neg s1_7, if_pos s1_8]; done) | (simp only [fig, if_neg s1_0, if_neg s1_1, if_neg s1_2, if_neg s1_3, if_neg s1_4, if_neg s1_5, if_neg s1_6, if_neg s1_7, if_neg s1_8, if_pos s1_9]; done) | (simp only [fig, if_neg s1_0, if_neg s1_1, if_neg s1_2, if_neg s1_3, if_neg s1_4, if_neg s1_5, if_neg s1_6, if_neg s1_7, if_neg s1_8, if_neg s1_9, if_pos s1_10, if_pos c141]; done) | (simp only [fig, if_neg s1_0, if_neg s1_1, if_neg s1_2, if_neg s1_3, if_neg s1_4, if_neg s1_5, if_neg s1_6, if_neg s1_7, if_neg s1_8, if_neg s1_9, if_pos s1_10, if_neg c141]; done) | (simp only [fig, if_neg s1_0, if_neg s1_1, if_neg s1_2, if_neg s1_3, if_neg s1_4, if_neg s1_5, if_neg s1_6, if_neg s1_7, if_neg s1_8, if_neg s1_9, if_neg s1_10, if_pos s1_11]; done) | (simp only [fig, if_neg s1_0, if_neg s1_1, if_neg s1_2, if_neg s1_3, if_neg s1_4, if_neg s1_5, if_neg s1_6, if_neg s1_7, if_neg s1_8, if_neg s1_9, if_neg s1_10, if_neg s1_11]; done)
  by_cases s1_7 : x = 7
  · refine xj_swIn (tgt := 118) (off := 117) hk dX4_figure_1 (by rw [s1_7]; decide) (by rw [s1_7]; decide) (by rw [s1_7]; decide) (by decide) ?_
    refine xj_aload_n (i := 0) hk dX4_figure_118 rfl rfl ?_
    refine xj_getfield hk dX4_figure_119 fl_X4_93 (xw_at hS rfl) rfl ?_
    refine xj_ireturn hk hz dX4_figure_122 ?_
    refine ⟨?_, rfl⟩
    first | (simp only [fig, if_pos s1_0]; done) | (simp only [fig, if_neg s1_0, if_pos s1_1]; done) | (simp only [fig, if_neg s1_0, if_neg s1_1, if_pos s1_2, if_pos c80]; done) | (simp only [fig, if_neg s1_0, if_neg s1_1, if_pos s1_2, if_neg c80]; done) | (simp only [fig, if_neg s1_0, if_neg s1_1, if_neg s1_2, if_pos s1_3]; done) | (simp only [fig, if_neg s1_0, if_neg s1_1, if_neg s1_2, if_neg s1_3, if_pos s1_4]; done) | (simp only [fig, if_neg s1_0, if_neg s1_1, if_neg s1_2, if_neg s1_3, if_neg s1_4, if_pos s1_5]; done) | (simp only [fig, if_neg s1_0, if_neg s1_1, if_neg s1_2, if_neg s1_3, if_neg s1_4, if_neg s1_5, if_pos s1_6]; done) | (simp only [fig, if_neg s1_0, if_neg s1_1, if_neg s1_2, if_neg s1_3, if_neg s1_4, if_neg s1_5, if_neg s1_6, if_pos s1_7]; done) | (simp only [fig, if_neg s1_0, if_neg s1_1, if_neg s1_2, if_neg s1_3, if_neg s1_4, if_neg s1_5, if_neg s1_6, if_neg s1_7, if_pos s1_8]; done) | (simp only [fig, if_neg s1_0, if_neg s1_1, if_neg s1_2, if_neg s1_3, if_neg s1_4, if_neg s1_5, if_neg s1_6, if_neg s1_7, if_neg s1_8, if_pos s1_9]; done) | (simp only [fig, if_neg s1_0, if_neg s1_1, if_neg s1_2, if_neg s1_3, if_neg s1_4, if_neg s1_5, if_neg s1_6, if_neg s1_7, if_neg s1_8, if_neg s1_9, if_pos s1_10, if_pos c141]; done) | (simp only [fig, if_neg s1_0, if_neg s1_1, if_neg s1_2, if_neg s1_3, if_neg s1_4, if_neg s1_5, if_neg s1_6, if_neg s1_7, if_neg s1_8, if_neg s1_9, if_pos s1_10, if_neg c141]; done) | (simp only [fig, if_neg s1_0, if_neg s1_1, if_neg s1_2, if_neg s1_3, if_neg s1_4, if_neg s1_5, if_neg s1_6, if_neg s1_7, if_neg s1_8, if_neg s1_9, if_neg s1_10, if_pos s1_11]; done) | (simp only [fig, if_neg s1_0, if_neg s1_1, if_neg s1_2, if_neg s1_3, if_neg s1_4, if_neg s1_5, if_neg s1_6, if_neg s1_7, if_neg s1_8, if_neg s1_9, if_neg s1_10, if_neg s1_11]; done)
  by_cases s1_8 : x = 8
  · refine xj_swIn (tgt := 123) (off := 122) hk dX4_figure_1 (by rw [s1_8]; decide) (by rw [s1_8]; decide) (by rw [s1_8]; decide) (by decide) ?_
    refine xj_aload_n (i := 0) hk dX4_figure_123 rfl rfl ?_
    refine xj_callV hk hz (fr1 := 0) (lo1 := 0) (r1 := some (.int (if bk_te B 0 ≤ 0 then 0 else (sl_ap S + sl_ar S) * 100 / bk_te B 0))) (As := []) (st := []) (st2 := [.int (if bk_te B 0 ≤ 0 then 0 else (sl_ap S + sl_ar S) * 100 / bk_te B 0)]) (G1 := G) ml_X4_160 (c_X4_coverOfOffer (show G s = pc_S v s b S from hS) (show G b = pc_B v b B from hB) hsb  ) (xw_at hS rfl) rfl dX4_figure_124 ⟨Nat.le_of_ble_eq_true rfl, Nat.le_of_ble_eq_true rfl⟩ rfl (Nat.le_of_ble_eq_true rfl) rfl rfl ?_
    refine xj_ireturn hk hz dX4_figure_127 ?_
    refine ⟨?_, rfl⟩
    first | (simp only [fig, if_pos s1_0]; done) | (simp only [fig, if_neg s1_0, if_pos s1_1]; done) | (simp only [fig, if_neg s1_0, if_neg s1_1, if_pos s1_2, if_pos c80]; done) | (simp only [fig, if_neg s1_0, if_neg s1_1, if_pos s1_2, if_neg c80]; done) | (simp only [fig, if_neg s1_0, if_neg s1_1, if_neg s1_2, if_pos s1_3]; done) | (simp only [fig, if_neg s1_0, if_neg s1_1, if_neg s1_2, if_neg s1_3, if_pos s1_4]; done) | (simp only [fig, if_neg s1_0, if_neg s1_1, if_neg s1_2, if_neg s1_3, if_neg s1_4, if_pos s1_5]; done) | (simp only [fig, if_neg s1_0, if_neg s1_1, if_neg s1_2, if_neg s1_3, if_neg s1_4, if_neg s1_5, if_pos s1_6]; done) | (simp only [fig, if_neg s1_0, if_neg s1_1, if_neg s1_2, if_neg s1_3, if_neg s1_4, if_neg s1_5, if_neg s1_6, if_pos s1_7]; done) | (simp only [fig, if_neg s1_0, if_neg s1_1, if_neg s1_2, if_neg s1_3, if_neg s1_4, if_neg s1_5, if_neg s1_6, if_neg s1_7, if_pos s1_8]; done) | (simp only [fig, if_neg s1_0, if_neg s1_1, if_neg s1_2, if_neg s1_3, if_neg s1_4, if_neg s1_5, if_neg s1_6, if_neg s1_7, if_neg s1_8, if_pos s1_9]; done) | (simp only [fig, if_neg s1_0, if_neg s1_1, if_neg s1_2, if_neg s1_3, if_neg s1_4, if_neg s1_5, if_neg s1_6, if_neg s1_7, if_neg s1_8, if_neg s1_9, if_pos s1_10, if_pos c141]; done) | (simp only [fig, if_neg s1_0, if_neg s1_1, if_neg s1_2, if_neg s1_3, if_neg s1_4, if_neg s1_5, if_neg s1_6, if_neg s1_7, if_neg s1_8, if_neg s1_9, if_pos s1_10, if_neg c141]; done) | (simp only [fig, if_neg s1_0, if_neg s1_1, if_neg s1_2, if_neg s1_3, if_neg s1_4, if_neg s1_5, if_neg s1_6, if_neg s1_7, if_neg s1_8, if_neg s1_9, if_neg s1_10, if_pos s1_11]; done) | (simp only [fig, if_neg s1_0, if_neg s1_1, if_neg s1_2, if_neg s1_3, if_neg s1_4, if_neg s1_5, if_neg s1_6, if_neg s1_7, if_neg s1_8, if_neg s1_9, if_neg s1_10, if_neg s1_11]; done)
  by_cases s1_9 : x = 9
  · refine xj_swIn (tgt := 128) (off := 127) hk dX4_figure_1 (by rw [s1_9]; decide) (by rw [s1_9]; decide) (by rw [s1_9]; decide) (by decide) ?_
    refine xj_aload_n (i := 0) hk dX4_figure_128 rfl rfl ?_
    refine xj_aload_n (i := 0) hk dX4_figure_129 rfl rfl ?_
    refine xj_getfield hk dX4_figure_130 fl_X4_129 (xw_at hS rfl) rfl ?_
    refine xj_callV hk hz (fr1 := 0) (lo1 := 0) (r1 := some (.int (sm (fun j => if (bk_ra B) j = sl_st S then (if (sl_ad S) j ≤ 0 then 0 else 1) else 0) n))) (As := [.int (sl_st S)]) (st := []) (st2 := [.int (sm (fun j => if (bk_ra B) j = sl_st S then (if (sl_ad S) j ≤ 0 then 0 else 1) else 0) n)]) (G1 := G) ml_X4_163 (c_X4_bidsAt (n := n) (show G s = pc_S v s b S from hS) (show G b = pc_B v b B from hB) hsb hio hn30 (sl_st S)) (xw_at hS rfl) rfl dX4_figure_133 ⟨Nat.le_of_ble_eq_true rfl, Nat.le_of_ble_eq_true rfl⟩ rfl (Nat.le_of_ble_eq_true rfl) rfl rfl ?_
    refine xj_ireturn hk hz dX4_figure_136 ?_
    refine ⟨?_, rfl⟩
    first | (simp only [fig, if_pos s1_0]; done) | (simp only [fig, if_neg s1_0, if_pos s1_1]; done) | (simp only [fig, if_neg s1_0, if_neg s1_1, if_pos s1_2, if_pos c80]; done) | (simp only [fig, if_neg s1_0, if_neg s1_1, if_pos s1_2, if_neg c80]; done) | (simp only [fig, if_neg s1_0, if_neg s1_1, if_neg s1_2, if_pos s1_3]; done) | (simp only [fig, if_neg s1_0, if_neg s1_1, if_neg s1_2, if_neg s1_3, if_pos s1_4]; done) | (simp only [fig, if_neg s1_0, if_neg s1_1, if_neg s1_2, if_neg s1_3, if_neg s1_4, if_pos s1_5]; done) | (simp only [fig, if_neg s1_0, if_neg s1_1, if_neg s1_2, if_neg s1_3, if_neg s1_4, if_neg s1_5, if_pos s1_6]; done) | (simp only [fig, if_neg s1_0, if_neg s1_1, if_neg s1_2, if_neg s1_3, if_neg s1_4, if_neg s1_5, if_neg s1_6, if_pos s1_7]; done) | (simp only [fig, if_neg s1_0, if_neg s1_1, if_neg s1_2, if_neg s1_3, if_neg s1_4, if_neg s1_5, if_neg s1_6, if_neg s1_7, if_pos s1_8]; done) | (simp only [fig, if_neg s1_0, if_neg s1_1, if_neg s1_2, if_neg s1_3, if_neg s1_4, if_neg s1_5, if_neg s1_6, if_neg s1_7, if_neg s1_8, if_pos s1_9]; done) | (simp only [fig, if_neg s1_0, if_neg s1_1, if_neg s1_2, if_neg s1_3, if_neg s1_4, if_neg s1_5, if_neg s1_6, if_neg s1_7, if_neg s1_8, if_neg s1_9, if_pos s1_10, if_pos c141]; done) | (simp only [fig, if_neg s1_0, if_neg s1_1, if_neg s1_2, if_neg s1_3, if_neg s1_4, if_neg s1_5, if_neg s1_6, if_neg s1_7, if_neg s1_8, if_neg s1_9, if_pos s1_10, if_neg c141]; done) | (simp only [fig, if_neg s1_0, if_neg s1_1, if_neg s1_2, if_neg s1_3, if_neg s1_4, if_neg s1_5, if_neg s1_6, if_neg s1_7, if_neg s1_8, if_neg s1_9, if_neg s1_10, if_pos s1_11]; done) | (simp only [fig, if_neg s1_0, if_neg s1_1, if_neg s1_2, if_neg s1_3, if_neg s1_4, if_neg s1_5, if_neg s1_6, if_neg s1_7, if_neg s1_8, if_neg s1_9, if_neg s1_10, if_neg s1_11]; done)
  by_cases s1_10 : x = 10
  · refine xj_swIn (tgt := 137) (off := 136) hk dX4_figure_1 (by rw [s1_10]; decide) (by rw [s1_10]; decide) (by rw [s1_10]; decide) (by decide) ?_
    refine xj_aload_n (i := 0) hk dX4_figure_137 rfl rfl ?_
    refine xj_getfield hk dX4_figure_138 fl_X4_132 (xw_at hS rfl) rfl ?_
    refine xj_if_eq (tgt := 148) hk dX4_figure_141 (by decide) (fun c141 => ?_) (fun c141 => ?_)
    · refine xj_iconst (x := 0) hk dX4_figure_148 (by decide) ?_
      refine xj_ireturn hk hz dX4_figure_149 ?_
      refine ⟨?_, rfl⟩
      first | (simp only [fig, if_pos s1_0]; done) | (simp only [fig, if_neg s1_0, if_pos s1_1]; done) | (simp only [fig, if_neg s1_0, if_neg s1_1, if_pos s1_2, if_pos c80]; done) | (simp only [fig, if_neg s1_0, if_neg s1_1, if_pos s1_2, if_neg c80]; done) | (simp only [fig, if_neg s1_0, if_neg s1_1, if_neg s1_2, if_pos s1_3]; done) | (simp only [fig, if_neg s1_0, if_neg s1_1, if_neg s1_2, if_neg s1_3, if_pos s1_4]; done) | (simp only [fig, if_neg s1_0, if_neg s1_1, if_neg s1_2, if_neg s1_3, if_neg s1_4, if_pos s1_5]; done) | (simp only [fig, if_neg s1_0, if_neg s1_1, if_neg s1_2, if_neg s1_3, if_neg s1_4, if_neg s1_5, if_pos s1_6]; done) | (simp only [fig, if_neg s1_0, if_neg s1_1, if_neg s1_2, if_neg s1_3, if_neg s1_4, if_neg s1_5, if_neg s1_6, if_pos s1_7]; done) | (simp only [fig, if_neg s1_0, if_neg s1_1, if_neg s1_2, if_neg s1_3, if_neg s1_4, if_neg s1_5, if_neg s1_6, if_neg s1_7, if_pos s1_8]; done) | (simp only [fig, if_neg s1_0, if_neg s1_1, if_neg s1_2, if_neg s1_3, if_neg s1_4, if_neg s1_5, if_neg s1_6, if_neg s1_7, if_neg s1_8, if_pos s1_9]; done) | (simp only [fig, if_neg s1_0, if_neg s1_1, if_neg s1_2, if_neg s1_3, if_neg s1_4, if_neg s1_5, if_neg s1_6, if_neg s1_7, if_neg s1_8, if_neg s1_9, if_pos s1_10, if_pos c141]; done) | (simp only [fig, if_neg s1_0, if_neg s1_1, if_neg s1_2, if_neg s1_3, if_neg s1_4, if_neg s1_5, if_neg s1_6, if_neg s1_7, if_neg s1_8, if_neg s1_9, if_pos s1_10, if_neg c141]; done) | (simp only [fig, if_neg s1_0, if_neg s1_1, if_neg s1_2, if_neg s1_3, if_neg s1_4, if_neg s1_5, if_neg s1_6, if_neg s1_7, if_neg s1_8, if_neg s1_9, if_neg s1_10, if_pos s1_11]; done) | (simp only [fig, if_neg s1_0, if_neg s1_1, if_neg s1_2, if_neg s1_3, if_neg s1_4, if_neg s1_5, if_neg s1_6, if_neg s1_7, if_neg s1_8, if_neg s1_9, if_neg s1_10, if_neg s1_11]; done)
    · refine xj_iconst (x := 1) hk dX4_figure_144 (by decide) ?_
      refine xj_goto (tgt := 149) hk dX4_figure_145 (by decide) ?_
      refine xj_ireturn hk hz dX4_figure_149 ?_
      refine ⟨?_, rfl⟩
      first | (simp only [fig, if_pos s1_0]; done) | (simp only [fig, if_neg s1_0, if_pos s1_1]; done) | (simp only [fig, if_neg s1_0, if_neg s1_1, if_pos s1_2, if_pos c80]; done) | (simp only [fig, if_neg s1_0, if_neg s1_1, if_pos s1_2, if_neg c80]; done) | (simp only [fig, if_neg s1_0, if_neg s1_1, if_neg s1_2, if_pos s1_3]; done) | (simp only [fig, if_neg s1_0, if_neg s1_1, if_neg s1_2, if_neg s1_3, if_pos s1_4]; done) | (simp only [fig, if_neg s1_0, if_neg s1_1, if_neg s1_2, if_neg s1_3, if_neg s1_4, if_pos s1_5]; done) | (simp only [fig, if_neg s1_0, if_neg s1_1, if_neg s1_2, if_neg s1_3, if_neg s1_4, if_neg s1_5, if_pos s1_6]; done) | (simp only [fig, if_neg s1_0, if_neg s1_1, if_neg s1_2, if_neg s1_3, if_neg s1_4, if_neg s1_5, if_neg s1_6, if_pos s1_7]; done) | (simp only [fig, if_neg s1_0, if_neg s1_1, if_neg s1_2, if_neg s1_3, if_neg s1_4, if_neg s1_5, if_neg s1_6, if_neg s1_7, if_pos s1_8]; done) | (simp only [fig, if_neg s1_0, if_neg s1_1, if_neg s1_2, if_neg s1_3, if_neg s1_4, if_neg s1_5, if_neg s1_6, if_neg s1_7, if_neg s1_8, if_pos s1_9]; done) | (simp only [fig, if_neg s1_0, if_neg s1_1, if_neg s1_2, if_neg s1_3, if_neg s1_4, if_neg s1_5, if_neg s1_6, if_neg s1_7, if_neg s1_8, if_neg s1_9, if_pos s1_10, if_pos c141]; done) | (simp only [fig, if_neg s1_0, if_neg s1_1, if_neg s1_2, if_neg s1_3, if_neg s1_4, if_neg s1_5, if_neg s1_6, if_neg s1_7, if_neg s1_8, if_neg s1_9, if_pos s1_10, if_neg c141]; done) | (simp only [fig, if_neg s1_0, if_neg s1_1, if_neg s1_2, if_neg s1_3, if_neg s1_4, if_neg s1_5, if_neg s1_6, if_neg s1_7, if_neg s1_8, if_neg s1_9, if_neg s1_10, if_pos s1_11]; done) | (simp only [fig, if_neg s1_0, if_neg s1_1, if_neg s1_2, if_neg s1_3, if_neg s1_4, if_neg s1_5, if_neg s1_6, if_neg s1_7, if_neg s1_8, if_neg s1_9, if_neg s1_10, if_neg s1_11]; done)
  by_cases s1_11 : x = 11
  · refine xj_swIn (tgt := 150) (off := 149) hk dX4_figure_1 (by rw [s1_11]; decide) (by rw [s1_11]; decide) (by rw [s1_11]; decide) (by decide) ?_
    refine xj_aload_n (i := 0) hk dX4_figure_150 rfl rfl ?_
    refine xj_getfield hk dX4_figure_151 fl_X4_37 (xw_at hS rfl) rfl ?_
    refine xj_getfield hk dX4_figure_154 fl_X4_75 (xw_at hB rfl) rfl ?_
    refine xj_iconst (x := 0) hk dX4_figure_157 (by decide) ?_
    refine xj_iaload (k := 0) hk dX4_figure_158 (xw_at hB rfl) (xi_d 0 7 (by decide)) ?_
    refine xj_aload_n (i := 0) hk dX4_figure_159 rfl rfl ?_
    refine xj_callV hk hz (fr1 := 0) (lo1 := 0) (r1 := some (.int ((sl_sp S) + (sl_sr S)))) (As := []) (st := [.int (bk_te B 0)]) (st2 := [.int ((sl_sp S) + (sl_sr S)), .int (bk_te B 0)]) (G1 := G) ml_X4_157 (c_X4_soldInAll (show G s = pc_S v s b S from hS) (show G b = pc_B v b B from hB) hsb  ) (xw_at hS rfl) rfl dX4_figure_160 ⟨Nat.le_of_ble_eq_true rfl, Nat.le_of_ble_eq_true rfl⟩ rfl (Nat.le_of_ble_eq_true rfl) rfl rfl ?_
    refine xj_isub hk dX4_figure_163 ?_
    refine xj_ireturn hk hz dX4_figure_164 ?_
    refine ⟨?_, rfl⟩
    first | (simp only [fig, if_pos s1_0]; done) | (simp only [fig, if_neg s1_0, if_pos s1_1]; done) | (simp only [fig, if_neg s1_0, if_neg s1_1, if_pos s1_2, if_pos c80]; done) | (simp only [fig, if_neg s1_0, if_neg s1_1, if_pos s1_2, if_neg c80]; done) | (simp only [fig, if_neg s1_0, if_neg s1_1, if_neg s1_2, if_pos s1_3]; done) | (simp only [fig, if_neg s1_0, if_neg s1_1, if_neg s1_2, if_neg s1_3, if_pos s1_4]; done) | (simp only [fig, if_neg s1_0, if_neg s1_1, if_neg s1_2, if_neg s1_3, if_neg s1_4, if_pos s1_5]; done) | (simp only [fig, if_neg s1_0, if_neg s1_1, if_neg s1_2, if_neg s1_3, if_neg s1_4, if_neg s1_5, if_pos s1_6]; done) | (simp only [fig, if_neg s1_0, if_neg s1_1, if_neg s1_2, if_neg s1_3, if_neg s1_4, if_neg s1_5, if_neg s1_6, if_pos s1_7]; done) | (simp only [fig, if_neg s1_0, if_neg s1_1, if_neg s1_2, if_neg s1_3, if_neg s1_4, if_neg s1_5, if_neg s1_6, if_neg s1_7, if_pos s1_8]; done) | (simp only [fig, if_neg s1_0, if_neg s1_1, if_neg s1_2, if_neg s1_3, if_neg s1_4, if_neg s1_5, if_neg s1_6, if_neg s1_7, if_neg s1_8, if_pos s1_9]; done) | (simp only [fig, if_neg s1_0, if_neg s1_1, if_neg s1_2, if_neg s1_3, if_neg s1_4, if_neg s1_5, if_neg s1_6, if_neg s1_7, if_neg s1_8, if_neg s1_9, if_pos s1_10, if_pos c141]; done) | (simp only [fig, if_neg s1_0, if_neg s1_1, if_neg s1_2, if_neg s1_3, if_neg s1_4, if_neg s1_5, if_neg s1_6, if_neg s1_7, if_neg s1_8, if_neg s1_9, if_pos s1_10, if_neg c141]; done) | (simp only [fig, if_neg s1_0, if_neg s1_1, if_neg s1_2, if_neg s1_3, if_neg s1_4, if_neg s1_5, if_neg s1_6, if_neg s1_7, if_neg s1_8, if_neg s1_9, if_neg s1_10, if_pos s1_11]; done) | (simp only [fig, if_neg s1_0, if_neg s1_1, if_neg s1_2, if_neg s1_3, if_neg s1_4, if_neg s1_5, if_neg s1_6, if_neg s1_7, if_neg s1_8, if_neg s1_9, if_neg s1_10, if_neg s1_11]; done)
  refine xj_swOut (tgt := 165) hk dX4_figure_1 (sw_out12 s1_0 s1_1 s1_2 s1_3 s1_4 s1_5 s1_6 s1_7 s1_8 s1_9 s1_10 s1_11) (by decide) ?_
  refine xj_iconst (x := (-1)) hk dX4_figure_165 (by decide) ?_
  refine xj_ireturn hk hz dX4_figure_166 ?_
  refine ⟨?_, rfl⟩
  first | (simp only [fig, if_pos s1_0]; done) | (simp only [fig, if_neg s1_0, if_pos s1_1]; done) | (simp only [fig, if_neg s1_0, if_neg s1_1, if_pos s1_2, if_pos c80]; done) | (simp only [fig, if_neg s1_0, if_neg s1_1, if_pos s1_2, if_neg c80]; done) | (simp only [fig, if_neg s1_0, if_neg s1_1, if_neg s1_2, if_pos s1_3]; done) | (simp only [fig, if_neg s1_0, if_neg s1_1, if_neg s1_2, if_neg s1_3, if_pos s1_4]; done) | (simp only [fig, if_neg s1_0, if_neg s1_1, if_neg s1_2, if_neg s1_3, if_neg s1_4, if_pos s1_5]; done) | (simp only [fig, if_neg s1_0, if_neg s1_1, if_neg s1_2, if_neg s1_3, if_neg s1_4, if_neg s1_5, if_pos s1_6]; done) | (simp only [fig, if_neg s1_0, if_neg s1_1, if_neg s1_2, if_neg s1_3, if_neg s1_4, if_neg s1_5, if_neg s1_6, if_pos s1_7]; done) | (simp only [fig, if_neg s1_0, if_neg s1_1, if_neg s1_2, if_neg s1_3, if_neg s1_4, if_neg s1_5, if_neg s1_6, if_neg s1_7, if_pos s1_8]; done) | (simp only [fig, if_neg s1_0, if_neg s1_1, if_neg s1_2, if_neg s1_3, if_neg s1_4, if_neg s1_5, if_neg s1_6, if_neg s1_7, if_neg s1_8, if_pos s1_9]; done) | (simp only [fig, if_neg s1_0, if_neg s1_1, if_neg s1_2, if_neg s1_3, if_neg s1_4, if_neg s1_5, if_neg s1_6, if_neg s1_7, if_neg s1_8, if_neg s1_9, if_pos s1_10, if_pos c141]; done) | (simp only [fig, if_neg s1_0, if_neg s1_1, if_neg s1_2, if_neg s1_3, if_neg s1_4, if_neg s1_5, if_neg s1_6, if_neg s1_7, if_neg s1_8, if_neg s1_9, if_pos s1_10, if_neg c141]; done) | (simp only [fig, if_neg s1_0, if_neg s1_1, if_neg s1_2, if_neg s1_3, if_neg s1_4, if_neg s1_5, if_neg s1_6, if_neg s1_7, if_neg s1_8, if_neg s1_9, if_neg s1_10, if_pos s1_11]; done) | (simp only [fig, if_neg s1_0, if_neg s1_1, if_neg s1_2, if_neg s1_3, if_neg s1_4, if_neg s1_5, if_neg s1_6, if_neg s1_7, if_neg s1_8, if_neg s1_9, if_neg s1_10, if_neg s1_11]; done)

set_option maxHeartbeats 1000000 in
set_option maxRecDepth 10000 in
theorem l_X4_rateOfStep_7 {v : xw_V} {κ : xk_K} {post : Option Value → xw_G → Prop} {z : Nat × Nat × Nat} {G : xw_G} {s b : Nat} {S : sl_T} {B : bk_T} {n : Nat} {p : Nat → Nat} (hk : xk_Ok v κ yX4_rateOfStep cX4_rateOfStep 6 (some .int) 0 0) (hz : xk_zf κ = z) (hS : G s = pc_S v s b S) (hB : G b = pc_B v b B) (hsb : s ≠ b) (hio : sl_io S = nI n) (hn30 : n ≤ 30) (hod : pls n (sl_od S) p) (hp : inj n p) (x : Int32) (kx : fnd (rsP (bk_ra B) (sl_ad S) p x) n = n → xj v κ post z G 83 [some (.ref (xw_ad v s 0)), none, none, none, none, none] []) (kr : ∀ k : Nat, k < n → fnd (rsP (bk_ra B) (sl_ad S) p x) n = k → xj v κ post z G 68 [some (.ref (xw_ad v s 0)), none, none, none, none, some (.int (bk_ra B (p k)))] []) : ∀ (m : Nat) (k : Nat), n - k < m → k ≤ n → fnd (rsP (bk_ra B) (sl_ad S) p x) k = k → xj v κ post z G 7 [some (.ref (xw_ad v s 0)), some (.int x), some (.int ((rsK (bk_ra B) (sl_ad S) p k).1)), some (.int ((rsK (bk_ra B) (sl_ad S) p k).2)), some (.int (nI k)), none] [] := by
  intro m
  induction m with
  | zero => intro k h; exact absurd h (Nat.not_lt_zero _)
  | succ m ih =>
    intro k hm hi hf
    refine xj_iload hk dX4_rateOfStep_7 rfl ?_
    refine xj_aload_n (i := 0) hk dX4_rateOfStep_9 rfl rfl ?_
    refine xj_getfield hk dX4_rateOfStep_10 fl_X4_33 (xw_at hS rfl) rfl ?_
    refine xj.eqi (x' := nI n) hio ?_
    refine xj_icmp_ge (tgt := 83) hk dX4_rateOfStep_13 (by decide) (fun c13 => ?_) (fun c13 => ?_)
    · have c13 : n ≤ k := (nI_leI (a := n) (b := k) (by omega) (by omega)).mp c13
      have e9 : k = n := by omega
      subst e9
      exact xj.le (ls' := [some (.ref (xw_ad v s 0)), none, none, none, none, none]) (by simp [xl_le]) (kx hf)
    · have c13 : ¬ n ≤ k := fun q => c13 ((nI_leI (a := n) (b := k) (by omega) (by omega)).mpr q)
      refine xj_aload_n (i := 0) hk dX4_rateOfStep_16 rfl rfl ?_
      refine xj_getfield hk dX4_rateOfStep_17 fl_X4_37 (xw_at hS rfl) rfl ?_
      refine xj_getfield hk dX4_rateOfStep_20 fl_X4_72 (xw_at hB rfl) rfl ?_
      refine xj_aload_n (i := 0) hk dX4_rateOfStep_23 rfl rfl ?_
      refine xj_getfield hk dX4_rateOfStep_24 fl_X4_9 (xw_at hS rfl) rfl ?_
      refine xj_iload hk dX4_rateOfStep_27 rfl ?_
      refine xj_iaload (k := k) hk dX4_rateOfStep_29 (xw_at hS rfl) (xi_n (by omega) (by decide)) ?_
      refine xj.eqi (x' := nI (p k)) (hod k (by omega)) ?_
      refine xj_iaload (k := p k) hk dX4_rateOfStep_30 (xw_at hB rfl) (xi_n (by have := hp.1 k (by omega); omega) (by decide)) ?_
      refine xj_istore (i := 5) (ls2 := [some (.ref (xw_ad v s 0)), some (.int x), some (.int ((rsK (bk_ra B) (sl_ad S) p k).1)), some (.int ((rsK (bk_ra B) (sl_ad S) p k).2)), some (.int (nI k)), some (.int (bk_ra B (p k)))]) hk dX4_rateOfStep_31 (by decide) rfl rfl ?_
      refine xj_iload hk dX4_rateOfStep_33 rfl ?_
      refine xj_iconst (x := (-1)) hk dX4_rateOfStep_35 (by decide) ?_
      refine xj_icmp_eq (tgt := 77) hk dX4_rateOfStep_36 (by decide) (fun c36 => ?_) (fun c36 => ?_)
      · refine xj_iinc (i := 4) (x2 := nI (k + 1)) (ls2 := [some (.ref (xw_ad v s 0)), some (.int x), some (.int ((rsK (bk_ra B) (sl_ad S) p k).1)), some (.int ((rsK (bk_ra B) (sl_ad S) p k).2)), some (.int (nI (k + 1))), some (.int (bk_ra B (p k)))]) hk dX4_rateOfStep_77 rfl (nI_1 k) (by decide) rfl rfl ?_
        refine xj_goto (tgt := 7) hk dX4_rateOfStep_80 (by decide) ?_
        refine xj.le (ls' := [some (.ref (xw_ad v s 0)), some (.int x), some (.int ((rsK (bk_ra B) (sl_ad S) p ((k + 1))).1)), some (.int ((rsK (bk_ra B) (sl_ad S) p ((k + 1))).2)), some (.int (nI ((k + 1)))), none]) (by first | (simp only [xl_le, rsK, if_pos c36, and_self, and_true, true_and]; done) | (simp only [xl_le, rsK, if_neg c36, if_pos c42, and_self, and_true, true_and]; done) | (simp only [xl_le, rsK, if_neg c36, if_neg c42, if_pos c57, and_self, and_true, true_and]; done) | (simp only [xl_le, rsK, if_neg c36, if_neg c42, if_neg c57, and_self, and_true, true_and]; done)) (ih (k + 1) (by omega) (by omega) (fnd_no hf (by simp [rsP, *])))
      · refine xj_iload hk dX4_rateOfStep_39 rfl ?_
        refine xj_iload_n (i := 3) hk dX4_rateOfStep_41 rfl rfl ?_
        refine xj_icmp_eq (tgt := 77) hk dX4_rateOfStep_42 (by decide) (fun c42 => ?_) (fun c42 => ?_)
        · refine xj_iinc (i := 4) (x2 := nI (k + 1)) (ls2 := [some (.ref (xw_ad v s 0)), some (.int x), some (.int ((rsK (bk_ra B) (sl_ad S) p k).1)), some (.int ((rsK (bk_ra B) (sl_ad S) p k).2)), some (.int (nI (k + 1))), some (.int (bk_ra B (p k)))]) hk dX4_rateOfStep_77 rfl (nI_1 k) (by decide) rfl rfl ?_
          refine xj_goto (tgt := 7) hk dX4_rateOfStep_80 (by decide) ?_
          refine xj.le (ls' := [some (.ref (xw_ad v s 0)), some (.int x), some (.int ((rsK (bk_ra B) (sl_ad S) p ((k + 1))).1)), some (.int ((rsK (bk_ra B) (sl_ad S) p ((k + 1))).2)), some (.int (nI ((k + 1)))), none]) (by first | (simp only [xl_le, rsK, if_pos c36, and_self, and_true, true_and]; done) | (simp only [xl_le, rsK, if_neg c36, if_pos c42, and_self, and_true, true_and]; done) | (simp only [xl_le, rsK, if_neg c36, if_neg c42, if_pos c57, and_self, and_true, true_and]; done) | (simp only [xl_le, rsK, if_neg c36, if_neg c42, if_neg c57, and_self, and_true, true_and]; done)) (ih (k + 1) (by omega) (by omega) (fnd_no hf (by simp [rsP, *])))
        · refine xj_aload_n (i := 0) hk dX4_rateOfStep_45 rfl rfl ?_
          refine xj_getfield hk dX4_rateOfStep_46 fl_X4_15 (xw_at hS rfl) rfl ?_
          refine xj_aload_n (i := 0) hk dX4_rateOfStep_49 rfl rfl ?_
          refine xj_getfield hk dX4_rateOfStep_50 fl_X4_9 (xw_at hS rfl) rfl ?_
          refine xj_iload hk dX4_rateOfStep_53 rfl ?_
          refine xj_iaload (k := k) hk dX4_rateOfStep_55 (xw_at hS rfl) (xi_n (by omega) (by decide)) ?_
          refine xj.eqi (x' := nI (p k)) (hod k (by omega)) ?_
          refine xj_iaload (k := p k) hk dX4_rateOfStep_56 (xw_at hS rfl) (xi_n (by have := hp.1 k (by omega); omega) (by decide)) ?_
          refine xj_if_ne (tgt := 63) hk dX4_rateOfStep_57 (by decide) (fun c57 => ?_) (fun c57 => ?_)
          · refine xj_iload_n (i := 2) hk dX4_rateOfStep_63 rfl rfl ?_
            refine xj_iload_n (i := 1) hk dX4_rateOfStep_64 rfl rfl ?_
            refine xj_icmp_ne (tgt := 71) hk dX4_rateOfStep_65 (by decide) (fun c65 => ?_) (fun c65 => ?_)
            · refine xj_iload hk dX4_rateOfStep_71 rfl ?_
              refine xj_istore_n (i := 3) (ls2 := [some (.ref (xw_ad v s 0)), some (.int x), some (.int ((rsK (bk_ra B) (sl_ad S) p k).1)), some (.int (bk_ra B (p k))), some (.int (nI k)), some (.int (bk_ra B (p k)))]) hk dX4_rateOfStep_73 rfl (by decide) rfl rfl ?_
              refine xj_iinc (i := 2) (x2 := ((rsK (bk_ra B) (sl_ad S) p k).1) + 1) (ls2 := [some (.ref (xw_ad v s 0)), some (.int x), some (.int (((rsK (bk_ra B) (sl_ad S) p k).1) + 1)), some (.int (bk_ra B (p k))), some (.int (nI k)), some (.int (bk_ra B (p k)))]) hk dX4_rateOfStep_74 rfl rfl (by decide) rfl rfl ?_
              refine xj_iinc (i := 4) (x2 := nI (k + 1)) (ls2 := [some (.ref (xw_ad v s 0)), some (.int x), some (.int (((rsK (bk_ra B) (sl_ad S) p k).1) + 1)), some (.int (bk_ra B (p k))), some (.int (nI (k + 1))), some (.int (bk_ra B (p k)))]) hk dX4_rateOfStep_77 rfl (nI_1 k) (by decide) rfl rfl ?_
              refine xj_goto (tgt := 7) hk dX4_rateOfStep_80 (by decide) ?_
              refine xj.le (ls' := [some (.ref (xw_ad v s 0)), some (.int x), some (.int ((rsK (bk_ra B) (sl_ad S) p ((k + 1))).1)), some (.int ((rsK (bk_ra B) (sl_ad S) p ((k + 1))).2)), some (.int (nI ((k + 1)))), none]) (by first | (simp only [xl_le, rsK, if_pos c36, and_self, and_true, true_and]; done) | (simp only [xl_le, rsK, if_neg c36, if_pos c42, and_self, and_true, true_and]; done) | (simp only [xl_le, rsK, if_neg c36, if_neg c42, if_pos c57, and_self, and_true, true_and]; done) | (simp only [xl_le, rsK, if_neg c36, if_neg c42, if_neg c57, and_self, and_true, true_and]; done)) (ih (k + 1) (by omega) (by omega) (fnd_no hf (by simp [rsP, *])))
            · refine xj.le (ls' := [some (.ref (xw_ad v s 0)), none, none, none, none, some (.int (bk_ra B (p k)))]) (by simp [xl_le]) (kr k (by omega) (fnd_at hf (by simp [rsP, *]) n (by omega)))
          · refine xj_goto (tgt := 77) hk dX4_rateOfStep_60 (by decide) ?_
            refine xj_iinc (i := 4) (x2 := nI (k + 1)) (ls2 := [some (.ref (xw_ad v s 0)), some (.int x), some (.int ((rsK (bk_ra B) (sl_ad S) p k).1)), some (.int ((rsK (bk_ra B) (sl_ad S) p k).2)), some (.int (nI (k + 1))), some (.int (bk_ra B (p k)))]) hk dX4_rateOfStep_77 rfl (nI_1 k) (by decide) rfl rfl ?_
            refine xj_goto (tgt := 7) hk dX4_rateOfStep_80 (by decide) ?_
            refine xj.le (ls' := [some (.ref (xw_ad v s 0)), some (.int x), some (.int ((rsK (bk_ra B) (sl_ad S) p ((k + 1))).1)), some (.int ((rsK (bk_ra B) (sl_ad S) p ((k + 1))).2)), some (.int (nI ((k + 1)))), none]) (by first | (simp only [xl_le, rsK, if_pos c36, and_self, and_true, true_and]; done) | (simp only [xl_le, rsK, if_neg c36, if_pos c42, and_self, and_true, true_and]; done) | (simp only [xl_le, rsK, if_neg c36, if_neg c42, if_pos c57, and_self, and_true, true_and]; done) | (simp only [xl_le, rsK, if_neg c36, if_neg c42, if_neg c57, and_self, and_true, true_and]; done)) (ih (k + 1) (by omega) (by omega) (fnd_no hf (by simp [rsP, *])))

set_option maxHeartbeats 1000000 in
set_option maxRecDepth 10000 in
theorem c_X4_rateOfStep {v : xw_V} {G : xw_G} {s b : Nat} {S : sl_T} {B : bk_T} {n : Nat} {p : Nat → Nat} (hS : G s = pc_S v s b S) (hB : G b = pc_B v b B) (hsb : s ≠ b) (hio : sl_io S = nI n) (hn30 : n ≤ 30) (hod : pls n (sl_od S) p) (hp : inj n p) (x : Int32) : xk_Con v yX4_rateOfStep cX4_rateOfStep 6 (some .int) 0 0 [.ref (xw_ad v s 0), .int x] G (xk_ret (some (.int (rsV (bk_ra B) (sl_ad S) p x n))) G) := by
  refine xk_of (ls0 := [some (.ref (xw_ad v s 0)), some (.int x), none, none, none, none]) (by decide) rfl (Nat.le_of_ble_eq_true rfl) ?_
  intro κ z hk hz
  refine xj_iconst (x := 0) hk dX4_rateOfStep_0 (by decide) ?_
  refine xj_istore_n (i := 2) (ls2 := [some (.ref (xw_ad v s 0)), some (.int x), some (.int 0), none, none, none]) hk dX4_rateOfStep_1 rfl (by decide) rfl rfl ?_
  refine xj_iconst (x := (-1)) hk dX4_rateOfStep_2 (by decide) ?_
  refine xj_istore_n (i := 3) (ls2 := [some (.ref (xw_ad v s 0)), some (.int x), some (.int 0), some (.int ((-1))), none, none]) hk dX4_rateOfStep_3 rfl (by decide) rfl rfl ?_
  refine xj_iconst (x := 0) hk dX4_rateOfStep_4 (by decide) ?_
  refine xj_istore (i := 4) (ls2 := [some (.ref (xw_ad v s 0)), some (.int x), some (.int 0), some (.int ((-1))), some (.int 0), none]) hk dX4_rateOfStep_5 (by decide) rfl rfl ?_
  refine l_X4_rateOfStep_7 hk hz hS hB hsb hio hn30 hod hp x (fun q9 => ?_) (fun k hk9 q9 => ?_) (n + 1) 0 (by omega) (by omega) rfl
  · refine xj_iconst (x := (-1)) hk dX4_rateOfStep_83 (by decide) ?_
    refine xj_ireturn hk hz dX4_rateOfStep_84 ?_
    exact ⟨by simp only [rsV]; rw [if_neg (by omega)], rfl⟩
  · refine xj_iload hk dX4_rateOfStep_68 rfl ?_
    refine xj_ireturn hk hz dX4_rateOfStep_70 ?_
    exact ⟨by simp only [rsV]; rw [if_pos (by omega), q9], rfl⟩


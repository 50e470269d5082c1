/-- the row that is being read -/
def nQ (te ho ow hs ra lo : Nat → Int32) (bi : Int32) (g : Nat → Int32) : Nat → Int32 := cpN 139 (nR te ho ow hs ra lo bi (fun _ => 0) (fun _ => 0) (fun _ => 0) 0) g
theorem nQ_r {R g : Nat → Int32} {k : Nat} (h : k < 139) : cpN 139 R g k = R k := if_pos h
theorem nQ_w {R g : Nat → Int32} {k : Nat} {x : Int32} (h : k < 139) : xu (cpN 139 R g) k x = cpN 139 (xu R k x) g := by
  funext j
  by_cases q : j = k
  · subst q; simp only [cpN, if_pos h, xu_s]
  · simp only [cpN, xu_n q]
theorem rQ_te {te ho ow hs ra lo g : Nat → Int32} {bi : Int32} {k : Nat} (h : k < 7) : nQ te ho ow hs ra lo bi g (k) = te k := (nQ_r (by omega)).trans (rR_te h)
theorem wQ_te {te ho ow hs ra lo g : Nat → Int32} {bi : Int32} {k : Nat} {x : Int32} (h : k < 7) : xu (nQ te ho ow hs ra lo bi g) (k) x = nQ (xu te k x) ho ow hs ra lo bi g := by
  show xu (cpN 139 _ g) _ x = cpN 139 _ g
  rw [nQ_w (by omega), wR_te h]
theorem rQ_ho {te ho ow hs ra lo g : Nat → Int32} {bi : Int32} {k : Nat} (h : k < 8) : nQ te ho ow hs ra lo bi g (7 + k) = ho k := (nQ_r (by omega)).trans (rR_ho h)
theorem wQ_ho {te ho ow hs ra lo g : Nat → Int32} {bi : Int32} {k : Nat} {x : Int32} (h : k < 8) : xu (nQ te ho ow hs ra lo bi g) (7 + k) x = nQ te (xu ho k x) ow hs ra lo bi g := by
  show xu (cpN 139 _ g) _ x = cpN 139 _ g
  rw [nQ_w (by omega), wR_ho h]
theorem rQ_ow {te ho ow hs ra lo g : Nat → Int32} {bi : Int32} {k : Nat} (h : k < 8) : nQ te ho ow hs ra lo bi g (15 + k) = ow k := (nQ_r (by omega)).trans (rR_ow h)
theorem wQ_ow {te ho ow hs ra lo g : Nat → Int32} {bi : Int32} {k : Nat} {x : Int32} (h : k < 8) : xu (nQ te ho ow hs ra lo bi g) (15 + k) x = nQ te ho (xu ow k x) hs ra lo bi g := by
  show xu (cpN 139 _ g) _ x = cpN 139 _ g
  rw [nQ_w (by omega), wR_ow h]
theorem rQ_hs {te ho ow hs ra lo g : Nat → Int32} {bi : Int32} {k : Nat} (h : k < 30) : nQ te ho ow hs ra lo bi g (24 + 3 * k) = hs k := (nQ_r (by omega)).trans (rR_hs h)
theorem wQ_hs {te ho ow hs ra lo g : Nat → Int32} {bi : Int32} {k : Nat} {x : Int32} (h : k < 30) : xu (nQ te ho ow hs ra lo bi g) (24 + 3 * k) x = nQ te ho ow (xu hs k x) ra lo bi g := by
  show xu (cpN 139 _ g) _ x = cpN 139 _ g
  rw [nQ_w (by omega), wR_hs h]
theorem rQ_ra {te ho ow hs ra lo g : Nat → Int32} {bi : Int32} {k : Nat} (h : k < 30) : nQ te ho ow hs ra lo bi g (24 + 3 * k + 1) = ra k := (nQ_r (by omega)).trans (rR_ra h)
theorem wQ_ra {te ho ow hs ra lo g : Nat → Int32} {bi : Int32} {k : Nat} {x : Int32} (h : k < 30) : xu (nQ te ho ow hs ra lo bi g) (24 + 3 * k + 1) x = nQ te ho ow hs (xu ra k x) lo bi g := by
  show xu (cpN 139 _ g) _ x = cpN 139 _ g
  rw [nQ_w (by omega), wR_ra h]
theorem rQ_lo {te ho ow hs ra lo g : Nat → Int32} {bi : Int32} {k : Nat} (h : k < 30) : nQ te ho ow hs ra lo bi g (24 + 3 * k + 2) = lo k := (nQ_r (by omega)).trans (rR_lo h)
theorem wQ_lo {te ho ow hs ra lo g : Nat → Int32} {bi : Int32} {k : Nat} {x : Int32} (h : k < 30) : xu (nQ te ho ow hs ra lo bi g) (24 + 3 * k + 2) x = nQ te ho ow hs ra (xu lo k x) bi g := by
  show xu (cpN 139 _ g) _ x = cpN 139 _ g
  rw [nQ_w (by omega), wR_lo h]
theorem rQ_bi {te ho ow hs ra lo g : Nat → Int32} {bi : Int32} : nQ te ho ow hs ra lo bi g 23 = bi := (nQ_r (by omega)).trans rR_bi
theorem wQ_bi {te ho ow hs ra lo g : Nat → Int32} {bi : Int32} {x : Int32} : xu (nQ te ho ow hs ra lo bi g) 23 x = nQ te ho ow hs ra lo x g := by
  show xu (cpN 139 _ g) _ x = cpN 139 _ g
  rw [nQ_w (by omega), wR_bi]
set_option maxHeartbeats 1000000 in
set_option maxRecDepth 10000 in
theorem c_house {v : xw_V} {G : xw_G} {M : md_T} {l : Nat} {p : Nat} {fa sq tk bg nu wr : Int32} (hM : G 21 = pM v (md_th M) (md_no M) (md_pt M) (md_re M) (md_sd M) (md_be M) (md_pb M) (md_ac M) (md_od M) (md_ad M) (md_wy M) (md_so M) (md_rl M) (md_io M) (md_po M) (md_sp M) (md_rs M) (md_st M) (md_av M) (md_ip M) (md_tx M) (md_tm M) (md_ta M) (md_td M) (md_wo M) sq tk bg nu wr) (htd : md_td M = nI l) (hl7 : l ≤ 700) (hL : LXs (md_ta M) l p fa sq tk bg nu wr) (hp : p ≤ l) (hby : okBy (md_ta M) l) : xk_Con v yX8_needsHouse cX8_needsHouse 1 (some .int) 3 69 [.ref (xw_ad v 21 0)] G (fun r9 G' => r9 = some (.int (if fa = -1 then nuV (md_ta M) l p 0 7 else 0)) ∧ ∃ sq1 tk1 bg1 nu1 wr1 : Int32, LXs (md_ta M) l ((nuE (md_ta M) l p)) ((nuF (md_ta M) l p 0 7 fa)) sq1 tk1 bg1 nu1 wr1 ∧ G' = xw_up G 21 (pM v (md_th M) (md_no M) (md_pt M) (md_re M) (md_sd M) (md_be M) (md_pb M) (md_ac M) (md_od M) (md_ad M) (md_wy M) (md_so M) (md_rl M) (md_io M) (md_po M) (md_sp M) (md_rs M) (md_st M) (md_av M) (md_ip M) (md_tx M) (md_tm M) (md_ta M) (md_td M) (md_wo M) sq1 tk1 bg1 nu1 wr1)) := by
  refine xk_of (ls0 := [some (.ref (xw_ad v 21 0))]) (by decide) rfl (Nat.le_of_ble_eq_true rfl) ?_
  intro κ z hk hz
  refine xj_aload_n (i := 0) hk dX8_needsHouse_0 rfl rfl ?_
  refine xj_iconst (x := 0) hk dX8_needsHouse_1 (by decide) ?_
  refine xj_bipush (x := 7) hk dX8_needsHouse_2 (by decide) ?_
  refine xj_callVE hk hz (fr1 := 2) (lo1 := 46) (As := [.int 0, .int 7]) (st := []) ml_X8_280 (c_num (M := (md_th M, md_no M, md_pt M, md_re M, md_sd M, md_be M, md_pb M, md_ac M, md_od M, md_ad M, md_wy M, md_so M, md_rl M, md_io M, md_po M, md_sp M, md_rs M, md_st M, md_av M, md_ip M, md_tx M, md_tm M, md_ta M, md_td M, md_wo M, sq, tk, bg, nu, wr)) (p := p) (fa := fa) (show G 21 = pM v (md_th M) (md_no M) (md_pt M) (md_re M) (md_sd M) (md_be M) (md_pb M) (md_ac M) (md_od M) (md_ad M) (md_wy M) (md_so M) (md_rl M) (md_io M) (md_po M) (md_sp M) (md_rs M) (md_st M) (md_av M) (md_ip M) (md_tx M) (md_tm M) (md_ta M) (md_td M) (md_wo M) sq tk bg nu wr from hM) htd hl7 hL hp hby 0 7) (xw_at hM rfl) rfl dX8_needsHouse_4 ⟨Nat.le_of_ble_eq_true rfl, Nat.le_of_ble_eq_true rfl⟩ rfl (Nat.le_of_ble_eq_true rfl) rfl ?_
  rintro _ _ ⟨rfl, sq1, tk1, bg1, nu1, wr1, hL1, rfl⟩
  have hL1 : LXs (md_ta M) l (nuE (md_ta M) l p) (nuF (md_ta M) l p 0 7 fa) sq1 tk1 bg1 nu1 wr1 := hL1
  have hp1 := (nu_l (f := md_ta M) (l := l) (p := p) hp)
  show xj v κ _ z (xw_up G 21 (pM v (md_th M) (md_no M) (md_pt M) (md_re M) (md_sd M) (md_be M) (md_pb M) (md_ac M) (md_od M) (md_ad M) (md_wy M) (md_so M) (md_rl M) (md_io M) (md_po M) (md_sp M) (md_rs M) (md_st M) (md_av M) (md_ip M) (md_tx M) (md_tm M) (md_ta M) (md_td M) (md_wo M) sq1 tk1 bg1 nu1 wr1)) 7 _ [.int ((if fa = -1 then nuV (md_ta M) l p 0 7 else 0))]
  refine xj_ireturn hk hz dX8_needsHouse_7 ?_
  exact ⟨rfl, _, _, _, _, _, hL1, rfl⟩

theorem nuF_m1 {f : Nat → Int32} {l p : Nat} {lo hi fa : Int32} (hp : p ≤ l) (hl : l ≤ 700) (h : nuF f l p lo hi fa = -1) : fa = -1 := by
  have := (sbk_le (f := f) hp).2
  simp only [nuF, ffa] at h
  by_cases c : okN f (sbk f l p) (nuE f l p) lo hi = true
  · rw [if_pos c] at h; exact h
  · rw [if_neg c] at h
    by_cases d : fa = -1
    · exact d
    · rw [if_neg d] at h; exact h
theorem exF_m1 {f : Nat → Int32} {l p : Nat} {L : List Int32} {fa : Int32} (h : exF f l p L fa = -1) : fa = -1 := by
  simp only [exF, ffa] at h
  by_cases c : wIs f (sbk f l p) (wdE f l p) L = true
  · rw [if_pos c] at h; exact h
  · rw [if_neg c] at h
    by_cases d : fa = -1
    · exact d
    · rw [if_neg d] at h; exact h
set_option maxHeartbeats 1000000 in
set_option maxRecDepth 10000 in
theorem c_bidR {v : xw_V} {G : xw_G} {M : md_T} {l : Nat} {te ho ow hs ra lo g : Nat → Int32} {n p : Nat} {sq tk bg nu wr : Int32} (hM : G 21 = pM v (md_th M) (md_no M) (md_pt M) (nQ te ho ow hs ra lo (nI n) g) (md_sd M) (md_be M) (md_pb M) (md_ac M) (md_od M) (md_ad M) (md_wy M) (md_so M) (md_rl M) (md_io M) (md_po M) (md_sp M) (md_rs M) (md_st M) (md_av M) (md_ip M) (md_tx M) (md_tm M) (md_ta M) (md_td M) (md_wo M) sq tk bg nu wr) (htd : md_td M = nI l) (hl7 : l ≤ 700) (hwo : okW (md_wo M)) (hL : LXs (md_ta M) l p ((-1)) sq tk bg nu wr) (hp : p ≤ l) (hby : okBy (md_ta M) l) (hn30 : n ≤ 30) (x : Int32) : xk_Con v yX8_readsBid cX8_readsBid 4 none 4 90 [.ref (xw_ad v 21 0), .int 0, .int x] G (fun r9 G' => (n = 30 ∧ r9 = none ∧ G' = xw_up G 21 (pM v (md_th M) (md_no M) (md_pt M) (nQ te ho ow hs ra lo (nI n) g) (md_sd M) (md_be M) (md_pb M) (md_ac M) (md_od M) (md_ad M) (md_wy M) (md_so M) (md_rl M) (md_io M) (md_po M) (md_sp M) (md_rs M) (md_st M) (md_av M) (md_ip M) (md_tx M) (md_tm M) (md_ta M) (md_td M) (md_wo M) sq tk x nu 1)) ∨ (n < 30 ∧ r9 = none ∧ ∃ sq1 tk1 bg1 nu1 wr1 R L : Int32, LXs (md_ta M) l ((nuE (md_ta M) l (bE3 (md_ta M) l p true))) ((bFa (md_ta M) l p true (-1))) sq1 tk1 bg1 nu1 wr1 ∧ (bFa (md_ta M) l p true (-1) = -1 → R = bR (md_ta M) l p true ∧ L = bL (md_ta M) l p true) ∧ G' = xw_up G 21 (pM v (md_th M) (md_no M) (md_pt M) (nQ te ho ow (xu hs n (nuV (md_ta M) l p 0 7)) (xu ra n R) (xu lo n L) (nI (n + 1)) g) (md_sd M) (md_be M) (md_pb M) (md_ac M) (md_od M) (md_ad M) (md_wy M) (md_so M) (md_rl M) (md_io M) (md_po M) (md_sp M) (md_rs M) (md_st M) (md_av M) (md_ip M) (md_tx M) (md_tm M) (md_ta M) (md_td M) (md_wo M) sq1 tk1 bg1 nu1 wr1))) := by
  refine xk_of (ls0 := [some (.ref (xw_ad v 21 0)), some (.int 0), some (.int x), none]) (by decide) rfl (Nat.le_of_ble_eq_true rfl) ?_
  intro κ z hk hz
  refine xj_aload_n (i := 0) hk dX8_readsBid_0 rfl rfl ?_
  refine xj_getfield hk dX8_readsBid_1 fl_X8_21 (xw_at hM rfl) rfl ?_
  refine xj_bipush (x := 23) hk dX8_readsBid_4 (by decide) ?_
  refine xj_iaload (k := 23) hk dX8_readsBid_6 (xw_at hM rfl) (xi_d 23 139 (by decide)) ?_
  refine xj.eqi (x' := nI n) rQ_bi ?_
  refine xj_bipush (x := 30) hk dX8_readsBid_7 (by decide) ?_
  refine xj_icmp_ne (tgt := 23) hk dX8_readsBid_9 (by decide) (fun c9 => ?_) (fun c9 => ?_)
  · have c9 : ¬ n = 30 := fun q => c9 ((nI_eq (a := n) (b := 30) (by omega) (by omega)).mpr q)
    refine xj_bipush (x := 24) hk dX8_readsBid_23 (by decide) ?_
    refine xj_iconst (x := 3) hk dX8_readsBid_25 (by decide) ?_
    refine xj_aload_n (i := 0) hk dX8_readsBid_26 rfl rfl ?_
    refine xj_getfield hk dX8_readsBid_27 fl_X8_21 (xw_at hM rfl) rfl ?_
    refine xj_bipush (x := 23) hk dX8_readsBid_30 (by decide) ?_
    refine xj_iaload (k := 23) hk dX8_readsBid_32 (xw_at hM rfl) (xi_d 23 139 (by decide)) ?_
    refine xj.eqi (x' := nI n) rQ_bi ?_
    refine xj_imul hk dX8_readsBid_33 ?_
    refine xj.eqi (x' := nI (3 * n)) (nI_mul 3 n) ?_
    refine xj_iadd hk dX8_readsBid_34 ?_
    refine xj.eqi (x' := nI (24 + 3 * n)) (nI_add 24 (3 * n)) ?_
    refine xj_istore_n (i := 3) (ls2 := [some (.ref (xw_ad v 21 0)), some (.int 0), some (.int x), some (.int (nI (24 + 3 * n)))]) hk dX8_readsBid_35 rfl (by decide) rfl rfl ?_
    refine xj_aload_n (i := 0) hk dX8_readsBid_36 rfl rfl ?_
    refine xj_getfield hk dX8_readsBid_37 fl_X8_21 (xw_at hM rfl) rfl ?_
    refine xj_iload_n (i := 3) hk dX8_readsBid_40 rfl rfl ?_
    refine xj_aload_n (i := 0) hk dX8_readsBid_41 rfl rfl ?_
    refine xj_callVE hk hz (fr1 := 3) (lo1 := 69) (As := []) (st := [.int (nI (24 + 3 * n)), .ref (xw_ad v 21 3)]) ml_X8_283 (c_house (M := (md_th M, md_no M, md_pt M, nQ te ho ow hs ra lo (nI n) g, md_sd M, md_be M, md_pb M, md_ac M, md_od M, md_ad M, md_wy M, md_so M, md_rl M, md_io M, md_po M, md_sp M, md_rs M, md_st M, md_av M, md_ip M, md_tx M, md_tm M, md_ta M, md_td M, md_wo M, sq, tk, bg, nu, wr)) (p := p) (fa := (-1)) (show G 21 = pM v (md_th M) (md_no M) (md_pt M) (nQ te ho ow hs ra lo (nI n) g) (md_sd M) (md_be M) (md_pb M) (md_ac M) (md_od M) (md_ad M) (md_wy M) (md_so M) (md_rl M) (md_io M) (md_po M) (md_sp M) (md_rs M) (md_st M) (md_av M) (md_ip M) (md_tx M) (md_tm M) (md_ta M) (md_td M) (md_wo M) sq tk bg nu wr from hM) htd hl7 hL hp hby ) (xw_at hM rfl) rfl dX8_readsBid_42 ⟨Nat.le_of_ble_eq_true rfl, Nat.le_of_ble_eq_true rfl⟩ rfl (Nat.le_of_ble_eq_true rfl) rfl ?_
    rintro _ _ ⟨rfl, sq1, tk1, bg1, nu1, wr1, hL1, rfl⟩
    have hL1 : LXs (md_ta M) l (nuE (md_ta M) l p) (nuF (md_ta M) l p 0 7 ((-1))) sq1 tk1 bg1 nu1 wr1 := hL1
    have hp1 := (nu_l (f := md_ta M) (l := l) (p := p) hp)
    refine xj.eqi (x' := nuV (md_ta M) l p 0 7) (if_pos rfl) ?_
    show xj v κ _ z (xw_up G 21 (pM v (md_th M) (md_no M) (md_pt M) (nQ te ho ow hs ra lo (nI n) g) (md_sd M) (md_be M) (md_pb M) (md_ac M) (md_od M) (md_ad M) (md_wy M) (md_so M) (md_rl M) (md_io M) (md_po M) (md_sp M) (md_rs M) (md_st M) (md_av M) (md_ip M) (md_tx M) (md_tm M) (md_ta M) (md_td M) (md_wo M) sq1 tk1 bg1 nu1 wr1)) 45 _ [.int (nuV (md_ta M) l p 0 7), .int (nI (24 + 3 * n)), .ref (xw_ad v 21 3)]
    refine xj_iastore (k := 24 + 3 * n) (G2 := xw_up G 21 (pM v (md_th M) (md_no M) (md_pt M) (xu (nQ te ho ow hs ra lo (nI n) g) (24 + 3 * n) (nuV (md_ta M) l p 0 7)) (md_sd M) (md_be M) (md_pb M) (md_ac M) (md_od M) (md_ad M) (md_wy M) (md_so M) (md_rl M) (md_io M) (md_po M) (md_sp M) (md_rs M) (md_st M) (md_av M) (md_ip M) (md_tx M) (md_tm M) (md_ta M) (md_td M) (md_wo M) sq1 tk1 bg1 nu1 wr1)) hk dX8_readsBid_45 (xw_at xw_up_s rfl) (xi_n (by omega) (by decide)) (xw_wr2 rfl) ?_
    refine xj.eqG (G' := xw_up G 21 (pM v (md_th M) (md_no M) (md_pt M) (nQ te ho ow (xu hs n (nuV (md_ta M) l p 0 7)) ra lo (nI n) g) (md_sd M) (md_be M) (md_pb M) (md_ac M) (md_od M) (md_ad M) (md_wy M) (md_so M) (md_rl M) (md_io M) (md_po M) (md_sp M) (md_rs M) (md_st M) (md_av M) (md_ip M) (md_tx M) (md_tm M) (md_ta M) (md_td M) (md_wo M) sq1 tk1 bg1 nu1 wr1)) (by rw [wQ_hs (k := n) (by omega)]) ?_
    refine xj_aload_n (i := 0) hk dX8_readsBid_46 rfl rfl ?_
    refine xj_getfield hk dX8_readsBid_47 fl_X8_21 (xw_at xw_up_s rfl) rfl ?_
    refine xj_iload_n (i := 3) hk dX8_readsBid_50 rfl rfl ?_
    refine xj_iconst (x := 1) hk dX8_readsBid_51 (by decide) ?_
    refine xj_iadd hk dX8_readsBid_52 ?_
    refine xj.eqi (x' := nI (24 + 3 * n + 1)) (nI_add (24 + 3 * n) 1) ?_
    refine xj_iload_n (i := 1) hk dX8_readsBid_53 rfl rfl ?_
    refine xj_if_eq (tgt := 61) hk dX8_readsBid_54 (by decide) (fun c54 => ?_) (fun c54 => False.elim (by revert c54; decide))
    refine xj_aload_n (i := 0) hk dX8_readsBid_61 rfl rfl ?_
    refine xj_iconst (x := 0) hk dX8_readsBid_62 (by decide) ?_
    refine xj_sipush (x := 999) hk dX8_readsBid_63 (by decide) ?_
    refine xj_callVE hk hz (fr1 := 2) (lo1 := 46) (As := [.int 0, .int 999]) (st := [.int (nI (24 + 3 * n + 1)), .ref (xw_ad v 21 3)]) ml_X8_280 (c_num (M := (md_th M, md_no M, md_pt M, nQ te ho ow (xu hs n (nuV (md_ta M) l p 0 7)) ra lo (nI n) g, md_sd M, md_be M, md_pb M, md_ac M, md_od M, md_ad M, md_wy M, md_so M, md_rl M, md_io M, md_po M, md_sp M, md_rs M, md_st M, md_av M, md_ip M, md_tx M, md_tm M, md_ta M, md_td M, md_wo M, sq1, tk1, bg1, nu1, wr1)) (p := nuE (md_ta M) l p) (fa := nuF (md_ta M) l p 0 7 ((-1))) (show (xw_up G 21 (pM v (md_th M) (md_no M) (md_pt M) (nQ te ho ow (xu hs n (nuV (md_ta M) l p 0 7)) ra lo (nI n) g) (md_sd M) (md_be M) (md_pb M) (md_ac M) (md_od M) (md_ad M) (md_wy M) (md_so M) (md_rl M) (md_io M) (md_po M) (md_sp M) (md_rs M) (md_st M) (md_av M) (md_ip M) (md_tx M) (md_tm M) (md_ta M) (md_td M) (md_wo M) sq1 tk1 bg1 nu1 wr1)) 21 = pM v (md_th M) (md_no M) (md_pt M) (nQ te ho ow (xu hs n (nuV (md_ta M) l p 0 7)) ra lo (nI n) g) (md_sd M) (md_be M) (md_pb M) (md_ac M) (md_od M) (md_ad M) (md_wy M) (md_so M) (md_rl M) (md_io M) (md_po M) (md_sp M) (md_rs M) (md_st M) (md_av M) (md_ip M) (md_tx M) (md_tm M) (md_ta M) (md_td M) (md_wo M) sq1 tk1 bg1 nu1 wr1 from xw_up_s) htd hl7 hL1 (by omega) hby 0 999) (xw_at xw_up_s rfl) rfl dX8_readsBid_66 ⟨Nat.le_of_ble_eq_true rfl, Nat.le_of_ble_eq_true rfl⟩ rfl (Nat.le_of_ble_eq_true rfl) rfl ?_
    rintro _ _ ⟨rfl, sq2, tk2, bg2, nu2, wr2, hL2, rfl⟩
    simp only [xw_up_u]
    have hL2 : LXs (md_ta M) l (nuE (md_ta M) l (nuE (md_ta M) l p)) (nuF (md_ta M) l (nuE (md_ta M) l p) 0 999 (nuF (md_ta M) l p 0 7 ((-1)))) sq2 tk2 bg2 nu2 wr2 := hL2
    have hp2 := (nu_l (f := md_ta M) (l := l) (p := nuE (md_ta M) l p) (by omega))
    show xj v κ _ z (xw_up G 21 (pM v (md_th M) (md_no M) (md_pt M) (nQ te ho ow (xu hs n (nuV (md_ta M) l p 0 7)) ra lo (nI n) g) (md_sd M) (md_be M) (md_pb M) (md_ac M) (md_od M) (md_ad M) (md_wy M) (md_so M) (md_rl M) (md_io M) (md_po M) (md_sp M) (md_rs M) (md_st M) (md_av M) (md_ip M) (md_tx M) (md_tm M) (md_ta M) (md_td M) (md_wo M) sq2 tk2 bg2 nu2 wr2)) 69 _ [.int ((if nuF (md_ta M) l p 0 7 ((-1)) = -1 then nuV (md_ta M) l (nuE (md_ta M) l p) 0 999 else 0)), .int (nI (24 + 3 * n + 1)), .ref (xw_ad v 21 3)]
    refine xj_iastore (k := 24 + 3 * n + 1) (G2 := xw_up G 21 (pM v (md_th M) (md_no M) (md_pt M) (xu (nQ te ho ow (xu hs n (nuV (md_ta M) l p 0 7)) ra lo (nI n) g) (24 + 3 * n + 1) ((if nuF (md_ta M) l p 0 7 ((-1)) = -1 then nuV (md_ta M) l (nuE (md_ta M) l p) 0 999 else 0))) (md_sd M) (md_be M) (md_pb M) (md_ac M) (md_od M) (md_ad M) (md_wy M) (md_so M) (md_rl M) (md_io M) (md_po M) (md_sp M) (md_rs M) (md_st M) (md_av M) (md_ip M) (md_tx M) (md_tm M) (md_ta M) (md_td M) (md_wo M) sq2 tk2 bg2 nu2 wr2)) hk dX8_readsBid_69 (xw_at xw_up_s rfl) (xi_n (by omega) (by decide)) (xw_wr2 rfl) ?_
    refine xj.eqG (G' := xw_up G 21 (pM v (md_th M) (md_no M) (md_pt M) (nQ te ho ow (xu hs n (nuV (md_ta M) l p 0 7)) (xu ra n ((if nuF (md_ta M) l p 0 7 ((-1)) = -1 then nuV (md_ta M) l (nuE (md_ta M) l p) 0 999 else 0))) lo (nI n) g) (md_sd M) (md_be M) (md_pb M) (md_ac M) (md_od M) (md_ad M) (md_wy M) (md_so M) (md_rl M) (md_io M) (md_po M) (md_sp M) (md_rs M) (md_st M) (md_av M) (md_ip M) (md_tx M) (md_tm M) (md_ta M) (md_td M) (md_wo M) sq2 tk2 bg2 nu2 wr2)) (by rw [wQ_ra (k := n) (by omega)]) ?_
    refine xj_aload_n (i := 0) hk dX8_readsBid_70 rfl rfl ?_
    refine xj_bipush (x := 11) hk dX8_readsBid_71 (by decide) ?_
    refine xj_callVE hk hz (fr1 := 3) (lo1 := 69) (As := [.int 11]) (st := []) ml_X8_286 (c_X8_needs (M := (md_th M, md_no M, md_pt M, nQ te ho ow (xu hs n (nuV (md_ta M) l p 0 7)) (xu ra n ((if nuF (md_ta M) l p 0 7 ((-1)) = -1 then nuV (md_ta M) l (nuE (md_ta M) l p) 0 999 else 0))) lo (nI n) g, md_sd M, md_be M, md_pb M, md_ac M, md_od M, md_ad M, md_wy M, md_so M, md_rl M, md_io M, md_po M, md_sp M, md_rs M, md_st M, md_av M, md_ip M, md_tx M, md_tm M, md_ta M, md_td M, md_wo M, sq2, tk2, bg2, nu2, wr2)) (p := nuE (md_ta M) l (nuE (md_ta M) l p)) (fa := nuF (md_ta M) l (nuE (md_ta M) l p) 0 999 (nuF (md_ta M) l p 0 7 ((-1)))) (w := 11) (show (xw_up G 21 (pM v (md_th M) (md_no M) (md_pt M) (nQ te ho ow (xu hs n (nuV (md_ta M) l p 0 7)) (xu ra n ((if nuF (md_ta M) l p 0 7 ((-1)) = -1 then nuV (md_ta M) l (nuE (md_ta M) l p) 0 999 else 0))) lo (nI n) g) (md_sd M) (md_be M) (md_pb M) (md_ac M) (md_od M) (md_ad M) (md_wy M) (md_so M) (md_rl M) (md_io M) (md_po M) (md_sp M) (md_rs M) (md_st M) (md_av M) (md_ip M) (md_tx M) (md_tm M) (md_ta M) (md_td M) (md_wo M) sq2 tk2 bg2 nu2 wr2)) 21 = pM v (md_th M) (md_no M) (md_pt M) (nQ te ho ow (xu hs n (nuV (md_ta M) l p 0 7)) (xu ra n ((if nuF (md_ta M) l p 0 7 ((-1)) = -1 then nuV (md_ta M) l (nuE (md_ta M) l p) 0 999 else 0))) lo (nI n) g) (md_sd M) (md_be M) (md_pb M) (md_ac M) (md_od M) (md_ad M) (md_wy M) (md_so M) (md_rl M) (md_io M) (md_po M) (md_sp M) (md_rs M) (md_st M) (md_av M) (md_ip M) (md_tx M) (md_tm M) (md_ta M) (md_td M) (md_wo M) sq2 tk2 bg2 nu2 wr2 from xw_up_s) htd hl7 hwo (by omega) hL2 (by omega) hby) (xw_at xw_up_s rfl) rfl dX8_readsBid_73 ⟨Nat.le_of_ble_eq_true rfl, Nat.le_of_ble_eq_true rfl⟩ rfl (Nat.le_of_ble_eq_true rfl) rfl ?_
    rintro _ _ ⟨rfl, sq3, tk3, bg3, nu3, wr3, hL3, rfl⟩
    simp only [xw_up_u]
    have hL3 : LXs (md_ta M) l (wdE (md_ta M) l (nuE (md_ta M) l (nuE (md_ta M) l p))) (exF (md_ta M) l (nuE (md_ta M) l (nuE (md_ta M) l p)) (wdS 11) (nuF (md_ta M) l (nuE (md_ta M) l p) 0 999 (nuF (md_ta M) l p 0 7 ((-1))))) sq3 tk3 bg3 nu3 wr3 := hL3
    have hp3 := (wd_l (f := md_ta M) (l := l) (p := nuE (md_ta M) l (nuE (md_ta M) l p)) (by omega))
    show xj v κ _ z (xw_up G 21 (pM v (md_th M) (md_no M) (md_pt M) (nQ te ho ow (xu hs n (nuV (md_ta M) l p 0 7)) (xu ra n ((if nuF (md_ta M) l p 0 7 ((-1)) = -1 then nuV (md_ta M) l (nuE (md_ta M) l p) 0 999 else 0))) lo (nI n) g) (md_sd M) (md_be M) (md_pb M) (md_ac M) (md_od M) (md_ad M) (md_wy M) (md_so M) (md_rl M) (md_io M) (md_po M) (md_sp M) (md_rs M) (md_st M) (md_av M) (md_ip M) (md_tx M) (md_tm M) (md_ta M) (md_td M) (md_wo M) sq3 tk3 bg3 nu3 wr3)) 76 _ []
    refine xj_aload_n (i := 0) hk dX8_readsBid_76 rfl rfl ?_
    refine xj_getfield hk dX8_readsBid_77 fl_X8_21 (xw_at xw_up_s rfl) rfl ?_
    refine xj_iload_n (i := 3) hk dX8_readsBid_80 rfl rfl ?_
    refine xj_iconst (x := 2) hk dX8_readsBid_81 (by decide) ?_
    refine xj_iadd hk dX8_readsBid_82 ?_
    refine xj.eqi (x' := nI (24 + 3 * n + 2)) (nI_add (24 + 3 * n) 2) ?_
    refine xj_aload_n (i := 0) hk dX8_readsBid_83 rfl rfl ?_
    refine xj_iconst (x := 1) hk dX8_readsBid_84 (by decide) ?_
    refine xj_sipush (x := 1000) hk dX8_readsBid_85 (by decide) ?_
    refine xj_callVE hk hz (fr1 := 2) (lo1 := 46) (As := [.int 1, .int 1000]) (st := [.int (nI (24 + 3 * n + 2)), .ref (xw_ad v 21 3)]) ml_X8_280 (c_num (M := (md_th M, md_no M, md_pt M, nQ te ho ow (xu hs n (nuV (md_ta M) l p 0 7)) (xu ra n ((if nuF (md_ta M) l p 0 7 ((-1)) = -1 then nuV (md_ta M) l (nuE (md_ta M) l p) 0 999 else 0))) lo (nI n) g, md_sd M, md_be M, md_pb M, md_ac M, md_od M, md_ad M, md_wy M, md_so M, md_rl M, md_io M, md_po M, md_sp M, md_rs M, md_st M, md_av M, md_ip M, md_tx M, md_tm M, md_ta M, md_td M, md_wo M, sq3, tk3, bg3, nu3, wr3)) (p := wdE (md_ta M) l (nuE (md_ta M) l (nuE (md_ta M) l p))) (fa := exF (md_ta M) l (nuE (md_ta M) l (nuE (md_ta M) l p)) (wdS 11) (nuF (md_ta M) l (nuE (md_ta M) l p) 0 999 (nuF (md_ta M) l p 0 7 ((-1))))) (show (xw_up G 21 (pM v (md_th M) (md_no M) (md_pt M) (nQ te ho ow (xu hs n (nuV (md_ta M) l p 0 7)) (xu ra n ((if nuF (md_ta M) l p 0 7 ((-1)) = -1 then nuV (md_ta M) l (nuE (md_ta M) l p) 0 999 else 0))) lo (nI n) g) (md_sd M) (md_be M) (md_pb M) (md_ac M) (md_od M) (md_ad M) (md_wy M) (md_so M) (md_rl M) (md_io M) (md_po M) (md_sp M) (md_rs M) (md_st M) (md_av M) (md_ip M) (md_tx M) (md_tm M) (md_ta M) (md_td M) (md_wo M) sq3 tk3 bg3 nu3 wr3)) 21 = pM v (md_th M) (md_no M) (md_pt M) (nQ te ho ow (xu hs n (nuV (md_ta M) l p 0 7)) (xu ra n ((if nuF (md_ta M) l p 0 7 ((-1)) = -1 then nuV (md_ta M) l (nuE (md_ta M) l p) 0 999 else 0))) lo (nI n) g) (md_sd M) (md_be M) (md_pb M) (md_ac M) (md_od M) (md_ad M) (md_wy M) (md_so M) (md_rl M) (md_io M) (md_po M) (md_sp M) (md_rs M) (md_st M) (md_av M) (md_ip M) (md_tx M) (md_tm M) (md_ta M) (md_td M) (md_wo M) sq3 tk3 bg3 nu3 wr3 from xw_up_s) htd hl7 hL3 (by omega) hby 1 1000) (xw_at xw_up_s rfl) rfl dX8_readsBid_88 ⟨Nat.le_of_ble_eq_true rfl, Nat.le_of_ble_eq_true rfl⟩ rfl (Nat.le_of_ble_eq_true rfl) rfl ?_
    rintro _ _ ⟨rfl, sq4, tk4, bg4, nu4, wr4, hL4, rfl⟩
    simp only [xw_up_u]
    have hL4 : LXs (md_ta M) l (nuE (md_ta M) l (wdE (md_ta M) l (nuE (md_ta M) l (nuE (md_ta M) l p)))) (nuF (md_ta M) l (wdE (md_ta M) l (nuE (md_ta M) l (nuE (md_ta M) l p))) 1 1000 (exF (md_ta M) l (nuE (md_ta M) l (nuE (md_ta M) l p)) (wdS 11) (nuF (md_ta M) l (nuE (md_ta M) l p) 0 999 (nuF (md_ta M) l p 0 7 ((-1)))))) sq4 tk4 bg4 nu4 wr4 := hL4
    have hp4 := (nu_l (f := md_ta M) (l := l) (p := wdE (md_ta M) l (nuE (md_ta M) l (nuE (md_ta M) l p))) (by omega))
    show xj v κ _ z (xw_up G 21 (pM v (md_th M) (md_no M) (md_pt M) (nQ te ho ow (xu hs n (nuV (md_ta M) l p 0 7)) (xu ra n ((if nuF (md_ta M) l p 0 7 ((-1)) = -1 then nuV (md_ta M) l (nuE (md_ta M) l p) 0 999 else 0))) lo (nI n) g) (md_sd M) (md_be M) (md_pb M) (md_ac M) (md_od M) (md_ad M) (md_wy M) (md_so M) (md_rl M) (md_io M) (md_po M) (md_sp M) (md_rs M) (md_st M) (md_av M) (md_ip M) (md_tx M) (md_tm M) (md_ta M) (md_td M) (md_wo M) sq4 tk4 bg4 nu4 wr4)) 91 _ [.int ((if exF (md_ta M) l (nuE (md_ta M) l (nuE (md_ta M) l p)) (wdS 11) (nuF (md_ta M) l (nuE (md_ta M) l p) 0 999 (nuF (md_ta M) l p 0 7 ((-1)))) = -1 then nuV (md_ta M) l (wdE (md_ta M) l (nuE (md_ta M) l (nuE (md_ta M) l p))) 1 1000 else 1)), .int (nI (24 + 3 * n + 2)), .ref (xw_ad v 21 3)]
    refine xj_iastore (k := 24 + 3 * n + 2) (G2 := xw_up G 21 (pM v (md_th M) (md_no M) (md_pt M) (xu (nQ te ho ow (xu hs n (nuV (md_ta M) l p 0 7)) (xu ra n ((if nuF (md_ta M) l p 0 7 ((-1)) = -1 then nuV (md_ta M) l (nuE (md_ta M) l p) 0 999 else 0))) lo (nI n) g) (24 + 3 * n + 2) ((if exF (md_ta M) l (nuE (md_ta M) l (nuE (md_ta M) l p)) (wdS 11) (nuF (md_ta M) l (nuE (md_ta M) l p) 0 999 (nuF (md_ta M) l p 0 7 ((-1)))) = -1 then nuV (md_ta M) l (wdE (md_ta M) l (nuE (md_ta M) l (nuE (md_ta M) l p))) 1 1000 else 1))) (md_sd M) (md_be M) (md_pb M) (md_ac M) (md_od M) (md_ad M) (md_wy M) (md_so M) (md_rl M) (md_io M) (md_po M) (md_sp M) (md_rs M) (md_st M) (md_av M) (md_ip M) (md_tx M) (md_tm M) (md_ta M) (md_td M) (md_wo M) sq4 tk4 bg4 nu4 wr4)) hk dX8_readsBid_91 (xw_at xw_up_s rfl) (xi_n (by omega) (by decide)) (xw_wr2 rfl) ?_
    refine xj.eqG (G' := xw_up G 21 (pM v (md_th M) (md_no M) (md_pt M) (nQ te ho ow (xu hs n (nuV (md_ta M) l p 0 7)) (xu ra n ((if nuF (md_ta M) l p 0 7 ((-1)) = -1 then nuV (md_ta M) l (nuE (md_ta M) l p) 0 999 else 0))) (xu lo n ((if exF (md_ta M) l (nuE (md_ta M) l (nuE (md_ta M) l p)) (wdS 11) (nuF (md_ta M) l (nuE (md_ta M) l p) 0 999 (nuF (md_ta M) l p 0 7 ((-1)))) = -1 then nuV (md_ta M) l (wdE (md_ta M) l (nuE (md_ta M) l (nuE (md_ta M) l p))) 1 1000 else 1))) (nI n) g) (md_sd M) (md_be M) (md_pb M) (md_ac M) (md_od M) (md_ad M) (md_wy M) (md_so M) (md_rl M) (md_io M) (md_po M) (md_sp M) (md_rs M) (md_st M) (md_av M) (md_ip M) (md_tx M) (md_tm M) (md_ta M) (md_td M) (md_wo M) sq4 tk4 bg4 nu4 wr4)) (by rw [wQ_lo (k := n) (by omega)]) ?_
    refine xj_aload_n (i := 0) hk dX8_readsBid_92 rfl rfl ?_
    refine xj_getfield hk dX8_readsBid_93 fl_X8_21 (xw_at xw_up_s rfl) rfl ?_
    refine xj_bipush (x := 23) hk dX8_readsBid_96 (by decide) ?_
    refine xj_dup2 hk dX8_readsBid_98 rfl rfl ?_
    refine xj_iaload (k := 23) hk dX8_readsBid_99 (xw_at xw_up_s rfl) (xi_d 23 139 (by decide)) ?_
    refine xj.eqi (x' := nI n) rQ_bi ?_
    refine xj_iconst (x := 1) hk dX8_readsBid_100 (by decide) ?_
    refine xj_iadd hk dX8_readsBid_101 ?_
    refine xj.eqi (x' := nI (n + 1)) (nI_add n 1) ?_
    refine xj_iastore (k := 23) (G2 := xw_up G 21 (pM v (md_th M) (md_no M) (md_pt M) (xu (nQ te ho ow (xu hs n (nuV (md_ta M) l p 0 7)) (xu ra n ((if nuF (md_ta M) l p 0 7 ((-1)) = -1 then nuV (md_ta M) l (nuE (md_ta M) l p) 0 999 else 0))) (xu lo n ((if exF (md_ta M) l (nuE (md_ta M) l (nuE (md_ta M) l p)) (wdS 11) (nuF (md_ta M) l (nuE (md_ta M) l p) 0 999 (nuF (md_ta M) l p 0 7 ((-1)))) = -1 then nuV (md_ta M) l (wdE (md_ta M) l (nuE (md_ta M) l (nuE (md_ta M) l p))) 1 1000 else 1))) (nI n) g) 23 (nI (n + 1))) (md_sd M) (md_be M) (md_pb M) (md_ac M) (md_od M) (md_ad M) (md_wy M) (md_so M) (md_rl M) (md_io M) (md_po M) (md_sp M) (md_rs M) (md_st M) (md_av M) (md_ip M) (md_tx M) (md_tm M) (md_ta M) (md_td M) (md_wo M) sq4 tk4 bg4 nu4 wr4)) hk dX8_readsBid_102 (xw_at xw_up_s rfl) (xi_d 23 139 (by decide)) (xw_wr2 rfl) ?_
    refine xj.eqG (G' := xw_up G 21 (pM v (md_th M) (md_no M) (md_pt M) (nQ te ho ow (xu hs n (nuV (md_ta M) l p 0 7)) (xu ra n ((if nuF (md_ta M) l p 0 7 ((-1)) = -1 then nuV (md_ta M) l (nuE (md_ta M) l p) 0 999 else 0))) (xu lo n ((if exF (md_ta M) l (nuE (md_ta M) l (nuE (md_ta M) l p)) (wdS 11) (nuF (md_ta M) l (nuE (md_ta M) l p) 0 999 (nuF (md_ta M) l p 0 7 ((-1)))) = -1 then nuV (md_ta M) l (wdE (md_ta M) l (nuE (md_ta M) l (nuE (md_ta M) l p))) 1 1000 else 1))) (nI (n + 1)) g) (md_sd M) (md_be M) (md_pb M) (md_ac M) (md_od M) (md_ad M) (md_wy M) (md_so M) (md_rl M) (md_io M) (md_po M) (md_sp M) (md_rs M) (md_st M) (md_av M) (md_ip M) (md_tx M) (md_tm M) (md_ta M) (md_td M) (md_wo M) sq4 tk4 bg4 nu4 wr4)) (by rw [wQ_bi]) ?_
    refine xj_return hk hz dX8_readsBid_103 ?_
    refine Or.inr ⟨by omega, rfl, _, _, _, _, _, ((if nuF (md_ta M) l p 0 7 ((-1)) = -1 then nuV (md_ta M) l (nuE (md_ta M) l p) 0 999 else 0)), ((if exF (md_ta M) l (nuE (md_ta M) l (nuE (md_ta M) l p)) (wdS 11) (nuF (md_ta M) l (nuE (md_ta M) l p) 0 999 (nuF (md_ta M) l p 0 7 ((-1)))) = -1 then nuV (md_ta M) l (wdE (md_ta M) l (nuE (md_ta M) l (nuE (md_ta M) l p))) 1 1000 else 1)), hL4, ?_, rfl⟩
    intro h9
    have h9 : nuF (md_ta M) l (wdE (md_ta M) l (nuE (md_ta M) l (nuE (md_ta M) l p))) 1 1000 (exF (md_ta M) l (nuE (md_ta M) l (nuE (md_ta M) l p)) (wdS 11) (nuF (md_ta M) l (nuE (md_ta M) l p) 0 999 (nuF (md_ta M) l p 0 7 ((-1))))) = -1 := h9
    have h8 := nuF_m1 (by omega) hl7 h9
    have h7 := exF_m1 h8
    have h6 := nuF_m1 (by omega) hl7 h7
    refine ⟨?_, ?_⟩
    · show (if _ then _ else _) = _; rw [if_pos h6]; rfl
    · show (if _ then _ else _) = _; rw [if_pos h8]; rfl
  · have c9 : n = 30 := (nI_eq (a := n) (b := 30) (by omega) (by omega)).mp c9
    refine xj_aload_n (i := 0) hk dX8_readsBid_12 rfl rfl ?_
    refine xj_iload_n (i := 2) hk dX8_readsBid_13 rfl rfl ?_
    refine xj_putfield (G2 := xw_up G 21 (pM v (md_th M) (md_no M) (md_pt M) (nQ te ho ow hs ra lo (nI n) g) (md_sd M) (md_be M) (md_pb M) (md_ac M) (md_od M) (md_ad M) (md_wy M) (md_so M) (md_rl M) (md_io M) (md_po M) (md_sp M) (md_rs M) (md_st M) (md_av M) (md_ip M) (md_tx M) (md_tm M) (md_ta M) (md_td M) (md_wo M) sq tk x nu wr)) hk dX8_readsBid_14 fl_X8_265 rfl rfl (xw_at hM rfl) (Nat.le_of_ble_eq_true rfl) (xw_wr hM rfl) ?_
    refine xj_aload_n (i := 0) hk dX8_readsBid_17 rfl rfl ?_
    refine xj_iconst (x := 1) hk dX8_readsBid_18 (by decide) ?_
    refine xj_putfield (G2 := xw_up G 21 (pM v (md_th M) (md_no M) (md_pt M) (nQ te ho ow hs ra lo (nI n) g) (md_sd M) (md_be M) (md_pb M) (md_ac M) (md_od M) (md_ad M) (md_wy M) (md_so M) (md_rl M) (md_io M) (md_po M) (md_sp M) (md_rs M) (md_st M) (md_av M) (md_ip M) (md_tx M) (md_tm M) (md_ta M) (md_td M) (md_wo M) sq tk x nu 1)) hk dX8_readsBid_19 fl_X8_271 (by decide) (by decide) (xw_at xw_up_s rfl) (Nat.le_of_ble_eq_true rfl) (xw_wr2 rfl) ?_
    refine xj_return hk hz dX8_readsBid_22 ?_
    exact Or.inl ⟨c9, rfl, rfl⟩

set_option maxHeartbeats 1000000 in
set_option maxRecDepth 10000 in
theorem c_bidP {v : xw_V} {G : xw_G} {M : md_T} {l : Nat} {te ho ow hs ra lo g : Nat → Int32} {n p : Nat} {sq tk bg nu wr : Int32} (hM : G 21 = pM v (md_th M) (md_no M) (md_pt M) (nQ te ho ow hs ra lo (nI n) g) (md_sd M) (md_be M) (md_pb M) (md_ac M) (md_od M) (md_ad M) (md_wy M) (md_so M) (md_rl M) (md_io M) (md_po M) (md_sp M) (md_rs M) (md_st M) (md_av M) (md_ip M) (md_tx M) (md_tm M) (md_ta M) (md_td M) (md_wo M) sq tk bg nu wr) (htd : md_td M = nI l) (hl7 : l ≤ 700) (hwo : okW (md_wo M)) (hL : LXs (md_ta M) l p ((-1)) sq tk bg nu wr) (hp : p ≤ l) (hby : okBy (md_ta M) l) (hn30 : n ≤ 30) (x : Int32) : xk_Con v yX8_readsBid cX8_readsBid 4 none 4 90 [.ref (xw_ad v 21 0), .int 1, .int x] G (fun r9 G' => (n = 30 ∧ r9 = none ∧ G' = xw_up G 21 (pM v (md_th M) (md_no M) (md_pt M) (nQ te ho ow hs ra lo (nI n) g) (md_sd M) (md_be M) (md_pb M) (md_ac M) (md_od M) (md_ad M) (md_wy M) (md_so M) (md_rl M) (md_io M) (md_po M) (md_sp M) (md_rs M) (md_st M) (md_av M) (md_ip M) (md_tx M) (md_tm M) (md_ta M) (md_td M) (md_wo M) sq tk x nu 1)) ∨ (n < 30 ∧ r9 = none ∧ ∃ sq1 tk1 bg1 nu1 wr1 R L : Int32, LXs (md_ta M) l ((nuE (md_ta M) l (bE3 (md_ta M) l p false))) ((bFa (md_ta M) l p false (-1))) sq1 tk1 bg1 nu1 wr1 ∧ (bFa (md_ta M) l p false (-1) = -1 → R = bR (md_ta M) l p false ∧ L = bL (md_ta M) l p false) ∧ G' = xw_up G 21 (pM v (md_th M) (md_no M) (md_pt M) (nQ te ho ow (xu hs n (nuV (md_ta M) l p 0 7)) (xu ra n R) (xu lo n L) (nI (n + 1)) g) (md_sd M) (md_be M) (md_pb M) (md_ac M) (md_od M) (md_ad M) (md_wy M) (md_so M) (md_rl M) (md_io M) (md_po M) (md_sp M) (md_rs M) (md_st M) (md_av M) (md_ip M) (md_tx M) (md_tm M) (md_ta M) (md_td M) (md_wo M) sq1 tk1 bg1 nu1 wr1))) := by
  refine xk_of (ls0 := [some (.ref (xw_ad v 21 0)), some (.int 1), some (.int x), none]) (by decide) rfl (Nat.le_of_ble_eq_true rfl) ?_
  intro κ z hk hz
  refine xj_aload_n (i := 0) hk dX8_readsBid_0 rfl rfl ?_
  refine xj_getfield hk dX8_readsBid_1 fl_X8_21 (xw_at hM rfl) rfl ?_
  refine xj_bipush (x := 23) hk dX8_readsBid_4 (by decide) ?_
  refine xj_iaload (k := 23) hk dX8_readsBid_6 (xw_at hM rfl) (xi_d 23 139 (by decide)) ?_
  refine xj.eqi (x' := nI n) rQ_bi ?_
  refine xj_bipush (x := 30) hk dX8_readsBid_7 (by decide) ?_
  refine xj_icmp_ne (tgt := 23) hk dX8_readsBid_9 (by decide) (fun c9 => ?_) (fun c9 => ?_)
  · have c9 : ¬ n = 30 := fun q => c9 ((nI_eq (a := n) (b := 30) (by omega) (by omega)).mpr q)
    refine xj_bipush (x := 24) hk dX8_readsBid_23 (by decide) ?_
    refine xj_iconst (x := 3) hk dX8_readsBid_25 (by decide) ?_
    refine xj_aload_n (i := 0) hk dX8_readsBid_26 rfl rfl ?_
    refine xj_getfield hk dX8_readsBid_27 fl_X8_21 (xw_at hM rfl) rfl ?_
    refine xj_bipush (x := 23) hk dX8_readsBid_30 (by decide) ?_
    refine xj_iaload (k := 23) hk dX8_readsBid_32 (xw_at hM rfl) (xi_d 23 139 (by decide)) ?_
    refine xj.eqi (x' := nI n) rQ_bi ?_
    refine xj_imul hk dX8_readsBid_33 ?_
    refine xj.eqi (x' := nI (3 * n)) (nI_mul 3 n) ?_
    refine xj_iadd hk dX8_readsBid_34 ?_
    refine xj.eqi (x' := nI (24 + 3 * n)) (nI_add 24 (3 * n)) ?_
    refine xj_istore_n (i := 3) (ls2 := [some (.ref (xw_ad v 21 0)), some (.int 1), some (.int x), some (.int (nI (24 + 3 * n)))]) hk dX8_readsBid_35 rfl (by decide) rfl rfl ?_
    refine xj_aload_n (i := 0) hk dX8_readsBid_36 rfl rfl ?_
    refine xj_getfield hk dX8_readsBid_37 fl_X8_21 (xw_at hM rfl) rfl ?_
    refine xj_iload_n (i := 3) hk dX8_readsBid_40 rfl rfl ?_
    refine xj_aload_n (i := 0) hk dX8_readsBid_41 rfl rfl ?_
    refine xj_callVE hk hz (fr1 := 3) (lo1 := 69) (As := []) (st := [.int (nI (24 + 3 * n)), .ref (xw_ad v 21 3)]) ml_X8_283 (c_house (M := (md_th M, md_no M, md_pt M, nQ te ho ow hs ra lo (nI n) g, md_sd M, md_be M, md_pb M, md_ac M, md_od M, md_ad M, md_wy M, md_so M, md_rl M, md_io M, md_po M, md_sp M, md_rs M, md_st M, md_av M, md_ip M, md_tx M, md_tm M, md_ta M, md_td M, md_wo M, sq, tk, bg, nu, wr)) (p := p) (fa := (-1)) (show G 21 = pM v (md_th M) (md_no M) (md_pt M) (nQ te ho ow hs ra lo (nI n) g) (md_sd M) (md_be M) (md_pb M) (md_ac M) (md_od M) (md_ad M) (md_wy M) (md_so M) (md_rl M) (md_io M) (md_po M) (md_sp M) (md_rs M) (md_st M) (md_av M) (md_ip M) (md_tx M) (md_tm M) (md_ta M) (md_td M) (md_wo M) sq tk bg nu wr from hM) htd hl7 hL hp hby ) (xw_at hM rfl) rfl dX8_readsBid_42 ⟨Nat.le_of_ble_eq_true rfl, Nat.le_of_ble_eq_true rfl⟩ rfl (Nat.le_of_ble_eq_true rfl) rfl ?_
    rintro _ _ ⟨rfl, sq1, tk1, bg1, nu1, wr1, hL1, rfl⟩
    have hL1 : LXs (md_ta M) l (nuE (md_ta M) l p) (nuF (md_ta M) l p 0 7 ((-1))) sq1 tk1 bg1 nu1 wr1 := hL1
    have hp1 := (nu_l (f := md_ta M) (l := l) (p := p) hp)
    refine xj.eqi (x' := nuV (md_ta M) l p 0 7) (if_pos rfl) ?_
    show xj v κ _ z (xw_up G 21 (pM v (md_th M) (md_no M) (md_pt M) (nQ te ho ow hs ra lo (nI n) g) (md_sd M) (md_be M) (md_pb M) (md_ac M) (md_od M) (md_ad M) (md_wy M) (md_so M) (md_rl M) (md_io M) (md_po M) (md_sp M) (md_rs M) (md_st M) (md_av M) (md_ip M) (md_tx M) (md_tm M) (md_ta M) (md_td M) (md_wo M) sq1 tk1 bg1 nu1 wr1)) 45 _ [.int (nuV (md_ta M) l p 0 7), .int (nI (24 + 3 * n)), .ref (xw_ad v 21 3)]
    refine xj_iastore (k := 24 + 3 * n) (G2 := xw_up G 21 (pM v (md_th M) (md_no M) (md_pt M) (xu (nQ te ho ow hs ra lo (nI n) g) (24 + 3 * n) (nuV (md_ta M) l p 0 7)) (md_sd M) (md_be M) (md_pb M) (md_ac M) (md_od M) (md_ad M) (md_wy M) (md_so M) (md_rl M) (md_io M) (md_po M) (md_sp M) (md_rs M) (md_st M) (md_av M) (md_ip M) (md_tx M) (md_tm M) (md_ta M) (md_td M) (md_wo M) sq1 tk1 bg1 nu1 wr1)) hk dX8_readsBid_45 (xw_at xw_up_s rfl) (xi_n (by omega) (by decide)) (xw_wr2 rfl) ?_
    refine xj.eqG (G' := xw_up G 21 (pM v (md_th M) (md_no M) (md_pt M) (nQ te ho ow (xu hs n (nuV (md_ta M) l p 0 7)) ra lo (nI n) g) (md_sd M) (md_be M) (md_pb M) (md_ac M) (md_od M) (md_ad M) (md_wy M) (md_so M) (md_rl M) (md_io M) (md_po M) (md_sp M) (md_rs M) (md_st M) (md_av M) (md_ip M) (md_tx M) (md_tm M) (md_ta M) (md_td M) (md_wo M) sq1 tk1 bg1 nu1 wr1)) (by rw [wQ_hs (k := n) (by omega)]) ?_
    refine xj_aload_n (i := 0) hk dX8_readsBid_46 rfl rfl ?_
    refine xj_getfield hk dX8_readsBid_47 fl_X8_21 (xw_at xw_up_s rfl) rfl ?_
    refine xj_iload_n (i := 3) hk dX8_readsBid_50 rfl rfl ?_
    refine xj_iconst (x := 1) hk dX8_readsBid_51 (by decide) ?_
    refine xj_iadd hk dX8_readsBid_52 ?_
    refine xj.eqi (x' := nI (24 + 3 * n + 1)) (nI_add (24 + 3 * n) 1) ?_
    refine xj_iload_n (i := 1) hk dX8_readsBid_53 rfl rfl ?_
    refine xj_if_eq (tgt := 61) hk dX8_readsBid_54 (by decide) (fun c54 => False.elim (by revert c54; decide)) (fun c54 => ?_)
    refine xj_iconst (x := (-1)) hk dX8_readsBid_57 (by decide) ?_
    refine xj_goto (tgt := 69) hk dX8_readsBid_58 (by decide) ?_
    refine xj_iastore (k := 24 + 3 * n + 1) (G2 := xw_up G 21 (pM v (md_th M) (md_no M) (md_pt M) (xu (nQ te ho ow (xu hs n (nuV (md_ta M) l p 0 7)) ra lo (nI n) g) (24 + 3 * n + 1) ((-1))) (md_sd M) (md_be M) (md_pb M) (md_ac M) (md_od M) (md_ad M) (md_wy M) (md_so M) (md_rl M) (md_io M) (md_po M) (md_sp M) (md_rs M) (md_st M) (md_av M) (md_ip M) (md_tx M) (md_tm M) (md_ta M) (md_td M) (md_wo M) sq1 tk1 bg1 nu1 wr1)) hk dX8_readsBid_69 (xw_at xw_up_s rfl) (xi_n (by omega) (by decide)) (xw_wr2 rfl) ?_
    refine xj.eqG (G' := xw_up G 21 (pM v (md_th M) (md_no M) (md_pt M) (nQ te ho ow (xu hs n (nuV (md_ta M) l p 0 7)) (xu ra n ((-1))) lo (nI n) g) (md_sd M) (md_be M) (md_pb M) (md_ac M) (md_od M) (md_ad M) (md_wy M) (md_so M) (md_rl M) (md_io M) (md_po M) (md_sp M) (md_rs M) (md_st M) (md_av M) (md_ip M) (md_tx M) (md_tm M) (md_ta M) (md_td M) (md_wo M) sq1 tk1 bg1 nu1 wr1)) (by rw [wQ_ra (k := n) (by omega)]) ?_
    refine xj_aload_n (i := 0) hk dX8_readsBid_70 rfl rfl ?_
    refine xj_bipush (x := 11) hk dX8_readsBid_71 (by decide) ?_
    refine xj_callVE hk hz (fr1 := 3) (lo1 := 69) (As := [.int 11]) (st := []) ml_X8_286 (c_X8_needs (M := (md_th M, md_no M, md_pt M, nQ te ho ow (xu hs n (nuV (md_ta M) l p 0 7)) (xu ra n ((-1))) lo (nI n) g, md_sd M, md_be M, md_pb M, md_ac M, md_od M, md_ad M, md_wy M, md_so M, md_rl M, md_io M, md_po M, md_sp M, md_rs M, md_st M, md_av M, md_ip M, md_tx M, md_tm M, md_ta M, md_td M, md_wo M, sq1, tk1, bg1, nu1, wr1)) (p := nuE (md_ta M) l p) (fa := nuF (md_ta M) l p 0 7 ((-1))) (w := 11) (show (xw_up G 21 (pM v (md_th M) (md_no M) (md_pt M) (nQ te ho ow (xu hs n (nuV (md_ta M) l p 0 7)) (xu ra n ((-1))) lo (nI n) g) (md_sd M) (md_be M) (md_pb M) (md_ac M) (md_od M) (md_ad M) (md_wy M) (md_so M) (md_rl M) (md_io M) (md_po M) (md_sp M) (md_rs M) (md_st M) (md_av M) (md_ip M) (md_tx M) (md_tm M) (md_ta M) (md_td M) (md_wo M) sq1 tk1 bg1 nu1 wr1)) 21 = pM v (md_th M) (md_no M) (md_pt M) (nQ te ho ow (xu hs n (nuV (md_ta M) l p 0 7)) (xu ra n ((-1))) lo (nI n) g) (md_sd M) (md_be M) (md_pb M) (md_ac M) (md_od M) (md_ad M) (md_wy M) (md_so M) (md_rl M) (md_io M) (md_po M) (md_sp M) (md_rs M) (md_st M) (md_av M) (md_ip M) (md_tx M) (md_tm M) (md_ta M) (md_td M) (md_wo M) sq1 tk1 bg1 nu1 wr1 from xw_up_s) htd hl7 hwo (by omega) hL1 (by omega) hby) (xw_at xw_up_s rfl) rfl dX8_readsBid_73 ⟨Nat.le_of_ble_eq_true rfl, Nat.le_of_ble_eq_true rfl⟩ rfl (Nat.le_of_ble_eq_true rfl) rfl ?_
    rintro _ _ ⟨rfl, sq2, tk2, bg2, nu2, wr2, hL2, rfl⟩
    simp only [xw_up_u]
    have hL2 : LXs (md_ta M) l (wdE (md_ta M) l (nuE (md_ta M) l p)) (exF (md_ta M) l (nuE (md_ta M) l p) (wdS 11) (nuF (md_ta M) l p 0 7 ((-1)))) sq2 tk2 bg2 nu2 wr2 := hL2
    have hp2 := (wd_l (f := md_ta M) (l := l) (p := nuE (md_ta M) l p) (by omega))
    show xj v κ _ z (xw_up G 21 (pM v (md_th M) (md_no M) (md_pt M) (nQ te ho ow (xu hs n (nuV (md_ta M) l p 0 7)) (xu ra n ((-1))) lo (nI n) g) (md_sd M) (md_be M) (md_pb M) (md_ac M) (md_od M) (md_ad M) (md_wy M) (md_so M) (md_rl M) (md_io M) (md_po M) (md_sp M) (md_rs M) (md_st M) (md_av M) (md_ip M) (md_tx M) (md_tm M) (md_ta M) (md_td M) (md_wo M) sq2 tk2 bg2 nu2 wr2)) 76 _ []
    refine xj_aload_n (i := 0) hk dX8_readsBid_76 rfl rfl ?_
    refine xj_getfield hk dX8_readsBid_77 fl_X8_21 (xw_at xw_up_s rfl) rfl ?_
    refine xj_iload_n (i := 3) hk dX8_readsBid_80 rfl rfl ?_
    refine xj_iconst (x := 2) hk dX8_readsBid_81 (by decide) ?_
    refine xj_iadd hk dX8_readsBid_82 ?_
    refine xj.eqi (x' := nI (24 + 3 * n + 2)) (nI_add (24 + 3 * n) 2) ?_
    refine xj_aload_n (i := 0) hk dX8_readsBid_83 rfl rfl ?_
    refine xj_iconst (x := 1) hk dX8_readsBid_84 (by decide) ?_
    refine xj_sipush (x := 1000) hk dX8_readsBid_85 (by decide) ?_
    refine xj_callVE hk hz (fr1 := 2) (lo1 := 46) (As := [.int 1, .int 1000]) (st := [.int (nI (24 + 3 * n + 2)), .ref (xw_ad v 21 3)]) ml_X8_280 (c_num (M := (md_th M, md_no M, md_pt M, nQ te ho ow (xu hs n (nuV (md_ta M) l p 0 7)) (xu ra n ((-1))) lo (nI n) g, md_sd M, md_be M, md_pb M, md_ac M, md_od M, md_ad M, md_wy M, md_so M, md_rl M, md_io M, md_po M, md_sp M, md_rs M, md_st M, md_av M, md_ip M, md_tx M, md_tm M, md_ta M, md_td M, md_wo M, sq2, tk2, bg2, nu2, wr2)) (p := wdE (md_ta M) l (nuE (md_ta M) l p)) (fa := exF (md_ta M) l (nuE (md_ta M) l p) (wdS 11) (nuF (md_ta M) l p 0 7 ((-1)))) (show (xw_up G 21 (pM v (md_th M) (md_no M) (md_pt M) (nQ te ho ow (xu hs n (nuV (md_ta M) l p 0 7)) (xu ra n ((-1))) lo (nI n) g) (md_sd M) (md_be M) (md_pb M) (md_ac M) (md_od M) (md_ad M) (md_wy M) (md_so M) (md_rl M) (md_io M) (md_po M) (md_sp M) (md_rs M) (md_st M) (md_av M) (md_ip M) (md_tx M) (md_tm M) (md_ta M) (md_td M) (md_wo M) sq2 tk2 bg2 nu2 wr2)) 21 = pM v (md_th M) (md_no M) (md_pt M) (nQ te ho ow (xu hs n (nuV (md_ta M) l p 0 7)) (xu ra n ((-1))) lo (nI n) g) (md_sd M) (md_be M) (md_pb M) (md_ac M) (md_od M) (md_ad M) (md_wy M) (md_so M) (md_rl M) (md_io M) (md_po M) (md_sp M) (md_rs M) (md_st M) (md_av M) (md_ip M) (md_tx M) (md_tm M) (md_ta M) (md_td M) (md_wo M) sq2 tk2 bg2 nu2 wr2 from xw_up_s) htd hl7 hL2 (by omega) hby 1 1000) (xw_at xw_up_s rfl) rfl dX8_readsBid_88 ⟨Nat.le_of_ble_eq_true rfl, Nat.le_of_ble_eq_true rfl⟩ rfl (Nat.le_of_ble_eq_true rfl) rfl ?_
    rintro _ _ ⟨rfl, sq3, tk3, bg3, nu3, wr3, hL3, rfl⟩
    simp only [xw_up_u]
    have hL3 : LXs (md_ta M) l (nuE (md_ta M) l (wdE (md_ta M) l (nuE (md_ta M) l p))) (nuF (md_ta M) l (wdE (md_ta M) l (nuE (md_ta M) l p)) 1 1000 (exF (md_ta M) l (nuE (md_ta M) l p) (wdS 11) (nuF (md_ta M) l p 0 7 ((-1))))) sq3 tk3 bg3 nu3 wr3 := hL3
    have hp3 := (nu_l (f := md_ta M) (l := l) (p := wdE (md_ta M) l (nuE (md_ta M) l p)) (by omega))
    show xj v κ _ z (xw_up G 21 (pM v (md_th M) (md_no M) (md_pt M) (nQ te ho ow (xu hs n (nuV (md_ta M) l p 0 7)) (xu ra n ((-1))) lo (nI n) g) (md_sd M) (md_be M) (md_pb M) (md_ac M) (md_od M) (md_ad M) (md_wy M) (md_so M) (md_rl M) (md_io M) (md_po M) (md_sp M) (md_rs M) (md_st M) (md_av M) (md_ip M) (md_tx M) (md_tm M) (md_ta M) (md_td M) (md_wo M) sq3 tk3 bg3 nu3 wr3)) 91 _ [.int ((if exF (md_ta M) l (nuE (md_ta M) l p) (wdS 11) (nuF (md_ta M) l p 0 7 ((-1))) = -1 then nuV (md_ta M) l (wdE (md_ta M) l (nuE (md_ta M) l p)) 1 1000 else 1)), .int (nI (24 + 3 * n + 2)), .ref (xw_ad v 21 3)]
    refine xj_iastore (k := 24 + 3 * n + 2) (G2 := xw_up G 21 (pM v (md_th M) (md_no M) (md_pt M) (xu (nQ te ho ow (xu hs n (nuV (md_ta M) l p 0 7)) (xu ra n ((-1))) lo (nI n) g) (24 + 3 * n + 2) ((if exF (md_ta M) l (nuE (md_ta M) l p) (wdS 11) (nuF (md_ta M) l p 0 7 ((-1))) = -1 then nuV (md_ta M) l (wdE (md_ta M) l (nuE (md_ta M) l p)) 1 1000 else 1))) (md_sd M) (md_be M) (md_pb M) (md_ac M) (md_od M) (md_ad M) (md_wy M) (md_so M) (md_rl M) (md_io M) (md_po M) (md_sp M) (md_rs M) (md_st M) (md_av M) (md_ip M) (md_tx M) (md_tm M) (md_ta M) (md_td M) (md_wo M) sq3 tk3 bg3 nu3 wr3)) hk dX8_readsBid_91 (xw_at xw_up_s rfl) (xi_n (by omega) (by decide)) (xw_wr2 rfl) ?_
    refine xj.eqG (G' := xw_up G 21 (pM v (md_th M) (md_no M) (md_pt M) (nQ te ho ow (xu hs n (nuV (md_ta M) l p 0 7)) (xu ra n ((-1))) (xu lo n ((if exF (md_ta M) l (nuE (md_ta M) l p) (wdS 11) (nuF (md_ta M) l p 0 7 ((-1))) = -1 then nuV (md_ta M) l (wdE (md_ta M) l (nuE (md_ta M) l p)) 1 1000 else 1))) (nI n) g) (md_sd M) (md_be M) (md_pb M) (md_ac M) (md_od M) (md_ad M) (md_wy M) (md_so M) (md_rl M) (md_io M) (md_po M) (md_sp M) (md_rs M) (md_st M) (md_av M) (md_ip M) (md_tx M) (md_tm M) (md_ta M) (md_td M) (md_wo M) sq3 tk3 bg3 nu3 wr3)) (by rw [wQ_lo (k := n) (by omega)]) ?_
    refine xj_aload_n (i := 0) hk dX8_readsBid_92 rfl rfl ?_
    refine xj_getfield hk dX8_readsBid_93 fl_X8_21 (xw_at xw_up_s rfl) rfl ?_
    refine xj_bipush (x := 23) hk dX8_readsBid_96 (by decide) ?_
    refine xj_dup2 hk dX8_readsBid_98 rfl rfl ?_
    refine xj_iaload (k := 23) hk dX8_readsBid_99 (xw_at xw_up_s rfl) (xi_d 23 139 (by decide)) ?_
    refine xj.eqi (x' := nI n) rQ_bi ?_
    refine xj_iconst (x := 1) hk dX8_readsBid_100 (by decide) ?_
    refine xj_iadd hk dX8_readsBid_101 ?_
    refine xj.eqi (x' := nI (n + 1)) (nI_add n 1) ?_
    refine xj_iastore (k := 23) (G2 := xw_up G 21 (pM v (md_th M) (md_no M) (md_pt M) (xu (nQ te ho ow (xu hs n (nuV (md_ta M) l p 0 7)) (xu ra n ((-1))) (xu lo n ((if exF (md_ta M) l (nuE (md_ta M) l p) (wdS 11) (nuF (md_ta M) l p 0 7 ((-1))) = -1 then nuV (md_ta M) l (wdE (md_ta M) l (nuE (md_ta M) l p)) 1 1000 else 1))) (nI n) g) 23 (nI (n + 1))) (md_sd M) (md_be M) (md_pb M) (md_ac M) (md_od M) (md_ad M) (md_wy M) (md_so M) (md_rl M) (md_io M) (md_po M) (md_sp M) (md_rs M) (md_st M) (md_av M) (md_ip M) (md_tx M) (md_tm M) (md_ta M) (md_td M) (md_wo M) sq3 tk3 bg3 nu3 wr3)) hk dX8_readsBid_102 (xw_at xw_up_s rfl) (xi_d 23 139 (by decide)) (xw_wr2 rfl) ?_
    refine xj.eqG (G' := xw_up G 21 (pM v (md_th M) (md_no M) (md_pt M) (nQ te ho ow (xu hs n (nuV (md_ta M) l p 0 7)) (xu ra n ((-1))) (xu lo n ((if exF (md_ta M) l (nuE (md_ta M) l p) (wdS 11) (nuF (md_ta M) l p 0 7 ((-1))) = -1 then nuV (md_ta M) l (wdE (md_ta M) l (nuE (md_ta M) l p)) 1 1000 else 1))) (nI (n + 1)) g) (md_sd M) (md_be M) (md_pb M) (md_ac M) (md_od M) (md_ad M) (md_wy M) (md_so M) (md_rl M) (md_io M) (md_po M) (md_sp M) (md_rs M) (md_st M) (md_av M) (md_ip M) (md_tx M) (md_tm M) (md_ta M) (md_td M) (md_wo M) sq3 tk3 bg3 nu3 wr3)) (by rw [wQ_bi]) ?_
    refine xj_return hk hz dX8_readsBid_103 ?_
    refine Or.inr ⟨by omega, rfl, _, _, _, _, _, ((-1)), ((if exF (md_ta M) l (nuE (md_ta M) l p) (wdS 11) (nuF (md_ta M) l p 0 7 ((-1))) = -1 then nuV (md_ta M) l (wdE (md_ta M) l (nuE (md_ta M) l p)) 1 1000 else 1)), hL3, ?_, rfl⟩
    intro h9
    have h9 : nuF (md_ta M) l (wdE (md_ta M) l (nuE (md_ta M) l p)) 1 1000 (exF (md_ta M) l (nuE (md_ta M) l p) (wdS 11) (nuF (md_ta M) l p 0 7 ((-1)))) = -1 := h9
    have h8 := nuF_m1 (by omega) hl7 h9
    have h7 := exF_m1 h8
    refine ⟨rfl, ?_⟩
    · show (if _ then _ else _) = _; rw [if_pos h8]; rfl
  · have c9 : n = 30 := (nI_eq (a := n) (b := 30) (by omega) (by omega)).mp c9
    refine xj_aload_n (i := 0) hk dX8_readsBid_12 rfl rfl ?_
    refine xj_iload_n (i := 2) hk dX8_readsBid_13 rfl rfl ?_
    refine xj_putfield (G2 := xw_up G 21 (pM v (md_th M) (md_no M) (md_pt M) (nQ te ho ow hs ra lo (nI n) g) (md_sd M) (md_be M) (md_pb M) (md_ac M) (md_od M) (md_ad M) (md_wy M) (md_so M) (md_rl M) (md_io M) (md_po M) (md_sp M) (md_rs M) (md_st M) (md_av M) (md_ip M) (md_tx M) (md_tm M) (md_ta M) (md_td M) (md_wo M) sq tk x nu wr)) hk dX8_readsBid_14 fl_X8_265 rfl rfl (xw_at hM rfl) (Nat.le_of_ble_eq_true rfl) (xw_wr hM rfl) ?_
    refine xj_aload_n (i := 0) hk dX8_readsBid_17 rfl rfl ?_
    refine xj_iconst (x := 1) hk dX8_readsBid_18 (by decide) ?_
    refine xj_putfield (G2 := xw_up G 21 (pM v (md_th M) (md_no M) (md_pt M) (nQ te ho ow hs ra lo (nI n) g) (md_sd M) (md_be M) (md_pb M) (md_ac M) (md_od M) (md_ad M) (md_wy M) (md_so M) (md_rl M) (md_io M) (md_po M) (md_sp M) (md_rs M) (md_st M) (md_av M) (md_ip M) (md_tx M) (md_tm M) (md_ta M) (md_td M) (md_wo M) sq tk x nu 1)) hk dX8_readsBid_19 fl_X8_271 (by decide) (by decide) (xw_at xw_up_s rfl) (Nat.le_of_ble_eq_true rfl) (xw_wr2 rfl) ?_
    refine xj_return hk hz dX8_readsBid_22 ?_
    exact Or.inl ⟨c9, rfl, rfl⟩


set_option maxHeartbeats 1000000 in
set_option maxRecDepth 10000 in
theorem l_ro_161 {v : xw_V} {κ : xk_K} {post : Option Value → xw_G → Prop} {z : Nat × Nat × Nat} {G : xw_G} {M : md_T} {l : Nat} {R : Nat × Int32 × Nat × bk_T} {te ho ow hs ra lo g : Nat → Int32} {n e : Nat} {sq tk bg nu wr x : Int32} (hk : xk_Ok v κ yX8_readsOne cX8_readsOne 3 none 5 113) (hz : xk_zf κ = z) (hM : G 21 = pM v (md_th M) (md_no M) (md_pt M) (nQ te ho ow hs ra lo (nI n) g) (md_sd M) (md_be M) (md_pb M) (md_ac M) (md_od M) (md_ad M) (md_wy M) (md_so M) (md_rl M) (md_io M) (md_po M) (md_sp M) (md_rs M) (md_st M) (md_av M) (md_ip M) (md_tx M) (md_tm M) (md_ta M) (md_td M) (md_wo M) sq tk bg nu wr) (htd : md_td M = nI l) (hl7 : l ≤ 700) (hwo : okW (md_wo M)) (hL : LXs (md_ta M) l e ((-1)) sq tk bg nu wr) (hp : e ≤ l) (hby : okBy (md_ta M) l) (hn30 : n ≤ 30) (hR : R = (e, -1, n, bk_wte (mB te ho ow hs ra lo n) (xu (bk_te (mB te ho ow hs ra lo n)) 6 0))) (kx : ∀ (sq1 tk1 bg1 nu1 wr1 : Int32) (RE1 : Nat → Int32), LXs (md_ta M) l R.1 R.2.1 sq1 tk1 bg1 nu1 wr1 → (R.2.1 = -1 → RE1 = rowOf R g) → xj v κ post z (xw_up G 21 (pM v (md_th M) (md_no M) (md_pt M) RE1 (md_sd M) (md_be M) (md_pb M) (md_ac M) (md_od M) (md_ad M) (md_wy M) (md_so M) (md_rl M) (md_io M) (md_po M) (md_sp M) (md_rs M) (md_st M) (md_av M) (md_ip M) (md_tx M) (md_tm M) (md_ta M) (md_td M) (md_wo M) sq1 tk1 bg1 nu1 wr1)) 297 [some (.ref (xw_ad v 21 0)), some (.int x), none] []) : xj v κ post z G 161 [some (.ref (xw_ad v 21 0)), some (.int x), none] [] := by
  refine xj_aload_n (i := 0) hk dX8_readsOne_161 rfl rfl ?_
  refine xj_getfield hk dX8_readsOne_162 fl_X8_21 (xw_at hM rfl) rfl ?_
  refine xj_bipush (x := 6) hk dX8_readsOne_165 (by decide) ?_
  refine xj_iconst (x := 0) hk dX8_readsOne_167 (by decide) ?_
  refine xj_iastore (k := 6) (G2 := xw_up G 21 (pM v (md_th M) (md_no M) (md_pt M) (xu (nQ te ho ow hs ra lo (nI n) g) 6 0) (md_sd M) (md_be M) (md_pb M) (md_ac M) (md_od M) (md_ad M) (md_wy M) (md_so M) (md_rl M) (md_io M) (md_po M) (md_sp M) (md_rs M) (md_st M) (md_av M) (md_ip M) (md_tx M) (md_tm M) (md_ta M) (md_td M) (md_wo M) sq tk bg nu wr)) hk dX8_readsOne_168 (xw_at hM rfl) (xi_d 6 139 (by decide)) (xw_wr hM rfl) ?_
  refine xj.eqG (G' := xw_up G 21 (pM v (md_th M) (md_no M) (md_pt M) (nQ (xu te 6 0) ho ow hs ra lo (nI n) g) (md_sd M) (md_be M) (md_pb M) (md_ac M) (md_od M) (md_ad M) (md_wy M) (md_so M) (md_rl M) (md_io M) (md_po M) (md_sp M) (md_rs M) (md_st M) (md_av M) (md_ip M) (md_tx M) (md_tm M) (md_ta M) (md_td M) (md_wo M) sq tk bg nu wr)) (by rw [wQ_te (k := 6) (by omega)]) ?_
  refine xj_goto (tgt := 297) hk dX8_readsOne_169 (by decide) ?_
  subst hR
  refine kx _ _ _ _ _ _ hL (fun _ => ?_)
  simp only [rowOf, rsT, rsB, bk_w3, bk_wte, bk_who, bk_wow, mB, bk_te, bk_ho, bk_ow, bk_hs, bk_ra, bk_lo, bk_bi, bk_st, bk_av, bk_so, bk_pa, bk_ln]
set_option maxHeartbeats 1000000 in
set_option maxRecDepth 10000 in
theorem l_ro_181 {v : xw_V} {κ : xk_K} {post : Option Value → xw_G → Prop} {z : Nat × Nat × Nat} {G : xw_G} {M : md_T} {l : Nat} {R : Nat × Int32 × Nat × bk_T} {te ho ow hs ra lo g : Nat → Int32} {n e : Nat} {sq tk bg nu wr x : Int32} (hk : xk_Ok v κ yX8_readsOne cX8_readsOne 3 none 5 113) (hz : xk_zf κ = z) (hM : G 21 = pM v (md_th M) (md_no M) (md_pt M) (nQ te ho ow hs ra lo (nI n) g) (md_sd M) (md_be M) (md_pb M) (md_ac M) (md_od M) (md_ad M) (md_wy M) (md_so M) (md_rl M) (md_io M) (md_po M) (md_sp M) (md_rs M) (md_st M) (md_av M) (md_ip M) (md_tx M) (md_tm M) (md_ta M) (md_td M) (md_wo M) sq tk bg nu wr) (htd : md_td M = nI l) (hl7 : l ≤ 700) (hwo : okW (md_wo M)) (hL : LXs (md_ta M) l e ((-1)) sq tk bg nu wr) (hp : e ≤ l) (hby : okBy (md_ta M) l) (hn30 : n ≤ 30) (hR : R = (e, -1, n, bk_wte (mB te ho ow hs ra lo n) (xu (bk_te (mB te ho ow hs ra lo n)) 6 1))) (kx : ∀ (sq1 tk1 bg1 nu1 wr1 : Int32) (RE1 : Nat → Int32), LXs (md_ta M) l R.1 R.2.1 sq1 tk1 bg1 nu1 wr1 → (R.2.1 = -1 → RE1 = rowOf R g) → xj v κ post z (xw_up G 21 (pM v (md_th M) (md_no M) (md_pt M) RE1 (md_sd M) (md_be M) (md_pb M) (md_ac M) (md_od M) (md_ad M) (md_wy M) (md_so M) (md_rl M) (md_io M) (md_po M) (md_sp M) (md_rs M) (md_st M) (md_av M) (md_ip M) (md_tx M) (md_tm M) (md_ta M) (md_td M) (md_wo M) sq1 tk1 bg1 nu1 wr1)) 297 [some (.ref (xw_ad v 21 0)), some (.int x), none] []) : xj v κ post z G 181 [some (.ref (xw_ad v 21 0)), some (.int x), none] [] := by
  refine xj_aload_n (i := 0) hk dX8_readsOne_181 rfl rfl ?_
  refine xj_getfield hk dX8_readsOne_182 fl_X8_21 (xw_at hM rfl) rfl ?_
  refine xj_bipush (x := 6) hk dX8_readsOne_185 (by decide) ?_
  refine xj_iconst (x := 1) hk dX8_readsOne_187 (by decide) ?_
  refine xj_iastore (k := 6) (G2 := xw_up G 21 (pM v (md_th M) (md_no M) (md_pt M) (xu (nQ te ho ow hs ra lo (nI n) g) 6 1) (md_sd M) (md_be M) (md_pb M) (md_ac M) (md_od M) (md_ad M) (md_wy M) (md_so M) (md_rl M) (md_io M) (md_po M) (md_sp M) (md_rs M) (md_st M) (md_av M) (md_ip M) (md_tx M) (md_tm M) (md_ta M) (md_td M) (md_wo M) sq tk bg nu wr)) hk dX8_readsOne_188 (xw_at hM rfl) (xi_d 6 139 (by decide)) (xw_wr hM rfl) ?_
  refine xj.eqG (G' := xw_up G 21 (pM v (md_th M) (md_no M) (md_pt M) (nQ (xu te 6 1) ho ow hs ra lo (nI n) g) (md_sd M) (md_be M) (md_pb M) (md_ac M) (md_od M) (md_ad M) (md_wy M) (md_so M) (md_rl M) (md_io M) (md_po M) (md_sp M) (md_rs M) (md_st M) (md_av M) (md_ip M) (md_tx M) (md_tm M) (md_ta M) (md_td M) (md_wo M) sq tk bg nu wr)) (by rw [wQ_te (k := 6) (by omega)]) ?_
  refine xj_goto (tgt := 297) hk dX8_readsOne_189 (by decide) ?_
  subst hR
  refine kx _ _ _ _ _ _ hL (fun _ => ?_)
  simp only [rowOf, rsT, rsB, bk_w3, bk_wte, bk_who, bk_wow, mB, bk_te, bk_ho, bk_ow, bk_hs, bk_ra, bk_lo, bk_bi, bk_st, bk_av, bk_so, bk_pa, bk_ln]
set_option maxHeartbeats 1000000 in
set_option maxRecDepth 10000 in
theorem l_ro_201 {v : xw_V} {κ : xk_K} {post : Option Value → xw_G → Prop} {z : Nat × Nat × Nat} {G : xw_G} {M : md_T} {l : Nat} {R : Nat × Int32 × Nat × bk_T} {te ho ow hs ra lo g : Nat → Int32} {n e : Nat} {sq tk bg nu wr x : Int32} (hk : xk_Ok v κ yX8_readsOne cX8_readsOne 3 none 5 113) (hz : xk_zf κ = z) (hM : G 21 = pM v (md_th M) (md_no M) (md_pt M) (nQ te ho ow hs ra lo (nI n) g) (md_sd M) (md_be M) (md_pb M) (md_ac M) (md_od M) (md_ad M) (md_wy M) (md_so M) (md_rl M) (md_io M) (md_po M) (md_sp M) (md_rs M) (md_st M) (md_av M) (md_ip M) (md_tx M) (md_tm M) (md_ta M) (md_td M) (md_wo M) sq tk bg nu wr) (htd : md_td M = nI l) (hl7 : l ≤ 700) (hwo : okW (md_wo M)) (hL : LXs (md_ta M) l e ((-1)) sq tk bg nu wr) (hp : e ≤ l) (hby : okBy (md_ta M) l) (hn30 : n ≤ 30) (hR : R = (nuE (md_ta M) l (nuE (md_ta M) l e), pFa (md_ta M) l e 9999 (-1), n, bk_who (mB te ho ow hs ra lo n) (pRow (md_ta M) l e 9999 (-1) (bk_ho (mB te ho ow hs ra lo n))))) (kx : ∀ (sq1 tk1 bg1 nu1 wr1 : Int32) (RE1 : Nat → Int32), LXs (md_ta M) l R.1 R.2.1 sq1 tk1 bg1 nu1 wr1 → (R.2.1 = -1 → RE1 = rowOf R g) → xj v κ post z (xw_up G 21 (pM v (md_th M) (md_no M) (md_pt M) RE1 (md_sd M) (md_be M) (md_pb M) (md_ac M) (md_od M) (md_ad M) (md_wy M) (md_so M) (md_rl M) (md_io M) (md_po M) (md_sp M) (md_rs M) (md_st M) (md_av M) (md_ip M) (md_tx M) (md_tm M) (md_ta M) (md_td M) (md_wo M) sq1 tk1 bg1 nu1 wr1)) 297 [some (.ref (xw_ad v 21 0)), some (.int x), none] []) : xj v κ post z G 201 [some (.ref (xw_ad v 21 0)), some (.int x), none] [] := by
  refine xj_aload_n (i := 0) hk dX8_readsOne_201 rfl rfl ?_
  refine xj_callVE hk hz (fr1 := 3) (lo1 := 69) (As := []) (st := []) ml_X8_283 (c_house (M := (md_th M, md_no M, md_pt M, nQ te ho ow hs ra lo (nI n) g, md_sd M, md_be M, md_pb M, md_ac M, md_od M, md_ad M, md_wy M, md_so M, md_rl M, md_io M, md_po M, md_sp M, md_rs M, md_st M, md_av M, md_ip M, md_tx M, md_tm M, md_ta M, md_td M, md_wo M, sq, tk, bg, nu, wr)) (p := e) (fa := (-1)) (show G 21 = pM v (md_th M) (md_no M) (md_pt M) (nQ te ho ow hs ra lo (nI n) g) (md_sd M) (md_be M) (md_pb M) (md_ac M) (md_od M) (md_ad M) (md_wy M) (md_so M) (md_rl M) (md_io M) (md_po M) (md_sp M) (md_rs M) (md_st M) (md_av M) (md_ip M) (md_tx M) (md_tm M) (md_ta M) (md_td M) (md_wo M) sq tk bg nu wr from hM) htd hl7 hL hp hby ) (xw_at hM rfl) rfl dX8_readsOne_202 ⟨Nat.le_of_ble_eq_true rfl, Nat.le_of_ble_eq_true rfl⟩ rfl (Nat.le_of_ble_eq_true rfl) rfl ?_
  rintro _ _ ⟨rfl, sq1, tk1, bg1, nu1, wr1, hL1, rfl⟩
  have hL1 : LXs (md_ta M) l (nuE (md_ta M) l e) (nuF (md_ta M) l e 0 7 ((-1))) sq1 tk1 bg1 nu1 wr1 := hL1
  have hp1 := (nu_l (f := md_ta M) (l := l) (p := e) hp)
  refine xj.eqi (x' := nuV (md_ta M) l e 0 7) (if_pos rfl) ?_
  show xj v κ _ z (xw_up G 21 (pM v (md_th M) (md_no M) (md_pt M) (nQ te ho ow hs ra lo (nI n) g) (md_sd M) (md_be M) (md_pb M) (md_ac M) (md_od M) (md_ad M) (md_wy M) (md_so M) (md_rl M) (md_io M) (md_po M) (md_sp M) (md_rs M) (md_st M) (md_av M) (md_ip M) (md_tx M) (md_tm M) (md_ta M) (md_td M) (md_wo M) sq1 tk1 bg1 nu1 wr1)) 205 _ [.int (nuV (md_ta M) l e 0 7)]
  have hv9 := nuV_in (f := md_ta M) (l := l) (p := e) (lo := 0) (hi := 7) (by decide)
  obtain ⟨h, hh8, hhe⟩ : ∃ h : Nat, h < 8 ∧ nuV (md_ta M) l e 0 7 = nI h := ⟨_, (hs_xi hv9.1 hv9.2).2.2, nI_xn hv9.1⟩
  refine xj.eqi (x' := nI h) hhe ?_
  refine xj_istore_n (i := 2) (ls2 := [some (.ref (xw_ad v 21 0)), some (.int x), some (.int (nI h))]) hk dX8_readsOne_205 rfl (by decide) rfl rfl ?_
  refine xj_aload_n (i := 0) hk dX8_readsOne_206 rfl rfl ?_
  refine xj_getfield hk dX8_readsOne_207 fl_X8_21 (xw_at xw_up_s rfl) rfl ?_
  refine xj_bipush (x := 7) hk dX8_readsOne_210 (by decide) ?_
  refine xj_iload_n (i := 2) hk dX8_readsOne_212 rfl rfl ?_
  refine xj_iadd hk dX8_readsOne_213 ?_
  refine xj.eqi (x' := nI (7 + h)) (nI_add 7 h) ?_
  refine xj_aload_n (i := 0) hk dX8_readsOne_214 rfl rfl ?_
  refine xj_iconst (x := 0) hk dX8_readsOne_215 (by decide) ?_
  refine xj_sipush (x := 9999) hk dX8_readsOne_216 (by decide) ?_
  refine xj_callVE hk hz (fr1 := 2) (lo1 := 46) (As := [.int 0, .int 9999]) (st := [.int (nI (7 + h)), .ref (xw_ad v 21 3)]) ml_X8_280 (c_num (M := (md_th M, md_no M, md_pt M, nQ te ho ow hs ra lo (nI n) g, md_sd M, md_be M, md_pb M, md_ac M, md_od M, md_ad M, md_wy M, md_so M, md_rl M, md_io M, md_po M, md_sp M, md_rs M, md_st M, md_av M, md_ip M, md_tx M, md_tm M, md_ta M, md_td M, md_wo M, sq1, tk1, bg1, nu1, wr1)) (p := nuE (md_ta M) l e) (fa := nuF (md_ta M) l e 0 7 ((-1))) (show (xw_up G 21 (pM v (md_th M) (md_no M) (md_pt M) (nQ te ho ow hs ra lo (nI n) g) (md_sd M) (md_be M) (md_pb M) (md_ac M) (md_od M) (md_ad M) (md_wy M) (md_so M) (md_rl M) (md_io M) (md_po M) (md_sp M) (md_rs M) (md_st M) (md_av M) (md_ip M) (md_tx M) (md_tm M) (md_ta M) (md_td M) (md_wo M) sq1 tk1 bg1 nu1 wr1)) 21 = pM v (md_th M) (md_no M) (md_pt M) (nQ te ho ow hs ra lo (nI n) g) (md_sd M) (md_be M) (md_pb M) (md_ac M) (md_od M) (md_ad M) (md_wy M) (md_so M) (md_rl M) (md_io M) (md_po M) (md_sp M) (md_rs M) (md_st M) (md_av M) (md_ip M) (md_tx M) (md_tm M) (md_ta M) (md_td M) (md_wo M) sq1 tk1 bg1 nu1 wr1 from xw_up_s) htd hl7 hL1 (by omega) hby 0 9999) (xw_at xw_up_s rfl) rfl dX8_readsOne_219 ⟨Nat.le_of_ble_eq_true rfl, Nat.le_of_ble_eq_true rfl⟩ rfl (Nat.le_of_ble_eq_true rfl) rfl ?_
  rintro _ _ ⟨rfl, sq2, tk2, bg2, nu2, wr2, hL2, rfl⟩
  simp only [xw_up_u]
  have hL2 : LXs (md_ta M) l (nuE (md_ta M) l (nuE (md_ta M) l e)) (nuF (md_ta M) l (nuE (md_ta M) l e) 0 9999 (nuF (md_ta M) l e 0 7 ((-1)))) sq2 tk2 bg2 nu2 wr2 := hL2
  have hp2 := (nu_l (f := md_ta M) (l := l) (p := nuE (md_ta M) l e) (by omega))
  show xj v κ _ z (xw_up G 21 (pM v (md_th M) (md_no M) (md_pt M) (nQ te ho ow hs ra lo (nI n) g) (md_sd M) (md_be M) (md_pb M) (md_ac M) (md_od M) (md_ad M) (md_wy M) (md_so M) (md_rl M) (md_io M) (md_po M) (md_sp M) (md_rs M) (md_st M) (md_av M) (md_ip M) (md_tx M) (md_tm M) (md_ta M) (md_td M) (md_wo M) sq2 tk2 bg2 nu2 wr2)) 222 _ [.int ((if nuF (md_ta M) l e 0 7 ((-1)) = -1 then nuV (md_ta M) l (nuE (md_ta M) l e) 0 9999 else 0)), .int (nI (7 + h)), .ref (xw_ad v 21 3)]
  refine xj_iastore (k := 7 + h) (G2 := xw_up G 21 (pM v (md_th M) (md_no M) (md_pt M) (xu (nQ te ho ow hs ra lo (nI n) g) (7 + h) ((if nuF (md_ta M) l e 0 7 ((-1)) = -1 then nuV (md_ta M) l (nuE (md_ta M) l e) 0 9999 else 0))) (md_sd M) (md_be M) (md_pb M) (md_ac M) (md_od M) (md_ad M) (md_wy M) (md_so M) (md_rl M) (md_io M) (md_po M) (md_sp M) (md_rs M) (md_st M) (md_av M) (md_ip M) (md_tx M) (md_tm M) (md_ta M) (md_td M) (md_wo M) sq2 tk2 bg2 nu2 wr2)) hk dX8_readsOne_222 (xw_at xw_up_s rfl) (xi_n (by omega) (by decide)) (xw_wr2 rfl) ?_
  refine xj.eqG (G' := xw_up G 21 (pM v (md_th M) (md_no M) (md_pt M) (nQ te (xu ho h ((if nuF (md_ta M) l e 0 7 ((-1)) = -1 then nuV (md_ta M) l (nuE (md_ta M) l e) 0 9999 else 0))) ow hs ra lo (nI n) g) (md_sd M) (md_be M) (md_pb M) (md_ac M) (md_od M) (md_ad M) (md_wy M) (md_so M) (md_rl M) (md_io M) (md_po M) (md_sp M) (md_rs M) (md_st M) (md_av M) (md_ip M) (md_tx M) (md_tm M) (md_ta M) (md_td M) (md_wo M) sq2 tk2 bg2 nu2 wr2)) (by rw [wQ_ho (k := h) (by omega)]) ?_
  refine xj_goto (tgt := 297) hk dX8_readsOne_223 (by decide) ?_
  refine xj.le (ls' := [some (.ref (xw_ad v 21 0)), some (.int x), none]) (by simp [xl_le] <;> rfl) ?_
  subst hR
  refine kx _ _ _ _ _ _ ?_ (fun h9 => ?_)
  · simp only [pFa]; exact hL2
  · simp only [pFa] at h9
    have h8 := nuF_m1 (by omega) hl7 h9
    have h7 : pFa (md_ta M) l e 9999 (-1) = -1 := h9
    rw [if_pos h8]
    simp only [rowOf, rsT, rsB, bk_w3, bk_wte, bk_who, bk_wow, mB, bk_te, bk_ho, bk_ow, bk_hs, bk_ra, bk_lo, bk_bi, bk_st, bk_av, bk_so, bk_pa, bk_ln, pRow]
    rw [if_pos h7, hhe, xn_nI (by omega)]
set_option maxHeartbeats 1000000 in
set_option maxRecDepth 10000 in
theorem l_ro_235 {v : xw_V} {κ : xk_K} {post : Option Value → xw_G → Prop} {z : Nat × Nat × Nat} {G : xw_G} {M : md_T} {l : Nat} {R : Nat × Int32 × Nat × bk_T} {te ho ow hs ra lo g : Nat → Int32} {n e : Nat} {sq tk bg nu wr x : Int32} (hk : xk_Ok v κ yX8_readsOne cX8_readsOne 3 none 5 113) (hz : xk_zf κ = z) (hM : G 21 = pM v (md_th M) (md_no M) (md_pt M) (nQ te ho ow hs ra lo (nI n) g) (md_sd M) (md_be M) (md_pb M) (md_ac M) (md_od M) (md_ad M) (md_wy M) (md_so M) (md_rl M) (md_io M) (md_po M) (md_sp M) (md_rs M) (md_st M) (md_av M) (md_ip M) (md_tx M) (md_tm M) (md_ta M) (md_td M) (md_wo M) sq tk bg nu wr) (htd : md_td M = nI l) (hl7 : l ≤ 700) (hwo : okW (md_wo M)) (hL : LXs (md_ta M) l e ((-1)) sq tk bg nu wr) (hp : e ≤ l) (hby : okBy (md_ta M) l) (hn30 : n ≤ 30) (hR : R = (nuE (md_ta M) l (nuE (md_ta M) l e), pFa (md_ta M) l e 7 (-1), n, bk_wow (mB te ho ow hs ra lo n) (pRow (md_ta M) l e 7 (-1) (bk_ow (mB te ho ow hs ra lo n))))) (kx : ∀ (sq1 tk1 bg1 nu1 wr1 : Int32) (RE1 : Nat → Int32), LXs (md_ta M) l R.1 R.2.1 sq1 tk1 bg1 nu1 wr1 → (R.2.1 = -1 → RE1 = rowOf R g) → xj v κ post z (xw_up G 21 (pM v (md_th M) (md_no M) (md_pt M) RE1 (md_sd M) (md_be M) (md_pb M) (md_ac M) (md_od M) (md_ad M) (md_wy M) (md_so M) (md_rl M) (md_io M) (md_po M) (md_sp M) (md_rs M) (md_st M) (md_av M) (md_ip M) (md_tx M) (md_tm M) (md_ta M) (md_td M) (md_wo M) sq1 tk1 bg1 nu1 wr1)) 297 [some (.ref (xw_ad v 21 0)), some (.int x), none] []) : xj v κ post z G 235 [some (.ref (xw_ad v 21 0)), some (.int x), none] [] := by
  refine xj_aload_n (i := 0) hk dX8_readsOne_235 rfl rfl ?_
  refine xj_callVE hk hz (fr1 := 3) (lo1 := 69) (As := []) (st := []) ml_X8_283 (c_house (M := (md_th M, md_no M, md_pt M, nQ te ho ow hs ra lo (nI n) g, md_sd M, md_be M, md_pb M, md_ac M, md_od M, md_ad M, md_wy M, md_so M, md_rl M, md_io M, md_po M, md_sp M, md_rs M, md_st M, md_av M, md_ip M, md_tx M, md_tm M, md_ta M, md_td M, md_wo M, sq, tk, bg, nu, wr)) (p := e) (fa := (-1)) (show G 21 = pM v (md_th M) (md_no M) (md_pt M) (nQ te ho ow hs ra lo (nI n) g) (md_sd M) (md_be M) (md_pb M) (md_ac M) (md_od M) (md_ad M) (md_wy M) (md_so M) (md_rl M) (md_io M) (md_po M) (md_sp M) (md_rs M) (md_st M) (md_av M) (md_ip M) (md_tx M) (md_tm M) (md_ta M) (md_td M) (md_wo M) sq tk bg nu wr from hM) htd hl7 hL hp hby ) (xw_at hM rfl) rfl dX8_readsOne_236 ⟨Nat.le_of_ble_eq_true rfl, Nat.le_of_ble_eq_true rfl⟩ rfl (Nat.le_of_ble_eq_true rfl) rfl ?_
  rintro _ _ ⟨rfl, sq1, tk1, bg1, nu1, wr1, hL1, rfl⟩
  have hL1 : LXs (md_ta M) l (nuE (md_ta M) l e) (nuF (md_ta M) l e 0 7 ((-1))) sq1 tk1 bg1 nu1 wr1 := hL1
  have hp1 := (nu_l (f := md_ta M) (l := l) (p := e) hp)
  refine xj.eqi (x' := nuV (md_ta M) l e 0 7) (if_pos rfl) ?_
  show xj v κ _ z (xw_up G 21 (pM v (md_th M) (md_no M) (md_pt M) (nQ te ho ow hs ra lo (nI n) g) (md_sd M) (md_be M) (md_pb M) (md_ac M) (md_od M) (md_ad M) (md_wy M) (md_so M) (md_rl M) (md_io M) (md_po M) (md_sp M) (md_rs M) (md_st M) (md_av M) (md_ip M) (md_tx M) (md_tm M) (md_ta M) (md_td M) (md_wo M) sq1 tk1 bg1 nu1 wr1)) 239 _ [.int (nuV (md_ta M) l e 0 7)]
  have hv9 := nuV_in (f := md_ta M) (l := l) (p := e) (lo := 0) (hi := 7) (by decide)
  obtain ⟨h, hh8, hhe⟩ : ∃ h : Nat, h < 8 ∧ nuV (md_ta M) l e 0 7 = nI h := ⟨_, (hs_xi hv9.1 hv9.2).2.2, nI_xn hv9.1⟩
  refine xj.eqi (x' := nI h) hhe ?_
  refine xj_istore_n (i := 2) (ls2 := [some (.ref (xw_ad v 21 0)), some (.int x), some (.int (nI h))]) hk dX8_readsOne_239 rfl (by decide) rfl rfl ?_
  refine xj_aload_n (i := 0) hk dX8_readsOne_240 rfl rfl ?_
  refine xj_getfield hk dX8_readsOne_241 fl_X8_21 (xw_at xw_up_s rfl) rfl ?_
  refine xj_bipush (x := 15) hk dX8_readsOne_244 (by decide) ?_
  refine xj_iload_n (i := 2) hk dX8_readsOne_246 rfl rfl ?_
  refine xj_iadd hk dX8_readsOne_247 ?_
  refine xj.eqi (x' := nI (15 + h)) (nI_add 15 h) ?_
  refine xj_aload_n (i := 0) hk dX8_readsOne_248 rfl rfl ?_
  refine xj_callVE hk hz (fr1 := 3) (lo1 := 69) (As := []) (st := [.int (nI (15 + h)), .ref (xw_ad v 21 3)]) ml_X8_283 (c_house (M := (md_th M, md_no M, md_pt M, nQ te ho ow hs ra lo (nI n) g, md_sd M, md_be M, md_pb M, md_ac M, md_od M, md_ad M, md_wy M, md_so M, md_rl M, md_io M, md_po M, md_sp M, md_rs M, md_st M, md_av M, md_ip M, md_tx M, md_tm M, md_ta M, md_td M, md_wo M, sq1, tk1, bg1, nu1, wr1)) (p := nuE (md_ta M) l e) (fa := nuF (md_ta M) l e 0 7 ((-1))) (show (xw_up G 21 (pM v (md_th M) (md_no M) (md_pt M) (nQ te ho ow hs ra lo (nI n) g) (md_sd M) (md_be M) (md_pb M) (md_ac M) (md_od M) (md_ad M) (md_wy M) (md_so M) (md_rl M) (md_io M) (md_po M) (md_sp M) (md_rs M) (md_st M) (md_av M) (md_ip M) (md_tx M) (md_tm M) (md_ta M) (md_td M) (md_wo M) sq1 tk1 bg1 nu1 wr1)) 21 = pM v (md_th M) (md_no M) (md_pt M) (nQ te ho ow hs ra lo (nI n) g) (md_sd M) (md_be M) (md_pb M) (md_ac M) (md_od M) (md_ad M) (md_wy M) (md_so M) (md_rl M) (md_io M) (md_po M) (md_sp M) (md_rs M) (md_st M) (md_av M) (md_ip M) (md_tx M) (md_tm M) (md_ta M) (md_td M) (md_wo M) sq1 tk1 bg1 nu1 wr1 from xw_up_s) htd hl7 hL1 (by omega) hby ) (xw_at xw_up_s rfl) rfl dX8_readsOne_249 ⟨Nat.le_of_ble_eq_true rfl, Nat.le_of_ble_eq_true rfl⟩ rfl (Nat.le_of_ble_eq_true rfl) rfl ?_
  rintro _ _ ⟨rfl, sq2, tk2, bg2, nu2, wr2, hL2, rfl⟩
  simp only [xw_up_u]
  have hL2 : LXs (md_ta M) l (nuE (md_ta M) l (nuE (md_ta M) l e)) (nuF (md_ta M) l (nuE (md_ta M) l e) 0 7 (nuF (md_ta M) l e 0 7 ((-1)))) sq2 tk2 bg2 nu2 wr2 := hL2
  have hp2 := (nu_l (f := md_ta M) (l := l) (p := nuE (md_ta M) l e) (by omega))
  show xj v κ _ z (xw_up G 21 (pM v (md_th M) (md_no M) (md_pt M) (nQ te ho ow hs ra lo (nI n) g) (md_sd M) (md_be M) (md_pb M) (md_ac M) (md_od M) (md_ad M) (md_wy M) (md_so M) (md_rl M) (md_io M) (md_po M) (md_sp M) (md_rs M) (md_st M) (md_av M) (md_ip M) (md_tx M) (md_tm M) (md_ta M) (md_td M) (md_wo M) sq2 tk2 bg2 nu2 wr2)) 252 _ [.int ((if nuF (md_ta M) l e 0 7 ((-1)) = -1 then nuV (md_ta M) l (nuE (md_ta M) l e) 0 7 else 0)), .int (nI (15 + h)), .ref (xw_ad v 21 3)]
  refine xj_iastore (k := 15 + h) (G2 := xw_up G 21 (pM v (md_th M) (md_no M) (md_pt M) (xu (nQ te ho ow hs ra lo (nI n) g) (15 + h) ((if nuF (md_ta M) l e 0 7 ((-1)) = -1 then nuV (md_ta M) l (nuE (md_ta M) l e) 0 7 else 0))) (md_sd M) (md_be M) (md_pb M) (md_ac M) (md_od M) (md_ad M) (md_wy M) (md_so M) (md_rl M) (md_io M) (md_po M) (md_sp M) (md_rs M) (md_st M) (md_av M) (md_ip M) (md_tx M) (md_tm M) (md_ta M) (md_td M) (md_wo M) sq2 tk2 bg2 nu2 wr2)) hk dX8_readsOne_252 (xw_at xw_up_s rfl) (xi_n (by omega) (by decide)) (xw_wr2 rfl) ?_
  refine xj.eqG (G' := xw_up G 21 (pM v (md_th M) (md_no M) (md_pt M) (nQ te ho (xu ow h ((if nuF (md_ta M) l e 0 7 ((-1)) = -1 then nuV (md_ta M) l (nuE (md_ta M) l e) 0 7 else 0))) hs ra lo (nI n) g) (md_sd M) (md_be M) (md_pb M) (md_ac M) (md_od M) (md_ad M) (md_wy M) (md_so M) (md_rl M) (md_io M) (md_po M) (md_sp M) (md_rs M) (md_st M) (md_av M) (md_ip M) (md_tx M) (md_tm M) (md_ta M) (md_td M) (md_wo M) sq2 tk2 bg2 nu2 wr2)) (by rw [wQ_ow (k := h) (by omega)]) ?_
  refine xj_goto (tgt := 297) hk dX8_readsOne_253 (by decide) ?_
  refine xj.le (ls' := [some (.ref (xw_ad v 21 0)), some (.int x), none]) (by simp [xl_le] <;> rfl) ?_
  subst hR
  refine kx _ _ _ _ _ _ ?_ (fun h9 => ?_)
  · simp only [pFa]; exact hL2
  · simp only [pFa] at h9
    have h8 := nuF_m1 (by omega) hl7 h9
    have h7 : pFa (md_ta M) l e 7 (-1) = -1 := h9
    rw [if_pos h8]
    simp only [rowOf, rsT, rsB, bk_w3, bk_wte, bk_who, bk_wow, mB, bk_te, bk_ho, bk_ow, bk_hs, bk_ra, bk_lo, bk_bi, bk_st, bk_av, bk_so, bk_pa, bk_ln, pRow]
    rw [if_pos h7, hhe, xn_nI (by omega)]
set_option maxHeartbeats 1000000 in
set_option maxRecDepth 10000 in
theorem l_ro_265 {v : xw_V} {κ : xk_K} {post : Option Value → xw_G → Prop} {z : Nat × Nat × Nat} {G : xw_G} {M : md_T} {l : Nat} {R : Nat × Int32 × Nat × bk_T} {te ho ow hs ra lo g : Nat → Int32} {n e : Nat} {sq tk bg nu wr x : Int32} (hk : xk_Ok v κ yX8_readsOne cX8_readsOne 3 none 5 113) (hz : xk_zf κ = z) (hM : G 21 = pM v (md_th M) (md_no M) (md_pt M) (nQ te ho ow hs ra lo (nI n) g) (md_sd M) (md_be M) (md_pb M) (md_ac M) (md_od M) (md_ad M) (md_wy M) (md_so M) (md_rl M) (md_io M) (md_po M) (md_sp M) (md_rs M) (md_st M) (md_av M) (md_ip M) (md_tx M) (md_tm M) (md_ta M) (md_td M) (md_wo M) sq tk bg nu wr) (htd : md_td M = nI l) (hl7 : l ≤ 700) (hwo : okW (md_wo M)) (hL : LXs (md_ta M) l e ((-1)) sq tk bg nu wr) (hp : e ≤ l) (hby : okBy (md_ta M) l) (hn30 : n ≤ 30) (hR1 : n < 30 → R = rsB (md_ta M) l e true (-1) n (mB te ho ow hs ra lo n)) (hR2 : n = 30 → R.2.1 = x ∧ True) (hx1 : ¬ x = -1) (kx : ∀ (sq1 tk1 bg1 nu1 wr1 : Int32) (RE1 : Nat → Int32), LXs (md_ta M) l R.1 R.2.1 sq1 tk1 bg1 nu1 wr1 → (R.2.1 = -1 → RE1 = rowOf R g) → xj v κ post z (xw_up G 21 (pM v (md_th M) (md_no M) (md_pt M) RE1 (md_sd M) (md_be M) (md_pb M) (md_ac M) (md_od M) (md_ad M) (md_wy M) (md_so M) (md_rl M) (md_io M) (md_po M) (md_sp M) (md_rs M) (md_st M) (md_av M) (md_ip M) (md_tx M) (md_tm M) (md_ta M) (md_td M) (md_wo M) sq1 tk1 bg1 nu1 wr1)) 297 [some (.ref (xw_ad v 21 0)), some (.int x), none] []) : xj v κ post z G 265 [some (.ref (xw_ad v 21 0)), some (.int x), none] [] := by
  refine xj_aload_n (i := 0) hk dX8_readsOne_265 rfl rfl ?_
  refine xj_iconst (x := 0) hk dX8_readsOne_266 (by decide) ?_
  refine xj_iload_n (i := 1) hk dX8_readsOne_267 rfl rfl ?_
  refine xj_callVE hk hz (fr1 := 4) (lo1 := 90) (As := [.int 0, .int x]) (st := []) ml_X8_289 (c_bidR (M := M) (n := n) (p := e) hM htd hl7 hwo hL hp hby hn30 x) (xw_at hM rfl) rfl dX8_readsOne_268 ⟨Nat.le_of_ble_eq_true rfl, Nat.le_of_ble_eq_true rfl⟩ rfl (Nat.le_of_ble_eq_true rfl) rfl ?_
  rintro r9 G9 hq9
  have hr9 : r9 = none := by rcases hq9 with ⟨_, h, _⟩ | ⟨_, h, _⟩ <;> exact h
  subst hr9
  show xj v κ _ z G9 271 _ []
  refine xj_goto (tgt := 297) hk dX8_readsOne_271 (by decide) ?_
  rcases hq9 with ⟨h30, -, rfl⟩ | ⟨h30, -, sq1, tk1, bg1, nu1, wr1, R9, L9, hL1, hRL, rfl⟩
  · refine kx _ _ _ _ _ _ ?_ (fun h9 => absurd (((hR2 h30).1).symm.trans h9) hx1)
    rw [(hR2 h30).1]
    exact ⟨fun q => absurd q hx1, fun _ => ⟨rfl, rfl⟩⟩
  · have hR := hR1 h30
    subst hR
    refine kx _ _ _ _ _ _ ?_ (fun h9 => ?_)
    · simp only [rsB]; exact hL1
    · simp only [rsB] at h9
      obtain ⟨q1, q2⟩ := hRL h9
      rw [q1, q2]
      simp only [rowOf, rsT, rsB, bk_w3, bk_wte, bk_who, bk_wow, mB, bk_te, bk_ho, bk_ow, bk_hs, bk_ra, bk_lo, bk_bi, bk_st, bk_av, bk_so, bk_pa, bk_ln, insR_s]
set_option maxHeartbeats 1000000 in
set_option maxRecDepth 10000 in
theorem l_ro_283 {v : xw_V} {κ : xk_K} {post : Option Value → xw_G → Prop} {z : Nat × Nat × Nat} {G : xw_G} {M : md_T} {l : Nat} {R : Nat × Int32 × Nat × bk_T} {te ho ow hs ra lo g : Nat → Int32} {n e : Nat} {sq tk bg nu wr x : Int32} (hk : xk_Ok v κ yX8_readsOne cX8_readsOne 3 none 5 113) (hz : xk_zf κ = z) (hM : G 21 = pM v (md_th M) (md_no M) (md_pt M) (nQ te ho ow hs ra lo (nI n) g) (md_sd M) (md_be M) (md_pb M) (md_ac M) (md_od M) (md_ad M) (md_wy M) (md_so M) (md_rl M) (md_io M) (md_po M) (md_sp M) (md_rs M) (md_st M) (md_av M) (md_ip M) (md_tx M) (md_tm M) (md_ta M) (md_td M) (md_wo M) sq tk bg nu wr) (htd : md_td M = nI l) (hl7 : l ≤ 700) (hwo : okW (md_wo M)) (hL : LXs (md_ta M) l e ((-1)) sq tk bg nu wr) (hp : e ≤ l) (hby : okBy (md_ta M) l) (hn30 : n ≤ 30) (hR1 : n < 30 → R = rsB (md_ta M) l e false (-1) n (mB te ho ow hs ra lo n)) (hR2 : n = 30 → R.2.1 = x ∧ True) (hx1 : ¬ x = -1) (kx : ∀ (sq1 tk1 bg1 nu1 wr1 : Int32) (RE1 : Nat → Int32), LXs (md_ta M) l R.1 R.2.1 sq1 tk1 bg1 nu1 wr1 → (R.2.1 = -1 → RE1 = rowOf R g) → xj v κ post z (xw_up G 21 (pM v (md_th M) (md_no M) (md_pt M) RE1 (md_sd M) (md_be M) (md_pb M) (md_ac M) (md_od M) (md_ad M) (md_wy M) (md_so M) (md_rl M) (md_io M) (md_po M) (md_sp M) (md_rs M) (md_st M) (md_av M) (md_ip M) (md_tx M) (md_tm M) (md_ta M) (md_td M) (md_wo M) sq1 tk1 bg1 nu1 wr1)) 297 [some (.ref (xw_ad v 21 0)), some (.int x), none] []) : xj v κ post z G 283 [some (.ref (xw_ad v 21 0)), some (.int x), none] [] := by
  refine xj_aload_n (i := 0) hk dX8_readsOne_283 rfl rfl ?_
  refine xj_iconst (x := 1) hk dX8_readsOne_284 (by decide) ?_
  refine xj_iload_n (i := 1) hk dX8_readsOne_285 rfl rfl ?_
  refine xj_callVE hk hz (fr1 := 4) (lo1 := 90) (As := [.int 1, .int x]) (st := []) ml_X8_289 (c_bidP (M := M) (n := n) (p := e) hM htd hl7 hwo hL hp hby hn30 x) (xw_at hM rfl) rfl dX8_readsOne_286 ⟨Nat.le_of_ble_eq_true rfl, Nat.le_of_ble_eq_true rfl⟩ rfl (Nat.le_of_ble_eq_true rfl) rfl ?_
  rintro r9 G9 hq9
  have hr9 : r9 = none := by rcases hq9 with ⟨_, h, _⟩ | ⟨_, h, _⟩ <;> exact h
  subst hr9
  show xj v κ _ z G9 289 _ []
  refine xj_goto (tgt := 297) hk dX8_readsOne_289 (by decide) ?_
  rcases hq9 with ⟨h30, -, rfl⟩ | ⟨h30, -, sq1, tk1, bg1, nu1, wr1, R9, L9, hL1, hRL, rfl⟩
  · refine kx _ _ _ _ _ _ ?_ (fun h9 => absurd (((hR2 h30).1).symm.trans h9) hx1)
    rw [(hR2 h30).1]
    exact ⟨fun q => absurd q hx1, fun _ => ⟨rfl, rfl⟩⟩
  · have hR := hR1 h30
    subst hR
    refine kx _ _ _ _ _ _ ?_ (fun h9 => ?_)
    · simp only [rsB]; exact hL1
    · simp only [rsB] at h9
      obtain ⟨q1, q2⟩ := hRL h9
      rw [q1, q2]
      simp only [rowOf, rsT, rsB, bk_w3, bk_wte, bk_who, bk_wow, mB, bk_te, bk_ho, bk_ow, bk_hs, bk_ra, bk_lo, bk_bi, bk_st, bk_av, bk_so, bk_pa, bk_ln, insR_s]

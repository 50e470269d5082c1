def rowOf (R : Nat × Int32 × Nat × bk_T) (g : Nat → Int32) : Nat → Int32 := nQ (bk_te R.2.2.2) (bk_ho R.2.2.2) (bk_ow R.2.2.2) (bk_hs R.2.2.2) (bk_ra R.2.2.2) (bk_lo R.2.2.2) (nI R.2.2.1) g
theorem tk_close {f : Nat → Int32} {l b : Nat} (hb : b < 2 ^ 31) (hl : l < 2 ^ 31) : tkN f l b = 3 ↔ tAt f l (nI b) = 59 := by
  rw [tAt_nI hb hl]
  simp only [tkN]
  by_cases c : b < l
  · rw [if_pos c, if_pos c]
    by_cases d : f b = 59
    · rw [if_neg (by rw [d]; decide), if_neg (by rw [d]; decide), if_pos d]; simp [d]
    · constructor
      · intro h
        split at h
        · split at h
          · exact absurd h (by decide)
          · exact absurd h (by decide)
        · split at h
          · split at h
            · exact absurd h (by decide)
            · exact absurd h (by decide)
          · exact absurd h (by decide)
      · intro h; exact absurd h d
  · rw [if_neg c, if_neg c]
    exact ⟨fun h => absurd h (by decide), fun h => absurd h (by decide)⟩
set_option maxHeartbeats 1000000 in
set_option maxRecDepth 10000 in
theorem l_ro_297 {v : xw_V} {κ : xk_K} {post : Option Value → xw_G → Prop} {z : Nat × Nat × Nat} {G : xw_G} {M : md_T} {l : Nat} {R : Nat × Int32 × Nat × bk_T} {RE g : Nat → Int32} {sq tk bg nu wr x : Int32} (hk : xk_Ok v κ yX8_readsOne cX8_readsOne 3 none 5 113) (hz : xk_zf κ = z) (hM : G 21 = pM v (md_th M) (md_no M) (md_pt M) RE (md_sd M) (md_be M) (md_pb M) (md_ac M) (md_od M) (md_ad M) (md_wy M) (md_so M) (md_rl M) (md_io M) (md_po M) (md_sp M) (md_rs M) (md_st M) (md_av M) (md_ip M) (md_tx M) (md_tm M) (md_ta M) (md_td M) (md_wo M) sq tk bg nu wr) (htd : md_td M = nI l) (hl7 : l ≤ 700) (hL : LXs (md_ta M) l R.1 R.2.1 sq tk bg nu wr) (hp : R.1 ≤ l) (hby : okBy (md_ta M) l) (hRE : R.2.1 = -1 → RE = rowOf R g) (hpost : ∀ G9, (∃ (sq1 tk1 bg1 nu1 wr1 : Int32) (RE1 : Nat → Int32), LXs (md_ta M) l (smP (md_ta M) l R.1) (smF (md_ta M) l R.1 R.2.1) sq1 tk1 bg1 nu1 wr1 ∧ (smF (md_ta M) l R.1 R.2.1 = -1 → RE1 = rowOf R g) ∧ G9 = xw_up G 21 (pM v (md_th M) (md_no M) (md_pt M) RE1 (md_sd M) (md_be M) (md_pb M) (md_ac M) (md_od M) (md_ad M) (md_wy M) (md_so M) (md_rl M) (md_io M) (md_po M) (md_sp M) (md_rs M) (md_st M) (md_av M) (md_ip M) (md_tx M) (md_tm M) (md_ta M) (md_td M) (md_wo M) sq1 tk1 bg1 nu1 wr1)) → post none G9) : xj v κ post z G 297 [some (.ref (xw_ad v 21 0)), some (.int x), none] [] := by
  refine xj_aload_n (i := 0) hk dX8_readsOne_297 rfl rfl ?_
  refine xj_getfield hk dX8_readsOne_298 fl_X8_271 (xw_at hM rfl) rfl ?_
  refine xj_if_eq (tgt := 305) hk dX8_readsOne_301 (by decide) (fun c301 => ?_) (fun c301 => ?_)
  · have hfa : R.2.1 = -1 := by
      rcases Classical.em (R.2.1 = -1) with q | q
      · exact q
      · exact absurd ((hL.2 q).1.symm.trans c301) (by decide)
    obtain ⟨h1, h2, h3, h4, h5⟩ := hL.1 hfa
    have hb9 := (sbk_le (f := md_ta M) hp).2
    have htc := tk_close (f := md_ta M) (l := l) (b := sbk (md_ta M) l R.1) (by omega) (by omega)
    refine xj_aload_n (i := 0) hk dX8_readsOne_305 rfl rfl ?_
    refine xj_getfield hk dX8_readsOne_306 fl_X8_259 (xw_at hM rfl) rfl ?_
    refine xj_iconst (x := 3) hk dX8_readsOne_309 (by decide) ?_
    refine xj_icmp_ne (tgt := 320) hk dX8_readsOne_310 (by decide) (fun c310 => ?_) (fun c310 => ?_)
    · refine xj_aload_n (i := 0) hk dX8_readsOne_320 rfl rfl ?_
      refine xj_iconst (x := 1) hk dX8_readsOne_321 (by decide) ?_
      refine xj_putfield (G2 := xw_up G 21 (pM v (md_th M) (md_no M) (md_pt M) RE (md_sd M) (md_be M) (md_pb M) (md_ac M) (md_od M) (md_ad M) (md_wy M) (md_so M) (md_rl M) (md_io M) (md_po M) (md_sp M) (md_rs M) (md_st M) (md_av M) (md_ip M) (md_tx M) (md_tm M) (md_ta M) (md_td M) (md_wo M) sq tk bg nu 1)) hk dX8_readsOne_322 fl_X8_271 (by decide) (by decide) (xw_at hM rfl) (Nat.le_of_ble_eq_true rfl) (xw_wr hM rfl) ?_
      refine xj_return hk hz dX8_readsOne_325 ?_
      rw [h2] at c310
      have h59 : ¬ tAt (md_ta M) l (nI (sbk (md_ta M) l R.1)) = 59 := fun q => c310 (htc.mpr q)
      have e1 : smF (md_ta M) l R.1 R.2.1 = nI (sbk (md_ta M) l R.1) := by simp only [smF, ffa]; rw [if_neg h59, if_pos hfa]
      have e2 : ¬ nI (sbk (md_ta M) l R.1) = -1 := nI_n1 (by omega)
      refine hpost _ ⟨_, _, _, _, _, RE, ?_, fun q => absurd (e1.symm.trans q) e2, rfl⟩
      rw [e1]
      exact ⟨fun q => absurd q e2, fun _ => ⟨rfl, h3⟩⟩
    · rw [h2] at c310
      have h59 := htc.mp c310
      have hlt : sbk (md_ta M) l R.1 < l := by
        rw [tAt_nI (by omega) (by omega)] at h59
        rcases Nat.lt_or_ge (sbk (md_ta M) l R.1) l with q | q
        · exact q
        · rw [if_neg (by omega)] at h59; exact absurd h59 (by decide)
      have hf59 : md_ta M (sbk (md_ta M) l R.1) = 59 := by rw [tAt_nI (by omega) (by omega), if_pos hlt] at h59; exact h59
      have hsq : sq = nI (sbk (md_ta M) l R.1 + 1) := by rw [h1]; simp only [sqN]; rw [if_pos hlt, if_neg (by rw [hf59]; decide), if_neg (by rw [hf59]; decide)]
      refine xj.eqG (G' := xw_up G 21 (pM v (md_th M) (md_no M) (md_pt M) RE (md_sd M) (md_be M) (md_pb M) (md_ac M) (md_od M) (md_ad M) (md_wy M) (md_so M) (md_rl M) (md_io M) (md_po M) (md_sp M) (md_rs M) (md_st M) (md_av M) (md_ip M) (md_tx M) (md_tm M) (md_ta M) (md_td M) (md_wo M) (nI (sbk (md_ta M) l R.1 + 1)) 3 bg nu 0)) (by rw [← hsq, ← c310, ← h2, ← h4]; exact (xw_up_same hM).symm) ?_
      refine xj_aload_n (i := 0) hk dX8_readsOne_313 rfl rfl ?_
      refine xj_callV hk hz (fr1 := 1) (lo1 := 22) (r1 := none) (As := []) (st := []) (st2 := []) (G1 := xw_up G 21 (pM v (md_th M) (md_no M) (md_pt M) RE (md_sd M) (md_be M) (md_pb M) (md_ac M) (md_od M) (md_ad M) (md_wy M) (md_so M) (md_rl M) (md_io M) (md_po M) (md_sp M) (md_rs M) (md_st M) (md_av M) (md_ip M) (md_tx M) (md_tm M) (md_ta M) (md_td M) (md_wo M) (nI (sqN (md_ta M) l (sbk (md_ta M) l (sbk (md_ta M) l R.1 + 1)))) (tkN (md_ta M) l (sbk (md_ta M) l (sbk (md_ta M) l R.1 + 1))) (nI (sbk (md_ta M) l (sbk (md_ta M) l R.1 + 1))) (nuN (md_ta M) l (sbk (md_ta M) l (sbk (md_ta M) l R.1 + 1)) nu) 0)) ml_X8_274 (xk_cg (by rw [xw_up_u] <;> rfl) (c_X8_goesOn (M := (md_th M, md_no M, md_pt M, RE, md_sd M, md_be M, md_pb M, md_ac M, md_od M, md_ad M, md_wy M, md_so M, md_rl M, md_io M, md_po M, md_sp M, md_rs M, md_st M, md_av M, md_ip M, md_tx M, md_tm M, md_ta M, md_td M, md_wo M, nI (sbk (md_ta M) l R.1 + 1), 3, bg, nu, 0)) (p := sbk (md_ta M) l R.1 + 1) (tk := 3) (bg := bg) (nu := nu) (wr := 0) (show (xw_up G 21 (pM v (md_th M) (md_no M) (md_pt M) RE (md_sd M) (md_be M) (md_pb M) (md_ac M) (md_od M) (md_ad M) (md_wy M) (md_so M) (md_rl M) (md_io M) (md_po M) (md_sp M) (md_rs M) (md_st M) (md_av M) (md_ip M) (md_tx M) (md_tm M) (md_ta M) (md_td M) (md_wo M) (nI (sbk (md_ta M) l R.1 + 1)) 3 bg nu 0)) 21 = pM v (md_th M) (md_no M) (md_pt M) RE (md_sd M) (md_be M) (md_pb M) (md_ac M) (md_od M) (md_ad M) (md_wy M) (md_so M) (md_rl M) (md_io M) (md_po M) (md_sp M) (md_rs M) (md_st M) (md_av M) (md_ip M) (md_tx M) (md_tm M) (md_ta M) (md_td M) (md_wo M) (nI (sbk (md_ta M) l R.1 + 1)) 3 bg nu 0 from xw_up_s) htd hl7 (by omega) hby (by show _ = glu (md_ta M) _; simp only [glu]; rw [show sbk (md_ta M) l R.1 + 1 - 1 = sbk (md_ta M) l R.1 by omega, hf59]; rfl))) (xw_at xw_up_s rfl) rfl dX8_readsOne_314 ⟨Nat.le_of_ble_eq_true rfl, Nat.le_of_ble_eq_true rfl⟩ rfl (Nat.le_of_ble_eq_true rfl) rfl rfl ?_
      refine xj_goto (tgt := 325) hk dX8_readsOne_317 (by decide) ?_
      refine xj_return hk hz dX8_readsOne_325 ?_
      refine hpost _ ⟨_, _, _, _, _, RE, ?_, fun _ => hRE hfa, rfl⟩
      have e1 : smF (md_ta M) l R.1 R.2.1 = -1 := by simp only [smF]; rw [if_pos h59]; exact hfa
      have e2 : smP (md_ta M) l R.1 = sbk (md_ta M) l R.1 + 1 := by simp only [smP]; rw [if_pos h59]
      rw [e1, e2]
      exact LXs_go
  · refine xj_return hk hz dX8_readsOne_304 ?_
    refine hpost _ ⟨sq, tk, bg, nu, wr, RE, ?_, ?_, (xw_up_same hM).symm⟩
    · have hfa : ¬ R.2.1 = -1 := fun q => c301 (hL.1 q).2.2.2.1
      have e : smF (md_ta M) l R.1 R.2.1 = R.2.1 := by simp only [smF, ffa]; rw [if_neg hfa, ite_self]
      rw [e]
      exact ⟨fun q => absurd q hfa, hL.2⟩
    · intro q
      have hfa : ¬ R.2.1 = -1 := fun q => c301 (hL.1 q).2.2.2.1
      simp only [smF, ffa] at q
      rw [if_neg hfa, ite_self] at q
      exact absurd q hfa

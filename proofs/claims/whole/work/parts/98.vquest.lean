/-! ===== both objects side by side ===== -/
def VB (te ho ow hs ra lo : Nat → Int32) (n r : Nat) : Prop := MV te ow hs ra lo n ∧ vH ho ∧ r ≤ 8
/-- a book and a row are alike -/
def RB (B : bk_T) (n r : Nat) (N : Nat → Int32) (pt : Nat → Int64) : Prop := okB B n r ∧ ∃ te ho ow hs ra lo st av so : Nat → Int32, eqB n B (mBL te ho ow hs ra lo n st av so pt r) ∧ eqL r B (mBL te ho ow hs ra lo n st av so pt r) ∧ VB te ho ow hs ra lo n r ∧ ∀ k, k < 139 → N k = nR te ho ow hs ra lo (nI n) st av so (nI r) k
/-- what is kept -/
def PB (K : Nat → bk_T) (e a : Nat) (be : Nat → Int32) (pb : Nat → Int64) : Prop := ∀ i, i < a → ∃ nj rj, RB (K ((e + 12 - a + i) % 12)) nj rj (fun k => be (139 * i + k)) (fun k => pb (8 * i + k))
def TA (t : tp_T) (l : Nat) (ta : Nat → Int32) (td : Int32) (wo : Nat → Int32) : Prop := td = nI l ∧ tp_by t = ta ∧ (∀ j, 0 ≤ ta j) ∧ okW wo
def LI (v : xw_V) (G : xw_G) : Prop := ∃ (B : bk_T) (n r e a l : Nat) (K : Nat → bk_T) (t : tp_T) (M : md_T) (te ho ow hs ra lo st av so : Nat → Int32), XB v G B n r e a K t l ∧ MS v G (nR te ho ow hs ra lo (nI n) st av so (nI r)) M ∧ eqB n B (mBL te ho ow hs ra lo n st av so (md_pt M) r) ∧ eqL r B (mBL te ho ow hs ra lo n st av so (md_pt M) r) ∧ VB te ho ow hs ra lo n r ∧ PB K e a (md_be M) (md_pb M) ∧ md_ac M = nI a ∧ TA t l (md_ta M) (md_td M) (md_wo M)
theorem XB_fr {v : xw_V} {G G' : xw_G} {B : bk_T} {n r e a l : Nat} {K : Nat → bk_T} {t : tp_T} (hf : ∀ g, g ≠ 21 → G' g = G g) (h : XB v G B n r e a K t l) : XB v G' B n r e a K t l := by
  obtain ⟨a1, a2, a3, a4, a5, a6, S, A, Q, rd, sw, b1, b2, g0, g1, g2, g3, g4, g5, gK, g18, g19, g20⟩ := h
  exact ⟨a1, a2, a3, a4, a5, a6, S, A, Q, rd, sw, b1, b2, (hf 0 (by decide)).trans g0, (hf 1 (by decide)).trans g1, (hf 2 (by decide)).trans g2, (hf 3 (by decide)).trans g3, (hf 4 (by decide)).trans g4, (hf 5 (by decide)).trans g5, fun j hj => (hf (6 + j) (by omega)).trans (gK j hj), (hf 18 (by decide)).trans g18, (hf 19 (by decide)).trans g19, (hf 20 (by decide)).trans g20⟩
/-- the reference's object stands -/
def mO (G : xw_G) : Prop := ∃ fs : List Value, (G 21)[0]? = some (xw_eo 8 fs)
theorem mO_of {v : xw_V} {G : xw_G} {N : Nat → Int32} {M : md_T} (h : MS v G N M) : mO G := ⟨_, xw_at h rfl⟩
theorem MS_f {v : xw_V} {G G' : xw_G} {N : Nat → Int32} {M : md_T} (hF : XF G G') (h : MS v G N M) : MS v G' N M := (hF 21 (Nat.le_refl 21)).trans h
section LIq
variable {v : xw_V} {G : xw_G} {B : bk_T} {n r e a l : Nat} {K : Nat → bk_T} {t : tp_T} {M : md_T} {te ho ow hs ra lo st av so : Nat → Int32}
theorem LI_c {G2 : xw_G} {be : Nat → Int32} {pt pb : Nat → Int64} {ta wo : Nat → Int32} {ac td : Int32} {N : Nat → Int32} (hX : XB v G B n r e a K t l) (hN : N = nR te ho ow hs ra lo (nI n) st av so (nI r)) (he : eqB n B (mBL te ho ow hs ra lo n st av so pt r)) (hl : eqL r B (mBL te ho ow hs ra lo n st av so pt r)) (hV : VB te ho ow hs ra lo n r) (hP : PB K e a be pb) (hac : ac = nI a) (hT : TA t l ta td wo) (hQ : mAc v G G2 N pt be pb ac ta td wo) : LI v G2 := by
  subst hN
  obtain ⟨⟨M', hM', rfl, rfl, rfl, rfl, rfl, rfl, rfl⟩, hf⟩ := hQ
  exact ⟨B, n, r, e, a, l, K, t, M', te, ho, ow, hs, ra, lo, st, av, so, XB_fr hf hX, hM', he, hl, hV, hP, hac, hT⟩
theorem LI_q {G2 : xw_G} (hX : XB v G B n r e a K t l) (he : eqB n B (mBL te ho ow hs ra lo n st av so (md_pt M) r)) (hl : eqL r B (mBL te ho ow hs ra lo n st av so (md_pt M) r)) (hV : VB te ho ow hs ra lo n r) (hP : PB K e a (md_be M) (md_pb M)) (hac : md_ac M = nI a) (hT : TA t l (md_ta M) (md_td M) (md_wo M)) (hQ : mQ v G G2 (nR te ho ow hs ra lo (nI n) st av so (nI r)) M) : LI v G2 := by
  obtain ⟨⟨M', hM', e1, e2, e3, e4, e5, e6, e7⟩, hf⟩ := hQ
  exact LI_c hX rfl he hl hV hP hac hT ⟨⟨M', hM', e1, e2, e3, e4, e5, e6, e7⟩, hf⟩
end LIq
theorem rate_0 {x : Int32} (h : -1 ≤ x) (c : ¬ x = -1) : 0 ≤ x := by
  rw [Int32.le_iff_toInt_le] at h ⊢
  have e : x.toInt ≠ (-1 : Int32).toInt := fun q => c (Int32.toInt_inj.mp q)
  have e1 : (-1 : Int32).toInt = -1 := by decide
  have e0 : (0 : Int32).toInt = 0 := by decide
  omega
theorem nb_of {x y : Int32} (h0 : 0 ≤ x) (h : x ≤ y) (hy : xn y ≤ 99999) : nb x := ⟨nI_xn h0, Nat.le_trans (xn_le h0 h) hy⟩
theorem VB_vN {te ho ow hs ra lo : Nat → Int32} {n r : Nat} (h : VB te ho ow hs ra lo n r) : vN te ho ow hs ra lo n := by
  obtain ⟨⟨h30, how, hhs, ⟨⟨t1, t2⟩, ⟨t3, t4⟩, ⟨t5, t6⟩, ⟨t7, t8, t9⟩, ⟨t10, t11⟩, t12⟩, hvl⟩, hvh, h8⟩ := h
  have z : (0 : Int32) ≤ 1 := by decide
  refine ⟨fun j hj => ?_, fun h hh => ⟨nb_of (hvh h hh).1 (hvh h hh).2 (by decide), ?_⟩, fun b hb => ⟨?_, ?_, nb_of (Int32.le_trans z (hvl b hb).2.1) (hvl b hb).2.2 (by decide)⟩⟩
  · match j, hj with
    | 0, _ => exact nb_of (Int32.le_trans z t1) t2 (by decide)
    | 1, _ => exact nb_of (Int32.le_trans z t3) t4 (by decide)
    | 2, _ => exact nb_of t5 t6 (by decide)
    | 3, _ => exact nb_of t7 (Int32.le_trans t8 t9) (by decide)
    | 4, _ => exact nb_of (Int32.le_trans t7 t8) t9 (by decide)
    | 5, _ => exact nb_of (Int32.le_trans z t10) t11 (by decide)
    | 6, _ =>
      rcases t12 with q | q
      · rw [q]; exact ⟨by decide, by decide⟩
      · rw [q]; exact ⟨by decide, by decide⟩
  · have q := how h hh
    exact ⟨nI_xn (Int32.not_lt.mp q.2.1), by have := q.2.2; omega⟩
  · have q := hhs b hb
    exact ⟨nI_xn (Int32.not_lt.mp q.2.1), by have := q.2.2; omega⟩
  · by_cases c : ra b = -1
    · exact Or.inl c
    · refine Or.inr (nb_of ?_ (hvl b hb).1.2 (by decide))
      exact rate_0 (hvl b hb).1.1 c
theorem vN_eq {B A : bk_T} {n : Nat} (he : eqB n B A) (h : vN (bk_te A) (bk_ho A) (bk_ow A) (bk_hs A) (bk_ra A) (bk_lo A) n) : vN (bk_te B) (bk_ho B) (bk_ow B) (bk_hs B) (bk_ra B) (bk_lo B) n := by
  refine ⟨fun j hj => by rw [he.1 j hj]; exact h.1 j hj, fun j hj => by rw [(he.2.1 j hj).1, (he.2.1 j hj).2]; exact h.2.1 j hj, fun j hj => by rw [(he.2.2 j hj).1, (he.2.2 j hj).2.1, (he.2.2 j hj).2.2]; exact h.2.2 j hj⟩
theorem p_asTerm {v : xw_V} {G : xw_G} (hI : LI v G) (w : Int32) : xk_Con v yX7_asTerm cX7_asTerm 2 (some .int) 0 0 [.ref (xw_ad v 0 0), .int w] G (fun r9 G1 => ∃ x9 : Int32, r9 = some (.int x9) ∧ mO G1 ∧ xk_Con v yX8_asTerm cX8_asTerm 2 (some .int) 1 22 [.ref (xw_ad v 21 0), .int w] G1 (fun r9 G2 => r9 = some (.int x9) ∧ LI v G2)) := by
  obtain ⟨B, n, r, e, a, l, K, t, M, te, ho, ow, hs, ra, lo, st, av, so, hX, hM, he, hl, hV, hP, hac, hT⟩ := hI
  have hok := hX.1
  have hn := hok.2.1
  have okw := hok.2.2.1
  have okh := hok.2.2.2.1
  have hm : eqB n B (mB te ho ow hs ra lo n) := he
  have hag := kR_eq hm okw okh
  refine xk_mono ?_ (c_X7_asTerm hX  w)
  rintro _ G1 ⟨rfl, hX1, hF1⟩
  refine ⟨_, rfl, mO_of (MS_f hF1 hM), xk_mono ?_ (c_X8_asTerm (MS_f hF1 hM) hV.1 w)⟩
  rintro _ G2 ⟨rfl, hQ⟩
  exact ⟨congrArg (fun x => some (Value.int x)) (cg_asTerm hm w).symm, LI_q hX1 he hl hV hP hac hT hQ⟩
theorem p_of {v : xw_V} {G : xw_G} (hI : LI v G) (b : Int32) (w : Int32) : xk_Con v yX7_of cX7_of 4 (some .int) 6 137 [.ref (xw_ad v 0 0), .int b, .int w] G (fun r9 G1 => ∃ x9 : Int32, r9 = some (.int x9) ∧ mO G1 ∧ xk_Con v yX8_of cX8_of 3 (some .int) 4 89 [.ref (xw_ad v 21 0), .int b, .int w] G1 (fun r9 G2 => r9 = some (.int x9) ∧ LI v G2)) := by
  obtain ⟨B, n, r, e, a, l, K, t, M, te, ho, ow, hs, ra, lo, st, av, so, hX, hM, he, hl, hV, hP, hac, hT⟩ := hI
  have hok := hX.1
  have hn := hok.2.1
  have okw := hok.2.2.1
  have okh := hok.2.2.2.1
  have hm : eqB n B (mB te ho ow hs ra lo n) := he
  have hag := kR_eq hm okw okh
  refine xk_mono ?_ (c_X7_of hX  b w)
  rintro _ G1 ⟨rfl, hX1, hF1⟩
  refine ⟨_, rfl, mO_of (MS_f hF1 hM), xk_mono ?_ (c_X8_of (MS_f hF1 hM) hV.1 b w)⟩
  rintro _ G2 ⟨rfl, hQ⟩
  exact ⟨congrArg (fun x => some (Value.int x)) ((q_of_ag b w hok.1 hn hag).trans (cg_of hm hok.1 rfl hn b w)).symm, LI_q hX1 he hl hV hP hac hT hQ⟩
theorem p_pays {v : xw_V} {G : xw_G} (hI : LI v G) (b : Int32) : xk_Con v yX7_pays cX7_pays 2 (some .long) 6 137 [.ref (xw_ad v 0 0), .int b] G (fun r9 G1 => ∃ x9 : Int64, r9 = some (.long x9) ∧ mO G1 ∧ xk_Con v yX8_pays cX8_pays 2 (some .long) 4 89 [.ref (xw_ad v 21 0), .int b] G1 (fun r9 G2 => r9 = some (.long x9) ∧ LI v G2)) := by
  obtain ⟨B, n, r, e, a, l, K, t, M, te, ho, ow, hs, ra, lo, st, av, so, hX, hM, he, hl, hV, hP, hac, hT⟩ := hI
  have hok := hX.1
  have hn := hok.2.1
  have okw := hok.2.2.1
  have okh := hok.2.2.2.1
  have hm : eqB n B (mB te ho ow hs ra lo n) := he
  have hag := kR_eq hm okw okh
  refine xk_mono ?_ (c_X7_pays hX  b)
  rintro _ G1 ⟨rfl, hX1, hF1⟩
  refine ⟨_, rfl, mO_of (MS_f hF1 hM), xk_mono ?_ (c_X8_pays (MS_f hF1 hM) hV.1 b)⟩
  rintro _ G2 ⟨rfl, hQ⟩
  exact ⟨congrArg (fun x => some (Value.long x)) ((q_pays_ag b hok.1 hn hag).trans (cg_pays hm hok.1 rfl hn b)).symm, LI_q hX1 he hl hV hP hac hT hQ⟩
theorem p_house {v : xw_V} {G : xw_G} (hI : LI v G) (h : Int32) (w : Int32) : xk_Con v yX7_house cX7_house 4 (some .int) 6 137 [.ref (xw_ad v 0 0), .int h, .int w] G (fun r9 G1 => ∃ x9 : Int32, r9 = some (.int x9) ∧ mO G1 ∧ xk_Con v yX8_house cX8_house 5 (some .int) 4 89 [.ref (xw_ad v 21 0), .int h, .int w] G1 (fun r9 G2 => r9 = some (.int x9) ∧ LI v G2)) := by
  obtain ⟨B, n, r, e, a, l, K, t, M, te, ho, ow, hs, ra, lo, st, av, so, hX, hM, he, hl, hV, hP, hac, hT⟩ := hI
  have hok := hX.1
  have hn := hok.2.1
  have okw := hok.2.2.1
  have okh := hok.2.2.2.1
  have hm : eqB n B (mB te ho ow hs ra lo n) := he
  have hag := kR_eq hm okw okh
  refine xk_mono ?_ (c_X7_house hX  h w)
  rintro _ G1 ⟨rfl, hX1, hF1⟩
  refine ⟨_, rfl, mO_of (MS_f hF1 hM), xk_mono ?_ (c_X8_house (MS_f hF1 hM) hV.1 h w)⟩
  rintro _ G2 ⟨rfl, hQ⟩
  exact ⟨congrArg (fun x => some (Value.int x)) ((q_house_ag h w okw hag).trans (cg_house hm h w)).symm, LI_q hX1 he hl hV hP hac hT hQ⟩
theorem p_housePays {v : xw_V} {G : xw_G} (hI : LI v G) (h : Int32) : xk_Con v yX7_housePays cX7_housePays 2 (some .long) 6 137 [.ref (xw_ad v 0 0), .int h] G (fun r9 G1 => ∃ x9 : Int64, r9 = some (.long x9) ∧ mO G1 ∧ xk_Con v yX8_housePays cX8_housePays 2 (some .long) 4 89 [.ref (xw_ad v 21 0), .int h] G1 (fun r9 G2 => r9 = some (.long x9) ∧ LI v G2)) := by
  obtain ⟨B, n, r, e, a, l, K, t, M, te, ho, ow, hs, ra, lo, st, av, so, hX, hM, he, hl, hV, hP, hac, hT⟩ := hI
  have hok := hX.1
  have hn := hok.2.1
  have okw := hok.2.2.1
  have okh := hok.2.2.2.1
  have hm : eqB n B (mB te ho ow hs ra lo n) := he
  have hag := kR_eq hm okw okh
  refine xk_mono ?_ (c_X7_housePays hX  h)
  rintro _ G1 ⟨rfl, hX1, hF1⟩
  refine ⟨_, rfl, mO_of (MS_f hF1 hM), xk_mono ?_ (c_X8_housePays (MS_f hF1 hM) hV.1 h)⟩
  rintro _ G2 ⟨rfl, hQ⟩
  exact ⟨congrArg (fun x => some (Value.long x)) ((q_hpays_ag h hag).trans (cg_hpays hm h)).symm, LI_q hX1 he hl hV hP hac hT hQ⟩
theorem p_result {v : xw_V} {G : xw_G} (hI : LI v G) (w : Int32) : xk_Con v yX7_result cX7_result 2 (some .int) 6 137 [.ref (xw_ad v 0 0), .int w] G (fun r9 G1 => ∃ x9 : Int32, r9 = some (.int x9) ∧ mO G1 ∧ xk_Con v yX8_result cX8_result 2 (some .int) 5 113 [.ref (xw_ad v 21 0), .int w] G1 (fun r9 G2 => r9 = some (.int x9) ∧ LI v G2)) := by
  obtain ⟨B, n, r, e, a, l, K, t, M, te, ho, ow, hs, ra, lo, st, av, so, hX, hM, he, hl, hV, hP, hac, hT⟩ := hI
  have hok := hX.1
  have hn := hok.2.1
  have okw := hok.2.2.1
  have okh := hok.2.2.2.1
  have hm : eqB n B (mB te ho ow hs ra lo n) := he
  have hag := kR_eq hm okw okh
  refine xk_mono ?_ (c_X7_result hX  w)
  rintro _ G1 ⟨rfl, hX1, hF1⟩
  refine ⟨_, rfl, mO_of (MS_f hF1 hM), xk_mono ?_ (c_X8_result (MS_f hF1 hM) hV.1 w)⟩
  rintro _ G2 ⟨rfl, hQ⟩
  exact ⟨congrArg (fun x => some (Value.int x)) (figs_eq w hm.symm hag).symm, LI_q hX1 he hl hV hP hac hT hQ⟩
theorem p_paid {v : xw_V} {G : xw_G} (hI : LI v G) : xk_Con v yX7_paid cX7_paid 1 (some .long) 6 137 [.ref (xw_ad v 0 0)] G (fun r9 G1 => ∃ x9 : Int64, r9 = some (.long x9) ∧ mO G1 ∧ xk_Con v yX8_paid cX8_paid 1 (some .long) 4 89 [.ref (xw_ad v 21 0)] G1 (fun r9 G2 => r9 = some (.long x9) ∧ LI v G2)) := by
  obtain ⟨B, n, r, e, a, l, K, t, M, te, ho, ow, hs, ra, lo, st, av, so, hX, hM, he, hl, hV, hP, hac, hT⟩ := hI
  have hok := hX.1
  have hn := hok.2.1
  have okw := hok.2.2.1
  have okh := hok.2.2.2.1
  have hm : eqB n B (mB te ho ow hs ra lo n) := he
  have hag := kR_eq hm okw okh
  refine xk_mono ?_ (c_X7_paid hX  )
  rintro _ G1 ⟨rfl, hX1, hF1⟩
  refine ⟨_, rfl, mO_of (MS_f hF1 hM), xk_mono ?_ (c_X8_paid (MS_f hF1 hM) hV.1 )⟩
  rintro _ G2 ⟨rfl, hQ⟩
  exact ⟨congrArg (fun x => some (Value.long x)) (pa_eq hm.symm hag).symm, LI_q hX1 he hl hV hP hac hT hQ⟩
theorem p_mean {v : xw_V} {G : xw_G} (hI : LI v G) (h : Int32) : xk_Con v yX7_mean cX7_mean 4 (some .long) 6 137 [.ref (xw_ad v 0 0), .int h] G (fun r9 G1 => ∃ x9 : Int64, r9 = some (.long x9) ∧ mO G1 ∧ xk_Con v yX8_mean cX8_mean 3 (some .long) 4 89 [.ref (xw_ad v 21 0), .int h] G1 (fun r9 G2 => r9 = some (.long x9) ∧ LI v G2)) := by
  obtain ⟨B, n, r, e, a, l, K, t, M, te, ho, ow, hs, ra, lo, st, av, so, hX, hM, he, hl, hV, hP, hac, hT⟩ := hI
  have hok := hX.1
  have hn := hok.2.1
  have okw := hok.2.2.1
  have okh := hok.2.2.2.1
  have hm : eqB n B (mB te ho ow hs ra lo n) := he
  have hag := kR_eq hm okw okh
  refine xk_mono ?_ (c_X7_mean hX  h)
  rintro _ G1 ⟨rfl, hX1, hF1⟩
  refine ⟨_, rfl, mO_of (MS_f hF1 hM), xk_mono ?_ (c_X8_mean (MS_f hF1 hM) hV.1 h)⟩
  rintro _ G2 ⟨rfl, hQ⟩
  exact ⟨congrArg (fun x => some (Value.long x)) ((q_mean_ag h hag).trans (cg_mean hm h)).symm, LI_q hX1 he hl hV hP hac hT hQ⟩
theorem p_filled {v : xw_V} {G : xw_G} (hI : LI v G) (b : Int32) : xk_Con v yX7_filled cX7_filled 2 (some .int) 6 137 [.ref (xw_ad v 0 0), .int b] G (fun r9 G1 => ∃ x9 : Int32, r9 = some (.int x9) ∧ mO G1 ∧ xk_Con v yX8_filled cX8_filled 2 (some .int) 4 89 [.ref (xw_ad v 21 0), .int b] G1 (fun r9 G2 => r9 = some (.int x9) ∧ LI v G2)) := by
  obtain ⟨B, n, r, e, a, l, K, t, M, te, ho, ow, hs, ra, lo, st, av, so, hX, hM, he, hl, hV, hP, hac, hT⟩ := hI
  have hok := hX.1
  have hn := hok.2.1
  have okw := hok.2.2.1
  have okh := hok.2.2.2.1
  have hm : eqB n B (mB te ho ow hs ra lo n) := he
  have hag := kR_eq hm okw okh
  refine xk_mono ?_ (c_X7_filled hX  b)
  rintro _ G1 ⟨rfl, hX1, hF1⟩
  refine ⟨_, rfl, mO_of (MS_f hF1 hM), xk_mono ?_ (c_X8_filled (MS_f hF1 hM) hV.1 b)⟩
  rintro _ G2 ⟨rfl, hQ⟩
  exact ⟨congrArg (fun x => some (Value.int x)) ((q_filled_ag b hok.1 hn hag).trans (cg_filled hm hok.1 rfl hn b)).symm, LI_q hX1 he hl hV hP hac hT hQ⟩
theorem p_dearest {v : xw_V} {G : xw_G} (hI : LI v G) : xk_Con v yX7_dearest cX7_dearest 8 (some .int) 6 137 [.ref (xw_ad v 0 0)] G (fun r9 G1 => ∃ x9 : Int32, r9 = some (.int x9) ∧ mO G1 ∧ xk_Con v yX8_dearest cX8_dearest 5 (some .int) 4 89 [.ref (xw_ad v 21 0)] G1 (fun r9 G2 => r9 = some (.int x9) ∧ LI v G2)) := by
  obtain ⟨B, n, r, e, a, l, K, t, M, te, ho, ow, hs, ra, lo, st, av, so, hX, hM, he, hl, hV, hP, hac, hT⟩ := hI
  have hok := hX.1
  have hn := hok.2.1
  have okw := hok.2.2.1
  have okh := hok.2.2.2.1
  have hm : eqB n B (mB te ho ow hs ra lo n) := he
  have hag := kR_eq hm okw okh
  refine xk_mono ?_ (c_X7_dearest hX  )
  rintro _ G1 ⟨rfl, hX1, hF1⟩
  refine ⟨_, rfl, mO_of (MS_f hF1 hM), xk_mono ?_ (c_X8_dearest (MS_f hF1 hM) hV.1 )⟩
  rintro _ G2 ⟨rfl, hQ⟩
  exact ⟨congrArg (fun x => some (Value.int x)) (congrArg Prod.fst ((dear_ag (fun j hj => payF_ag hag hj)).trans (cg_dear hm))).symm, LI_q hX1 he hl hV hP hac hT hQ⟩
theorem p_price {v : xw_V} {G : xw_G} (hI : LI v G) (x : Int32) : xk_Con v yX7_price cX7_price 2 (some .int) 1 21 [.ref (xw_ad v 0 0), .int x] G (fun r9 G1 => ∃ x9 : Int32, r9 = some (.int x9) ∧ mO G1 ∧ xk_Con v yX8_price cX8_price 2 (some .int) 2 42 [.ref (xw_ad v 21 0), .int x] G1 (fun r9 G2 => r9 = some (.int x9) ∧ LI v G2)) := by
  obtain ⟨B, n, r, e, a, l, K, t, M, te, ho, ow, hs, ra, lo, st, av, so, hX, hM, he, hl, hV, hP, hac, hT⟩ := hI
  have hok := hX.1
  have hn := hok.2.1
  have okw := hok.2.2.1
  have okh := hok.2.2.2.1
  have hm : eqB n B (mB te ho ow hs ra lo n) := he
  have hag := kR_eq hm okw okh
  refine xk_mono ?_ (c_X7_price hX  x)
  rintro _ G1 ⟨rfl, hX1, hF1⟩
  refine ⟨_, rfl, mO_of (MS_f hF1 hM), xk_mono ?_ (c_X8_price (MS_f hF1 hM) hV.1 x)⟩
  rintro _ G2 ⟨rfl, hQ⟩
  exact ⟨congrArg (fun x => some (Value.int x)) (cg_price hm x).symm, LI_q hX1 he hl hV hP hac hT hQ⟩
theorem p_upTo {v : xw_V} {G : xw_G} (hI : LI v G) (x : Int32) : xk_Con v yX7_upTo cX7_upTo 2 (some .int) 6 137 [.ref (xw_ad v 0 0), .int x] G (fun r9 G1 => ∃ x9 : Int32, r9 = some (.int x9) ∧ mO G1 ∧ xk_Con v yX8_upTo cX8_upTo 2 (some .int) 4 89 [.ref (xw_ad v 21 0), .int x] G1 (fun r9 G2 => r9 = some (.int x9) ∧ LI v G2)) := by
  obtain ⟨B, n, r, e, a, l, K, t, M, te, ho, ow, hs, ra, lo, st, av, so, hX, hM, he, hl, hV, hP, hac, hT⟩ := hI
  have hok := hX.1
  have hn := hok.2.1
  have okw := hok.2.2.1
  have okh := hok.2.2.2.1
  have hm : eqB n B (mB te ho ow hs ra lo n) := he
  have hag := kR_eq hm okw okh
  refine xk_mono ?_ (c_X7_upTo hX  x)
  rintro _ G1 ⟨rfl, hX1, hF1⟩
  refine ⟨_, rfl, mO_of (MS_f hF1 hM), xk_mono ?_ (c_X8_upTo (MS_f hF1 hM) hV.1 x)⟩
  rintro _ G2 ⟨rfl, hQ⟩
  exact ⟨congrArg (fun x => some (Value.int x)) ((q_upTo_ag x hag).trans (cg_upTo hm x)).symm, LI_q hX1 he hl hV hP hac hT hQ⟩
theorem p_ranked {v : xw_V} {G : xw_G} (hI : LI v G) (b : Int32) : xk_Con v yX7_ranked cX7_ranked 2 (some .int) 6 137 [.ref (xw_ad v 0 0), .int b] G (fun r9 G1 => ∃ x9 : Int32, r9 = some (.int x9) ∧ mO G1 ∧ xk_Con v yX8_ranked cX8_ranked 2 (some .int) 2 43 [.ref (xw_ad v 21 0), .int b] G1 (fun r9 G2 => r9 = some (.int x9) ∧ LI v G2)) := by
  obtain ⟨B, n, r, e, a, l, K, t, M, te, ho, ow, hs, ra, lo, st, av, so, hX, hM, he, hl, hV, hP, hac, hT⟩ := hI
  have hok := hX.1
  have hn := hok.2.1
  have okw := hok.2.2.1
  have okh := hok.2.2.2.1
  have hm : eqB n B (mB te ho ow hs ra lo n) := he
  have hag := kR_eq hm okw okh
  refine xk_mono ?_ (c_X7_ranked hX  b)
  rintro _ G1 ⟨rfl, hX1, hF1⟩
  refine ⟨_, rfl, mO_of (MS_f hF1 hM), xk_mono ?_ (c_X8_ranked (MS_f hF1 hM) hV.1 b)⟩
  rintro _ G2 ⟨rfl, hQ⟩
  exact ⟨congrArg (fun x => some (Value.int x)) ((q_ranked_ag b hok.1 hn hag).trans (cg_ranked hok.1 rfl b)).symm, LI_q hX1 he hl hV hP hac hT hQ⟩
theorem p_full {v : xw_V} {G : xw_G} (hI : LI v G) : xk_Con v yX7_full cX7_full 5 (some .int) 6 137 [.ref (xw_ad v 0 0)] G (fun r9 G1 => ∃ x9 : Int32, r9 = some (.int x9) ∧ mO G1 ∧ xk_Con v yX8_full cX8_full 5 (some .int) 4 89 [.ref (xw_ad v 21 0)] G1 (fun r9 G2 => r9 = some (.int x9) ∧ LI v G2)) := by
  obtain ⟨B, n, r, e, a, l, K, t, M, te, ho, ow, hs, ra, lo, st, av, so, hX, hM, he, hl, hV, hP, hac, hT⟩ := hI
  have hok := hX.1
  have hn := hok.2.1
  have okw := hok.2.2.1
  have okh := hok.2.2.2.1
  have hm : eqB n B (mB te ho ow hs ra lo n) := he
  have hag := kR_eq hm okw okh
  refine xk_mono ?_ (c_X7_full hX  )
  rintro _ G1 ⟨rfl, hX1, hF1⟩
  refine ⟨_, rfl, mO_of (MS_f hF1 hM), xk_mono ?_ (c_X8_full (MS_f hF1 hM) hV.1 )⟩
  rintro _ G2 ⟨rfl, hQ⟩
  exact ⟨congrArg (fun x => some (Value.int x)) ((full_ag hag).trans (cg_full hm okh)).symm, LI_q hX1 he hl hV hP hac hT hQ⟩
theorem p_crowded {v : xw_V} {G : xw_G} (hI : LI v G) : xk_Con v yX7_crowded cX7_crowded 6 (some .int) 6 137 [.ref (xw_ad v 0 0)] G (fun r9 G1 => ∃ x9 : Int32, r9 = some (.int x9) ∧ mO G1 ∧ xk_Con v yX8_crowded cX8_crowded 5 (some .int) 4 89 [.ref (xw_ad v 21 0)] G1 (fun r9 G2 => r9 = some (.int x9) ∧ LI v G2)) := by
  obtain ⟨B, n, r, e, a, l, K, t, M, te, ho, ow, hs, ra, lo, st, av, so, hX, hM, he, hl, hV, hP, hac, hT⟩ := hI
  have hok := hX.1
  have hn := hok.2.1
  have okw := hok.2.2.1
  have okh := hok.2.2.2.1
  have hm : eqB n B (mB te ho ow hs ra lo n) := he
  have hag := kR_eq hm okw okh
  refine xk_mono ?_ (c_X7_crowded hX  )
  rintro _ G1 ⟨rfl, hX1, hF1⟩
  refine ⟨_, rfl, mO_of (MS_f hF1 hM), xk_mono ?_ (c_X8_crowded (MS_f hF1 hM) hV.1 )⟩
  rintro _ G2 ⟨rfl, hQ⟩
  exact ⟨congrArg (fun x => some (Value.int x)) ((crowd_ag hag).trans (cg_crowd hm)).symm, LI_q hX1 he hl hV hP hac hT hQ⟩
theorem p_step {v : xw_V} {G : xw_G} (hI : LI v G) (k : Int32) (w : Int32) : xk_Con v yX7_step cX7_step 5 (some .int) 6 137 [.ref (xw_ad v 0 0), .int k, .int w] G (fun r9 G1 => ∃ x9 : Int32, r9 = some (.int x9) ∧ mO G1 ∧ xk_Con v yX8_step cX8_step 8 (some .int) 4 89 [.ref (xw_ad v 21 0), .int k, .int w] G1 (fun r9 G2 => r9 = some (.int x9) ∧ LI v G2)) := by
  obtain ⟨B, n, r, e, a, l, K, t, M, te, ho, ow, hs, ra, lo, st, av, so, hX, hM, he, hl, hV, hP, hac, hT⟩ := hI
  have hok := hX.1
  have hn := hok.2.1
  have okw := hok.2.2.1
  have okh := hok.2.2.2.1
  have hm : eqB n B (mB te ho ow hs ra lo n) := he
  have hag := kR_eq hm okw okh
  refine xk_mono ?_ (c_X7_step hX  k w)
  rintro _ G1 ⟨rfl, hX1, hF1⟩
  refine ⟨_, rfl, mO_of (MS_f hF1 hM), xk_mono ?_ (c_X8_step (MS_f hF1 hM) hV.1 k w)⟩
  rintro _ G2 ⟨rfl, hQ⟩
  exact ⟨congrArg (fun x => some (Value.int x)) ((step_ag k w (kR_ord B n hn).1 hag).trans (cg_step hm (kR_ord (mB te ho ow hs ra lo n) n hn).1 k w)).symm, LI_q hX1 he hl hV hP hac hT hQ⟩
theorem p_byOffer {v : xw_V} {G : xw_G} (hI : LI v G) (x : Int32) (y : Int32) : xk_Con v yX7_byOffer cX7_byOffer 3 (some .int) 7 160 [.ref (xw_ad v 0 0), .int x, .int y] G (fun r9 G1 => ∃ x9 : Int32, r9 = some (.int x9) ∧ mO G1 ∧ xk_Con v yX8_byOffer cX8_byOffer 3 (some .int) 6 138 [.ref (xw_ad v 21 0), .int x, .int y] G1 (fun r9 G2 => r9 = some (.int x9) ∧ LI v G2)) := by
  obtain ⟨B, n, r, e, a, l, K, t, M, te, ho, ow, hs, ra, lo, st, av, so, hX, hM, he, hl, hV, hP, hac, hT⟩ := hI
  have hok := hX.1
  have hn := hok.2.1
  have okw := hok.2.2.1
  have okh := hok.2.2.2.1
  have hm : eqB n B (mB te ho ow hs ra lo n) := he
  have hag := kR_eq hm okw okh
  refine xk_mono ?_ (c_X7_byOffer hX  x y)
  rintro _ G1 ⟨rfl, hX1, hF1⟩
  refine ⟨_, rfl, mO_of (MS_f hF1 hM), xk_mono ?_ (c_X8_byOffer (MS_f hF1 hM) hV.1 x y)⟩
  rintro _ G2 ⟨rfl, hQ⟩
  exact ⟨congrArg (fun x => some (Value.int x)) (cg_figBy hm okw okh 0 x y).symm, LI_q hX1 he hl hV hP hac hT hQ⟩
theorem p_offerFor {v : xw_V} {G : xw_G} (hI : LI v G) (r1 : Int32) : xk_Con v yX7_offerFor cX7_offerFor 3 (some .int) 7 159 [.ref (xw_ad v 0 0), .int r1] G (fun r9 G1 => ∃ x9 : Int32, r9 = some (.int x9) ∧ mO G1 ∧ xk_Con v yX8_offerFor cX8_offerFor 3 (some .int) 6 138 [.ref (xw_ad v 21 0), .int r1] G1 (fun r9 G2 => r9 = some (.int x9) ∧ LI v G2)) := by
  obtain ⟨B, n, r, e, a, l, K, t, M, te, ho, ow, hs, ra, lo, st, av, so, hX, hM, he, hl, hV, hP, hac, hT⟩ := hI
  have hok := hX.1
  have hn := hok.2.1
  have okw := hok.2.2.1
  have okh := hok.2.2.2.1
  have hm : eqB n B (mB te ho ow hs ra lo n) := he
  have hag := kR_eq hm okw okh
  refine xk_mono ?_ (c_X7_offerFor hX  r1)
  rintro _ G1 ⟨rfl, hX1, hF1⟩
  refine ⟨_, rfl, mO_of (MS_f hF1 hM), xk_mono ?_ (c_X8_offerFor (MS_f hF1 hM) hV.1 r1)⟩
  rintro _ G2 ⟨rfl, hQ⟩
  exact ⟨congrArg (fun x => some (Value.int x)) (cg_offer hm okw okh r1).symm, LI_q hX1 he hl hV hP hac hT hQ⟩
theorem p_byTerm {v : xw_V} {G : xw_G} (hI : LI v G) (w1 : Int32) (x : Int32) (y : Int32) : xk_Con v yX7_byTerm cX7_byTerm 4 (some .int) 7 160 [.ref (xw_ad v 0 0), .int w1, .int x, .int y] G (fun r9 G1 => ∃ x9 : Int32, r9 = some (.int x9) ∧ mO G1 ∧ xk_Con v yX8_byTerm cX8_byTerm 4 (some .int) 6 138 [.ref (xw_ad v 21 0), .int w1, .int x, .int y] G1 (fun r9 G2 => r9 = some (.int x9) ∧ LI v G2)) := by
  obtain ⟨B, n, r, e, a, l, K, t, M, te, ho, ow, hs, ra, lo, st, av, so, hX, hM, he, hl, hV, hP, hac, hT⟩ := hI
  have hok := hX.1
  have hn := hok.2.1
  have okw := hok.2.2.1
  have okh := hok.2.2.2.1
  have hm : eqB n B (mB te ho ow hs ra lo n) := he
  have hag := kR_eq hm okw okh
  refine xk_mono ?_ (c_X7_byTerm hX  w1 x y)
  rintro _ G1 ⟨rfl, hX1, hF1⟩
  refine ⟨_, rfl, mO_of (MS_f hF1 hM), xk_mono ?_ (c_X8_byTerm (MS_f hF1 hM) hV.1 w1 x y)⟩
  rintro _ G2 ⟨rfl, hQ⟩
  exact ⟨congrArg (fun x => some (Value.int x)) (cg_figBy hm okw okh w1 x y).symm, LI_q hX1 he hl hV hP hac hT hQ⟩
theorem p_limitFor {v : xw_V} {G : xw_G} (hI : LI v G) (h : Int32) (y : Int32) : xk_Con v yX7_limitFor cX7_limitFor 4 (some .int) 7 159 [.ref (xw_ad v 0 0), .int h, .int y] G (fun r9 G1 => ∃ x9 : Int32, r9 = some (.int x9) ∧ mO G1 ∧ xk_Con v yX8_limitFor cX8_limitFor 6 (some .int) 4 89 [.ref (xw_ad v 21 0), .int h, .int y] G1 (fun r9 G2 => r9 = some (.int x9) ∧ LI v G2)) := by
  obtain ⟨B, n, r, e, a, l, K, t, M, te, ho, ow, hs, ra, lo, st, av, so, hX, hM, he, hl, hV, hP, hac, hT⟩ := hI
  have hok := hX.1
  have hn := hok.2.1
  have okw := hok.2.2.1
  have okh := hok.2.2.2.1
  have hm : eqB n B (mB te ho ow hs ra lo n) := he
  have hag := kR_eq hm okw okh
  refine xk_mono ?_ (c_X7_limitFor hX  h y)
  rintro _ G1 ⟨rfl, hX1, hF1⟩
  refine ⟨_, rfl, mO_of (MS_f hF1 hM), xk_mono ?_ (c_X8_limitFor (MS_f hF1 hM) hV.1 h y)⟩
  rintro _ G2 ⟨rfl, hQ⟩
  exact ⟨congrArg (fun x => some (Value.int x)) (cg_limit hm okw okh h y).symm, LI_q hX1 he hl hV hP hac hT hQ⟩
theorem p_shareFor {v : xw_V} {G : xw_G} (hI : LI v G) (y : Int32) : xk_Con v yX7_shareFor cX7_shareFor 3 (some .int) 7 159 [.ref (xw_ad v 0 0), .int y] G (fun r9 G1 => ∃ x9 : Int32, r9 = some (.int x9) ∧ mO G1 ∧ xk_Con v yX8_shareFor cX8_shareFor 3 (some .int) 6 138 [.ref (xw_ad v 21 0), .int y] G1 (fun r9 G2 => r9 = some (.int x9) ∧ LI v G2)) := by
  obtain ⟨B, n, r, e, a, l, K, t, M, te, ho, ow, hs, ra, lo, st, av, so, hX, hM, he, hl, hV, hP, hac, hT⟩ := hI
  have hok := hX.1
  have hn := hok.2.1
  have okw := hok.2.2.1
  have okh := hok.2.2.2.1
  have hm : eqB n B (mB te ho ow hs ra lo n) := he
  have hag := kR_eq hm okw okh
  refine xk_mono ?_ (c_X7_shareFor hX  y)
  rintro _ G1 ⟨rfl, hX1, hF1⟩
  refine ⟨_, rfl, mO_of (MS_f hF1 hM), xk_mono ?_ (c_X8_shareFor (MS_f hF1 hM) hV.1 y)⟩
  rintro _ G2 ⟨rfl, hQ⟩
  exact ⟨congrArg (fun x => some (Value.int x)) (cg_share hm okw okh y).symm, LI_q hX1 he hl hV hP hac hT hQ⟩
theorem p_lotsFor {v : xw_V} {G : xw_G} (hI : LI v G) (b : Int32) (y : Int32) : xk_Con v yX7_lotsFor cX7_lotsFor 4 (some .int) 6 137 [.ref (xw_ad v 0 0), .int b, .int y] G (fun r9 G1 => ∃ x9 : Int32, r9 = some (.int x9) ∧ mO G1 ∧ xk_Con v yX8_lotsFor cX8_lotsFor 4 (some .int) 5 114 [.ref (xw_ad v 21 0), .int b, .int y] G1 (fun r9 G2 => r9 = some (.int x9) ∧ LI v G2)) := by
  obtain ⟨B, n, r, e, a, l, K, t, M, te, ho, ow, hs, ra, lo, st, av, so, hX, hM, he, hl, hV, hP, hac, hT⟩ := hI
  have hok := hX.1
  have hn := hok.2.1
  have okw := hok.2.2.1
  have okh := hok.2.2.2.1
  have hm : eqB n B (mB te ho ow hs ra lo n) := he
  have hag := kR_eq hm okw okh
  refine xk_mono ?_ (c_X7_lotsFor hX  b y)
  rintro _ G1 ⟨rfl, hX1, hF1⟩
  refine ⟨_, rfl, mO_of (MS_f hF1 hM), xk_mono ?_ (c_X8_lotsFor (MS_f hF1 hM) hV.1 b y)⟩
  rintro _ G2 ⟨rfl, hQ⟩
  exact ⟨congrArg (fun x => some (Value.int x)) (cg_lots hm okw okh hok.1 rfl hn b y).symm, LI_q hX1 he hl hV hP hac hT hQ⟩
theorem p_bestOffer {v : xw_V} {G : xw_G} (hI : LI v G) : xk_Con v yX7_bestOffer cX7_bestOffer 7 (some .int) 7 159 [.ref (xw_ad v 0 0)] G (fun r9 G1 => ∃ x9 : Int32, r9 = some (.int x9) ∧ mO G1 ∧ xk_Con v yX8_bestOffer cX8_bestOffer 8 (some .int) 4 89 [.ref (xw_ad v 21 0)] G1 (fun r9 G2 => r9 = some (.int x9) ∧ LI v G2)) := by
  obtain ⟨B, n, r, e, a, l, K, t, M, te, ho, ow, hs, ra, lo, st, av, so, hX, hM, he, hl, hV, hP, hac, hT⟩ := hI
  have hok := hX.1
  have hn := hok.2.1
  have okw := hok.2.2.1
  have okh := hok.2.2.2.1
  have hm : eqB n B (mB te ho ow hs ra lo n) := he
  have hag := kR_eq hm okw okh
  refine xk_mono ?_ (c_X7_bestOffer hX  )
  rintro _ G1 ⟨rfl, hX1, hF1⟩
  refine ⟨_, rfl, mO_of (MS_f hF1 hM), xk_mono ?_ (c_X8_bestOffer (MS_f hF1 hM) hV.1 )⟩
  rintro _ G2 ⟨rfl, hQ⟩
  exact ⟨congrArg (fun x => some (Value.int x)) (cg_best hm okw okh).symm, LI_q hX1 he hl hV hP hac hT hQ⟩
theorem p_paidBy {v : xw_V} {G : xw_G} (hI : LI v G) (x : Int32) : xk_Con v yX7_paidBy cX7_paidBy 2 (some .long) 7 159 [.ref (xw_ad v 0 0), .int x] G (fun r9 G1 => ∃ x9 : Int64, r9 = some (.long x9) ∧ mO G1 ∧ xk_Con v yX8_paidBy cX8_paidBy 5 (some .long) 4 89 [.ref (xw_ad v 21 0), .int x] G1 (fun r9 G2 => r9 = some (.long x9) ∧ LI v G2)) := by
  obtain ⟨B, n, r, e, a, l, K, t, M, te, ho, ow, hs, ra, lo, st, av, so, hX, hM, he, hl, hV, hP, hac, hT⟩ := hI
  have hok := hX.1
  have hn := hok.2.1
  have okw := hok.2.2.1
  have okh := hok.2.2.2.1
  have hm : eqB n B (mB te ho ow hs ra lo n) := he
  have hag := kR_eq hm okw okh
  refine xk_mono ?_ (c_X7_paidBy hX  x)
  rintro _ G1 ⟨rfl, hX1, hF1⟩
  refine ⟨_, rfl, mO_of (MS_f hF1 hM), xk_mono ?_ (c_X8_paidBy (MS_f hF1 hM) hV.1 x)⟩
  rintro _ G2 ⟨rfl, hQ⟩
  exact ⟨congrArg (fun x => some (Value.long x)) (cg_paidBy hm okw okh x).symm, LI_q hX1 he hl hV hP hac hT hQ⟩
theorem p_soldAt {v : xw_V} {G : xw_G} (hI : LI v G) (b : Int32) (x : Int32) : xk_Con v yX7_soldAt cX7_soldAt 3 (some .int) 7 159 [.ref (xw_ad v 0 0), .int b, .int x] G (fun r9 G1 => ∃ x9 : Int32, r9 = some (.int x9) ∧ mO G1 ∧ xk_Con v yX8_soldAt cX8_soldAt 3 (some .int) 5 114 [.ref (xw_ad v 21 0), .int b, .int x] G1 (fun r9 G2 => r9 = some (.int x9) ∧ LI v G2)) := by
  obtain ⟨B, n, r, e, a, l, K, t, M, te, ho, ow, hs, ra, lo, st, av, so, hX, hM, he, hl, hV, hP, hac, hT⟩ := hI
  have hok := hX.1
  have hn := hok.2.1
  have okw := hok.2.2.1
  have okh := hok.2.2.2.1
  have hm : eqB n B (mB te ho ow hs ra lo n) := he
  have hag := kR_eq hm okw okh
  refine xk_mono ?_ (c_X7_soldAt hX  b x)
  rintro _ G1 ⟨rfl, hX1, hF1⟩
  refine ⟨_, rfl, mO_of (MS_f hF1 hM), xk_mono ?_ (c_X8_soldAt (MS_f hF1 hM) hV.1 b x)⟩
  rintro _ G2 ⟨rfl, hQ⟩
  exact ⟨congrArg (fun x => some (Value.int x)) (cg_soldAt hm okw okh hok.1 rfl hn b x).symm, LI_q hX1 he hl hV hP hac hT hQ⟩
theorem p_yieldFor {v : xw_V} {G : xw_G} (hI : LI v G) (b : Int32) (y : Int32) : xk_Con v yX7_yieldFor cX7_yieldFor 4 (some .int) 7 159 [.ref (xw_ad v 0 0), .int b, .int y] G (fun r9 G1 => ∃ x9 : Int32, r9 = some (.int x9) ∧ mO G1 ∧ xk_Con v yX8_yieldFor cX8_yieldFor 4 (some .int) 5 114 [.ref (xw_ad v 21 0), .int b, .int y] G1 (fun r9 G2 => r9 = some (.int x9) ∧ LI v G2)) := by
  obtain ⟨B, n, r, e, a, l, K, t, M, te, ho, ow, hs, ra, lo, st, av, so, hX, hM, he, hl, hV, hP, hac, hT⟩ := hI
  have hok := hX.1
  have hn := hok.2.1
  have okw := hok.2.2.1
  have okh := hok.2.2.2.1
  have hm : eqB n B (mB te ho ow hs ra lo n) := he
  have hag := kR_eq hm okw okh
  refine xk_mono ?_ (c_X7_yieldFor hX  b y)
  rintro _ G1 ⟨rfl, hX1, hF1⟩
  refine ⟨_, rfl, mO_of (MS_f hF1 hM), xk_mono ?_ (c_X8_yieldFor (MS_f hF1 hM) hV.1 b y)⟩
  rintro _ G2 ⟨rfl, hQ⟩
  exact ⟨congrArg (fun x => some (Value.int x)) (cg_yield hm okw okh hok.1 rfl hn b y).symm, LI_q hX1 he hl hV hP hac hT hQ⟩
theorem p_soldAllAt {v : xw_V} {G : xw_G} (hI : LI v G) (h : Int32) (x : Int32) : xk_Con v yX7_soldAllAt cX7_soldAllAt 4 (some .int) 6 137 [.ref (xw_ad v 0 0), .int h, .int x] G (fun r9 G1 => ∃ x9 : Int32, r9 = some (.int x9) ∧ mO G1 ∧ xk_Con v yX8_soldAllAt cX8_soldAllAt 4 (some .int) 4 89 [.ref (xw_ad v 21 0), .int h, .int x] G1 (fun r9 G2 => r9 = some (.int x9) ∧ LI v G2)) := by
  obtain ⟨B, n, r, e, a, l, K, t, M, te, ho, ow, hs, ra, lo, st, av, so, hX, hM, he, hl, hV, hP, hac, hT⟩ := hI
  have hok := hX.1
  have hn := hok.2.1
  have okw := hok.2.2.1
  have okh := hok.2.2.2.1
  have hm : eqB n B (mB te ho ow hs ra lo n) := he
  have hag := kR_eq hm okw okh
  refine xk_mono ?_ (c_X7_soldAllAt hX  h x)
  rintro _ G1 ⟨rfl, hX1, hF1⟩
  refine ⟨_, rfl, mO_of (MS_f hF1 hM), xk_mono ?_ (c_X8_soldAllAt (MS_f hF1 hM) hV.1 h x)⟩
  rintro _ G2 ⟨rfl, hQ⟩
  exact ⟨congrArg (fun x => some (Value.int x)) (cg_allAt hm okw okh h x).symm, LI_q hX1 he hl hV hP hac hT hQ⟩
theorem p_stopWithout {v : xw_V} {G : xw_G} (hI : LI v G) (b : Int32) : xk_Con v yX7_stopWithout cX7_stopWithout 2 (some .int) 6 137 [.ref (xw_ad v 0 0), .int b] G (fun r9 G1 => ∃ x9 : Int32, r9 = some (.int x9) ∧ mO G1 ∧ xk_Con v yX8_stopWithout cX8_stopWithout 2 (some .int) 4 89 [.ref (xw_ad v 21 0), .int b] G1 (fun r9 G2 => r9 = some (.int x9) ∧ LI v G2)) := by
  obtain ⟨B, n, r, e, a, l, K, t, M, te, ho, ow, hs, ra, lo, st, av, so, hX, hM, he, hl, hV, hP, hac, hT⟩ := hI
  have hok := hX.1
  have hn := hok.2.1
  have okw := hok.2.2.1
  have okh := hok.2.2.2.1
  have hm : eqB n B (mB te ho ow hs ra lo n) := he
  have hag := kR_eq hm okw okh
  refine xk_mono ?_ (c_X7_stopWithout hX  b)
  rintro _ G1 ⟨rfl, hX1, hF1⟩
  refine ⟨_, rfl, mO_of (MS_f hF1 hM), xk_mono ?_ (c_X8_stopWithout (MS_f hF1 hM) hV.1 b)⟩
  rintro _ G2 ⟨rfl, hQ⟩
  exact ⟨congrArg (fun x => some (Value.int x)) (cg_without hm okw okh hok.1 rfl hn b).symm, LI_q hX1 he hl hV hP hac hT hQ⟩
theorem p_pivot {v : xw_V} {G : xw_G} (hI : LI v G) : xk_Con v yX7_pivot cX7_pivot 5 (some .int) 6 137 [.ref (xw_ad v 0 0)] G (fun r9 G1 => ∃ x9 : Int32, r9 = some (.int x9) ∧ mO G1 ∧ xk_Con v yX8_pivot cX8_pivot 5 (some .int) 4 89 [.ref (xw_ad v 21 0)] G1 (fun r9 G2 => r9 = some (.int x9) ∧ LI v G2)) := by
  obtain ⟨B, n, r, e, a, l, K, t, M, te, ho, ow, hs, ra, lo, st, av, so, hX, hM, he, hl, hV, hP, hac, hT⟩ := hI
  have hok := hX.1
  have hn := hok.2.1
  have okw := hok.2.2.1
  have okh := hok.2.2.2.1
  have hm : eqB n B (mB te ho ow hs ra lo n) := he
  have hag := kR_eq hm okw okh
  refine xk_mono ?_ (c_X7_pivot hX  )
  rintro _ G1 ⟨rfl, hX1, hF1⟩
  refine ⟨_, rfl, mO_of (MS_f hF1 hM), xk_mono ?_ (c_X8_pivot (MS_f hF1 hM) hV.1 )⟩
  rintro _ G2 ⟨rfl, hQ⟩
  exact ⟨congrArg (fun x => some (Value.int x)) (cg_pivot hm okw okh).symm, LI_q hX1 he hl hV hP hac hT hQ⟩
theorem p_record {v : xw_V} {G : xw_G} (hI : LI v G) (k : Int32) (w : Int32) : xk_Con v yX7_record cX7_record 4 (some .int) 1 21 [.ref (xw_ad v 0 0), .int k, .int w] G (fun r9 G1 => ∃ x9 : Int32, r9 = some (.int x9) ∧ mO G1 ∧ xk_Con v yX8_record cX8_record 3 (some .int) 2 43 [.ref (xw_ad v 21 0), .int k, .int w] G1 (fun r9 G2 => r9 = some (.int x9) ∧ LI v G2)) := by
  obtain ⟨B, n, r, e, a, l, K, t, M, te, ho, ow, hs, ra, lo, st, av, so, hX, hM, he, hl, hV, hP, hac, hT⟩ := hI
  have hok := hX.1
  have hn := hok.2.1
  have okw := hok.2.2.1
  have okh := hok.2.2.2.1
  have hm : eqB n B (mB te ho ow hs ra lo n) := he
  have hag := kR_eq hm okw okh
  refine xk_mono ?_ (c_X7_record hX  k w)
  rintro _ G1 ⟨rfl, hX1, hF1⟩
  refine ⟨_, rfl, mO_of (MS_f hF1 hM), xk_mono ?_ (c_X8_record (MS_f hF1 hM) hV.2.2 k w)⟩
  rintro _ G2 ⟨rfl, hQ⟩
  exact ⟨congrArg (fun x => some (Value.int x)) (cg_record hl hok.2.2.2.2.1 rfl hV.2.2 k w).symm, LI_q hX1 he hl hV hP hac hT hQ⟩
theorem p_records {v : xw_V} {G : xw_G} (hI : LI v G) (w : Int32) : xk_Con v yX7_records cX7_records 2 (some .int) 2 43 [.ref (xw_ad v 0 0), .int w] G (fun r9 G1 => ∃ x9 : Int32, r9 = some (.int x9) ∧ mO G1 ∧ xk_Con v yX8_records cX8_records 9 (some .int) 1 22 [.ref (xw_ad v 21 0), .int w] G1 (fun r9 G2 => r9 = some (.int x9) ∧ LI v G2)) := by
  obtain ⟨B, n, r, e, a, l, K, t, M, te, ho, ow, hs, ra, lo, st, av, so, hX, hM, he, hl, hV, hP, hac, hT⟩ := hI
  have hok := hX.1
  have hn := hok.2.1
  have okw := hok.2.2.1
  have okh := hok.2.2.2.1
  have hm : eqB n B (mB te ho ow hs ra lo n) := he
  have hag := kR_eq hm okw okh
  refine xk_mono ?_ (c_X7_records hX  w)
  rintro _ G1 ⟨rfl, hX1, hF1⟩
  refine ⟨_, rfl, mO_of (MS_f hF1 hM), xk_mono ?_ (c_X8_records (MS_f hF1 hM) hV.2.2 w)⟩
  rintro _ G2 ⟨rfl, hQ⟩
  exact ⟨congrArg (fun x => some (Value.int x)) (cg_records hl w).symm, LI_q hX1 he hl hV hP hac hT hQ⟩
theorem p_recordPaid {v : xw_V} {G : xw_G} (hI : LI v G) (k : Int32) : xk_Con v yX7_recordPaid cX7_recordPaid 2 (some .long) 1 21 [.ref (xw_ad v 0 0), .int k] G (fun r9 G1 => ∃ x9 : Int64, r9 = some (.long x9) ∧ mO G1 ∧ xk_Con v yX8_recordPaid cX8_recordPaid 2 (some .long) 2 43 [.ref (xw_ad v 21 0), .int k] G1 (fun r9 G2 => r9 = some (.long x9) ∧ LI v G2)) := by
  obtain ⟨B, n, r, e, a, l, K, t, M, te, ho, ow, hs, ra, lo, st, av, so, hX, hM, he, hl, hV, hP, hac, hT⟩ := hI
  have hok := hX.1
  have hn := hok.2.1
  have okw := hok.2.2.1
  have okh := hok.2.2.2.1
  have hm : eqB n B (mB te ho ow hs ra lo n) := he
  have hag := kR_eq hm okw okh
  refine xk_mono ?_ (c_X7_recordPaid hX  k)
  rintro _ G1 ⟨rfl, hX1, hF1⟩
  refine ⟨_, rfl, mO_of (MS_f hF1 hM), xk_mono ?_ (c_X8_recordPaid (MS_f hF1 hM) hV.2.2 k)⟩
  rintro _ G2 ⟨rfl, hQ⟩
  exact ⟨congrArg (fun x => some (Value.long x)) (cg_rpaid hl hok.2.2.2.2.1 rfl hV.2.2 k).symm, LI_q hX1 he hl hV hP hac hT hQ⟩
theorem p_spell {v : xw_V} {G : xw_G} (hI : LI v G) (x : Int32) : xk_Con v yX7_spell cX7_spell 2 (some .int) 8 174 [.ref (xw_ad v 0 0), .int x] G (fun r9 G1 => ∃ x9 : Int32, r9 = some (.int x9) ∧ mO G1 ∧ xk_Con v yX8_spell cX8_spell 2 (some .int) 4 89 [.ref (xw_ad v 21 0), .int x] G1 (fun r9 G2 => r9 = some (.int x9) ∧ LI v G2)) := by
  obtain ⟨B, n, r, e, a, l, K, t, M, te, ho, ow, hs, ra, lo, st, av, so, hX, hM, he, hl, hV, hP, hac, hT⟩ := hI
  have hok := hX.1
  have hn := hok.2.1
  have okw := hok.2.2.1
  have okh := hok.2.2.2.1
  have hm : eqB n B (mB te ho ow hs ra lo n) := he
  have hag := kR_eq hm okw okh
  refine xk_mono ?_ (c_X7_spell hX (vN_eq hm (VB_vN hV)) x)
  rintro _ G1 ⟨rfl, hX1, hF1⟩
  refine ⟨_, rfl, mO_of (MS_f hF1 hM), xk_mono ?_ (c_X8_spell (MS_f hF1 hM) hT.2.2.2 hn (VB_vN hV) hV.1.2.2.2.1.2.2.2.2.2 x)⟩
  rintro _ G2 ⟨rfl, hQ⟩
  exact ⟨congrArg (fun x => some (Value.int x)) (congrArg (fun W => q_spell W x) (cg_tW hm)).symm, LI_q hX1 he hl hV hP hac hT hQ⟩
theorem p_count {v : xw_V} {G : xw_G} (hI : LI v G) (w : Int32) : xk_Con v yX7_count cX7_count 2 (some .int) 6 137 [.ref (xw_ad v 0 0), .int w] G (fun r9 G1 => ∃ x9 : Int32, r9 = some (.int x9) ∧ mO G1 ∧ xk_Con v yX8_count cX8_count 4 (some .int) 4 89 [.ref (xw_ad v 21 0), .int w] G1 (fun r9 G2 => r9 = some (.int x9) ∧ LI v G2)) := by
  obtain ⟨B, n, r, e, a, l, K, t, M, te, ho, ow, hs, ra, lo, st, av, so, hX, hM, he, hl, hV, hP, hac, hT⟩ := hI
  have hok := hX.1
  have hn := hok.2.1
  have okw := hok.2.2.1
  have okh := hok.2.2.2.1
  have hm : eqB n B (mB te ho ow hs ra lo n) := he
  have hag := kR_eq hm okw okh
  refine xk_mono ?_ (c_X7_count hX  w)
  rintro _ G1 ⟨rfl, hX1, hF1⟩
  refine ⟨_, rfl, mO_of (MS_f hF1 hM), xk_mono ?_ (c_X8_count (MS_f hF1 hM) hV.1 hac hT.1 w)⟩
  rintro _ G2 ⟨rfl, hQ⟩
  exact ⟨congrArg (fun x => some (Value.int x)) ((q_count_ag w hag).trans (cg_count hm r a l w)).symm, LI_q hX1 he hl hV hP hac hT hQ⟩

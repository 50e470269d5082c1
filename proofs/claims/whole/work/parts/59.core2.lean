/-! ===== values ===== -/
def vT (te : Nat → Int32) : Prop := (1 ≤ te 0 ∧ te 0 ≤ 2000) ∧ (1 ≤ te 1 ∧ te 1 ≤ 100) ∧ (0 ≤ te 2 ∧ te 2 ≤ 100) ∧ (0 ≤ te 3 ∧ te 3 ≤ te 4 ∧ te 4 ≤ 999) ∧ (1 ≤ te 5 ∧ te 5 ≤ 360) ∧ (te 6 = 0 ∨ te 6 = 1)
def vL (ra lo : Nat → Int32) (n : Nat) : Prop := ∀ b, b < n → (-1 ≤ ra b ∧ ra b ≤ 999) ∧ (1 ≤ lo b ∧ lo b ≤ 1000)
theorem lD_sm {ra ad : Nat → Int32} {st rs : Int32} : ∀ n, lD ra ad st rs n = rs - sm (blw ra ad st) n
  | 0 => by simp only [lD, sm]; rw [Int32.sub_zero]
  | n + 1 => by
    simp only [lD, sm, blw]
    rw [lD_sm n]
    by_cases c : ra n = -1
    · rw [if_pos c, if_pos c, Int32.add_zero]
    · rw [if_neg c, if_neg c]
      by_cases d : ra n < st
      · rw [if_pos d, if_neg (Int32.not_le.mpr d), ← Int32.sub_sub]
      · rw [if_neg d, if_pos (Int32.not_lt.mp d), Int32.add_zero]
theorem te_nI {x : Int32} {k : Nat} (hk : k < 2 ^ 31) (h0 : 0 ≤ x) (h : x ≤ nI k) : ∃ a, x = nI a ∧ a ≤ k := ⟨xn x, nI_xn h0, by have := xn_le h0 h; rwa [xn_nI hk] at this⟩
theorem po_nI {te : Nat → Int32} (hv : vT te) : ∃ X O, te 2 * te 0 / 100 = nI X ∧ te 0 = nI O ∧ X ≤ O ∧ 1 ≤ O ∧ O ≤ 2000 := by
  obtain ⟨⟨a1, a2⟩, -, ⟨c1, c2⟩, -⟩ := hv
  obtain ⟨o, ho, bo⟩ := te_nI (k := 2000) (by decide) (Int32.le_trans (by decide) a1) a2
  obtain ⟨s, hs, bs⟩ := te_nI (k := 100) (by decide) c1 c2
  have o1 : 1 ≤ o := by
    rw [ho] at a1
    exact (nI_leI (a := 1) (b := o) (by decide) (by omega)).mp a1
  have hm : s * o ≤ 100 * o := Nat.mul_le_mul_right o bs
  refine ⟨s * o / 100, o, ?_, ho, ?_, o1, bo⟩
  · rw [ho, hs, nI_mul]
    exact pk_div (by omega) (by decide) (by decide)
  · omega
/-- a book whose sale the rows of the reference tell -/
theorem rec_ex {B : bk_T} {n : Nat} {p : Nat → Nat} (a2 : inj n p) (a3 : srt (bk_ra B) n p) (R : sl_T) {ad wy : Nat → Int32} {ap ar : Int32} {rl : Nat → Int32} (hA : aI (bk_te B) (bk_ow B) (bk_hs B) (bk_ra B) (bk_lo B) p (sl_ad R, sl_wy R, cpN 8 (rm8 (bk_te B) (bk_ho B) (bk_ow B)) (sl_rl R), 0, 0) n = (ad, wy, rl, ap, ar)) {po sp rs st : Int32} {s1 r1 so re : Nat → Int32}
    (hpo : po = bk_te B 2 * bk_te B 0 / 100) (h1 : atS n (bk_ra B) ad (sl_so R) (sl_re R) (-1) po ap = (s1, r1)) (hsp : sp = (if ap < po then ap else po)) (hrs : rs = bk_te B 0 - sp) (hst : st = fsG (bk_ra B) ad p rs n)
    (h2 : atS n (bk_ra B) ad (cpN n (rtS (bk_ra B) ad s1 st) s1) r1 st (rs - sm (blw (bk_ra B) ad st) n) (sm (ats (bk_ra B) ad st) n) = (so, re)) :
    ∃ S' : sl_T, RecS B n R S' ∧ (∀ j, sl_od S' j = nI (p j)) ∧ sl_ad S' = ad ∧ sl_wy S' = wy ∧ sl_so S' = so ∧ sl_ap S' = ap ∧ sl_ar S' = ar ∧ sl_po S' = po ∧ sl_sp S' = sp ∧ sl_rs S' = rs ∧ sl_st S' = st ∧ sl_pt S' = (if sm (ats (bk_ra B) ad st) n ≤ rs - sm (blw (bk_ra B) ad st) n then 0 else 1) ∧
      sl_sr S' = sm (blw (bk_ra B) ad st) n + (if sm (ats (bk_ra B) ad st) n < rs - sm (blw (bk_ra B) ad st) n then sm (ats (bk_ra B) ad st) n else rs - sm (blw (bk_ra B) ad st) n) ∧ sl_av S' = avr n (bk_te B) (bk_ra B) so (sl_sr S') := by
  obtain ⟨pt, hpt⟩ : ∃ x : Int32, x = (if sm (ats (bk_ra B) ad st) n ≤ rs - sm (blw (bk_ra B) ad st) n then 0 else 1) := ⟨_, rfl⟩
  obtain ⟨sr, hsr⟩ : ∃ x : Int32, x = sm (blw (bk_ra B) ad st) n + (if sm (ats (bk_ra B) ad st) n < rs - sm (blw (bk_ra B) ad st) n then sm (ats (bk_ra B) ad st) n else rs - sm (blw (bk_ra B) ad st) n) := ⟨_, rfl⟩
  obtain ⟨av, hav⟩ : ∃ x, x = avr n (bk_te B) (bk_ra B) so sr := ⟨_, rfl⟩
  obtain ⟨ro, hro⟩ : ∃ x, x = orR (bk_te B) (bk_ho B) (bk_ow B) (sl_ro R) := ⟨_, rfl⟩
  exact ⟨(fun k => nI (p k), ad, wy, so, re, ro, rl, nI n, ap, ar, po, sp, rs, st, sr, pt, av), ⟨p, s1, r1, fun j _ => rfl, a2, a3, rfl, hA, hro, hpo, h1, hsp, hrs, hst, h2, hpt, hsr, hav⟩, fun _ => rfl, rfl, rfl, rfl, rfl, rfl, rfl, rfl, rfl, rfl, hpt, hsr, hav⟩
theorem gT_ats {ra ad : Nat → Int32} {st : Int32} : gT (fS ra st) ad = ats ra ad st := by
  funext j
  simp only [gT, fS, ats]
  by_cases c : ra j = -1
  · simp [c]
  · by_cases d : ra j = st
    · simp [c, d]
    · simp [c, d]
theorem mx0_nn (x : Int32) : 0 ≤ mx0 x := by
  simp only [mx0]
  split
  · rename_i h; exact Int32.le_of_lt h
  · exact Int32.le_rfl
/-- what the reference admits: naturals -/
theorem mA_nn {te ho ow hs ra lo : Nat → Int32} {p : Nat → Nat} {M : md_T} {n : Nat} (ip : inj n p) (okw : okOw ow) (okh : okHs hs n) (hl : vL ra lo n) : ∀ j, j < n → 0 ≤ (mA te ho ow hs ra lo p M n).1 j ∧ (mA te ho ow hs ra lo p M n).1 j ≤ 1000 := by
  intro j hj
  obtain ⟨k, hk, e⟩ := inj_surj n p ip j hj
  have := (aI_nn (te := te) (ra := ra) (x := (md_ad M, md_wy M, cpN 8 (rm8 te ho ow) (md_rl M), 0, 0)) ip okw okh (fun b hb => (hl b hb).2) (fun o h => by simp only [cpN, if_pos h]; exact mx0_nn _) n (Nat.le_refl n)).2 k hk
  rw [e] at this
  exact this
theorem ad_nat {ad : Nat → Int32} {n : Nat} (h : ∀ j, j < n → 0 ≤ ad j ∧ ad j ≤ 1000) : ∃ a : Nat → Nat, (∀ j, j < n → ad j = nI (a j)) ∧ ∀ j, j < n → a j ≤ 1000 :=
  ⟨fun j => xn (ad j), fun j hj => nI_xn (h j hj).1, fun j hj => by have := xn_le (h j hj).1 (h j hj).2; rwa [show xn 1000 = 1000 from by decide] at this⟩
theorem sm_ps {ra ad : Nat → Int32} {a : Nat → Nat} {n : Nat} {p : Nat → Nat} (ip : inj n p) (ha : ∀ j, j < n → ad j = nI (a j)) : sm (fun i => if ra (p i) = -1 then ad (p i) else 0) n = sm (gT (fP ra) ad) n := by
  have e1 : sm (gT (fP ra) ad) n = nI (nS (msk (fP ra) a) n) := sm_nS (gT_nI ha)
  have e2 : sm (fun i => if ra (p i) = -1 then ad (p i) else 0) n = nI (nS (fun i => msk (fP ra) a (p i)) n) := sm_nS (fun i hi => by
    simp only [msk, fP]
    by_cases c : ra (p i) = -1
    · simp [c, ha _ (ip.1 i hi)]
    · simp [c]; rfl)
  rw [e1, e2, nS_perm n p _ ip]
theorem HG1_of {te ho ow hs ra lo : Nat → Int32} {M : md_T} {n : Nat} (hn : n ≤ 30) (hv : vT te) (hl : vL ra lo n) (okw : okOw ow) (okh : okHs hs n) : ∀ p, inj n p → srt ra n p → GH (fP ra) (mA te ho ow hs ra lo p M n).1 (te 2 * te 0 / 100) n := by
  intro p ip _
  obtain ⟨X, O, hX, hO, b1, b2, b3⟩ := po_nI hv
  obtain ⟨a, ha, hb⟩ := ad_nat (mA_nn (te := te) (ho := ho) (M := M) ip okw okh hl)
  rw [hX]
  exact GH_of hn ha hb (by omega)
theorem sm_z : ∀ n, sm (fun _ => 0) n = 0
  | 0 => rfl
  | n + 1 => by simp only [sm]; rw [sm_z n]; rfl
theorem av_eq {te ra so so' : Nat → Int32} {n s : Nat} {sr : Int32} (hs : s < 2 ^ 31) (he : ∀ j, j < n → so j = so' j) (h1 : sm (fun j => if ra j = -1 then 0 else so j) n = nI s) (h2 : sr = nI s) : avM te ra so n = avr n te ra so' sr := by
  have e : sm (fun j => if ra j = -1 then 0 else so j * ra j) n = sm (fun j => if ra j = -1 then 0 else ra j * so' j) n := sm_congr (fun j hj => by rw [he j hj, Int32.mul_comm])
  simp only [avM, avr]
  rw [h1, h2, e]
  by_cases c : s = 0
  · subst c; rw [if_pos (show nI 0 = (0 : Int32) from rfl), if_neg (by decide)]
  · have c1 : (1 : Int32) ≤ nI s := (nI_leI (a := 1) (b := s) (by decide) hs).mpr (by omega)
    rw [if_neg (fun q => by rw [q] at c1; exact absurd c1 (by decide)), if_pos c1]
/-- what the first giving comes to -/
theorem gv1 {te ra ad so0 so1 : Nat → Int32} {a : Nat → Nat} {n X O : Nat} (hn : n ≤ 30) (ha : ∀ j, j < n → ad j = nI (a j)) (hb : ∀ j, j < n → a j ≤ 1000) (hX : te 2 * te 0 / 100 = nI X) (hO : te 0 = nI O) (hXO : X ≤ O) (hO2 : O ≤ 2000) (h : GV (fP ra) ad (cpN n (fun _ => 0) so0) (te 2 * te 0 / 100) n so1) :
    sm so1 n = (if sm (gT (fP ra) ad) n < nI X then sm (gT (fP ra) ad) n else nI X) ∧ (∃ P, sm so1 n = nI P ∧ P ≤ O) ∧ (∀ j, j < n → ¬ ra j = -1 → so1 j = 0) ∧ ∀ so' re, ∀ j, j < n → ra j = -1 → so1 j = (atS n ra ad so' re (-1) (nI X) (sm (gT (fP ra) ad) n)).1 j := by
  rw [hX] at h
  have q := GV_atS (so' := so0) (re := so0) hn ha hb (by omega) (f := fP ra) (ra := ra) (r := -1) (fun j _ => rfl) h
  have eT := sm_nS (gT_nI (f := fP ra) ha)
  have bT : nS (msk (fP ra) a) n ≤ 1000 * n := nS_bd (fun j hj => by simp only [msk]; split; exact hb j hj; omega)
  obtain ⟨T, hT⟩ : ∃ T, nS (msk (fP ra) a) n = T := ⟨_, rfl⟩
  rw [hT] at eT bT
  have q3 := q.2.2 (fun _ => true) (fun _ _ => rfl)
  simp only [if_true] at q3
  have z0 : sm (fun j => if fP ra j = true then 0 else cpN n (fun _ => 0) so0 j) n = 0 := by
    rw [sm_congr (g := fun _ => 0) (fun j hj => by simp only [cpN, if_pos hj, ite_self])]
    exact sm_z n
  rw [z0, Int32.zero_add] at q3
  have q4 : sm so1 n = (if sm (gT (fP ra) ad) n < nI X then sm (gT (fP ra) ad) n else nI X) := by
    rw [show sm so1 n = sm (fun j => so1 j) n from rfl, q3, eT]
    by_cases c : nI X < nI T
    · rw [if_pos c, if_neg (Int32.not_lt.mpr (Int32.le_of_lt c))]
    · rw [if_neg c]
      by_cases d : nI T < nI X
      · rw [if_pos d]
      · rw [if_neg d]; exact Int32.le_antisymm (Int32.not_lt.mp c) (Int32.not_lt.mp d)
  refine ⟨q4, ?_, fun j hj hne => ?_, fun so' re j hj he => (GV_atS (so' := so') (re := re) hn ha hb (by omega) (f := fP ra) (ra := ra) (r := -1) (fun j _ => rfl) h).1 j hj (Or.inl he)⟩
  · rw [q4, eT]
    by_cases d : nI T < nI X
    · rw [if_pos d]
      have := (nI_ltI (a := T) (b := X) (by omega) (by omega)).mp d
      exact ⟨T, rfl, by omega⟩
    · rw [if_neg d]; exact ⟨X, rfl, hXO⟩
  · rw [q.2.1 j hj hne]; exact if_pos hj
theorem st_vals {te ra ad so1 : Nat → Int32} {a : Nat → Nat} {p : Nat → Nat} {n O P : Nat} (hn : n ≤ 30) (ip : inj n p) (hs : srt ra n p) (ha : ∀ j, j < n → ad j = nI (a j)) (hb : ∀ j, j < n → a j ≤ 1000) (hr : ∀ j, j < n → -1 ≤ ra j) (hO : te 0 = nI O) (hO2 : O ≤ 2000) (hP : sm so1 n = nI P) (hPO : P ≤ O) :
    sC ra ad p n (te 0 - sm so1 n) n = fsG ra ad p (te 0 - sm so1 n) n ∧ ((fsG ra ad p (te 0 - sm so1 n) n = -2) ∨ (0 ≤ fsG ra ad p (te 0 - sm so1 n) n ∧ ∃ L, lD ra ad (fsG ra ad p (te 0 - sm so1 n) n) (te 0 - sm so1 n) n = nI L ∧ L ≤ 2000 ∧ sm (blw ra ad (fsG ra ad p (te 0 - sm so1 n) n)) n = nI (O - P - L) ∧ L ≤ O - P ∧ 0 < L ∧ ∃ j, j < n ∧ ra j = fsG ra ad p (te 0 - sm so1 n) n)) := by
  rw [hO, hP, nI_sub hPO]
  by_cases c : O - P = 0
  · rw [c]
    have e1 := sC_0 (ra := ra) (ad := ad) (p := p) (n := n) (rs := nI 0) Int32.le_rfl n
    have e2 : ∀ k, fsG ra ad p (nI 0) k = -2 ∧ fsS ra ad p (nI 0) k = 0 := by
      intro k
      induction k with
      | zero => exact ⟨rfl, rfl⟩
      | succ k ih =>
        simp only [fsG, fsS]
        rw [ih.2, if_pos (show nI 0 ≤ (0 : Int32) from Int32.le_rfl), if_pos (show nI 0 ≤ (0 : Int32) from Int32.le_rfl)]
        exact ⟨ih.1, rfl⟩
    exact ⟨e1.trans (e2 n).1.symm, Or.inl (e2 n).1⟩
  · obtain ⟨h1, s, h2, h3, h4⟩ := sC_fs hn ip hs ha hb hr (R := O - P) (by omega) (by omega) n (Nat.le_refl n)
    refine ⟨h1, ?_⟩
    rcases h4 with ⟨h5, -, -⟩ | ⟨g1, g2, g3, g4, g5⟩
    · exact Or.inl h5
    · refine Or.inr ⟨g1, O - P - nS (dnN ra a (fsG ra ad p (nI (O - P)) n)) n, ?_, by omega, ?_, by omega, by omega, ?_⟩
      rotate_left 2
      · obtain ⟨i, hi, ei⟩ := g5
        exact ⟨p i, ip.1 i hi, ei⟩
      · rw [lD_sm]
        have e : sm (blw ra ad (fsG ra ad p (nI (O - P)) n)) n = nI (nS (dnN ra a (fsG ra ad p (nI (O - P)) n)) n) := sm_nS (fun j hj => by
          simp only [blw, dnN]
          split
          · rfl
          · split
            · rfl
            · exact ha j hj)
        rw [e, nI_sub (by omega)]
      · have e : sm (blw ra ad (fsG ra ad p (nI (O - P)) n)) n = nI (nS (dnN ra a (fsG ra ad p (nI (O - P)) n)) n) := sm_nS (fun j hj => by
          simp only [blw, dnN]
          split
          · rfl
          · split
            · rfl
            · exact ha j hj)
        rw [e]
        congr 1
        omega
theorem HG2_of {te ho ow hs ra lo : Nat → Int32} {M : md_T} {n : Nat} (hn : n ≤ 30) (hv : vT te) (hl : vL ra lo n) (okw : okOw ow) (okh : okHs hs n) : ∀ p so1, inj n p → srt ra n p → GV (fP ra) (mA te ho ow hs ra lo p M n).1 (cpN n (fun _ => 0) (md_so M)) (te 2 * te 0 / 100) n so1 → ¬ (sC ra (mA te ho ow hs ra lo p M n).1 p n (te 0 - sm so1 n) n) = -2 → GH (fS ra (sC ra (mA te ho ow hs ra lo p M n).1 p n (te 0 - sm so1 n) n)) (mA te ho ow hs ra lo p M n).1 (lD ra (mA te ho ow hs ra lo p M n).1 (sC ra (mA te ho ow hs ra lo p M n).1 p n (te 0 - sm so1 n) n) (te 0 - sm so1 n) n) n := by
  intro p so1 ip is hg hne
  obtain ⟨X, O, hX, hO, b1, b2, b3⟩ := po_nI hv
  obtain ⟨a, ha, hb⟩ := ad_nat (mA_nn (te := te) (ho := ho) (M := M) ip okw okh hl)
  obtain ⟨-, ⟨P, hP, hPO⟩, -⟩ := gv1 hn ha hb hX hO b1 b3 hg
  obtain ⟨e, h⟩ := st_vals hn ip is ha hb (fun j hj => (hl j hj).1.1) hO b3 hP hPO
  rw [e] at hne ⊢
  rcases h with h | ⟨-, L, hL, bL, -⟩
  · exact absurd h hne
  · rw [hL]; exact GH_of hn ha hb (by omega)
/-- what the reference works out is what the class works out -/
def agM (n : Nat) (K : sl_T) (od ad wy so3 : Nat → Int32) : Prop := ∀ j, j < n → od j = sl_od K j ∧ ad j = sl_ad K j ∧ wy j = sl_wy K j ∧ so3 j = sl_so K j
theorem sells_kR {B : bk_T} {M : md_T} {n : Nat} {p : Nat → Nat} {od ad wy so1 so3 : Nat → Int32} {ip : Int32} (hn : n ≤ 30) (hv : vT (bk_te B)) (hl : vL (bk_ra B) (bk_lo B) n) (okw : okOw (bk_ow B)) (okh : okHs (bk_hs B) n)
    (hod : pls n od p) (hi : inj n p) (hs : srt (bk_ra B) n p) (had : ad = (mA (bk_te B) (bk_ho B) (bk_ow B) (bk_hs B) (bk_ra B) (bk_lo B) p M n).1) (hwy : wy = (mA (bk_te B) (bk_ho B) (bk_ow B) (bk_hs B) (bk_ra B) (bk_lo B) p M n).2.1) (hg1 : GV (fP (bk_ra B)) ad (cpN n (fun _ => 0) (md_so M)) (bk_te B 2 * bk_te B 0 / 100) n so1)
    (h0 : (sC (bk_ra B) ad p n (bk_te B 0 - sm so1 n) n) = -2 → so3 = cpN n (sD (bk_ra B) ad so1 (sC (bk_ra B) ad p n (bk_te B 0 - sm so1 n) n)) so1 ∧ ip = 0)
    (h1 : ¬ (sC (bk_ra B) ad p n (bk_te B 0 - sm so1 n) n) = -2 → GV (fS (bk_ra B) (sC (bk_ra B) ad p n (bk_te B 0 - sm so1 n) n)) ad (cpN n (sD (bk_ra B) ad so1 (sC (bk_ra B) ad p n (bk_te B 0 - sm so1 n) n)) so1) (lD (bk_ra B) ad (sC (bk_ra B) ad p n (bk_te B 0 - sm so1 n) n) (bk_te B 0 - sm so1 n) n) n so3 ∧ ip = xb (decide (lD (bk_ra B) ad (sC (bk_ra B) ad p n (bk_te B 0 - sm so1 n) n) (bk_te B 0 - sm so1 n) n < sm (gT (fS (bk_ra B) (sC (bk_ra B) ad p n (bk_te B 0 - sm so1 n) n)) ad) n))) :
    agM n (kR B n) od ad wy so3 ∧ bk_te B 2 * bk_te B 0 / 100 = sl_po (kR B n) ∧ sm so1 n = sl_sp (kR B n) ∧ bk_te B 0 - sm so1 n = sl_rs (kR B n) ∧ sC (bk_ra B) ad p n (bk_te B 0 - sm so1 n) n = sl_st (kR B n) ∧ avM (bk_te B) (bk_ra B) so3 n = sl_av (kR B n) ∧ ip = sl_pt (kR B n) ∧
      (0 ≤ sl_st (kR B n) ∨ sl_st (kR B n) = -2) ∧ (∃ R', RecS B n sl_0 (kR B n) ∧ RecS B n R' (kR B n)) := by
  obtain ⟨X, O, hX, hO, b1, b2, b3⟩ := po_nI hv
  have nn := mA_nn (te := bk_te B) (ho := bk_ho B) (M := M) hi okw okh hl
  rw [← had] at nn
  obtain ⟨a, ha, hb⟩ := ad_nat nn
  obtain ⟨q1, ⟨P, hP, hPO⟩, q2, q3⟩ := gv1 hn ha hb hX hO b1 b3 hg1
  obtain ⟨e, hst⟩ := st_vals hn hi hs ha hb (fun j hj => (hl j hj).1.1) hO b3 hP hPO
  rw [e] at h0 h1 ⊢
  obtain ⟨R, hR1, hR2, hR3⟩ : ∃ R : sl_T, sl_ad R = md_ad M ∧ sl_wy R = md_wy M ∧ sl_rl R = md_rl M := ⟨(sl_od sl_0, md_ad M, md_wy M, sl_so sl_0, sl_re sl_0, sl_ro sl_0, md_rl M, sl_io sl_0, sl_ap sl_0, sl_ar sl_0, sl_po sl_0, sl_sp sl_0, sl_rs sl_0, sl_st sl_0, sl_sr sl_0, sl_pt sl_0, sl_av sl_0), rfl, rfl, rfl⟩
  obtain ⟨⟨ad', wy', rl', ap, ar⟩, hA⟩ : ∃ x, mA (bk_te B) (bk_ho B) (bk_ow B) (bk_hs B) (bk_ra B) (bk_lo B) p M n = x := ⟨_, rfl⟩
  have hA' := hA
  rw [hA] at had hwy
  have had : ad = ad' := had
  have hwy : wy = wy' := hwy
  subst had hwy
  have hap : ap = sm (gT (fP (bk_ra B)) ad) n := by
    have := (aI_sum (te := bk_te B) (ow := bk_ow B) (hs := bk_hs B) (ra := bk_ra B) (lo := bk_lo B) (x := (md_ad M, md_wy M, cpN 8 (rm8 (bk_te B) (bk_ho B) (bk_ow B)) (md_rl M), 0, 0)) hi rfl rfl n (Nat.le_refl n)).1
    rw [show aI (bk_te B) (bk_ow B) (bk_hs B) (bk_ra B) (bk_lo B) p (md_ad M, md_wy M, cpN 8 (rm8 (bk_te B) (bk_ho B) (bk_ow B)) (md_rl M), 0, 0) n = (ad, wy, rl', ap, ar) from hA'] at this
    rw [← sm_ps hi ha]
    exact this
  obtain ⟨⟨s1, r1⟩, hs1⟩ : ∃ x, atS n (bk_ra B) ad (sl_so R) (sl_re R) (-1) (bk_te B 2 * bk_te B 0 / 100) ap = x := ⟨_, rfl⟩
  have q4 : ∀ j, j < n → bk_ra B j = -1 → so1 j = s1 j := fun j hj hj1 => by
    have := q3 (sl_so R) (sl_re R) j hj hj1
    rw [← hX, ← hap, hs1] at this
    exact this
  have hsp : sm so1 n = (if ap < bk_te B 2 * bk_te B 0 / 100 then ap else bk_te B 2 * bk_te B 0 / 100) := by rw [hap, hX]; exact q1
  obtain ⟨st, hst'⟩ : ∃ x, x = fsG (bk_ra B) ad p (bk_te B 0 - sm so1 n) n := ⟨_, rfl⟩
  obtain ⟨⟨so, re⟩, hs2⟩ : ∃ x, atS n (bk_ra B) ad (cpN n (rtS (bk_ra B) ad s1 st) s1) r1 st (bk_te B 0 - sm so1 n - sm (blw (bk_ra B) ad st) n) (sm (ats (bk_ra B) ad st) n) = x := ⟨_, rfl⟩
  obtain ⟨S', k0, k1, k2, k3, k4, k5, k6, k7, k8, k9, k10, k11, k12, k13⟩ := rec_ex (B := B) (n := n) hi hs R (by rw [hR1, hR2, hR3]; exact hA') rfl hs1 hsp rfl hst' hs2
  have g := kR_ag okw okh k0
  obtain ⟨g1, g2, g3, g4, g5, g6, g7, g8, g9, g10, g11, g12⟩ := g
  rw [← hst'] at hst h0 h1 ⊢
  -- what is sold
  have key : (∀ j, j < n → so3 j = so j) ∧ ip = sl_pt S' ∧ avM (bk_te B) (bk_ra B) so3 n = sl_av S' := by
    rcases hst with hst | ⟨hst0, L, hL, bL, hbl, hLO, hL0⟩
    · -- no stop
      obtain ⟨u1, u2⟩ := h0 hst
      subst hst
      have n2 : ∀ j, j < n → ¬ bk_ra B j = -2 := fun j hj q => by have := (hl j hj).1.1; rw [q] at this; exact absurd this (by decide)
      have n3 : ∀ j, j < n → -2 ≤ bk_ra B j := fun j hj => Int32.le_trans (by decide) (hl j hj).1.1
      have ea : sm (ats (bk_ra B) ad (-2)) n = 0 := by
        rw [sm_congr (g := fun _ => 0) (fun j hj => by simp only [ats]; rw [if_neg (n2 j hj)]; split <;> rfl)]
        exact sm_z n
      have eb : sm (blw (bk_ra B) ad (-2)) n = 0 := by
        rw [sm_congr (g := fun _ => 0) (fun j hj => by simp only [blw]; rw [if_pos (n3 j hj)]; split <;> rfl)]
        exact sm_z n
      have ers : bk_te B 0 - sm so1 n = nI (O - P) := by rw [hO, hP, nI_sub hPO]
      have h30 : ∀ j, j < n → so3 j = so1 j := fun j hj => by
        rw [u1]
        simp only [cpN, if_pos hj, sD]
        split
        · rfl
        · rw [if_neg (Int32.not_lt.mpr (n3 j hj))]
      have hso : ∀ j, j < n → so3 j = so j := fun j hj => by
        rw [h30 j hj]
        have : (atS n (bk_ra B) ad (cpN n (rtS (bk_ra B) ad s1 (-2)) s1) r1 (-2) (bk_te B 0 - sm so1 n - sm (blw (bk_ra B) ad (-2)) n) (sm (ats (bk_ra B) ad (-2)) n)).1 j = rtS (bk_ra B) ad s1 (-2) j := by
          rw [ea]
          unfold atS
          have : (if (0 : Int32) ≤ bk_te B 0 - sm so1 n - sm (blw (bk_ra B) ad (-2)) n then (cpN n (fulS (bk_ra B) ad (cpN n (rtS (bk_ra B) ad s1 (-2)) s1) (-2)) (cpN n (rtS (bk_ra B) ad s1 (-2)) s1), r1) else if (0 : Int32) ≤ 0 then (cpN n (fulS (bk_ra B) ad (cpN n (rtS (bk_ra B) ad s1 (-2)) s1) (-2)) (cpN n (rtS (bk_ra B) ad s1 (-2)) s1), r1) else prt n (bk_ra B) ad (cpN n (rtS (bk_ra B) ad s1 (-2)) s1) r1 (-2) (bk_te B 0 - sm so1 n - sm (blw (bk_ra B) ad (-2)) n) 0) = (cpN n (fulS (bk_ra B) ad (cpN n (rtS (bk_ra B) ad s1 (-2)) s1) (-2)) (cpN n (rtS (bk_ra B) ad s1 (-2)) s1), r1) := by
            split
            · rfl
            · rw [if_pos Int32.le_rfl]
          rw [this]
          simp only [cpN, if_pos hj, fulS]
          rw [if_neg (n2 j hj)]
        rw [hs2] at this
        rw [show so j = rtS (bk_ra B) ad s1 (-2) j from this]
        simp only [rtS]
        by_cases d : bk_ra B j = -1
        · rw [if_pos d]; exact q4 j hj d
        · rw [if_neg d, if_pos (n3 j hj)]; exact q2 j hj d
      refine ⟨hso, ?_, ?_⟩
      · rw [k11, u2, ea, eb, ers, Int32.sub_zero, if_pos (Int32.not_lt.mp (nI_pos (by omega)))]
      · rw [k13]
        refine av_eq (s := 0) (by decide) hso ?_ ?_
        · rw [sm_congr (g := fun _ => 0) (fun j hj => by
            split
            · rfl
            · rename_i d; rw [h30 j hj]; exact q2 j hj d)]
          exact sm_z n
        · rw [k12, ea, eb, ers, Int32.sub_zero, Int32.zero_add]
          by_cases d : (0 : Int32) < nI (O - P)
          · rw [if_pos d]; rfl
          · rw [if_neg d]
            have : O - P = 0 := by
              rcases Nat.eq_zero_or_pos (O - P) with q | q
              · exact q
              · exact absurd ((nI_ltI (a := 0) (b := O - P) (by omega) (by omega)).mpr q) d
            rw [this]
    · have hne : ¬ st = -2 := fun q => by rw [q] at hst0; exact absurd hst0 (by decide)
      have hne1 : ¬ st = -1 := fun q => by rw [q] at hst0; exact absurd hst0 (by decide)
      obtain ⟨u1, u2⟩ := h1 hne
      have eL : bk_te B 0 - sm so1 n - sm (blw (bk_ra B) ad st) n = nI L := by rw [← lD_sm, hL]
      rw [hL] at u1 u2
      rw [gT_ats] at u2
      have hfS : ∀ j, j < n → fS (bk_ra B) st j = decide (bk_ra B j = st) := fun j hj => by
        simp only [fS]
        by_cases d : bk_ra B j = st
        · simp [d, hne1]
        · simp [d]
      have q := GV_atS (so' := cpN n (rtS (bk_ra B) ad s1 st) s1) (re := r1) hn ha hb (by omega) (f := fS (bk_ra B) st) (ra := bk_ra B) (r := st) hfS u1
      rw [gT_ats, ← eL, hs2] at q
      have hso : ∀ j, j < n → so3 j = so j := fun j hj => q.1 j hj (Or.inr (by
        simp only [cpN, if_pos hj, sD, rtS]
        by_cases d : bk_ra B j = -1
        · rw [if_pos d, if_pos d]; exact q4 j hj d
        · rw [if_neg d, if_neg d]
          by_cases d2 : bk_ra B j < st
          · rw [if_pos d2, if_neg (Int32.not_le.mpr d2)]
          · rw [if_neg d2, if_pos (Int32.not_lt.mp d2)]; exact q2 j hj d))
      have q5 := q.2.2 (fun j => !(decide (bk_ra B j = -1))) (fun j hj => by
        simp only [fS, Bool.and_eq_true] at hj
        exact hj.1)
      have z1 : sm (fun j => if (!(decide (bk_ra B j = -1))) = true then (if fS (bk_ra B) st j = true then 0 else cpN n (sD (bk_ra B) ad so1 st) so1 j) else 0) n = sm (blw (bk_ra B) ad st) n := sm_congr (fun j hj => by
        simp only [cpN, if_pos hj, sD, blw]
        rw [hfS j hj]
        by_cases d : bk_ra B j = -1
        · simp [d]
        · simp only [d, decide_false, Bool.not_false, if_true, if_false]
          by_cases d2 : bk_ra B j = st
          · simp only [d2, decide_true, if_true]; rw [if_pos Int32.le_rfl]
          · simp only [d2, decide_false, Bool.false_eq_true, if_false]
            by_cases d3 : bk_ra B j < st
            · rw [if_pos d3, if_neg (Int32.not_le.mpr d3)]
            · rw [if_neg d3, if_pos (Int32.not_lt.mp d3)]; exact q2 j hj d)
      rw [z1] at q5
      have bT : nS (msk (fS (bk_ra B) st) a) n ≤ 1000 * n := nS_bd (fun j hj => by simp only [msk]; split; exact hb j hj; omega)
      have eT : sm (ats (bk_ra B) ad st) n = nI (nS (msk (fS (bk_ra B) st) a) n) := by rw [← gT_ats]; exact sm_nS (gT_nI ha)
      obtain ⟨T, hT⟩ : ∃ T, nS (msk (fS (bk_ra B) st) a) n = T := ⟨_, rfl⟩
      rw [hT] at bT eT
      have mn : ∃ m, m ≤ L ∧ (if nI L < nI T then nI L else nI T) = nI m ∧ (if nI T < nI L then nI T else nI L) = nI m := by
        by_cases d : nI L < nI T
        · exact ⟨L, Nat.le_refl L, if_pos d, if_neg (Int32.not_lt.mpr (Int32.le_of_lt d))⟩
        · have d' : T ≤ L := (nI_leI (a := T) (b := L) (by omega) (by omega)).mp (Int32.not_lt.mp d)
          refine ⟨T, d', if_neg d, ?_⟩
          by_cases d2 : nI T < nI L
          · exact if_pos d2
          · rw [if_neg d2]; exact Int32.le_antisymm (Int32.not_lt.mp d2) (Int32.not_lt.mp d)
      obtain ⟨m, hm, m1, m2⟩ := mn
      refine ⟨hso, ?_, ?_⟩
      · rw [k11, u2, eL, eT]
        by_cases d : nI L < nI T
        · rw [decide_eq_true d, if_neg (Int32.not_le.mpr d)]; rfl
        · rw [decide_eq_false d, if_pos (Int32.not_lt.mp d)]; rfl
      · rw [k13]
        refine av_eq (s := O - P - L + m) (by omega) hso ?_ ?_
        · rw [eL, eT, m1, hbl, nI_add] at q5
          rw [← q5]
          refine sm_congr (fun j hj => ?_)
          by_cases d : bk_ra B j = -1
          · simp [d]
          · simp [d]
        · rw [k12, eL, eT, m2, hbl, nI_add]
  refine ⟨fun j hj => ?_, ?_, ?_, ?_, ?_, ?_, ?_, ?_, ⟨_, kR_rec k0, kR_rec k0⟩⟩
  · obtain ⟨u1, u2, u3, u4⟩ := g1 j hj
    rw [← u1, ← u2, ← u3, ← u4, k1, k2, k3, k4]
    exact ⟨hod j hj, rfl, rfl, key.1 j hj⟩
  · rw [← g6, k7]
  · rw [← g7, k8]
  · rw [← g8, k9]
  · rw [← g9, k10]
  · rw [← g12, key.2.2]
  · rw [← g11, key.2.1]
  · rw [← g9, k10]
    rcases hst with h | h
    · exact Or.inr h
    · exact Or.inl h.1

/-! ===== the questions, over books that are alike ===== -/
section CG
variable {B A : bk_T} {n : Nat} {S : sl_T}
theorem hasB_xn {x : Int32} {m : Nat} (hm : m ≤ 30) (h : hasB (nI m) x = true) : xn x < m := by
  obtain ⟨j, hj, rfl⟩ := hasB_of rfl hm h
  rw [xn_nI (by omega)]; exact hj
theorem isH_xn {x : Int32} (h : isH x = true) : xn x < 8 := by
  obtain ⟨j, hj, rfl⟩ := isH_of h
  rw [xn_nI (by omega)]; exact hj
theorem cg_asTerm (he : eqB n B A) (w : Int32) : q_asTerm (bk_te B) w = q_asTerm (bk_te A) w := by
  simp only [q_asTerm]
  by_cases c : w < 0
  · rw [if_pos c, if_pos c]
  · rw [if_neg c, if_neg c]
    by_cases d : w < 7
    · rw [if_pos d, if_pos d]
      refine he.1 _ (hasB_xn (m := 7) (by omega) ?_)
      simp only [hasB, Bool.and_eq_true, Bool.not_eq_true', decide_eq_false_iff_not]
      exact ⟨c, Int32.not_le.mpr d⟩
    · rw [if_neg d, if_neg d]
theorem cg_of (he : eqB n B A) (hb : bk_bi B = nI n) (hbA : bk_bi A = nI n) (hn : n ≤ 30) (b w : Int32) : q_of B S b w = q_of A S b w := by
  simp only [q_of]
  rw [hb, hbA]
  by_cases c : hasB (nI n) b = true
  · have h := he.2.2 _ (hasB_xn hn c)
    rw [if_pos c, if_pos c, h.1, h.2.1, h.2.2]
  · rw [if_neg c, if_neg c]
theorem cg_pays (he : eqB n B A) (hb : bk_bi B = nI n) (hbA : bk_bi A = nI n) (hn : n ≤ 30) (b : Int32) : q_pays B S b = q_pays A S b := by
  simp only [q_pays]
  rw [hb, hbA]
  by_cases c : hasB (nI n) b = true
  · rw [if_pos c, if_pos c]; exact (payF_eq he (hasB_xn hn c)).symm
  · rw [if_neg c, if_neg c]
theorem cg_sel {f : Nat → Int32} {x : Int32} (he : eqB n B A) : sm (sel (bk_hs B) x f) n = sm (sel (bk_hs A) x f) n := sm_congr (fun j hj => by simp only [sel, (he.2.2 j hj).1])
theorem cg_sello {x : Int32} (he : eqB n B A) : sm (sel (bk_hs B) x (bk_lo B)) n = sm (sel (bk_hs A) x (bk_lo A)) n := sm_congr (fun j hj => by simp only [sel, (he.2.2 j hj).1, (he.2.2 j hj).2.2])
theorem cg_ownd {x : Int32} (he : eqB n B A) : ownd (bk_ow B) x = ownd (bk_ow A) x := sm_congr (fun j hj => by simp only [(he.2.1 j hj).2])
theorem cg_house (he : eqB n B A) (h w : Int32) : q_house B S n h w = q_house A S n h w := by
  simp only [q_house]
  by_cases c : isH h = true
  · have q := he.2.1 _ (isH_xn c)
    rw [if_pos c, if_pos c, q.1, q.2, cg_sello he, cg_sel he, cg_sel he, cg_ownd he]
  · rw [if_neg c, if_neg c]
theorem cg_hp {x : Int32} (he : eqB n B A) : sml (fun j => if bk_hs B j = x then payF B S j else 0) n = sml (fun j => if bk_hs A j = x then payF A S j else 0) n := sml_congr (fun j hj => by simp only [(he.2.2 j hj).1, payF_eq he hj])
theorem cg_hpays (he : eqB n B A) (h : Int32) : q_hpays B S n h = q_hpays A S n h := by
  simp only [q_hpays]; rw [cg_hp he]
theorem cg_mean (he : eqB n B A) (h : Int32) : q_mean B S n h = q_mean A S n h := by
  simp only [q_mean]; rw [cg_hp he, cg_sel he]
theorem cg_filled (he : eqB n B A) (hb : bk_bi B = nI n) (hbA : bk_bi A = nI n) (hn : n ≤ 30) (b : Int32) : q_filled B S b = q_filled A S b := by
  simp only [q_filled]
  rw [hb, hbA]
  by_cases c : hasB (nI n) b = true
  · rw [if_pos c, if_pos c, (he.2.2 _ (hasB_xn hn c)).2.2]
  · rw [if_neg c, if_neg c]
theorem cg_dear (he : eqB n B A) : q_dear (payF B S) n = q_dear (payF A S) n := dear_ag (fun j hj => (payF_eq he hj).symm)
theorem cg_price (he : eqB n B A) (x : Int32) : q_price (bk_te B) x = q_price (bk_te A) x := by
  simp only [q_price, pric, he.1 5 (by omega)]
theorem cg_upT {x : Int32} (he : eqB n B A) : sm (fun j => if bk_ra B j = -1 then 0 else if x < bk_ra B j then 0 else sl_ad S j) n = sm (fun j => if bk_ra A j = -1 then 0 else if x < bk_ra A j then 0 else sl_ad S j) n := sm_congr (fun j hj => by simp only [(he.2.2 j hj).2.1])
theorem cg_upTo (he : eqB n B A) (x : Int32) : q_upTo B S n x = q_upTo A S n x := by
  simp only [q_upTo]; rw [cg_upT he]
theorem cg_ranked (hb : bk_bi B = nI n) (hbA : bk_bi A = nI n) (b : Int32) : q_ranked B S b = q_ranked A S b := by
  simp only [q_ranked]; rw [hb, hbA]
theorem cg_und {x : Int32} (he : eqB n B A) (okh : okHs (bk_hs B) n) : sUnd B S n x = sUnd A S n x := sm_congr (fun j hj => by
  have h8 := (okh j hj).2.2
  show (if bk_ow B (xn (bk_hs B j)) = x then sl_so S j else 0) = (if bk_ow A (xn (bk_hs A j)) = x then sl_so S j else 0)
  rw [(he.2.1 _ h8).2, (he.2.2 j hj).1])
theorem cg_full (he : eqB n B A) (okh : okHs (bk_hs B) n) : q_full B S n = q_full A S n := sm_congr (fun o _ => by simp only [cg_und he okh])
theorem cg_crowd (he : eqB n B A) : q_crowd B S n = q_crowd A S n := by
  have e : hdr B S n = hdr A S n := by funext h; simp only [hdr]; rw [cg_sel he]
  simp only [q_crowd, e]
theorem rsK_cg {ra ra' ad : Nat → Int32} {p : Nat → Nat} : ∀ {m : Nat}, (∀ j, j < m → ra (p j) = ra' (p j)) → rsK ra ad p m = rsK ra' ad p m
  | 0, _ => rfl
  | m + 1, h => by
    simp only [rsK]
    rw [rsK_cg (m := m) (fun j hj => h j (by omega)), h m (by omega)]
theorem rsV_cg {ra ra' ad : Nat → Int32} {p : Nat → Nat} {x : Int32} {m : Nat} (h : ∀ j, j < m → ra (p j) = ra' (p j)) : rsV ra ad p x m = rsV ra' ad p x m := by
  have e : fnd (rsP ra ad p x) m = fnd (rsP ra' ad p x) m := fnd_congr (fun j hj => by
    simp only [rsP]
    rw [rsK_cg (m := j) (fun i hi => h i (by omega)), h j hj])
  simp only [rsV, e]
  by_cases c : fnd (rsP ra' ad p x) m < m
  · rw [if_pos c, if_pos c, h _ c]
  · rw [if_neg c, if_neg c]
theorem cg_step (he : eqB n B A) (hp : inj n (fun j => xn (sl_od S j))) (k w : Int32) : q_step B S n k w = q_step A S n k w := by
  have e : stepR B S n k = stepR A S n k := rsV_cg (fun j hj => (he.2.2 _ (hp.1 j hj)).2.1)
  have e1 : ∀ x, ∀ f : Nat → Int32, sm (sel (bk_ra B) x f) n = sm (sel (bk_ra A) x f) n := fun x f => sm_congr (fun j hj => by simp only [sel, (he.2.2 j hj).2.1])
  have e2 : ∀ x : Int32, sm (fun j => if bk_ra B j = x then (if sl_ad S j ≤ 0 then 0 else 1) else 0) n = sm (fun j => if bk_ra A j = x then (if sl_ad S j ≤ 0 then 0 else 1) else 0) n := fun x => sm_congr (fun j hj => by simp only [(he.2.2 j hj).2.1])
  simp only [q_step]
  rw [e, e1, e1, e2, cg_upT he]
theorem cg_tfit (he : eqB n B A) (w x : Int32) : tfit (bk_te B) w x = tfit (bk_te A) w x := by
  simp only [tfit, he.1 3 (by omega), he.1 4 (by omega)]
theorem eqB_wte (he : eqB n B A) (k : Nat) (x : Int32) : eqB n (bk_wte B (xu (bk_te B) k x)) (bk_wte A (xu (bk_te A) k x)) := ⟨fun j hj => by
  show xu (bk_te B) k x j = xu (bk_te A) k x j
  by_cases c : j = k
  · subst c; rw [xu_s, xu_s]
  · rw [xu_n c, xu_n c]; exact he.1 j hj, he.2.1, he.2.2⟩
theorem eqB_wra (he : eqB n B A) (k : Nat) (x : Int32) : eqB n (bk_wra B (xu (bk_ra B) k x)) (bk_wra A (xu (bk_ra A) k x)) := ⟨he.1, he.2.1, fun j hj => ⟨(he.2.2 j hj).1, by
  show xu (bk_ra B) k x j = xu (bk_ra A) k x j
  by_cases c : j = k
  · subst c; rw [xu_s, xu_s]
  · rw [xu_n c, xu_n c]; exact (he.2.2 j hj).2.1, (he.2.2 j hj).2.2⟩⟩
theorem eqB_wlo (he : eqB n B A) (k : Nat) (x : Int32) : eqB n (bk_wlo B (xu (bk_lo B) k x)) (bk_wlo A (xu (bk_lo A) k x)) := ⟨he.1, he.2.1, fun j hj => ⟨(he.2.2 j hj).1, (he.2.2 j hj).2.1, by
  show xu (bk_lo B) k x j = xu (bk_lo A) k x j
  by_cases c : j = k
  · subst c; rw [xu_s, xu_s]
  · rw [xu_n c, xu_n c]; exact (he.2.2 j hj).2.2⟩⟩
theorem eqB_al (he : eqB n B A) (h x : Int32) : eqB n (bk_wra B (alAt (bk_hs B) (bk_ra B) h x)) (bk_wra A (alAt (bk_hs A) (bk_ra A) h x)) := ⟨he.1, he.2.1, fun j hj => ⟨(he.2.2 j hj).1, by
  show alAt (bk_hs B) (bk_ra B) h x j = alAt (bk_hs A) (bk_ra A) h x j
  simp only [alAt, (he.2.2 j hj).1, (he.2.2 j hj).2.1], (he.2.2 j hj).2.2⟩⟩
theorem agS_st {R : sl_T} (h : agS n S R) : sl_st S = sl_st R := h.2.2.2.2.2.2.2.2.1
theorem agS_sp {R : sl_T} (h : agS n S R) : sl_sp S = sl_sp R := h.2.2.2.2.2.2.1
theorem agS_sr {R : sl_T} (h : agS n S R) : sl_sr S = sl_sr R := h.2.2.2.2.2.2.2.2.2.1
theorem agS_av {R : sl_T} (h : agS n S R) : sl_av S = sl_av R := h.2.2.2.2.2.2.2.2.2.2.2
theorem cg_figBy (he : eqB n B A) (okw : okOw (bk_ow B)) (okh : okHs (bk_hs B) n) (w x y : Int32) : q_figBy B n w x y = q_figBy A n w x y := by
  simp only [q_figBy]
  rw [cg_tfit he]
  have h := eqB_wte he (xn w) x
  rw [figs_eq y h.symm (kR_eq h okw okh)]
theorem cg_paidBy (he : eqB n B A) (okw : okOw (bk_ow B)) (okh : okHs (bk_hs B) n) (x : Int32) : q_paidBy B n x = q_paidBy A n x := by
  simp only [q_paidBy]
  rw [cg_tfit he]
  have h := eqB_wte he 6 x
  rw [pa_eq h.symm (kR_eq h okw okh)]
theorem cg_soldAt (he : eqB n B A) (okw : okOw (bk_ow B)) (okh : okHs (bk_hs B) n) (hb : bk_bi B = nI n) (hbA : bk_bi A = nI n) (hn : n ≤ 30) (b x : Int32) : q_soldAt B n b x = q_soldAt A n b x := by
  simp only [q_soldAt]
  rw [hb, hbA]
  by_cases c : hasB (nI n) b = true
  · have h := eqB_wra he (xn b) x
    rw [(he.2.2 _ (hasB_xn hn c)).2.1, ((kR_eq h okw okh).1 _ (hasB_xn hn c)).2.2.2]
  · have c : hasB (nI n) b = false := by simpa using c
    rw [c]; rfl
theorem cg_without (he : eqB n B A) (okw : okOw (bk_ow B)) (okh : okHs (bk_hs B) n) (hb : bk_bi B = nI n) (hbA : bk_bi A = nI n) (hn : n ≤ 30) (b : Int32) : q_without B n b = q_without A n b := by
  simp only [q_without]
  rw [hb, hbA]
  by_cases c : hasB (nI n) b = true
  · rw [if_pos c, if_pos c]
    exact agS_st (kR_eq (rm_eqB (a := xn b) he) okw (rm_okHs okh (hasB_xn hn c)))
  · rw [if_neg c, if_neg c]
theorem cg_allAt (he : eqB n B A) (okw : okOw (bk_ow B)) (okh : okHs (bk_hs B) n) (h x : Int32) : q_allAt B n h x = q_allAt A n h x := by
  simp only [q_allAt]
  rw [selso_eq he.symm (kR_eq (eqB_al he h x) okw okh)]
theorem cg_offer (he : eqB n B A) (okw : okOw (bk_ow B)) (okh : okHs (bk_hs B) n) (r : Int32) : q_offer B n r = q_offer A n r := by
  have e : p_offer B n r = p_offer A n r := by funext i; simp only [p_offer]; rw [agS_st (kR_eq (eqB_wte he 0 (nI (i + 1))) okw okh)]
  simp only [q_offer, e]
theorem cg_limit (he : eqB n B A) (okw : okOw (bk_ow B)) (okh : okHs (bk_hs B) n) (h y : Int32) : q_limit B n h y = q_limit A n h y := by
  have e : p_limit B n h y = p_limit A n h y := by funext i; simp only [p_limit]; rw [selso_eq he.symm (kR_eq (eqB_wte he 1 (nI (i + 1))) okw okh)]
  simp only [q_limit, e]
theorem cg_share (he : eqB n B A) (okw : okOw (bk_ow B)) (okh : okHs (bk_hs B) n) (y : Int32) : q_share B n y = q_share A n y := by
  have e : p_share B n y = p_share A n y := by funext i; simp only [p_share]; rw [agS_sp (kR_eq (eqB_wte he 2 (nI i)) okw okh)]
  simp only [q_share, e]
theorem cg_lots (he : eqB n B A) (okw : okOw (bk_ow B)) (okh : okHs (bk_hs B) n) (hb : bk_bi B = nI n) (hbA : bk_bi A = nI n) (hn : n ≤ 30) (b y : Int32) : q_lots B n b y = q_lots A n b y := by
  simp only [q_lots]
  rw [hb, hbA]
  by_cases c : hasB (nI n) b = true
  · have e : p_lots B n (xn b) (xn y) = p_lots A n (xn b) (xn y) := by funext i; simp only [p_lots]; rw [((kR_eq (eqB_wlo he (xn b) (nI (xn y + i))) okw okh).1 _ (hasB_xn hn c)).2.2.2]
    rw [e]
  · rw [if_neg (fun q => c q.1), if_neg (fun q => c q.1)]
theorem cg_yield (he : eqB n B A) (okw : okOw (bk_ow B)) (okh : okHs (bk_hs B) n) (hb : bk_bi B = nI n) (hbA : bk_bi A = nI n) (hn : n ≤ 30) (b y : Int32) : q_yield B n b y = q_yield A n b y := by
  simp only [q_yield]
  rw [hb, hbA]
  by_cases c : hasB (nI n) b = true
  · have e : p_yield B n (xn b) y = p_yield A n (xn b) y := by funext i; simp only [p_yield]; rw [((kR_eq (eqB_wra he (xn b) (nI (999 - i))) okw okh).1 _ (hasB_xn hn c)).2.2.2]
    rw [e, (he.2.2 _ (hasB_xn hn c)).2.1]
  · rw [if_neg (fun q => c q.1), if_neg (fun q => c q.1)]
theorem cg_best (he : eqB n B A) (okw : okOw (bk_ow B)) (okh : okHs (bk_hs B) n) : q_best B n = q_best A n := by
  have e : bo_f B n = bo_f A n := by
    funext i
    have h := eqB_wte he 0 (nI (i + 1))
    simp only [bo_f]; rw [pa_eq h.symm (kR_eq h okw okh)]
  simp only [q_best, e]
theorem cg_pivot (he : eqB n B A) (okw : okOw (bk_ow B)) (okh : okHs (bk_hs B) n) : q_pivot B n = q_pivot A n := by
  have e : pv_f B n = pv_f A n := by
    funext i
    have h1 : (bd_rmA (nI i) n (bk_bd B n)).1 = (bd_rmA (nI i) n (bk_bd A n)).1 := (rmA_ag (h := nI i) (bd_of he) (Nat.le_refl n)).1
    have h2 := rmA_eqB (h := nI i) he
    rw [← h1] at h2
    simp only [pv_f]
    rw [← h1]
    exact agS_st (kR_eq h2 okw (rmA_okHs okh))
  simp only [q_pivot, e]
theorem cg_count (he : eqB n B A) (r a l : Nat) (w : Int32) : q_count B S n r a l w = q_count A S n r a l w := by
  have e1 : sm (fun j => if bk_ra B j = -1 then (1 : Int32) else 0) n = sm (fun j => if bk_ra A j = -1 then 1 else 0) n := sm_congr (fun j hj => by simp only [(he.2.2 j hj).2.1])
  have e2 : sm (fun j => if sm (sel (bk_hs B) (nI j) (bk_lo B)) n ≤ 0 then (0 : Int32) else 1) 8 = sm (fun j => if sm (sel (bk_hs A) (nI j) (bk_lo A)) n ≤ 0 then 0 else 1) 8 := sm_congr (fun j _ => by simp only [cg_sello he])
  have e3 : sm (fun j => if ownd (bk_ow B) (nI j) ≤ 0 then (0 : Int32) else 1) 8 = sm (fun j => if ownd (bk_ow A) (nI j) ≤ 0 then 0 else 1) 8 := sm_congr (fun j _ => by simp only [cg_ownd he])
  simp only [q_count]
  rw [e1, e2, e3]
end CG
theorem tH_cg {f g : Nat → Int32} : ∀ {m : Nat}, (∀ j, j < m → f j = g j) → tH f m = tH g m
  | 0, _ => rfl
  | m + 1, h => by simp only [tH]; rw [tH_cg (fun j hj => h j (by omega)), h m (by omega)]
theorem tO_cg {f g : Nat → Int32} : ∀ {m : Nat}, (∀ j, j < m → f j = g j) → tO f m = tO g m
  | 0, _ => rfl
  | m + 1, h => by simp only [tO]; rw [tO_cg (fun j hj => h j (by omega)), h m (by omega)]
theorem tD_cg {hs ra lo hs' ra' lo' : Nat → Int32} : ∀ {m : Nat}, (∀ j, j < m → hs j = hs' j ∧ ra j = ra' j ∧ lo j = lo' j) → tD hs ra lo m = tD hs' ra' lo' m
  | 0, _ => rfl
  | m + 1, h => by
    obtain ⟨a, b, c⟩ := h m (by omega)
    simp only [tD]; rw [tD_cg (fun j hj => h j (by omega)), a, b, c]
theorem cg_tW {B A : bk_T} {n : Nat} (he : eqB n B A) : tW (bk_te B) (bk_ho B) (bk_ow B) (bk_hs B) (bk_ra B) (bk_lo B) n = tW (bk_te A) (bk_ho A) (bk_ow A) (bk_hs A) (bk_ra A) (bk_lo A) n := by
  simp only [tW]
  rw [tH_cg (fun j hj => (he.2.1 j hj).1), tO_cg (fun j hj => (he.2.1 j hj).2), tD_cg he.2.2]
  simp only [tT, he.1 0 (by omega), he.1 1 (by omega), he.1 2 (by omega), he.1 3 (by omega), he.1 4 (by omega), he.1 5 (by omega), he.1 6 (by omega)]
/-! the lines -/
def eqL (r : Nat) (B A : bk_T) : Prop := ∀ k, k < r → bk_st B k = bk_st A k ∧ bk_av B k = bk_av A k ∧ bk_so B k = bk_so A k ∧ bk_pa B k = bk_pa A k
section CL
variable {B A : bk_T} {r : Nat}
theorem cg_record (h : eqL r B A) (hb : bk_ln B = nI r) (hbA : bk_ln A = nI r) (hr : r ≤ 8) (k w : Int32) : q_record B k w = q_record A k w := by
  simp only [q_record]
  rw [hb, hbA]
  by_cases c : hasB (nI r) k = true
  · obtain ⟨a, b, d, -⟩ := h _ (hasB_xn (by omega) c)
    rw [if_pos c, if_pos c, a, b, d]
  · rw [if_neg c, if_neg c]
theorem cg_rpaid (h : eqL r B A) (hb : bk_ln B = nI r) (hbA : bk_ln A = nI r) (hr : r ≤ 8) (k : Int32) : q_rpaid B k = q_rpaid A k := by
  simp only [q_rpaid]
  rw [hb, hbA]
  by_cases c : hasB (nI r) k = true
  · rw [if_pos c, if_pos c, (h _ (hasB_xn (by omega) c)).2.2.2]
  · rw [if_neg c, if_neg c]
theorem gst_cg {f g : Nat → Int32} : ∀ {m : Nat}, (∀ j, j < m → f j = g j) → gst f m = gst g m
  | 0, _ => rfl
  | m + 1, h => by simp only [gst]; rw [gst_cg (fun j hj => h j (by omega)), h m (by omega)]
theorem lst_cg {f g : Nat → Int32} : ∀ {m : Nat}, (∀ j, j < m → f j = g j) → lst f m = lst g m
  | 0, _ => rfl
  | m + 1, h => by simp only [lst]; rw [lst_cg (fun j hj => h j (by omega)), h m (by omega)]
theorem cg_records (h : eqL r B A) (w : Int32) : q_records B r w = q_records A r w := by
  simp only [q_records, mst]
  rw [sm_congr (fun j hj => (h j hj).2.2.1), gst_cg (fun j hj => (h j hj).1), lst_cg (fun j hj => (h j hj).1), sm_congr (f := ct2 (bk_st B)) (g := ct2 (bk_st A)) (fun j hj => by simp only [ct2, (h j hj).1]), sm_congr (f := nz2 (bk_st B)) (g := nz2 (bk_st A)) (fun j hj => by simp only [nz2, (h j hj).1])]
end CL
theorem tfit_7 {te : Nat → Int32} {w v : Int32} (c : tfit te w v = true) : xn w < 7 := by
  refine hasB_xn (m := 7) (by omega) ?_
  simp only [tfit] at c
  by_cases d : w < 0
  · rw [if_pos d] at c; cases c
  · rw [if_neg d] at c
    by_cases q : 7 ≤ w
    · rw [if_pos q] at c; cases c
    · simp only [hasB, Bool.and_eq_true, Bool.not_eq_true', decide_eq_false_iff_not]; exact ⟨d, q⟩

/-! settle -/
theorem mn9_le (x : Int32) : mn9 x = if x ≤ 9999 then x else 9999 := by
  simp only [mn9]
  by_cases c : x < 9999
  · rw [if_pos c, if_pos (Int32.le_of_lt c)]
  · rw [if_neg c]
    by_cases d : x ≤ 9999
    · rw [if_pos d]; exact Int32.le_antisymm (Int32.not_lt.mp c) d
    · rw [if_neg d]
theorem set_ho {B A : bk_T} {n h : Nat} {S R : sl_T} (he : eqB n B A) (hag : agS n S R) (hh : h < 8) : cpN 8 (hsF B S n) (bk_ho B) h = cpN 8 (hsM (bk_ho A) (bk_hs A) (sl_so R) n) (bk_ho A) h := by
  simp only [cpN, if_pos hh, hsF, hsM]
  rw [mn9_le, selso_eq he.symm hag, (he.2.1 h hh).1]
theorem set_line {α : Type} {f g : Nat → α} {r k : Nat} {x : α} (hr : r ≤ 8) (h : ∀ k, k < r → f k = g (r - 1 - k)) (hk : k < min r 7 + 1) : shL x f k = xu (lnS r g) (min r 7) x (min r 7 + 1 - 1 - k) := by
  by_cases c : k = 0
  · subst c
    rw [show min r 7 + 1 - 1 - 0 = min r 7 by omega, xu_s]
    exact xu_s
  · rw [xu_n (by omega)]
    have e : shL x f k = f (k - 1) := by
      simp only [shL]
      rw [xu_n c]
      simp only [shU]
      rw [if_pos (by omega)]
    rw [e, h (k - 1) (by omega)]
    simp only [lnS]
    by_cases d : r = 8
    · subst d
      rw [if_pos rfl]
      simp only [shD]
      rw [if_pos (by omega)]
      congr 1
      omega
    · rw [if_neg d]
      congr 1
      omega
theorem set_vH {te ho ow hs ra lo : Nat → Int32} {n : Nat} (hq : MV te ow hs ra lo n) (hv : vH ho) : vH (cpN 8 (hsM ho hs (sl_so (kM te ho ow hs ra lo n)) n) ho) := by
  intro h hh
  have h30 := hq.1
  simp only [cpN, if_pos hh, hsM]
  obtain ⟨l, e, hl⟩ := ssum_nn (kMF (ho := ho) hq) (fun j => decide (hs j = nI h))
  have e2 : sm (sel hs (nI h) (sl_so (kM te ho ow hs ra lo n))) n = nI l := by
    rw [← e]
    exact sm_congr (fun j _ => by simp only [sel, decide_eq_true_eq])
  rw [e2]
  have h0 := hv h hh
  have hx := nI_xn h0.1
  have hx9 := xn_le h0.1 h0.2
  rw [show xn 9999 = 9999 from rfl] at hx9
  rw [hx, nI_add]
  by_cases c : nI (xn (ho h) + l) ≤ 9999
  · rw [if_pos c]; exact ⟨Int32.not_lt.mp (nI_pos (by omega)), c⟩
  · rw [if_neg c]; decide
/-! merge -/
theorem mn1_in {x y : Int32} (hx : 1 ≤ x ∧ x ≤ 1000) (hy : 1 ≤ y ∧ y ≤ 1000) : mIn (mn1 (x + y)) 1 1000 = true := by
  have a1 : 1 ≤ x.toInt := Int32.le_iff_toInt_le.mp hx.1
  have a2 : x.toInt ≤ 1000 := Int32.le_iff_toInt_le.mp hx.2
  have a3 : 1 ≤ y.toInt := Int32.le_iff_toInt_le.mp hy.1
  have a4 : y.toInt ≤ 1000 := Int32.le_iff_toInt_le.mp hy.2
  have e1 : (x + y).toInt = x.toInt + y.toInt := by
    rw [Int32.toInt_add]
    exact Int.bmod_eq_of_le (by omega) (by omega)
  simp only [mn1]
  by_cases c : x + y < 1000
  · rw [if_pos c]
    simp only [mIn, Bool.and_eq_true, Bool.not_eq_true', decide_eq_false_iff_not]
    refine ⟨Int32.not_lt.mpr ?_, Int32.not_lt.mpr (Int32.le_of_lt c)⟩
    rw [Int32.le_iff_toInt_le, e1, show (1 : Int32).toInt = 1 from by decide]
    omega
  · rw [if_neg c]; decide
theorem MV_jn {te ow : Nat → Int32} {h : Int32} : ∀ (i : Nat) (t : bd_T), i ≤ t.1 → MV te ow t.2.1 t.2.2.1 t.2.2.2 t.1 → MV te ow (bd_jn h i t).2.1 (bd_jn h i t).2.2.1 (bd_jn h i t).2.2.2 (bd_jn h i t).1
  | 0, t, _, hq => hq
  | i + 1, t, hi, hq => by
    rw [jn_st]
    have key : i ≤ (jnS h i t).1 ∧ MV te ow (jnS h i t).2.1 (jnS h i t).2.2.1 (jnS h i t).2.2.2 (jnS h i t).1 := by
      simp only [jnS]
      by_cases c : t.2.1 i = h ∧ fnd (like t.2.1 t.2.2.1 i) i < i
      · rw [if_pos c]
        refine ⟨by show i ≤ t.1 - 1; omega, ?_⟩
        exact MV_rm (MV_lo hq (mn1_in (hq.2.2.2.2 _ (by omega)).2 (hq.2.2.2.2 i (by omega)).2))
      · rw [if_neg c]; exact ⟨by omega, hq⟩
    exact MV_jn i _ key.1 key.2
/-! feed -/
theorem b255 : ∀ i : Fin 32, ¬ i.1 < 8 → (255#32)[i.1] = false := by decide
theorem ush_eqB (x : BitVec 32) (s : Nat) (hs : s ≤ 24) : (x.ushiftRight s) &&& 255#32 = (x.sshiftRight s) &&& 255#32 := by
  ext i hi
  simp only [BitVec.getElem_and, BitVec.getElem_sshiftRight, BitVec.ushiftRight_eq, BitVec.getElem_ushiftRight]
  by_cases h : i < 8
  · rw [dif_pos (by omega)]; rfl
  · rw [b255 ⟨i, hi⟩ h]; simp
theorem and255 (y : Int32) : 0 ≤ (y &&& 255) := by
  rw [Int32.le_iff_toInt_le]
  have : (y &&& 255).toInt = ((y &&& 255).toBitVec).toInt := rfl
  rw [this, Int32.toBitVec_and, BitVec.toInt_eq_toNat_of_msb]
  · exact Int.natCast_nonneg _
  · rw [BitVec.msb_and]
    have : (Int32.toBitVec 255).msb = false := by decide
    rw [this]; simp
theorem ush24 (x : Int32) : ush x 24 = (x >>> 24) &&& 255 := by
  apply Int32.toBitVec_inj.mp
  exact ush_eqB x.toBitVec 24 (by decide)
theorem ush16 (x : Int32) : ush x 16 = (x >>> 16) &&& 255 := by
  apply Int32.toBitVec_inj.mp
  exact ush_eqB x.toBitVec 16 (by decide)
theorem ush8 (x : Int32) : ush x 8 = (x >>> 8) &&& 255 := by
  apply Int32.toBitVec_inj.mp
  exact ush_eqB x.toBitVec 8 (by decide)
theorem ush0 (x : Int32) : ush x 0 = (x >>> 0) &&& 255 := by
  apply Int32.toBitVec_inj.mp
  exact ush_eqB x.toBitVec 0 (by decide)
theorem wrB4 {l k : Nat} {g f : Nat → Int32} : wrB l (k + 4) g f = xu (xu (xu (xu (wrB l k g f) (l + k) (g k)) (l + (k + 1)) (g (k + 1))) (l + (k + 2)) (g (k + 2))) (l + (k + 3)) (g (k + 3)) := by
  rw [wrB_s, wrB_s, wrB_s, wrB_s]
theorem ad4_wr {l k : Nat} {g f : Nat → Int32} {x : Int32} (h0 : g k = (x >>> 24) &&& 255) (h1 : g (k + 1) = (x >>> 16) &&& 255) (h2 : g (k + 2) = (x >>> 8) &&& 255) (h3 : g (k + 3) = (x >>> 0) &&& 255) : ad4 (wrB l k g f) (l + k) x = wrB l (k + 4) g f := by
  rw [wrB4, h0, h1, h2, h3]
  simp only [ad4, ush24, ush16, ush8, ush0]
  rfl
theorem fd_0 (x1 x2 x3 x4 x5 : Int32) : fdV x1 x2 x3 x4 x5 0 = (x1 >>> 24) &&& 255 := by
  simp only [fdV]
  rw [show ((24 - 8 * (nI 0 - nI 0 / 4 * 4)) &&& 31 : Int32) = 24 from by decide]
  rfl
theorem fd_1 (x1 x2 x3 x4 x5 : Int32) : fdV x1 x2 x3 x4 x5 1 = (x1 >>> 16) &&& 255 := by
  simp only [fdV]
  rw [show ((24 - 8 * (nI 1 - nI 1 / 4 * 4)) &&& 31 : Int32) = 16 from by decide]
  rfl
theorem fd_2 (x1 x2 x3 x4 x5 : Int32) : fdV x1 x2 x3 x4 x5 2 = (x1 >>> 8) &&& 255 := by
  simp only [fdV]
  rw [show ((24 - 8 * (nI 2 - nI 2 / 4 * 4)) &&& 31 : Int32) = 8 from by decide]
  rfl
theorem fd_3 (x1 x2 x3 x4 x5 : Int32) : fdV x1 x2 x3 x4 x5 3 = (x1 >>> 0) &&& 255 := by
  simp only [fdV]
  rw [show ((24 - 8 * (nI 3 - nI 3 / 4 * 4)) &&& 31 : Int32) = 0 from by decide]
  rfl
theorem fd_4 (x1 x2 x3 x4 x5 : Int32) : fdV x1 x2 x3 x4 x5 4 = (x2 >>> 24) &&& 255 := by
  simp only [fdV]
  rw [show ((24 - 8 * (nI 4 - nI 4 / 4 * 4)) &&& 31 : Int32) = 24 from by decide]
  rfl
theorem fd_5 (x1 x2 x3 x4 x5 : Int32) : fdV x1 x2 x3 x4 x5 5 = (x2 >>> 16) &&& 255 := by
  simp only [fdV]
  rw [show ((24 - 8 * (nI 5 - nI 5 / 4 * 4)) &&& 31 : Int32) = 16 from by decide]
  rfl
theorem fd_6 (x1 x2 x3 x4 x5 : Int32) : fdV x1 x2 x3 x4 x5 6 = (x2 >>> 8) &&& 255 := by
  simp only [fdV]
  rw [show ((24 - 8 * (nI 6 - nI 6 / 4 * 4)) &&& 31 : Int32) = 8 from by decide]
  rfl
theorem fd_7 (x1 x2 x3 x4 x5 : Int32) : fdV x1 x2 x3 x4 x5 7 = (x2 >>> 0) &&& 255 := by
  simp only [fdV]
  rw [show ((24 - 8 * (nI 7 - nI 7 / 4 * 4)) &&& 31 : Int32) = 0 from by decide]
  rfl
theorem fd_8 (x1 x2 x3 x4 x5 : Int32) : fdV x1 x2 x3 x4 x5 8 = (x3 >>> 24) &&& 255 := by
  simp only [fdV]
  rw [show ((24 - 8 * (nI 8 - nI 8 / 4 * 4)) &&& 31 : Int32) = 24 from by decide]
  rfl
theorem fd_9 (x1 x2 x3 x4 x5 : Int32) : fdV x1 x2 x3 x4 x5 9 = (x3 >>> 16) &&& 255 := by
  simp only [fdV]
  rw [show ((24 - 8 * (nI 9 - nI 9 / 4 * 4)) &&& 31 : Int32) = 16 from by decide]
  rfl
theorem fd_10 (x1 x2 x3 x4 x5 : Int32) : fdV x1 x2 x3 x4 x5 10 = (x3 >>> 8) &&& 255 := by
  simp only [fdV]
  rw [show ((24 - 8 * (nI 10 - nI 10 / 4 * 4)) &&& 31 : Int32) = 8 from by decide]
  rfl
theorem fd_11 (x1 x2 x3 x4 x5 : Int32) : fdV x1 x2 x3 x4 x5 11 = (x3 >>> 0) &&& 255 := by
  simp only [fdV]
  rw [show ((24 - 8 * (nI 11 - nI 11 / 4 * 4)) &&& 31 : Int32) = 0 from by decide]
  rfl
theorem fd_12 (x1 x2 x3 x4 x5 : Int32) : fdV x1 x2 x3 x4 x5 12 = (x4 >>> 24) &&& 255 := by
  simp only [fdV]
  rw [show ((24 - 8 * (nI 12 - nI 12 / 4 * 4)) &&& 31 : Int32) = 24 from by decide]
  rfl
theorem fd_13 (x1 x2 x3 x4 x5 : Int32) : fdV x1 x2 x3 x4 x5 13 = (x4 >>> 16) &&& 255 := by
  simp only [fdV]
  rw [show ((24 - 8 * (nI 13 - nI 13 / 4 * 4)) &&& 31 : Int32) = 16 from by decide]
  rfl
theorem fd_14 (x1 x2 x3 x4 x5 : Int32) : fdV x1 x2 x3 x4 x5 14 = (x4 >>> 8) &&& 255 := by
  simp only [fdV]
  rw [show ((24 - 8 * (nI 14 - nI 14 / 4 * 4)) &&& 31 : Int32) = 8 from by decide]
  rfl
theorem fd_15 (x1 x2 x3 x4 x5 : Int32) : fdV x1 x2 x3 x4 x5 15 = (x4 >>> 0) &&& 255 := by
  simp only [fdV]
  rw [show ((24 - 8 * (nI 15 - nI 15 / 4 * 4)) &&& 31 : Int32) = 0 from by decide]
  rfl
theorem fd_16 (x1 x2 x3 x4 x5 : Int32) : fdV x1 x2 x3 x4 x5 16 = (x5 >>> 24) &&& 255 := by
  simp only [fdV]
  rw [show ((24 - 8 * (nI 16 - nI 16 / 4 * 4)) &&& 31 : Int32) = 24 from by decide]
  rfl
theorem fd_17 (x1 x2 x3 x4 x5 : Int32) : fdV x1 x2 x3 x4 x5 17 = (x5 >>> 16) &&& 255 := by
  simp only [fdV]
  rw [show ((24 - 8 * (nI 17 - nI 17 / 4 * 4)) &&& 31 : Int32) = 16 from by decide]
  rfl
theorem fd_18 (x1 x2 x3 x4 x5 : Int32) : fdV x1 x2 x3 x4 x5 18 = (x5 >>> 8) &&& 255 := by
  simp only [fdV]
  rw [show ((24 - 8 * (nI 18 - nI 18 / 4 * 4)) &&& 31 : Int32) = 8 from by decide]
  rfl
theorem fd_19 (x1 x2 x3 x4 x5 : Int32) : fdV x1 x2 x3 x4 x5 19 = (x5 >>> 0) &&& 255 := by
  simp only [fdV]
  rw [show ((24 - 8 * (nI 19 - nI 19 / 4 * 4)) &&& 31 : Int32) = 0 from by decide]
  rfl
theorem feed_eq {l : Nat} {f : Nat → Int32} (x1 x2 x3 x4 x5 : Int32) : ad4 (ad4 (ad4 (ad4 (ad4 f l x1) (l + 4) x2) (l + 4 + 4) x3) (l + 4 + 4 + 4) x4) (l + 4 + 4 + 4 + 4) x5 = wrB l 20 (fdV x1 x2 x3 x4 x5) f := by
  have e0 : ad4 f l x1 = wrB l (0 + 4) (fdV x1 x2 x3 x4 x5) f := by
    have h := ad4_wr (l := l) (k := 0) (g := fdV x1 x2 x3 x4 x5) (f := f) (fd_0 x1 x2 x3 x4 x5) (fd_1 x1 x2 x3 x4 x5) (fd_2 x1 x2 x3 x4 x5) (fd_3 x1 x2 x3 x4 x5)
    rw [wrB_0] at h
    exact h
  rw [e0]
  rw [show ad4 (wrB l (0 + 4) (fdV x1 x2 x3 x4 x5) f) (l + 4) x2 = wrB l (0 + 4 + 4) (fdV x1 x2 x3 x4 x5) f from ad4_wr (k := 0 + 4) (fd_4 x1 x2 x3 x4 x5) (fd_5 x1 x2 x3 x4 x5) (fd_6 x1 x2 x3 x4 x5) (fd_7 x1 x2 x3 x4 x5)]
  rw [show ad4 (wrB l (0 + 4 + 4) (fdV x1 x2 x3 x4 x5) f) (l + 4 + 4) x3 = wrB l (0 + 4 + 4 + 4) (fdV x1 x2 x3 x4 x5) f from ad4_wr (k := 0 + 4 + 4) (fd_8 x1 x2 x3 x4 x5) (fd_9 x1 x2 x3 x4 x5) (fd_10 x1 x2 x3 x4 x5) (fd_11 x1 x2 x3 x4 x5)]
  rw [show ad4 (wrB l (0 + 4 + 4 + 4) (fdV x1 x2 x3 x4 x5) f) (l + 4 + 4 + 4) x4 = wrB l (0 + 4 + 4 + 4 + 4) (fdV x1 x2 x3 x4 x5) f from ad4_wr (k := 0 + 4 + 4 + 4) (fd_12 x1 x2 x3 x4 x5) (fd_13 x1 x2 x3 x4 x5) (fd_14 x1 x2 x3 x4 x5) (fd_15 x1 x2 x3 x4 x5)]
  rw [show ad4 (wrB l (0 + 4 + 4 + 4 + 4) (fdV x1 x2 x3 x4 x5) f) (l + 4 + 4 + 4 + 4) x5 = wrB l (0 + 4 + 4 + 4 + 4 + 4) (fdV x1 x2 x3 x4 x5) f from ad4_wr (k := 0 + 4 + 4 + 4 + 4) (fd_16 x1 x2 x3 x4 x5) (fd_17 x1 x2 x3 x4 x5) (fd_18 x1 x2 x3 x4 x5) (fd_19 x1 x2 x3 x4 x5)]
theorem feed_nn {l : Nat} {f : Nat → Int32} {x1 x2 x3 x4 x5 : Int32} (h : ∀ j, 0 ≤ f j) : ∀ j, 0 ≤ wrB l 20 (fdV x1 x2 x3 x4 x5) f j := by
  intro j
  simp only [wrB]
  split
  · simp only [fdV]; exact and255 _
  · exact h j
/-! text -/
theorem pRow_cg {f g h : Nat → Int32} {l p : Nat} {mx fa : Int32} (e : ∀ j, j < 8 → g j = h j) : ∀ j, j < 8 → pRow f l p mx fa g j = pRow f l p mx fa h j := by
  intro j hj
  simp only [pRow]
  split
  · exact xu_cg (fun _ => e j hj)
  · exact e j hj
theorem eqB_who {B A : bk_T} {n : Nat} {f g : Nat → Int32} (he : eqB n B A) (h : ∀ j, j < 8 → f j = g j) : eqB n (bk_who B f) (bk_who A g) := ⟨he.1, fun j hj => ⟨h j hj, (he.2.1 j hj).2⟩, he.2.2⟩
theorem eqB_wow {B A : bk_T} {n : Nat} {f g : Nat → Int32} (he : eqB n B A) (h : ∀ j, j < 8 → f j = g j) : eqB n (bk_wow B f) (bk_wow A g) := ⟨he.1, fun j hj => ⟨(he.2.1 j hj).1, h j hj⟩, he.2.2⟩
theorem insn_eqB {B A : bk_T} {n : Nat} (he : eqB n B A) (h x q b1 b2 : Int32) : eqB (n + 1) (bk_w3 B (insR n n h (bk_hs B)) (insR n n x (bk_ra B)) (insR n n q (bk_lo B)) b1) (bk_w3 A (insR n n h (bk_hs A)) (insR n n x (bk_ra A)) (insR n n q (bk_lo A)) b2) := by
  have := bid_eqB he h x q b1 b2
  rw [← insR_s, ← insR_s, ← insR_s] at this
  exact this
/-- where the reading stands is one, the books are alike -/
def eqP (s s' : Nat × Int32 × Nat × bk_T) : Prop := s.1 = s'.1 ∧ s.2.1 = s'.2.1 ∧ s.2.2.1 = s'.2.2.1 ∧ eqB s.2.2.1 s.2.2.2 s'.2.2.2
theorem rsT_cg {f : Nat → Int32} {l e j n : Nat} {fa : Int32} {B A : bk_T} (he : eqB n B A) : eqP (rsT f l e j fa n B) (rsT f l e j fa n A) := ⟨rfl, rfl, rfl, eqB_wte he _ _⟩
theorem rsB_cg {f : Nat → Int32} {l e n : Nat} {r : Bool} {fa : Int32} {B A : bk_T} (he : eqB n B A) : eqP (rsB f l e r fa n B) (rsB f l e r fa n A) := ⟨rfl, rfl, rfl, insn_eqB he _ _ _ _ _⟩
theorem RS_cg {f : Nat → Int32} {l p n : Nat} {fa : Int32} {B A : bk_T} (he : eqB n B A) : eqP (RS f l p fa n B) (RS f l p fa n A) := by
  simp only [RS]
  generalize sbk f l p = b
  generalize wdE f l p = e
  simp only [RS0]
  by_cases c0 : wIs f b e S0.2.2.2.2 = true
  · rw [if_pos c0, if_pos c0]; exact rsT_cg he
  rw [if_neg c0, if_neg c0]
  by_cases c1 : wIs f b e S1.2.2.2.2 = true
  · rw [if_pos c1, if_pos c1]; exact rsT_cg he
  rw [if_neg c1, if_neg c1]
  by_cases c2 : wIs f b e S2.2.2.2.2 = true
  · rw [if_pos c2, if_pos c2]; exact rsT_cg he
  rw [if_neg c2, if_neg c2]
  by_cases c3 : wIs f b e S3.2.2.2.2 = true
  · rw [if_pos c3, if_pos c3]
    exact ⟨rfl, rfl, rfl, eqB_wte (eqB_wte he 4 (yV2 f l e)) 3 (yV1 f l e)⟩
  rw [if_neg c3, if_neg c3]
  by_cases c5 : wIs f b e S5.2.2.2.2 = true
  · rw [if_pos c5, if_pos c5]; exact rsT_cg he
  rw [if_neg c5, if_neg c5]
  simp only [RS1]
  by_cases c6 : wIs f b e S6.2.2.2.2 = true
  · rw [if_pos c6, if_pos c6]; exact ⟨rfl, rfl, rfl, eqB_wte he 6 0⟩
  rw [if_neg c6, if_neg c6]
  by_cases c7 : wIs f b e S7.2.2.2.2 = true
  · rw [if_pos c7, if_pos c7]; exact ⟨rfl, rfl, rfl, eqB_wte he 6 1⟩
  rw [if_neg c7, if_neg c7]
  by_cases c8 : wIs f b e S8.2.2.2.2 = true
  · rw [if_pos c8, if_pos c8]; exact ⟨rfl, rfl, rfl, eqB_who he (pRow_cg (fun j hj => (he.2.1 j hj).1))⟩
  rw [if_neg c8, if_neg c8]
  by_cases c9 : wIs f b e S9.2.2.2.2 = true
  · rw [if_pos c9, if_pos c9]; exact ⟨rfl, rfl, rfl, eqB_wow he (pRow_cg (fun j hj => (he.2.1 j hj).2))⟩
  rw [if_neg c9, if_neg c9]
  simp only [RS2]
  by_cases c10 : wIs f b e S10.2.2.2.2 = true ∧ n < 30
  · rw [if_pos c10, if_pos c10]; exact rsB_cg he
  rw [if_neg c10, if_neg c10]
  by_cases c12 : wIs f b e S12.2.2.2.2 = true ∧ n < 30
  · rw [if_pos c12, if_pos c12]; exact rsB_cg he
  rw [if_neg c12, if_neg c12]
  exact ⟨rfl, rfl, rfl, he⟩
theorem stp_cg {f : Nat → Int32} {l : Nat} {s s' : Nat × Int32 × Nat × bk_T} (h : eqP s s') : eqP (stp f l s) (stp f l s') := by
  obtain ⟨p, fa, n, B⟩ := s
  obtain ⟨p', fa', n', A⟩ := s'
  obtain ⟨h1, h2, h3, h4⟩ := h
  simp only at h1 h2 h3 h4
  subst h1 h2 h3
  obtain ⟨q1, q2, q3, q4⟩ := RS_cg (f := f) (l := l) (p := p) (fa := fa) h4
  refine ⟨?_, ?_, q3, q4⟩
  · simp only [stp]; rw [q1]
  · simp only [stp]; rw [q1, q2]
theorem LPs_cg {f : Nat → Int32} {l : Nat} : ∀ (k : Nat) (s s' : Nat × Int32 × Nat × bk_T), eqP s s' → eqP (LPs f l k s) (LPs f l k s')
  | 0, _, _, h => h
  | k + 1, s, s', h => by
    simp only [LPs]
    rw [h.1, h.2.1]
    split
    · exact LPs_cg k _ _ (stp_cg h)
    · exact h
theorem beg_eqB (A : bk_T) : eqB 0 (bkBeg A) (mB TE0 (fun _ => 0) (cpN 8 nI (fun _ => 0)) (fun _ => 0) (fun _ => 0) (fun _ => 0) 0) := by
  refine ⟨fun j hj => ?_, fun h hh => ⟨?_, ?_⟩, fun b hb => absurd hb (Nat.not_lt_zero b)⟩
  · show cpN 7 st_FIRST (bk_te A) j = TE0 j
    simp only [cpN, if_pos hj]
    have : ∀ j : Fin 7, st_FIRST j.1 = TE0 j.1 := by decide
    exact this ⟨j, hj⟩
  · show cpN 8 (fun _ => 0) (bk_ho A) h = 0
    simp only [cpN, if_pos hh]
  · show cpN 8 nI (bk_ow A) h = cpN 8 nI (fun _ => 0) h
    simp only [cpN, if_pos hh]
theorem LP_cg {f : Nat → Int32} {l : Nat} (A : bk_T) : eqP (LPr f l A) (LPM f l) := LPs_cg 700 _ _ ⟨rfl, rfl, rfl, beg_eqB A⟩
theorem LPM_ok {f : Nat → Int32} {l : Nat} (hl : l ≤ 700) : okR l (LPM f l) := LPs_ok hl 700 _ ⟨(sbk_le (Nat.zero_le l)).2, mB0_ok⟩

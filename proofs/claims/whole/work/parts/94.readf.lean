def vH (ho : Nat → Int32) : Prop := ∀ h, h < 8 → 0 ≤ ho h ∧ ho h ≤ 9999
/-- a book that is being read -/
def okA (A : bk_T) (n : Nat) : Prop := bk_bi A = nI n ∧ n ≤ 30 ∧ okOw (bk_ow A) ∧ okHs (bk_hs A) n ∧ vT (bk_te A) ∧ vL (bk_ra A) (bk_lo A) n ∧ vH (bk_ho A) ∧ bk_ln A = 0
theorem st_lm : ∀ j, j < 7 → st_LEAST j ≤ st_MOST j := by decide
theorem insR_s {n : Nat} {x : Int32} {f : Nat → Int32} : insR n n x f = xu f n x := by simp only [insR, shU_0]
theorem okA_te {A : bk_T} {n j : Nat} {x : Int32} (h : okA A n) (hj : j < 7) (h3 : ¬ j = 3) (h4 : ¬ j = 4) (hx : st_LEAST j ≤ x ∧ x ≤ st_MOST j) : okA (bk_wte A (xu (bk_te A) j x)) n := by
  obtain ⟨a1, a2, a3, a4, a5, a6, a7⟩ := h
  refine ⟨a1, a2, a3, a4, vT_x hj a5 ?_, a6, a7⟩
  simp only [tfit]
  rw [if_neg (nI_pos (by omega)), if_neg (show ¬ (7 : Int32) ≤ nI j from fun q => absurd ((nI_leI (a := 7) (b := j) (by decide) (by omega)).mp q) (by omega)), xn_nI (by omega), if_neg (Int32.not_lt.mpr hx.1), if_neg (fun q => q hx.2)]
  rw [if_neg (show ¬ nI j = (3 : Int32) from fun q => h3 ((nI_eq (a := j) (b := 3) (by omega) (by decide)).mp q)), if_neg (show ¬ nI j = (4 : Int32) from fun q => h4 ((nI_eq (a := j) (b := 4) (by omega) (by decide)).mp q))]
theorem okA_y {A : bk_T} {n : Nat} {x y : Int32} (h : okA A n) (h1 : 0 ≤ x) (h2 : x ≤ y) (h3 : y ≤ 999) : okA (bk_wte A (xu (xu (bk_te A) 4 y) 3 x)) n := by
  obtain ⟨a1, a2, a3, a4, ⟨b1, b2, b3, b4, b5, b6⟩, a6, a7⟩ := h
  refine ⟨a1, a2, a3, a4, ⟨b1, b2, b3, ⟨?_, ?_, ?_⟩, b5, b6⟩, a6, a7⟩
  · show 0 ≤ xu (xu (bk_te A) 4 y) 3 x 3
    rw [xu_s]; exact h1
  · show xu (xu (bk_te A) 4 y) 3 x 3 ≤ xu (xu (bk_te A) 4 y) 3 x 4
    rw [xu_s, xu_n (by decide), xu_s]; exact h2
  · show xu (xu (bk_te A) 4 y) 3 x 4 ≤ 999
    rw [xu_n (by decide), xu_s]; exact h3
theorem okA_ho {A : bk_T} {n : Nat} {k : Nat} {x : Int32} (h : okA A n) (hx : 0 ≤ x ∧ x ≤ 9999) : okA (bk_who A (xu (bk_ho A) k x)) n := by
  obtain ⟨a1, a2, a3, a4, a5, a6, a7⟩ := h
  refine ⟨a1, a2, a3, a4, a5, a6, fun j hj => ?_, a7.2⟩
  show 0 ≤ xu (bk_ho A) k x j ∧ xu (bk_ho A) k x j ≤ 9999
  by_cases c : j = k
  · subst c; rw [xu_s]; exact hx
  · rw [xu_n c]; exact a7.1 j hj
theorem okA_ow {A : bk_T} {n : Nat} {k : Nat} {x : Int32} (h : okA A n) (hx : 0 ≤ x ∧ x ≤ 7) : okA (bk_wow A (xu (bk_ow A) k x)) n := by
  obtain ⟨a1, a2, a3, a4, a5, a6, a7⟩ := h
  refine ⟨a1, a2, fun j hj => ?_, a4, a5, a6, a7⟩
  show xi (xu (bk_ow A) k x j) (xn (xu (bk_ow A) k x j)) 8
  by_cases c : j = k
  · subst c; rw [xu_s]; exact hs_xi hx.1 hx.2
  · rw [xu_n c]; exact a3 j hj
theorem okA_bid {A : bk_T} {n : Nat} {h r q : Int32} (ok : okA A n) (hn : n < 30) (h1 : 0 ≤ h ∧ h ≤ 7) (h2 : -1 ≤ r ∧ r ≤ 999) (h3 : 1 ≤ q ∧ q ≤ 1000) : okA (bk_w3 A (insR n n h (bk_hs A)) (insR n n r (bk_ra A)) (insR n n q (bk_lo A)) (nI (n + 1))) (n + 1) := by
  obtain ⟨a1, a2, a3, a4, a5, a6, a7⟩ := ok
  rw [insR_s, insR_s, insR_s]
  refine ⟨rfl, by omega, a3, fun b hb => ?_, a5, fun b hb => ?_, a7⟩
  · show xi (xu (bk_hs A) n h b) (xn (xu (bk_hs A) n h b)) 8
    by_cases c : b = n
    · subst c; rw [xu_s]; exact hs_xi h1.1 h1.2
    · rw [xu_n c]; exact a4 b (by omega)
  · show (-1 ≤ xu (bk_ra A) n r b ∧ xu (bk_ra A) n r b ≤ 999) ∧ (1 ≤ xu (bk_lo A) n q b ∧ xu (bk_lo A) n q b ≤ 1000)
    by_cases c : b = n
    · subst c; rw [xu_s, xu_s]; exact ⟨h2, h3⟩
    · rw [xu_n c, xu_n c]; exact a6 b (by omega)
def okR (l : Nat) (s : Nat × Int32 × Nat × bk_T) : Prop := s.1 ≤ l ∧ okA s.2.2.2 s.2.2.1
theorem rsT_ok {f : Nat → Int32} {l e j n : Nat} {fa : Int32} {A : bk_T} (he : e ≤ l) (h : okA A n) (hj : j < 7) (h3 : ¬ j = 3) (h4 : ¬ j = 4) : okR l (rsT f l e j fa n A) := ⟨(nu_l he).2, okA_te h hj h3 h4 (nuV_in (st_lm j hj))⟩
theorem rsB_ok {f : Nat → Int32} {l e n : Nat} {r : Bool} {fa : Int32} {A : bk_T} (he : e ≤ l) (h : okA A n) (hn : n < 30) : okR l (rsB f l e r fa n A) := by
  refine ⟨(b_le r he).2.2.2.2.1, okA_bid h hn (nuV_in (by decide)) ?_ (nuV_in (by decide))⟩
  simp only [bR]
  split
  · have := nuV_in (f := f) (l := l) (p := nuE f l e) (lo := 0) (hi := 999) (by decide)
    exact ⟨Int32.le_trans (by decide) this.1, this.2⟩
  · exact ⟨Int32.le_rfl, by decide⟩
theorem RS_ok {f : Nat → Int32} {l p n : Nat} {fa : Int32} {A : bk_T} (hp : p ≤ l) (h : okA A n) : okR l (RS f l p fa n A) := by
  have hw := wdE_le (f := f) hp
  have hn := h.2.1
  simp only [RS]
  generalize sbk f l p = b at *
  generalize wdE f l p = e at *
  have y := yE_le (f := f) (l := l) (p := e) hw.2
  have q1 := nu_l (f := f) (l := l) (p := e) hw.2
  have q2 := nu_l (f := f) (l := l) (p := nuE f l e) q1.2
  have q3 := nu_l (f := f) (l := l) (p := yE2 f l e) y.2.2.2
  have v1 := nuV_in (f := f) (l := l) (p := e) (lo := 0) (hi := 999) (by decide)
  simp only [RS0]
  by_cases c0 : wIs f b e S0.2.2.2.2 = true
  · rw [if_pos c0]; exact rsT_ok hw.2 h (by decide) (by decide) (by decide)
  rw [if_neg c0]
  by_cases c1 : wIs f b e S1.2.2.2.2 = true
  · rw [if_pos c1]; exact rsT_ok hw.2 h (by decide) (by decide) (by decide)
  rw [if_neg c1]
  by_cases c2 : wIs f b e S2.2.2.2.2 = true
  · rw [if_pos c2]; exact rsT_ok hw.2 h (by decide) (by decide) (by decide)
  rw [if_neg c2]
  by_cases c3 : wIs f b e S3.2.2.2.2 = true
  · rw [if_pos c3]
    have v2 := nuV_in (f := f) (l := l) (p := yE2 f l e) (lo := yV1 f l e) (hi := 999) v1.2
    exact ⟨q3.2, okA_y h v1.1 v2.1 v2.2⟩
  rw [if_neg c3]
  by_cases c5 : wIs f b e S5.2.2.2.2 = true
  · rw [if_pos c5]; exact rsT_ok hw.2 h (by decide) (by decide) (by decide)
  rw [if_neg c5]
  simp only [RS1]
  by_cases c6 : wIs f b e S6.2.2.2.2 = true
  · rw [if_pos c6]; exact ⟨hw.2, okA_te h (by decide) (by decide) (by decide) ⟨by decide, by decide⟩⟩
  rw [if_neg c6]
  by_cases c7 : wIs f b e S7.2.2.2.2 = true
  · rw [if_pos c7]; exact ⟨hw.2, okA_te h (by decide) (by decide) (by decide) ⟨by decide, by decide⟩⟩
  rw [if_neg c7]
  by_cases c8 : wIs f b e S8.2.2.2.2 = true
  · rw [if_pos c8]
    refine ⟨q2.2, ?_⟩
    simp only [pRow]
    by_cases d : pFa f l e 9999 fa = -1
    · rw [if_pos d]; exact okA_ho h (nuV_in (by decide))
    · rw [if_neg d]; exact h
  rw [if_neg c8]
  by_cases c9 : wIs f b e S9.2.2.2.2 = true
  · rw [if_pos c9]
    refine ⟨q2.2, ?_⟩
    simp only [pRow]
    by_cases d : pFa f l e 7 fa = -1
    · rw [if_pos d]; exact okA_ow h (nuV_in (by decide))
    · rw [if_neg d]; exact h
  rw [if_neg c9]
  simp only [RS2]
  by_cases c10 : wIs f b e S10.2.2.2.2 = true ∧ n < 30
  · rw [if_pos c10]; exact rsB_ok hw.2 h c10.2
  rw [if_neg c10]
  by_cases c12 : wIs f b e S12.2.2.2.2 = true ∧ n < 30
  · rw [if_pos c12]; exact rsB_ok hw.2 h c12.2
  rw [if_neg c12]
  exact ⟨hw.2, h⟩
def smP (f : Nat → Int32) (l p : Nat) : Nat := if tAt f l (nI (sbk f l p)) = 59 then sbk f l p + 1 else sbk f l p
def smF (f : Nat → Int32) (l p : Nat) (fa : Int32) : Int32 := if tAt f l (nI (sbk f l p)) = 59 then fa else ffa fa (nI (sbk f l p))
theorem smP_le {f : Nat → Int32} {l p : Nat} (h : p ≤ l) (hl : l ≤ 700) : smP f l p ≤ l := by
  have a := sbk_le (f := f) h
  simp only [smP]
  by_cases c : tAt f l (nI (sbk f l p)) = 59
  · rw [if_pos c]
    rw [tAt_nI (by omega) (by omega)] at c
    by_cases d : sbk f l p < l
    · omega
    · rw [if_neg d] at c; exact absurd c (by decide)
  · rw [if_neg c]; omega
/-- a statement and its semicolon -/
def stp (f : Nat → Int32) (l : Nat) (s : Nat × Int32 × Nat × bk_T) : Nat × Int32 × Nat × bk_T := (sbk f l (smP f l (RS f l s.1 s.2.1 s.2.2.1 s.2.2.2).1), smF f l (RS f l s.1 s.2.1 s.2.2.1 s.2.2.2).1 (RS f l s.1 s.2.1 s.2.2.1 s.2.2.2).2.1, (RS f l s.1 s.2.1 s.2.2.1 s.2.2.2).2.2.1, (RS f l s.1 s.2.1 s.2.2.1 s.2.2.2).2.2.2)
theorem stp_ok {f : Nat → Int32} {l : Nat} {s : Nat × Int32 × Nat × bk_T} (hl : l ≤ 700) (h : okR l s) : okR l (stp f l s) := by
  have r := RS_ok (f := f) (fa := s.2.1) h.1 h.2
  exact ⟨(sbk_le (smP_le r.1 hl)).2, r.2⟩
def LPs (f : Nat → Int32) (l : Nat) : Nat → Nat × Int32 × Nat × bk_T → Nat × Int32 × Nat × bk_T
  | 0, s => s
  | k + 1, s => if s.1 < l ∧ s.2.1 = -1 then LPs f l k (stp f l s) else s
theorem LPs_ok {f : Nat → Int32} {l : Nat} (hl : l ≤ 700) : ∀ k s, okR l s → okR l (LPs f l k s)
  | 0, s, h => h
  | k + 1, s, h => by
    simp only [LPs]
    split
    · exact LPs_ok hl k _ (stp_ok hl h)
    · exact h
def bkBeg (A : bk_T) : bk_T := (cpN 7 st_FIRST (bk_te A), cpN 8 (fun _ => 0) (bk_ho A), cpN 8 nI (bk_ow A), bk_hs A, bk_ra A, bk_lo A, 0, bk_st A, bk_av A, bk_so A, bk_pa A, 0)
theorem bkBeg_ok (A : bk_T) : okA (bkBeg A) 0 := by
  refine ⟨rfl, by omega, fun h hh => ?_, fun b hb => by omega, ?_, fun b hb => by omega, fun h hh => ?_, rfl⟩
  · show xi (cpN 8 nI (bk_ow A) h) (xn (cpN 8 nI (bk_ow A) h)) 8
    simp only [cpN, if_pos hh]
    exact xi_8 hh
  · show vT (cpN 7 st_FIRST (bk_te A))
    have h : vT st_FIRST := by simp only [vT]; decide
    exact h
  · show 0 ≤ cpN 8 (fun _ => 0) (bk_ho A) h ∧ cpN 8 (fun _ => 0) (bk_ho A) h ≤ 9999
    simp only [cpN, if_pos hh]
    decide
def LPr (f : Nat → Int32) (l : Nat) (A : bk_T) : Nat × Int32 × Nat × bk_T := LPs f l 700 (sbk f l 0, -1, 0, bkBeg A)
theorem c_semi {v : xw_V} {G : xw_G} {t : tp_T} {l : Nat} {p : Nat} {ws fa : Int32} (g18 : G 18 = pc_T v t) (htl : tp_le t = nI l) (hl7 : l ≤ 700) (g19 : G 19 = pR v (nI p) ws fa) (hp : p ≤ l) : xk_Con v yX3_readSemicolon cX3_readSemicolon 1 none 2 41 [.ref (xw_ad v 19 0)] G (xk_ret none (xw_up G 19 (pR v (nI (smP (tp_by t) l p)) ws (smF (tp_by t) l p fa)))) := by
  have h := c_X3_readSemicolon g18 htl hl7 g19 hp
  refine xk_mono ?_ h
  rintro _ _ ⟨rfl, rfl⟩
  refine ⟨rfl, ?_⟩
  simp only [smP, smF]
  by_cases c : tAt (tp_by t) l (nI (sbk (tp_by t) l p)) = 59
  · simp only [if_pos c]
  · simp only [if_neg c]
set_option maxHeartbeats 1000000 in
set_option maxRecDepth 10000 in
theorem l_X3_readAll {v : xw_V} {κ : xk_K} {post : Option Value → xw_G → Prop} {z : Nat × Nat × Nat} {G : xw_G} {t : tp_T} {l : Nat} {S9 : Nat × Int32 × Nat × bk_T} (hk : xk_Ok v κ yX3_readAll cX3_readAll 2 (some .int) 9 193) (hz : xk_zf κ = z) (htl : tp_le t = nI l) (hl7 : l ≤ 700) (kx : ∀ (ws : Int32) (G1 : xw_G), G1 18 = pc_T v t → G1 19 = pR v (nI S9.1) ws S9.2.1 → G1 3 = pc_B v 3 S9.2.2.2 → (∀ g, g ≠ 3 → g ≠ 19 → G1 g = G g) → xj v κ post z G1 70 [some (.ref (xw_ad v 19 0)), none] []) : ∀ (m : Nat) (i : Nat) (s : Nat × Int32 × Nat × bk_T) (ws : Int32) (G1 : xw_G), 700 - i < m → i ≤ 700 → LPs (tp_by t) l (700 - i) s = S9 → okR l s → G1 18 = pc_T v t → G1 19 = pR v (nI s.1) ws s.2.1 → G1 3 = pc_B v 3 s.2.2.2 → (∀ g, g ≠ 3 → g ≠ 19 → G1 g = G g) → xj v κ post z G1 23 [some (.ref (xw_ad v 19 0)), some (.int (nI i))] [] := by
  intro m
  induction m with
  | zero => intro i s ws G1 h; exact absurd h (Nat.not_lt_zero _)
  | succ m ih =>
    intro i s ws G1 hm hi hs hok g18 g19 g3 hfr
    have hs1 := hok.1
    refine xj_iload_n (i := 1) hk dX3_readAll_23 rfl rfl ?_
    refine xj_sipush (x := 700) hk dX3_readAll_24 (by decide) ?_
    refine xj_icmp_ge (tgt := 70) hk dX3_readAll_27 (by decide) (fun c27 => ?_) (fun c27 => ?_)
    · have c27 : 700 ≤ i := (nI_leI (a := 700) (b := i) (by omega) (by omega)).mp c27
      have e9 : i = 700 := by omega
      subst e9
      have e8 : s = S9 := hs
      subst e8
      refine xj.le (ls' := [some (.ref (xw_ad v 19 0)), none]) (by simp [xl_le] <;> rfl) ?_
      exact kx ws G1 g18 g19 g3 hfr
    · have c27 : ¬ 700 ≤ i := fun q => c27 ((nI_leI (a := 700) (b := i) (by omega) (by omega)).mpr q)
      refine xj_aload_n (i := 0) hk dX3_readAll_30 rfl rfl ?_
      refine xj_getfield hk dX3_readAll_31 fl_X3_24 (xw_at g19 rfl) rfl ?_
      refine xj_aload_n (i := 0) hk dX3_readAll_34 rfl rfl ?_
      refine xj_getfield hk dX3_readAll_35 fl_X3_9 (xw_at g19 rfl) rfl ?_
      refine xj_getfield hk dX3_readAll_38 fl_X3_34 (xw_at g18 rfl) rfl ?_
      refine xj.eqi (x' := nI l) htl ?_
      refine xj_icmp_ge (tgt := 70) hk dX3_readAll_41 (by decide) (fun c41 => ?_) (fun c41 => ?_)
      · have c41 : ¬ s.1 < l := fun q9 => absurd ((nI_leI (a := l) (b := s.1) (by omega) (by omega)).mp c41) (by omega)
        have e8 : s = S9 := by
          rw [← hs, show 700 - i = (700 - (i + 1)) + 1 by omega]
          simp only [LPs]
          rw [if_neg (fun q9 => c41 q9.1)]
        subst e8
        refine xj.le (ls' := [some (.ref (xw_ad v 19 0)), none]) (by simp [xl_le] <;> rfl) ?_
        exact kx ws G1 g18 g19 g3 hfr
      · have c41 : s.1 < l := by
          rcases Nat.lt_or_ge s.1 l with q9 | q9
          · exact q9
          · exact absurd ((nI_leI (a := l) (b := s.1) (by omega) (by omega)).mpr q9) c41
        refine xj_aload_n (i := 0) hk dX3_readAll_44 rfl rfl ?_
        refine xj_getfield hk dX3_readAll_45 fl_X3_28 (xw_at g19 rfl) rfl ?_
        refine xj_iconst (x := (-1)) hk dX3_readAll_48 (by decide) ?_
        refine xj_icmp_ne (tgt := 70) hk dX3_readAll_49 (by decide) (fun c49 => ?_) (fun c49 => ?_)
        · have e8 : s = S9 := by
            rw [← hs, show 700 - i = (700 - (i + 1)) + 1 by omega]
            simp only [LPs]
            rw [if_neg (fun q9 => c49 q9.2)]
          subst e8
          refine xj.le (ls' := [some (.ref (xw_ad v 19 0)), none]) (by simp [xl_le] <;> rfl) ?_
          exact kx ws G1 g18 g19 g3 hfr
        · refine xj_aload_n (i := 0) hk dX3_readAll_52 rfl rfl ?_
          refine xj_callVE hk hz (fr1 := 8) (lo1 := 173) (As := []) (st := []) ml_X3_39 (c_X3_readStatement (p := s.1) (n := s.2.2.1) g18 htl hl7 g19 g3 hok.1 hok.2.1 hok.2.2.1) (xw_at g19 rfl) rfl dX3_readAll_53 ⟨Nat.le_of_ble_eq_true rfl, Nat.le_of_ble_eq_true rfl⟩ rfl (Nat.le_of_ble_eq_true rfl) rfl ?_
          rintro _ _ ⟨rfl, ws9, rfl⟩
          have hr9 := RS_ok (f := tp_by t) (fa := s.2.1) hok.1 hok.2
          have hr8 := smP_le (f := tp_by t) hr9.1 hl7
          show xj v κ _ z (xw_up (xw_up G1 19 (pR v (nI (RS (tp_by t) l s.1 s.2.1 s.2.2.1 s.2.2.2).1) ws9 ((RS (tp_by t) l s.1 s.2.1 s.2.2.1 s.2.2.2).2.1))) 3 (pc_B v 3 ((RS (tp_by t) l s.1 s.2.1 s.2.2.1 s.2.2.2).2.2.2))) 56 _ []
          refine xj_aload_n (i := 0) hk dX3_readAll_56 rfl rfl ?_
          refine xj_callV hk hz (fr1 := 2) (lo1 := 41) (r1 := none) (As := []) (st := []) (st2 := []) (G1 := xw_up (xw_up G1 19 (pR v (nI (smP (tp_by t) l (RS (tp_by t) l s.1 s.2.1 s.2.2.1 s.2.2.2).1)) ws9 (smF (tp_by t) l (RS (tp_by t) l s.1 s.2.1 s.2.2.1 s.2.2.2).1 (RS (tp_by t) l s.1 s.2.1 s.2.2.1 s.2.2.2).2.1))) 3 (pc_B v 3 ((RS (tp_by t) l s.1 s.2.1 s.2.2.1 s.2.2.2).2.2.2))) ml_X3_42 (xk_cg (by rw [xw_up_c (by decide), xw_up_u] <;> rfl) (c_semi (p := (RS (tp_by t) l s.1 s.2.1 s.2.2.1 s.2.2.2).1) (ws := ws9) (fa := (RS (tp_by t) l s.1 s.2.1 s.2.2.1 s.2.2.2).2.1) (show (xw_up (xw_up G1 19 (pR v (nI (RS (tp_by t) l s.1 s.2.1 s.2.2.1 s.2.2.2).1) ws9 ((RS (tp_by t) l s.1 s.2.1 s.2.2.1 s.2.2.2).2.1))) 3 (pc_B v 3 ((RS (tp_by t) l s.1 s.2.1 s.2.2.1 s.2.2.2).2.2.2))) 18 = pc_T v t from (show (xw_up (xw_up G1 19 (pR v (nI (RS (tp_by t) l s.1 s.2.1 s.2.2.1 s.2.2.2).1) ws9 ((RS (tp_by t) l s.1 s.2.1 s.2.2.1 s.2.2.2).2.1))) 3 (pc_B v 3 ((RS (tp_by t) l s.1 s.2.1 s.2.2.1 s.2.2.2).2.2.2))) 18 = pc_T v t from by rw [xw_up_n (by decide), xw_up_n (by decide), g18])) htl hl7 (show (xw_up (xw_up G1 19 (pR v (nI (RS (tp_by t) l s.1 s.2.1 s.2.2.1 s.2.2.2).1) ws9 ((RS (tp_by t) l s.1 s.2.1 s.2.2.1 s.2.2.2).2.1))) 3 (pc_B v 3 ((RS (tp_by t) l s.1 s.2.1 s.2.2.1 s.2.2.2).2.2.2))) 19 = pR v (nI (RS (tp_by t) l s.1 s.2.1 s.2.2.1 s.2.2.2).1) ws9 ((RS (tp_by t) l s.1 s.2.1 s.2.2.1 s.2.2.2).2.1) from (show (xw_up (xw_up G1 19 (pR v (nI (RS (tp_by t) l s.1 s.2.1 s.2.2.1 s.2.2.2).1) ws9 ((RS (tp_by t) l s.1 s.2.1 s.2.2.1 s.2.2.2).2.1))) 3 (pc_B v 3 ((RS (tp_by t) l s.1 s.2.1 s.2.2.1 s.2.2.2).2.2.2))) 19 = pR v (nI (RS (tp_by t) l s.1 s.2.1 s.2.2.1 s.2.2.2).1) ws9 ((RS (tp_by t) l s.1 s.2.1 s.2.2.1 s.2.2.2).2.1) from by rw [xw_up_n (by decide), xw_up_s])) hr9.1)) (xw_at (show (xw_up (xw_up G1 19 (pR v (nI (RS (tp_by t) l s.1 s.2.1 s.2.2.1 s.2.2.2).1) ws9 ((RS (tp_by t) l s.1 s.2.1 s.2.2.1 s.2.2.2).2.1))) 3 (pc_B v 3 ((RS (tp_by t) l s.1 s.2.1 s.2.2.1 s.2.2.2).2.2.2))) 19 = pR v (nI (RS (tp_by t) l s.1 s.2.1 s.2.2.1 s.2.2.2).1) ws9 ((RS (tp_by t) l s.1 s.2.1 s.2.2.1 s.2.2.2).2.1) from by rw [xw_up_n (by decide), xw_up_s]) rfl) rfl dX3_readAll_57 ⟨Nat.le_of_ble_eq_true rfl, Nat.le_of_ble_eq_true rfl⟩ rfl (Nat.le_of_ble_eq_true rfl) rfl rfl ?_
          refine xj_aload_n (i := 0) hk dX3_readAll_60 rfl rfl ?_
          refine xj_callV hk hz (fr1 := 1) (lo1 := 21) (r1 := none) (As := []) (st := []) (st2 := []) (G1 := xw_up (xw_up G1 19 (pR v (nI (sbk (tp_by t) l (smP (tp_by t) l (RS (tp_by t) l s.1 s.2.1 s.2.2.1 s.2.2.2).1))) ws9 (smF (tp_by t) l (RS (tp_by t) l s.1 s.2.1 s.2.2.1 s.2.2.2).1 (RS (tp_by t) l s.1 s.2.1 s.2.2.1 s.2.2.2).2.1))) 3 (pc_B v 3 ((RS (tp_by t) l s.1 s.2.1 s.2.2.1 s.2.2.2).2.2.2))) ml_X3_31 (xk_cg (by rw [xw_up_c (by decide), xw_up_u] <;> rfl) (c_X3_skipBlanks (p := smP (tp_by t) l (RS (tp_by t) l s.1 s.2.1 s.2.2.1 s.2.2.2).1) (ws := ws9) (fa := smF (tp_by t) l (RS (tp_by t) l s.1 s.2.1 s.2.2.1 s.2.2.2).1 (RS (tp_by t) l s.1 s.2.1 s.2.2.1 s.2.2.2).2.1) (show (xw_up (xw_up G1 19 (pR v (nI (smP (tp_by t) l (RS (tp_by t) l s.1 s.2.1 s.2.2.1 s.2.2.2).1)) ws9 (smF (tp_by t) l (RS (tp_by t) l s.1 s.2.1 s.2.2.1 s.2.2.2).1 (RS (tp_by t) l s.1 s.2.1 s.2.2.1 s.2.2.2).2.1))) 3 (pc_B v 3 ((RS (tp_by t) l s.1 s.2.1 s.2.2.1 s.2.2.2).2.2.2))) 18 = pc_T v t from (show (xw_up (xw_up G1 19 (pR v (nI (smP (tp_by t) l (RS (tp_by t) l s.1 s.2.1 s.2.2.1 s.2.2.2).1)) ws9 (smF (tp_by t) l (RS (tp_by t) l s.1 s.2.1 s.2.2.1 s.2.2.2).1 (RS (tp_by t) l s.1 s.2.1 s.2.2.1 s.2.2.2).2.1))) 3 (pc_B v 3 ((RS (tp_by t) l s.1 s.2.1 s.2.2.1 s.2.2.2).2.2.2))) 18 = pc_T v t from by rw [xw_up_n (by decide), xw_up_n (by decide), g18])) htl hl7 (show (xw_up (xw_up G1 19 (pR v (nI (smP (tp_by t) l (RS (tp_by t) l s.1 s.2.1 s.2.2.1 s.2.2.2).1)) ws9 (smF (tp_by t) l (RS (tp_by t) l s.1 s.2.1 s.2.2.1 s.2.2.2).1 (RS (tp_by t) l s.1 s.2.1 s.2.2.1 s.2.2.2).2.1))) 3 (pc_B v 3 ((RS (tp_by t) l s.1 s.2.1 s.2.2.1 s.2.2.2).2.2.2))) 19 = pR v (nI (smP (tp_by t) l (RS (tp_by t) l s.1 s.2.1 s.2.2.1 s.2.2.2).1)) ws9 (smF (tp_by t) l (RS (tp_by t) l s.1 s.2.1 s.2.2.1 s.2.2.2).1 (RS (tp_by t) l s.1 s.2.1 s.2.2.1 s.2.2.2).2.1) from (show (xw_up (xw_up G1 19 (pR v (nI (smP (tp_by t) l (RS (tp_by t) l s.1 s.2.1 s.2.2.1 s.2.2.2).1)) ws9 (smF (tp_by t) l (RS (tp_by t) l s.1 s.2.1 s.2.2.1 s.2.2.2).1 (RS (tp_by t) l s.1 s.2.1 s.2.2.1 s.2.2.2).2.1))) 3 (pc_B v 3 ((RS (tp_by t) l s.1 s.2.1 s.2.2.1 s.2.2.2).2.2.2))) 19 = pR v (nI (smP (tp_by t) l (RS (tp_by t) l s.1 s.2.1 s.2.2.1 s.2.2.2).1)) ws9 (smF (tp_by t) l (RS (tp_by t) l s.1 s.2.1 s.2.2.1 s.2.2.2).1 (RS (tp_by t) l s.1 s.2.1 s.2.2.1 s.2.2.2).2.1) from by rw [xw_up_n (by decide), xw_up_s])) hr8)) (xw_at (show (xw_up (xw_up G1 19 (pR v (nI (smP (tp_by t) l (RS (tp_by t) l s.1 s.2.1 s.2.2.1 s.2.2.2).1)) ws9 (smF (tp_by t) l (RS (tp_by t) l s.1 s.2.1 s.2.2.1 s.2.2.2).1 (RS (tp_by t) l s.1 s.2.1 s.2.2.1 s.2.2.2).2.1))) 3 (pc_B v 3 ((RS (tp_by t) l s.1 s.2.1 s.2.2.1 s.2.2.2).2.2.2))) 19 = pR v (nI (smP (tp_by t) l (RS (tp_by t) l s.1 s.2.1 s.2.2.1 s.2.2.2).1)) ws9 (smF (tp_by t) l (RS (tp_by t) l s.1 s.2.1 s.2.2.1 s.2.2.2).1 (RS (tp_by t) l s.1 s.2.1 s.2.2.1 s.2.2.2).2.1) from by rw [xw_up_n (by decide), xw_up_s]) rfl) rfl dX3_readAll_61 ⟨Nat.le_of_ble_eq_true rfl, Nat.le_of_ble_eq_true rfl⟩ rfl (Nat.le_of_ble_eq_true rfl) rfl rfl ?_
          refine xj_iinc (i := 1) (x2 := nI (i + 1)) (ls2 := [some (.ref (xw_ad v 19 0)), some (.int (nI (i + 1)))]) hk dX3_readAll_64 rfl (nI_1 i) (by decide) rfl rfl ?_
          refine xj_goto (tgt := 23) hk dX3_readAll_67 (by decide) ?_
          refine ih (i + 1) (stp (tp_by t) l s) ws9 _ (by omega) (by omega) ?_ (stp_ok hl7 hok) ?_ ?_ ?_ ?_
          · rw [← hs, show 700 - i = (700 - (i + 1)) + 1 by omega]
            simp only [LPs]
            rw [if_pos ⟨c41, c49⟩]
          · rw [xw_up_n (by decide), xw_up_n (by decide)]; exact g18
          · rw [xw_up_n (by decide)]; exact xw_up_s
          · exact xw_up_s
          · intro g h1 h2; rw [xw_up_n h1, xw_up_n h2]; exact hfr g h1 h2


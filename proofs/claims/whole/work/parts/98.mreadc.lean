/-- where the reference stands: at p, or wrong since fa -/
def LXs (f : Nat → Int32) (l p : Nat) (fa sq tk bg nu wr : Int32) : Prop := (fa = -1 → sq = nI (sqN f l (sbk f l p)) ∧ tk = tkN f l (sbk f l p) ∧ bg = nI (sbk f l p) ∧ wr = 0 ∧ (tk = 2 → nu = nv f (sbk f l p) (run f l isDig (sbk f l p) - sbk f l p))) ∧ (¬ fa = -1 → wr = 1 ∧ bg = fa)
theorem run_0 {f : Nat → Int32} {l b : Nat} {g : Int32 → Bool} (h : ¬ (b < l ∧ g (f b) = true)) : run f l g b = b := by
  simp only [run]
  by_cases c : b < l
  · have hg : g (f b) = false := by simpa [c] using h
    rw [fnd_at (p := fun i => !(g (f (b + i)))) (k := 0) rfl (by simp [hg]) (l - b) (by omega)]; rfl
  · rw [show l - b = 0 by omega]; rfl
theorem run_1 {f : Nat → Int32} {l b : Nat} {g : Int32 → Bool} (h : b < l) (hg : g (f b) = true) : b < run f l g b := by
  have h0 := run_ge f l g b
  rcases Nat.lt_or_ge b (run f l g b) with q | q
  · exact q
  · exfalso
    have e : fnd (fun i => !(g (f (b + i)))) (l - b) = 0 := by simp only [run] at q h0; omega
    have := fnd_spec (p := fun i => !(g (f (b + i)))) (n := l - b) (by omega)
    rw [e] at this
    simp [hg] at this
theorem tk_word {f : Nat → Int32} {l p : Nat} : tkN f l (sbk f l p) = 1 ↔ (sbk f l p < l ∧ isLet (f (sbk f l p)) = true ∧ glu f (sbk f l p) = false) := by
  generalize sbk f l p = b
  simp only [tkN]
  constructor
  · intro h
    by_cases c : b < l
    · rw [if_pos c] at h
      by_cases d : isLet (f b) = true
      · rw [if_pos d] at h
        by_cases e : glu f b = true
        · rw [if_pos e] at h; exact absurd h (by decide)
        · exact ⟨c, d, by simpa using e⟩
      · rw [if_neg d] at h
        by_cases e : isDig (f b) = true
        · rw [if_pos e] at h
          split at h
          · exact absurd h (by decide)
          · exact absurd h (by decide)
        · rw [if_neg e] at h
          split at h
          · exact absurd h (by decide)
          · exact absurd h (by decide)
    · rw [if_neg c] at h; exact absurd h (by decide)
  · rintro ⟨a, b', c⟩
    rw [if_pos a, if_pos b', if_neg (by rw [c]; decide)]
theorem wdE_word {f : Nat → Int32} {l p : Nat} (h : tkN f l (sbk f l p) = 1) : wdE f l p = sqN f l (sbk f l p) := by
  obtain ⟨a, b, c⟩ := tk_word.mp h
  simp only [wdE, sqN]
  rw [if_neg (by rw [c]; decide), if_pos a, if_pos b]
theorem wdE_no {f : Nat → Int32} {l p : Nat} (h : ¬ tkN f l (sbk f l p) = 1) : wdE f l p = sbk f l p := by
  simp only [wdE]
  by_cases c : glu f (sbk f l p) = true
  · rw [if_pos c]
  · rw [if_neg c]
    refine run_0 (fun q => h (tk_word.mpr ⟨q.1, q.2, by simpa using c⟩))
theorem wIs_no {f : Nat → Int32} {b : Nat} {L : List Int32} (h : 0 < L.length) : wIs f b b L = false := by
  simp only [wIs]
  rw [decide_eq_false (by omega)]; rfl
theorem let_e {f : Nat → Int32} {l b e : Nat} (he : e = run f l isLet b) {i : Nat} (h : b + i < e) : ¬ f (b + i) = 0 := fun q => by
  have := run_in (f := f) (l := l) (p := b) (i := i) (g := isLet) (by rw [← he]; omega)
  rw [q] at this
  exact absurd this (by decide)
theorem wIs_all {f : Nat → Int32} {b : Nat} {L : List Int32} (h : ∀ j, j < L.length → f (b + j) = L.getD j 0) : wIs f b (b + L.length) L = true := by
  have e : fnd (wMis f b L) L.length = L.length := fnd_all (fun i hi => by simp only [wMis]; rw [decide_eq_true (h i hi)]; rfl)
  simp [wIs, e]
theorem wIs_at {f : Nat → Int32} {b e : Nat} {L : List Int32} (h : wIs f b e L = true) : e = b + L.length ∧ ∀ j, j < L.length → f (b + j) = L.getD j 0 := by
  simp only [wIs, Bool.and_eq_true, decide_eq_true_eq] at h
  refine ⟨h.1, fun j hj => ?_⟩
  have := fnd_min (p := wMis f b L) (n := L.length) (j := j) (by omega)
  simp only [wMis, Bool.not_eq_false', decide_eq_true_eq] at this
  exact this
set_option maxHeartbeats 1000000 in
set_option maxRecDepth 10000 in
theorem l_wordFromG {v : xw_V} {κ : xk_K} {post : Option Value → xw_G → Prop} {z : Nat × Nat × Nat} {G : xw_G} {M : md_T} {w : Nat} (hk : xk_Ok v κ yX8_wordFrom cX8_wordFrom 4 (some .int) 0 0) (hz : xk_zf κ = z) (hM0 : G 21 = pc_M v M) (hwo : okW (md_wo M)) (hw : w < 13) (kx : xj v κ post z G 26 [some (.ref (xw_ad v 21 0)), some (.int (nI w)), some (.int (nI ((wdF w)))), some (.int (nI (w - zc ((wdF w)))))] []) : ∀ (m : Nat) (i : Nat), wdF w - i < m → i ≤ wdF w → xj v κ post z G 4 [some (.ref (xw_ad v 21 0)), some (.int (nI w)), some (.int (nI i)), some (.int (nI (w - zc i)))] [] := by
  intro m
  induction m with
  | zero => intro i h; exact absurd h (Nat.not_lt_zero _)
  | succ m ih =>
    intro i hm hi
    have hf := wd_fr w hw
    refine xj_iload_n (i := 3) hk dX8_wordFrom_4 rfl rfl ?_
    refine xj_if_le (tgt := 26) hk dX8_wordFrom_5 (by decide) (fun c5 => ?_) (fun c5 => ?_)
    · have c5 : w - zc i ≤ 0 := (nI_leI (a := w - zc i) (b := 0) (by omega) (by omega)).mp c5
      have e9 : i = wdF w := by
        rcases Nat.lt_or_ge i (wdF w) with q | q
        · have := hf.1 i q; omega
        · omega
      subst e9
      exact kx
    · have c5 : ¬ w - zc i ≤ 0 := fun q => c5 ((nI_leI (a := w - zc i) (b := 0) (by omega) (by omega)).mpr q)
      have hi9 : i < wdF w := by
        rcases Nat.lt_or_ge i (wdF w) with q | q
        · exact q
        · have e9 : i = wdF w := by omega
          rw [e9, hf.2.1] at c5; omega
      refine xj_aload_n (i := 0) hk dX8_wordFrom_8 rfl rfl ?_
      refine xj_getfield hk dX8_wordFrom_9 fl_X8_58 (xw_at hM0 rfl) rfl ?_
      refine xj_iload_n (i := 2) hk dX8_wordFrom_12 rfl rfl ?_
      refine xj_baload (k := i) hk dX8_wordFrom_13 (xw_at hM0 rfl) (xi_n (by omega) (by decide)) ?_
      refine xj_if_ne (tgt := 20) hk dX8_wordFrom_14 (by decide) (fun c14 => ?_) (fun c14 => ?_)
      · refine xj_iinc (i := 2) (x2 := nI (i + 1)) (ls2 := [some (.ref (xw_ad v 21 0)), some (.int (nI w)), some (.int (nI (i + 1))), some (.int (nI (w - zc i)))]) hk dX8_wordFrom_20 rfl (nI_1 i) (by decide) rfl rfl ?_
        refine xj_goto (tgt := 4) hk dX8_wordFrom_23 (by decide) ?_
        refine xj.to (ls' := [some (.ref (xw_ad v 21 0)), some (.int (nI w)), some (.int (nI ((i + 1)))), some (.int (nI (w - zc ((i + 1)))))]) (by rw [zc_s i (by omega)]; first | (rw [if_pos (show wdL.getD i 0 = 0 from by rw [← hwo i (by omega)]; exact c14), show w - zc i - 1 = w - (zc i + 1) by omega]) | (rw [if_neg (show ¬ wdL.getD i 0 = 0 from by rw [← hwo i (by omega)]; exact c14)]; rfl)) (ih (i + 1) (by omega) (by omega))
      · refine xj_iinc (i := 3) (x2 := nI (w - zc i - 1)) (ls2 := [some (.ref (xw_ad v 21 0)), some (.int (nI w)), some (.int (nI i)), some (.int (nI (w - zc i - 1)))]) hk dX8_wordFrom_17 rfl (nI_dec (by omega)) (by decide) rfl rfl ?_
        refine xj_iinc (i := 2) (x2 := nI (i + 1)) (ls2 := [some (.ref (xw_ad v 21 0)), some (.int (nI w)), some (.int (nI (i + 1))), some (.int (nI (w - zc i - 1)))]) hk dX8_wordFrom_20 rfl (nI_1 i) (by decide) rfl rfl ?_
        refine xj_goto (tgt := 4) hk dX8_wordFrom_23 (by decide) ?_
        refine xj.to (ls' := [some (.ref (xw_ad v 21 0)), some (.int (nI w)), some (.int (nI ((i + 1)))), some (.int (nI (w - zc ((i + 1)))))]) (by rw [zc_s i (by omega)]; first | (rw [if_pos (show wdL.getD i 0 = 0 from by rw [← hwo i (by omega)]; exact c14), show w - zc i - 1 = w - (zc i + 1) by omega]) | (rw [if_neg (show ¬ wdL.getD i 0 = 0 from by rw [← hwo i (by omega)]; exact c14)]; rfl)) (ih (i + 1) (by omega) (by omega))

set_option maxHeartbeats 1000000 in
set_option maxRecDepth 10000 in
theorem c_wordFromG {v : xw_V} {G : xw_G} {M : md_T} {w : Nat} (hM0 : G 21 = pc_M v M) (hwo : okW (md_wo M)) (hw : w < 13) : xk_Con v yX8_wordFrom cX8_wordFrom 4 (some .int) 0 0 [.ref (xw_ad v 21 0), .int (nI w)] G (xk_ret (some (.int (nI (wdF w)))) G) := by
  refine xk_of (ls0 := [some (.ref (xw_ad v 21 0)), some (.int (nI w)), none, none]) (by decide) rfl (Nat.le_of_ble_eq_true rfl) ?_
  intro κ z hk hz
  refine xj_iconst (x := 0) hk dX8_wordFrom_0 (by decide) ?_
  refine xj_istore_n (i := 2) (ls2 := [some (.ref (xw_ad v 21 0)), some (.int (nI w)), some (.int 0), none]) hk dX8_wordFrom_1 rfl (by decide) rfl rfl ?_
  refine xj_iload_n (i := 1) hk dX8_wordFrom_2 rfl rfl ?_
  refine xj_istore_n (i := 3) (ls2 := [some (.ref (xw_ad v 21 0)), some (.int (nI w)), some (.int 0), some (.int (nI w))]) hk dX8_wordFrom_3 rfl (by decide) rfl rfl ?_
  refine xj.to (ls' := [some (.ref (xw_ad v 21 0)), some (.int (nI w)), some (.int (nI 0)), some (.int (nI (w - zc 0)))]) (by rw [show zc 0 = 0 from rfl, Nat.sub_zero]; rfl) ?_
  refine l_wordFromG hk hz hM0 hwo hw ?_ (wdF w + 1) 0 (by omega) (by omega)
  refine xj_iload_n (i := 2) hk dX8_wordFrom_26 rfl rfl ?_
  refine xj_ireturn hk hz dX8_wordFrom_27 ?_
  exact ⟨rfl, rfl⟩

set_option maxHeartbeats 1000000 in
set_option maxRecDepth 10000 in
theorem l_X8_takesWord {v : xw_V} {κ : xk_K} {post : Option Value → xw_G → Prop} {z : Nat × Nat × Nat} {G : xw_G} {M : md_T} {l : Nat} {w b e : Nat} {tk nu wr : Int32} (hk : xk_Ok v κ yX8_takesWord cX8_takesWord 4 (some .boolean) 2 46) (hz : xk_zf κ = z) (hM : G 21 = pM v (md_th M) (md_no M) (md_pt M) (md_re M) (md_sd M) (md_be M) (md_pb M) (md_ac M) (md_od M) (md_ad M) (md_wy M) (md_so M) (md_rl M) (md_io M) (md_po M) (md_sp M) (md_rs M) (md_st M) (md_av M) (md_ip M) (md_tx M) (md_tm M) (md_ta M) (md_td M) (md_wo M) (nI e) tk (nI b) nu wr) (htd : md_td M = nI l) (hl7 : l ≤ 700) (hwo : okW (md_wo M)) (hw : w < 13) (hbe : b ≤ e) (hel : e ≤ l) (he : e = run (md_ta M) l isLet b) (kx : ∀ i, i ≤ (wdS w).length → (∀ j, j < i → md_ta M (b + j) = (wdS w).getD j 0) → (e ≤ b + i ∨ (b + i < e ∧ ¬ md_wo M (wdF w + i) = md_ta M (b + i))) → xj v κ post z G 66 [some (.ref (xw_ad v 21 0)), some (.int (nI w)), some (.int (nI (wdF w))), some (.int (nI i))] []) : ∀ (m : Nat) (i : Nat), (wdS w).length + 1 - i < m → i ≤ (wdS w).length → (∀ j, j < i → md_ta M (b + j) = (wdS w).getD j 0) → xj v κ post z G 25 [some (.ref (xw_ad v 21 0)), some (.int (nI w)), some (.int (nI (wdF w))), some (.int (nI i))] [] := by
  intro m
  induction m with
  | zero => intro i h; exact absurd h (Nat.not_lt_zero _)
  | succ m ih =>
    intro i hm hi hj9
    have hs9 := wd_sp w hw
    have hf9 := wd_fr w hw
    refine xj_aload_n (i := 0) hk dX8_takesWord_25 rfl rfl ?_
    refine xj_getfield hk dX8_takesWord_26 fl_X8_265 (xw_at hM rfl) rfl ?_
    refine xj_iload_n (i := 3) hk dX8_takesWord_29 rfl rfl ?_
    refine xj_iadd hk dX8_takesWord_30 ?_
    refine xj.eqi (x' := nI (b + i)) (nI_add b i) ?_
    refine xj_aload_n (i := 0) hk dX8_takesWord_31 rfl rfl ?_
    refine xj_getfield hk dX8_takesWord_32 fl_X8_256 (xw_at hM rfl) rfl ?_
    refine xj_icmp_ge (tgt := 66) hk dX8_takesWord_35 (by decide) (fun c35 => ?_) (fun c35 => ?_)
    · have c35 : e ≤ b + i := (nI_leI (a := e) (b := b + i) (by omega) (by omega)).mp c35
      exact kx i hi hj9 (Or.inl (by omega))
    · have c35 : ¬ e ≤ b + i := fun q => c35 ((nI_leI (a := e) (b := b + i) (by omega) (by omega)).mpr q)
      refine xj_aload_n (i := 0) hk dX8_takesWord_38 rfl rfl ?_
      refine xj_getfield hk dX8_takesWord_39 fl_X8_58 (xw_at hM rfl) rfl ?_
      refine xj_iload_n (i := 2) hk dX8_takesWord_42 rfl rfl ?_
      refine xj_iload_n (i := 3) hk dX8_takesWord_43 rfl rfl ?_
      refine xj_iadd hk dX8_takesWord_44 ?_
      refine xj.eqi (x' := nI (wdF w + i)) (nI_add (wdF w) i) ?_
      refine xj_baload (k := wdF w + i) hk dX8_takesWord_45 (xw_at hM rfl) (xi_n (by omega) (by decide)) ?_
      refine xj_aload_n (i := 0) hk dX8_takesWord_46 rfl rfl ?_
      refine xj_getfield hk dX8_takesWord_47 fl_X8_55 (xw_at hM rfl) rfl ?_
      refine xj_aload_n (i := 0) hk dX8_takesWord_50 rfl rfl ?_
      refine xj_getfield hk dX8_takesWord_51 fl_X8_265 (xw_at hM rfl) rfl ?_
      refine xj_iload_n (i := 3) hk dX8_takesWord_54 rfl rfl ?_
      refine xj_iadd hk dX8_takesWord_55 ?_
      refine xj.eqi (x' := nI (b + i)) (nI_add b i) ?_
      refine xj_iaload (k := b + i) hk dX8_takesWord_56 (xw_at hM rfl) (xi_n (by omega) (by decide)) ?_
      refine xj_icmp_ne (tgt := 66) hk dX8_takesWord_57 (by decide) (fun c57 => ?_) (fun c57 => ?_)
      · exact kx i hi hj9 (Or.inr ⟨by omega, c57⟩)
      · refine xj_iinc (i := 3) (x2 := nI (i + 1)) (ls2 := [some (.ref (xw_ad v 21 0)), some (.int (nI w)), some (.int (nI (wdF w))), some (.int (nI (i + 1)))]) hk dX8_takesWord_60 rfl (nI_1 i) (by decide) rfl rfl ?_
        refine xj_goto (tgt := 25) hk dX8_takesWord_63 (by decide) ?_
        refine ih (i + 1) (by omega) ?_ (fun j hj => ?_)
        · rcases Nat.lt_or_ge i (wdS w).length with q | q
          · omega
          · have q : i = (wdS w).length := by omega
            exfalso
            rw [hwo (wdF w + i) (by omega), q, hs9.2.1] at c57
            exact let_e he (i := (wdS w).length) (by omega) c57.symm
        · by_cases q : j = i
          · subst q
            have hlt : j < (wdS w).length := by
              rcases Nat.lt_or_ge j (wdS w).length with q | q
              · exact q
              · exfalso
                have q : j = (wdS w).length := by omega
                rw [hwo (wdF w + j) (by omega), q, hs9.2.1] at c57
                exact let_e he (i := (wdS w).length) (by omega) c57.symm
            rw [← c57, hwo (wdF w + j) (by omega), (hs9.1 j hlt).1]
          · exact hj9 j (by omega)

theorem glu_let {f : Nat → Int32} {l b : Nat} (h : b < run f l isLet b) : glu f (run f l isLet b) = true := by
  have := run_in (f := f) (l := l) (p := b) (i := run f l isLet b - 1 - b) (g := isLet) (by omega)
  rw [show b + (run f l isLet b - 1 - b) = run f l isLet b - 1 by omega] at this
  simp only [glu]
  rw [this, decide_eq_true (by omega)]; rfl
theorem glu_dig {f : Nat → Int32} {l b : Nat} (h : b < run f l isDig b) : glu f (run f l isDig b) = true := by
  have := run_in (f := f) (l := l) (p := b) (i := run f l isDig b - 1 - b) (g := isDig) (by omega)
  rw [show b + (run f l isDig b - 1 - b) = run f l isDig b - 1 by omega] at this
  simp only [glu]
  rw [this, decide_eq_true (by omega), Bool.or_true]; rfl
theorem tk_num {f : Nat → Int32} {l b : Nat} : tkN f l b = 2 ↔ (b < l ∧ ¬ isLet (f b) = true ∧ isDig (f b) = true ∧ glu f b = false ∧ run f l isDig b ≤ b + 5) := by
  simp only [tkN]
  constructor
  · intro h
    by_cases c : b < l
    · rw [if_pos c] at h
      by_cases d : isLet (f b) = true
      · rw [if_pos d] at h
        split at h
        · exact absurd h (by decide)
        · exact absurd h (by decide)
      · rw [if_neg d] at h
        by_cases e : isDig (f b) = true
        · rw [if_pos e] at h
          by_cases g : glu f b = true ∨ 5 < run f l isDig b - b
          · rw [if_pos g] at h; exact absurd h (by decide)
          · refine ⟨c, d, e, ?_, ?_⟩
            · cases q : glu f b with
              | true => exact absurd (Or.inl q) g
              | false => rfl
            · have := run_ge f l isDig b
              rcases Nat.lt_or_ge 5 (run f l isDig b - b) with q | q
              · exact absurd (Or.inr q) g
              · omega
        · rw [if_neg e] at h
          split at h
          · exact absurd h (by decide)
          · exact absurd h (by decide)
    · rw [if_neg c] at h; exact absurd h (by decide)
  · rintro ⟨a, b', c, d, e⟩
    rw [if_pos a, if_neg b', if_pos c, if_neg (fun q => q.elim (fun h => by rw [d] at h; cases h) (fun h => by omega))]
theorem LXs_go {f : Nat → Int32} {l p : Nat} {nu : Int32} : LXs f l p (-1) (nI (sqN f l (sbk f l p))) (tkN f l (sbk f l p)) (nI (sbk f l p)) (nuN f l (sbk f l p) nu) 0 := by
  refine ⟨fun _ => ⟨rfl, rfl, rfl, rfl, fun h => ?_⟩, fun h => absurd rfl h⟩
  obtain ⟨a, b, c, -, -⟩ := tk_num.mp h
  simp only [nuN]
  rw [if_pos a, if_neg b, if_pos c]
theorem sq_le {f : Nat → Int32} {l b : Nat} (h : b ≤ l) : b ≤ sqN f l b ∧ sqN f l b ≤ l := by
  simp only [sqN]
  have h1 := run_b (f := f) (g := isLet) h
  have h2 := run_b (f := f) (g := isDig) h
  split
  · split
    · exact h1
    · split
      · exact h2
      · omega
  · omega
set_option maxHeartbeats 1000000 in
set_option maxRecDepth 10000 in
theorem c_takesW {v : xw_V} {G : xw_G} {M : md_T} {l : Nat} {sq tk bg nu : Int32} (hM : G 21 = pM v (md_th M) (md_no M) (md_pt M) (md_re M) (md_sd M) (md_be M) (md_pb M) (md_ac M) (md_od M) (md_ad M) (md_wy M) (md_so M) (md_rl M) (md_io M) (md_po M) (md_sp M) (md_rs M) (md_st M) (md_av M) (md_ip M) (md_tx M) (md_tm M) (md_ta M) (md_td M) (md_wo M) sq tk bg nu 1) (x : Int32) : xk_Con v yX8_takesWord cX8_takesWord 4 (some .boolean) 2 46 [.ref (xw_ad v 21 0), .int x] G (xk_ret (some (.int 0)) G) := by
  refine xk_of (ls0 := [some (.ref (xw_ad v 21 0)), some (.int x), none, none]) (by decide) rfl (Nat.le_of_ble_eq_true rfl) ?_
  intro κ z hk hz
  refine xj_aload_n (i := 0) hk dX8_takesWord_0 rfl rfl ?_
  refine xj_getfield hk dX8_takesWord_1 fl_X8_271 (xw_at hM rfl) rfl ?_
  refine xj_if_ne (tgt := 15) hk dX8_takesWord_4 (by decide) (fun c4 => ?_) (fun c4 => False.elim (by revert c4; decide))
  refine xj_iconst (x := 0) hk dX8_takesWord_15 (by decide) ?_
  refine xj_zreturn hk hz dX8_takesWord_16 (by decide) ?_
  exact ⟨rfl, rfl⟩

theorem wd_pos : ∀ w, w < 13 → 0 < (wdS w).length := by decide
set_option maxHeartbeats 1000000 in
set_option maxRecDepth 10000 in
theorem c_takesO {v : xw_V} {G : xw_G} {M : md_T} {l : Nat} {p w : Nat} {nu : Int32} (hM : G 21 = pM v (md_th M) (md_no M) (md_pt M) (md_re M) (md_sd M) (md_be M) (md_pb M) (md_ac M) (md_od M) (md_ad M) (md_wy M) (md_so M) (md_rl M) (md_io M) (md_po M) (md_sp M) (md_rs M) (md_st M) (md_av M) (md_ip M) (md_tx M) (md_tm M) (md_ta M) (md_td M) (md_wo M) (nI (sqN (md_ta M) l (sbk (md_ta M) l p))) (tkN (md_ta M) l (sbk (md_ta M) l p)) (nI (sbk (md_ta M) l p)) nu 0) (htd : md_td M = nI l) (hl7 : l ≤ 700) (hwo : okW (md_wo M)) (hw : w < 13) (hp : p ≤ l) (hby : okBy (md_ta M) l) : xk_Con v yX8_takesWord cX8_takesWord 4 (some .boolean) 2 46 [.ref (xw_ad v 21 0), .int (nI w)] G (fun r9 G' => (wIs (md_ta M) (sbk (md_ta M) l p) (wdE (md_ta M) l p) (wdS w) = true ∧ r9 = some (.int 1) ∧ ∃ nu0 : Int32, G' = xw_up G 21 (pM v (md_th M) (md_no M) (md_pt M) (md_re M) (md_sd M) (md_be M) (md_pb M) (md_ac M) (md_od M) (md_ad M) (md_wy M) (md_so M) (md_rl M) (md_io M) (md_po M) (md_sp M) (md_rs M) (md_st M) (md_av M) (md_ip M) (md_tx M) (md_tm M) (md_ta M) (md_td M) (md_wo M) (nI (sqN (md_ta M) l (sbk (md_ta M) l (wdE (md_ta M) l p)))) (tkN (md_ta M) l (sbk (md_ta M) l (wdE (md_ta M) l p))) (nI (sbk (md_ta M) l (wdE (md_ta M) l p))) (nuN (md_ta M) l (sbk (md_ta M) l (wdE (md_ta M) l p)) nu0) 0)) ∨ (wIs (md_ta M) (sbk (md_ta M) l p) (wdE (md_ta M) l p) (wdS w) = false ∧ r9 = some (.int 0) ∧ G' = G)) := by
  refine xk_of (ls0 := [some (.ref (xw_ad v 21 0)), some (.int (nI w)), none, none]) (by decide) rfl (Nat.le_of_ble_eq_true rfl) ?_
  intro κ z hk hz
  have hs9 := wd_sp w hw
  have hf9 := wd_fr w hw
  refine xj_aload_n (i := 0) hk dX8_takesWord_0 rfl rfl ?_
  refine xj_getfield hk dX8_takesWord_1 fl_X8_271 (xw_at hM rfl) rfl ?_
  refine xj_if_ne (tgt := 15) hk dX8_takesWord_4 (by decide) (fun c4 => False.elim (by revert c4; decide)) (fun c4 => ?_)
  refine xj_aload_n (i := 0) hk dX8_takesWord_7 rfl rfl ?_
  refine xj_getfield hk dX8_takesWord_8 fl_X8_259 (xw_at hM rfl) rfl ?_
  refine xj_iconst (x := 1) hk dX8_takesWord_11 (by decide) ?_
  refine xj_icmp_eq (tgt := 17) hk dX8_takesWord_12 (by decide) (fun c12 => ?_) (fun c12 => ?_)
  · have hbl := (sbk_le (f := md_ta M) hp).2
    have hwd := wdE_word c12
    obtain ⟨t1, t2, t3⟩ := tk_word.mp c12
    have hru : sqN (md_ta M) l (sbk (md_ta M) l p) = run (md_ta M) l isLet (sbk (md_ta M) l p) := by simp only [sqN]; rw [if_pos t1, if_pos t2]
    have hrl := run_1 t1 t2
    have hrb := (run_b (f := md_ta M) (g := isLet) hbl).2
    refine xj.eqG (G' := xw_up G 21 (pM v (md_th M) (md_no M) (md_pt M) (md_re M) (md_sd M) (md_be M) (md_pb M) (md_ac M) (md_od M) (md_ad M) (md_wy M) (md_so M) (md_rl M) (md_io M) (md_po M) (md_sp M) (md_rs M) (md_st M) (md_av M) (md_ip M) (md_tx M) (md_tm M) (md_ta M) (md_td M) (md_wo M) (nI (sqN (md_ta M) l (sbk (md_ta M) l p))) 1 (nI (sbk (md_ta M) l p)) nu 0)) (by rw [← c12]; exact (xw_up_same hM).symm) ?_
    have hM2 : G 21 = pM v (md_th M) (md_no M) (md_pt M) (md_re M) (md_sd M) (md_be M) (md_pb M) (md_ac M) (md_od M) (md_ad M) (md_wy M) (md_so M) (md_rl M) (md_io M) (md_po M) (md_sp M) (md_rs M) (md_st M) (md_av M) (md_ip M) (md_tx M) (md_tm M) (md_ta M) (md_td M) (md_wo M) (nI (sqN (md_ta M) l (sbk (md_ta M) l p))) 1 (nI (sbk (md_ta M) l p)) nu 0 := by have h9 := hM; rw [c12] at h9; exact h9
    rw [hru] at hwd hM2 ⊢
    generalize sbk (md_ta M) l p = b at *
    obtain ⟨e, he⟩ : ∃ e, e = run (md_ta M) l isLet b := ⟨_, rfl⟩
    rw [← he] at hwd hrl hrb hM2 ⊢
    refine xj_aload_n (i := 0) hk dX8_takesWord_17 rfl rfl ?_
    refine xj_iload_n (i := 1) hk dX8_takesWord_18 rfl rfl ?_
    refine xj_callV hk hz (fr1 := 0) (lo1 := 0) (r1 := some (.int (nI (wdF w)))) (As := [.int (nI w)]) (st := []) (st2 := [.int (nI (wdF w))]) (G1 := xw_up G 21 (pM v (md_th M) (md_no M) (md_pt M) (md_re M) (md_sd M) (md_be M) (md_pb M) (md_ac M) (md_od M) (md_ad M) (md_wy M) (md_so M) (md_rl M) (md_io M) (md_po M) (md_sp M) (md_rs M) (md_st M) (md_av M) (md_ip M) (md_tx M) (md_tm M) (md_ta M) (md_td M) (md_wo M) (nI e) 1 (nI b) nu 0)) ml_X8_225 (c_wordFromG (w := w) (M := (md_th M, md_no M, md_pt M, md_re M, md_sd M, md_be M, md_pb M, md_ac M, md_od M, md_ad M, md_wy M, md_so M, md_rl M, md_io M, md_po M, md_sp M, md_rs M, md_st M, md_av M, md_ip M, md_tx M, md_tm M, md_ta M, md_td M, md_wo M, nI e, 1, nI b, nu, 0)) (show (xw_up G 21 (pM v (md_th M) (md_no M) (md_pt M) (md_re M) (md_sd M) (md_be M) (md_pb M) (md_ac M) (md_od M) (md_ad M) (md_wy M) (md_so M) (md_rl M) (md_io M) (md_po M) (md_sp M) (md_rs M) (md_st M) (md_av M) (md_ip M) (md_tx M) (md_tm M) (md_ta M) (md_td M) (md_wo M) (nI e) 1 (nI b) nu 0)) 21 = pM v (md_th M) (md_no M) (md_pt M) (md_re M) (md_sd M) (md_be M) (md_pb M) (md_ac M) (md_od M) (md_ad M) (md_wy M) (md_so M) (md_rl M) (md_io M) (md_po M) (md_sp M) (md_rs M) (md_st M) (md_av M) (md_ip M) (md_tx M) (md_tm M) (md_ta M) (md_td M) (md_wo M) (nI e) 1 (nI b) nu 0 from xw_up_s) hwo (by omega)) (xw_at xw_up_s rfl) rfl dX8_takesWord_19 ⟨Nat.le_of_ble_eq_true rfl, Nat.le_of_ble_eq_true rfl⟩ rfl (Nat.le_of_ble_eq_true rfl) rfl rfl ?_
    refine xj_istore_n (i := 2) (ls2 := [some (.ref (xw_ad v 21 0)), some (.int (nI w)), some (.int (nI (wdF w))), none]) hk dX8_takesWord_22 rfl (by decide) rfl rfl ?_
    refine xj_iconst (x := 0) hk dX8_takesWord_23 (by decide) ?_
    refine xj_istore_n (i := 3) (ls2 := [some (.ref (xw_ad v 21 0)), some (.int (nI w)), some (.int (nI (wdF w))), some (.int 0)]) hk dX8_takesWord_24 rfl (by decide) rfl rfl ?_
    refine l_X8_takesWord (M := M) hk hz (show (xw_up G 21 (pM v (md_th M) (md_no M) (md_pt M) (md_re M) (md_sd M) (md_be M) (md_pb M) (md_ac M) (md_od M) (md_ad M) (md_wy M) (md_so M) (md_rl M) (md_io M) (md_po M) (md_sp M) (md_rs M) (md_st M) (md_av M) (md_ip M) (md_tx M) (md_tm M) (md_ta M) (md_td M) (md_wo M) (nI e) 1 (nI b) nu 0)) 21 = pM v (md_th M) (md_no M) (md_pt M) (md_re M) (md_sd M) (md_be M) (md_pb M) (md_ac M) (md_od M) (md_ad M) (md_wy M) (md_so M) (md_rl M) (md_io M) (md_po M) (md_sp M) (md_rs M) (md_st M) (md_av M) (md_ip M) (md_tx M) (md_tm M) (md_ta M) (md_td M) (md_wo M) (nI e) 1 (nI b) nu 0 from xw_up_s) htd hl7 hwo hw (by omega) hrb he (fun i hi hj9 hx => ?_) ((wdS w).length + 2) 0 (by omega) (by omega) (fun j hj => by omega)
    refine xj_aload_n (i := 0) hk dX8_takesWord_66 rfl rfl ?_
    refine xj_getfield hk dX8_takesWord_67 fl_X8_265 (xw_at xw_up_s rfl) rfl ?_
    refine xj_iload_n (i := 3) hk dX8_takesWord_70 rfl rfl ?_
    refine xj_iadd hk dX8_takesWord_71 ?_
    refine xj.eqi (x' := nI (b + i)) (nI_add b i) ?_
    refine xj_aload_n (i := 0) hk dX8_takesWord_72 rfl rfl ?_
    refine xj_getfield hk dX8_takesWord_73 fl_X8_256 (xw_at xw_up_s rfl) rfl ?_
    refine xj_icmp_ne (tgt := 90) hk dX8_takesWord_76 (by decide) (fun c76 => ?_) (fun c76 => ?_)
    · have c76 : ¬ b + i = e := fun q => c76 ((nI_eq (a := b + i) (b := e) (by omega) (by omega)).mpr q)
      refine xj_iconst (x := 0) hk dX8_takesWord_90 (by decide) ?_
      refine xj_zreturn hk hz dX8_takesWord_91 (by decide) ?_
      refine Or.inr ⟨?_, rfl, ?_⟩
      · rw [hwd, Bool.eq_false_iff]
        intro q9
        obtain ⟨q1, q2⟩ := wIs_at q9
        rcases Nat.lt_or_ge i (wdS w).length with q | q
        · rcases hx with hx | ⟨hx, hx2⟩
          · omega
          · exact hx2 (by rw [hwo (wdF w + i) (by omega), (hs9.1 i q).1, q2 i q])
        · omega
      · exact xw_up_same hM2
    · have c76 : b + i = e := (nI_eq (a := b + i) (b := e) (by omega) (by omega)).mp c76
      refine xj_aload_n (i := 0) hk dX8_takesWord_79 rfl rfl ?_
      refine xj_getfield hk dX8_takesWord_80 fl_X8_58 (xw_at xw_up_s rfl) rfl ?_
      refine xj_iload_n (i := 2) hk dX8_takesWord_83 rfl rfl ?_
      refine xj_iload_n (i := 3) hk dX8_takesWord_84 rfl rfl ?_
      refine xj_iadd hk dX8_takesWord_85 ?_
      refine xj.eqi (x' := nI (wdF w + i)) (nI_add (wdF w) i) ?_
      refine xj_baload (k := wdF w + i) hk dX8_takesWord_86 (xw_at xw_up_s rfl) (xi_n (by omega) (by decide)) ?_
      refine xj_if_eq (tgt := 92) hk dX8_takesWord_87 (by decide) (fun c87 => ?_) (fun c87 => ?_)
      · refine xj_aload_n (i := 0) hk dX8_takesWord_92 rfl rfl ?_
        refine xj_callV hk hz (fr1 := 1) (lo1 := 22) (r1 := none) (As := []) (st := []) (st2 := []) (G1 := xw_up G 21 (pM v (md_th M) (md_no M) (md_pt M) (md_re M) (md_sd M) (md_be M) (md_pb M) (md_ac M) (md_od M) (md_ad M) (md_wy M) (md_so M) (md_rl M) (md_io M) (md_po M) (md_sp M) (md_rs M) (md_st M) (md_av M) (md_ip M) (md_tx M) (md_tm M) (md_ta M) (md_td M) (md_wo M) (nI (sqN (md_ta M) l (sbk (md_ta M) l e))) (tkN (md_ta M) l (sbk (md_ta M) l e)) (nI (sbk (md_ta M) l e)) (nuN (md_ta M) l (sbk (md_ta M) l e) nu) 0)) ml_X8_274 (xk_cg (by rw [xw_up_u] <;> rfl) (c_X8_goesOn (p := e) (tk := 1) (bg := nI b) (nu := nu) (wr := 0) (M := M) (show (xw_up G 21 (pM v (md_th M) (md_no M) (md_pt M) (md_re M) (md_sd M) (md_be M) (md_pb M) (md_ac M) (md_od M) (md_ad M) (md_wy M) (md_so M) (md_rl M) (md_io M) (md_po M) (md_sp M) (md_rs M) (md_st M) (md_av M) (md_ip M) (md_tx M) (md_tm M) (md_ta M) (md_td M) (md_wo M) (nI e) 1 (nI b) nu 0)) 21 = pM v (md_th M) (md_no M) (md_pt M) (md_re M) (md_sd M) (md_be M) (md_pb M) (md_ac M) (md_od M) (md_ad M) (md_wy M) (md_so M) (md_rl M) (md_io M) (md_po M) (md_sp M) (md_rs M) (md_st M) (md_av M) (md_ip M) (md_tx M) (md_tm M) (md_ta M) (md_td M) (md_wo M) (nI e) 1 (nI b) nu 0 from xw_up_s) htd hl7 hrb hby (by rw [he]; exact (glu_let (by omega)).symm))) (xw_at xw_up_s rfl) rfl dX8_takesWord_93 ⟨Nat.le_of_ble_eq_true rfl, Nat.le_of_ble_eq_true rfl⟩ rfl (Nat.le_of_ble_eq_true rfl) rfl rfl ?_
        refine xj_iconst (x := 1) hk dX8_takesWord_96 (by decide) ?_
        refine xj_zreturn hk hz dX8_takesWord_97 (by decide) ?_
        have hlen : i = (wdS w).length := by
          rcases Nat.lt_or_ge i (wdS w).length with q | q
          · exfalso; rw [hwo (wdF w + i) (by omega), (hs9.1 i q).1] at c87; exact (hs9.1 i q).2 c87
          · omega
        refine Or.inl ⟨?_, rfl, nu, ?_⟩
        · rw [hwd, show e = b + (wdS w).length by omega]; exact wIs_all (by rw [← hlen]; exact hj9)
        · rw [hwd]
      · refine xj_iconst (x := 0) hk dX8_takesWord_90 (by decide) ?_
        refine xj_zreturn hk hz dX8_takesWord_91 (by decide) ?_
        refine Or.inr ⟨?_, rfl, ?_⟩
        · rw [hwd, Bool.eq_false_iff]
          intro q9
          obtain ⟨q1, q2⟩ := wIs_at q9
          have hlen : ¬ i = (wdS w).length := fun q => c87 (by rw [hwo (wdF w + i) (by omega), q]; exact hs9.2.1)
          omega
        · exact xw_up_same hM2
  · refine xj_iconst (x := 0) hk dX8_takesWord_15 (by decide) ?_
    refine xj_zreturn hk hz dX8_takesWord_16 (by decide) ?_
    refine Or.inr ⟨?_, rfl, rfl⟩
    rw [wdE_no c12]
    exact wIs_no (wd_pos w hw)


theorem sbk_le {f : Nat → Int32} {l p : Nat} (h : p ≤ l) : p ≤ sbk f l p ∧ sbk f l p ≤ l := ⟨run_ge _ _ _ _, run_le h⟩
theorem run_b {f : Nat → Int32} {l p : Nat} {g : Int32 → Bool} (h : p ≤ l) : p ≤ run f l g p ∧ run f l g p ≤ l := ⟨run_ge _ _ _ _, run_le h⟩
theorem tAt_m1 {f : Nat → Int32} {l b : Nat} (hb : b ≤ l) (hl : l ≤ 700) : tAt f l (nI b - 1) = if b = 0 then -1 else f (b - 1) := by
  by_cases c : b = 0
  · subst c; rw [if_pos rfl]; simp only [tAt]; rw [if_pos (by decide)]
  · rw [if_neg c, nI_m1 (by omega), tAt_nI (by omega) (by omega), if_pos (by omega)]
theorem glu_eq {f : Nat → Int32} {l b : Nat} (hb : b ≤ l) (hl : l ≤ 700) : (isLet (tAt f l (nI b - 1)) || isDig (tAt f l (nI b - 1))) = glu f b := by
  rw [tAt_m1 hb hl]
  simp only [glu]
  by_cases c : b = 0
  · subst c; rw [if_pos rfl]; rfl
  · rw [if_neg c, decide_eq_true (show 0 < b by omega), Bool.true_and]
def ffa (fa x : Int32) : Int32 := if fa = -1 then x else fa
set_option maxHeartbeats 1000000 in
set_option maxRecDepth 10000 in
theorem c_X3_isGlued {v : xw_V} {G : xw_G} {t : tp_T} {l : Nat} {b : Nat} {pl ws fa : Int32} (g18 : G 18 = pc_T v t) (htl : tp_le t = nI l) (hl7 : l ≤ 700) (g19 : G 19 = pR v pl ws fa) (hb : b ≤ l) : xk_Con v yX3_isGlued cX3_isGlued 3 (some .boolean) 1 21 [.ref (xw_ad v 19 0), .int (nI b)] G (xk_ret (some (.int (xb (glu (tp_by t) b)))) G) := by
  refine xk_of (ls0 := [some (.ref (xw_ad v 19 0)), some (.int (nI b)), none]) (by decide) rfl (Nat.le_of_ble_eq_true rfl) ?_
  intro κ z hk hz
  refine xj_aload_n (i := 0) hk dX3_isGlued_0 rfl rfl ?_
  refine xj_getfield hk dX3_isGlued_1 fl_X3_9 (xw_at g19 rfl) rfl ?_
  refine xj_iload_n (i := 1) hk dX3_isGlued_4 rfl rfl ?_
  refine xj_iconst (x := 1) hk dX3_isGlued_5 (by decide) ?_
  refine xj_isub hk dX3_isGlued_6 ?_
  refine xj.eqi (x' := nI b - 1) rfl ?_
  refine xj_callV hk hz (fr1 := 0) (lo1 := 0) (r1 := some (.int (tAt (tp_by t) l (nI b - 1)))) (As := [.int (nI b - 1)]) (st := []) (st2 := [.int (tAt (tp_by t) l (nI b - 1))]) (G1 := G) ml_X3_129 (c_X6_at (show G 18 = pc_T v t from g18) htl hl7 (nI b - 1)) (xw_at g18 rfl) rfl dX3_isGlued_7 ⟨Nat.le_of_ble_eq_true rfl, Nat.le_of_ble_eq_true rfl⟩ rfl (Nat.le_of_ble_eq_true rfl) rfl rfl ?_
  refine xj_istore_n (i := 2) (ls2 := [some (.ref (xw_ad v 19 0)), some (.int (nI b)), some (.int (tAt (tp_by t) l (nI b - 1)))]) hk dX3_isGlued_10 rfl (by decide) rfl rfl ?_
  refine xj_iload_n (i := 2) hk dX3_isGlued_11 rfl rfl ?_
  refine xj_callS hk hz (fr1 := 0) (lo1 := 0) (r1 := some (.int (xb (isLet (tAt (tp_by t) l (nI b - 1)))))) (As := [.int (tAt (tp_by t) l (nI b - 1))]) (st := []) (st2 := [.int (xb (isLet (tAt (tp_by t) l (nI b - 1))))]) (G1 := G) ml_X3_140 (c_X7_isLetter (tAt (tp_by t) l (nI b - 1))) dX3_isGlued_12 ⟨Nat.le_of_ble_eq_true rfl, Nat.le_of_ble_eq_true rfl⟩ rfl (Nat.le_of_ble_eq_true rfl) rfl rfl ?_
  refine xj_ifb_ne (tgt := 25) hk dX3_isGlued_15 (by decide) (fun c15 => ?_) (fun c15 => ?_)
  · refine xj_iconst (x := 1) hk dX3_isGlued_25 (by decide) ?_
    refine xj_goto (tgt := 30) hk dX3_isGlued_26 (by decide) ?_
    refine xj_zreturn hk hz dX3_isGlued_30 (by decide) ?_
    refine ⟨?_, rfl⟩
    rw [← glu_eq hb hl7]
    first | (rw [c15]; rfl) | (rw [c15, c22]; rfl)
  · refine xj_iload_n (i := 2) hk dX3_isGlued_18 rfl rfl ?_
    refine xj_callS hk hz (fr1 := 0) (lo1 := 0) (r1 := some (.int (xb (isDig (tAt (tp_by t) l (nI b - 1)))))) (As := [.int (tAt (tp_by t) l (nI b - 1))]) (st := []) (st2 := [.int (xb (isDig (tAt (tp_by t) l (nI b - 1))))]) (G1 := G) ml_X3_133 (c_X7_isDigit (tAt (tp_by t) l (nI b - 1))) dX3_isGlued_19 ⟨Nat.le_of_ble_eq_true rfl, Nat.le_of_ble_eq_true rfl⟩ rfl (Nat.le_of_ble_eq_true rfl) rfl rfl ?_
    refine xj_ifb_eq (tgt := 29) hk dX3_isGlued_22 (by decide) (fun c22 => ?_) (fun c22 => ?_)
    · refine xj_iconst (x := 0) hk dX3_isGlued_29 (by decide) ?_
      refine xj_zreturn hk hz dX3_isGlued_30 (by decide) ?_
      refine ⟨?_, rfl⟩
      rw [← glu_eq hb hl7]
      first | (rw [c15]; rfl) | (rw [c15, c22]; rfl)
    · refine xj_iconst (x := 1) hk dX3_isGlued_25 (by decide) ?_
      refine xj_goto (tgt := 30) hk dX3_isGlued_26 (by decide) ?_
      refine xj_zreturn hk hz dX3_isGlued_30 (by decide) ?_
      refine ⟨?_, rfl⟩
      rw [← glu_eq hb hl7]
      first | (rw [c15]; rfl) | (rw [c15, c22]; rfl)

set_option maxHeartbeats 1000000 in
set_option maxRecDepth 10000 in
theorem c_X3_fail {v : xw_V} {G : xw_G} {t : tp_T} {l : Nat} {pl ws fa : Int32} (g18 : G 18 = pc_T v t) (htl : tp_le t = nI l) (hl7 : l ≤ 700) (g19 : G 19 = pR v pl ws fa) (x : Int32) : xk_Con v yX3_fail cX3_fail 2 none 0 0 [.ref (xw_ad v 19 0), .int x] G (xk_ret none (xw_up G 19 (pR v pl ws (ffa fa x)))) := by
  refine xk_of (ls0 := [some (.ref (xw_ad v 19 0)), some (.int x)]) (by decide) rfl (Nat.le_of_ble_eq_true rfl) ?_
  intro κ z hk hz
  refine xj_aload_n (i := 0) hk dX3_fail_0 rfl rfl ?_
  refine xj_getfield hk dX3_fail_1 fl_X3_28 (xw_at g19 rfl) rfl ?_
  refine xj_iconst (x := (-1)) hk dX3_fail_4 (by decide) ?_
  refine xj_icmp_ne (tgt := 13) hk dX3_fail_5 (by decide) (fun c5 => ?_) (fun c5 => ?_)
  · refine xj_return hk hz dX3_fail_13 ?_
    refine ⟨rfl, ?_⟩
    simp only [ffa]
    rw [if_neg c5]
    exact (xw_up_same g19).symm
  · refine xj_aload_n (i := 0) hk dX3_fail_8 rfl rfl ?_
    refine xj_iload_n (i := 1) hk dX3_fail_9 rfl rfl ?_
    refine xj_putfield (G2 := xw_up G 19 (pR v pl ws x)) hk dX3_fail_10 fl_X3_28 rfl rfl (xw_at g19 rfl) (Nat.le_of_ble_eq_true rfl) (xw_wr g19 rfl) ?_
    refine xj_return hk hz dX3_fail_13 ?_
    refine ⟨rfl, ?_⟩
    simp only [ffa]
    rw [if_pos c5]

def wdE (f : Nat → Int32) (l p : Nat) : Nat := if glu f (sbk f l p) = true then sbk f l p else run f l isLet (sbk f l p)
theorem wdE_le {f : Nat → Int32} {l p : Nat} (h : p ≤ l) : sbk f l p ≤ wdE f l p ∧ wdE f l p ≤ l := by
  have := sbk_le (f := f) h
  simp only [wdE]
  split
  · omega
  · have := run_b (f := f) (g := isLet) this.2; omega
set_option maxHeartbeats 1000000 in
set_option maxRecDepth 10000 in
theorem l_X3_takeWord_24 {v : xw_V} {κ : xk_K} {post : Option Value → xw_G → Prop} {z : Nat × Nat × Nat} {G : xw_G} {t : tp_T} {l : Nat} {b : Nat} {fa : Int32} (hk : xk_Ok v κ yX3_takeWord cX3_takeWord 1 none 2 43) (hz : xk_zf κ = z) (g18 : G 18 = pc_T v t) (htl : tp_le t = nI l) (hl7 : l ≤ 700) (g19 : G 19 = pR v (nI b) ((nI b)) fa) (hb : b ≤ l) (kx : ∀ i, i ≤ l - b → run (tp_by t) l isLet b = b + i → xj v κ post z (xw_up G 19 (pR v (nI (b + i)) ((nI b)) fa)) 68 [some (.ref (xw_ad v 19 0))] []) : ∀ (m : Nat) (i : Nat), l - b - i < m → i ≤ l - b → fnd (fun i => !(isLet (tp_by t (b + i)))) i = i → xj v κ post z (xw_up G 19 (pR v (nI (b + i)) ((nI b)) fa)) 24 [some (.ref (xw_ad v 19 0))] [] := by
  intro m
  induction m with
  | zero => intro i h; exact absurd h (Nat.not_lt_zero _)
  | succ m ih =>
    intro i hm hi hf
    refine xj_aload_n (i := 0) hk dX3_takeWord_24 rfl rfl ?_
    refine xj_getfield hk dX3_takeWord_25 fl_X3_24 (xw_at xw_up_s rfl) rfl ?_
    refine xj_aload_n (i := 0) hk dX3_takeWord_28 rfl rfl ?_
    refine xj_getfield hk dX3_takeWord_29 fl_X3_9 (xw_at xw_up_s rfl) rfl ?_
    refine xj_getfield hk dX3_takeWord_32 fl_X3_34 (xw_at (show (xw_up G 19 (pR v (nI (b + i)) ((nI b)) fa)) 18 = pc_T v t from by rw [xw_up_n (by decide), g18]) rfl) rfl ?_
    refine xj.eqi (x' := nI l) htl ?_
    refine xj_icmp_ge (tgt := 68) hk dX3_takeWord_35 (by decide) (fun c35 => ?_) (fun c35 => ?_)
    · have c35 : l ≤ b + i := (nI_leI (a := l) (b := b + i) (by omega) (by omega)).mp c35
      have e9 : run (tp_by t) l isLet b = b + i := by simp only [run]; rw [show l - b = i by omega, hf]
      exact kx i (by omega) e9
    · have c35 : ¬ l ≤ b + i := fun q => c35 ((nI_leI (a := l) (b := b + i) (by omega) (by omega)).mpr q)
      refine xj_aload_n (i := 0) hk dX3_takeWord_38 rfl rfl ?_
      refine xj_getfield hk dX3_takeWord_39 fl_X3_9 (xw_at xw_up_s rfl) rfl ?_
      refine xj_aload_n (i := 0) hk dX3_takeWord_42 rfl rfl ?_
      refine xj_getfield hk dX3_takeWord_43 fl_X3_24 (xw_at xw_up_s rfl) rfl ?_
      refine xj_callV hk hz (fr1 := 0) (lo1 := 0) (r1 := some (.int (tAt (tp_by t) l (nI (b + i))))) (As := [.int (nI (b + i))]) (st := []) (st2 := [.int (tAt (tp_by t) l (nI (b + i)))]) (G1 := xw_up G 19 (pR v (nI (b + i)) ((nI b)) fa)) ml_X3_129 (c_X6_at (show (xw_up G 19 (pR v (nI (b + i)) ((nI b)) fa)) 18 = pc_T v t from (show (xw_up G 19 (pR v (nI (b + i)) ((nI b)) fa)) 18 = pc_T v t from by rw [xw_up_n (by decide), g18])) htl hl7 (nI (b + i))) (xw_at (show (xw_up G 19 (pR v (nI (b + i)) ((nI b)) fa)) 18 = pc_T v t from by rw [xw_up_n (by decide), g18]) rfl) rfl dX3_takeWord_46 ⟨Nat.le_of_ble_eq_true rfl, Nat.le_of_ble_eq_true rfl⟩ rfl (Nat.le_of_ble_eq_true rfl) rfl rfl ?_
      refine xj_callS hk hz (fr1 := 0) (lo1 := 0) (r1 := some (.int (xb (isLet (tAt (tp_by t) l (nI (b + i))))))) (As := [.int (tAt (tp_by t) l (nI (b + i)))]) (st := []) (st2 := [.int (xb (isLet (tAt (tp_by t) l (nI (b + i)))))]) (G1 := xw_up G 19 (pR v (nI (b + i)) ((nI b)) fa)) ml_X3_140 (c_X7_isLetter (tAt (tp_by t) l (nI (b + i)))) dX3_takeWord_49 ⟨Nat.le_of_ble_eq_true rfl, Nat.le_of_ble_eq_true rfl⟩ rfl (Nat.le_of_ble_eq_true rfl) rfl rfl ?_
      refine xj_ifb_eq (tgt := 68) hk dX3_takeWord_52 (by decide) (fun c52 => ?_) (fun c52 => ?_)
      · have c52' : isLet (tp_by t (b + i)) = false := by rw [tAt_nI (by omega) (by omega), if_pos (by omega)] at c52; exact c52
        have e9 : run (tp_by t) l isLet b = b + i := by simp only [run]; rw [fnd_at hf (show (!(isLet (tp_by t (b + i)))) = true from by rw [c52']; rfl) (l - b) (by omega)]
        have e8 : i = run (tp_by t) l isLet b - b := by omega
        exact kx i (by omega) e9
      · have c52' : isLet (tp_by t (b + i)) = true := by rw [tAt_nI (by omega) (by omega), if_pos (by omega)] at c52; exact c52
        refine xj_aload_n (i := 0) hk dX3_takeWord_55 rfl rfl ?_
        refine xj_dup hk dX3_takeWord_56 rfl ?_
        refine xj_getfield hk dX3_takeWord_57 fl_X3_24 (xw_at xw_up_s rfl) rfl ?_
        refine xj_iconst (x := 1) hk dX3_takeWord_60 (by decide) ?_
        refine xj_iadd hk dX3_takeWord_61 ?_
        refine xj.eqi (x' := nI (b + (i + 1))) (nI_1 (b + i)) ?_
        refine xj_putfield (G2 := xw_up G 19 (pR v (nI (b + (i + 1))) ((nI b)) fa)) hk dX3_takeWord_62 fl_X3_24 rfl rfl (xw_at xw_up_s rfl) (Nat.le_of_ble_eq_true rfl) (xw_wr2 rfl) ?_
        refine xj_goto (tgt := 24) hk dX3_takeWord_65 (by decide) ?_
        refine xj.eqG (G' := xw_up G 19 (pR v (nI (b + (i + 1))) ((nI b)) fa)) (by rfl) ?_
        exact (ih (i + 1) (by omega) (by omega) (fnd_no hf (show (!(isLet (tp_by t (b + i)))) = false from by rw [c52']; rfl)))

set_option maxHeartbeats 1000000 in
set_option maxRecDepth 10000 in
theorem c_X3_takeWord {v : xw_V} {G : xw_G} {t : tp_T} {l : Nat} {p : Nat} {ws fa : Int32} (g18 : G 18 = pc_T v t) (htl : tp_le t = nI l) (hl7 : l ≤ 700) (g19 : G 19 = pR v (nI p) ws fa) (hp : p ≤ l) : xk_Con v yX3_takeWord cX3_takeWord 1 none 2 43 [.ref (xw_ad v 19 0)] G (xk_ret none (xw_up G 19 (pR v (nI (wdE (tp_by t) l p)) (nI (sbk (tp_by t) l p)) fa))) := by
  refine xk_of (ls0 := [some (.ref (xw_ad v 19 0))]) (by decide) rfl (Nat.le_of_ble_eq_true rfl) ?_
  intro κ z hk hz
  refine xj_aload_n (i := 0) hk dX3_takeWord_0 rfl rfl ?_
  refine xj_callV hk hz (fr1 := 1) (lo1 := 21) (r1 := none) (As := []) (st := []) (st2 := []) (G1 := xw_up G 19 (pR v (nI (sbk (tp_by t) l p)) ws fa)) ml_X3_31 (c_X3_skipBlanks (p := p) (ws := ws) (fa := fa) (show G 18 = pc_T v t from g18) htl hl7 (show G 19 = pR v (nI p) ws fa from g19) (by omega)) (xw_at g19 rfl) rfl dX3_takeWord_1 ⟨Nat.le_of_ble_eq_true rfl, Nat.le_of_ble_eq_true rfl⟩ rfl (Nat.le_of_ble_eq_true rfl) rfl rfl ?_
  obtain ⟨b, e_b⟩ : ∃ q9, q9 = sbk (tp_by t) l p := ⟨_, rfl⟩
  have h_b : p ≤ b ∧ b ≤ l := by rw [e_b]; exact sbk_le hp
  refine xj.eqG (G' := xw_up G 19 (pR v (nI b) ws fa)) (by rw [e_b]) ?_
  refine xj_aload_n (i := 0) hk dX3_takeWord_4 rfl rfl ?_
  refine xj_aload_n (i := 0) hk dX3_takeWord_5 rfl rfl ?_
  refine xj_getfield hk dX3_takeWord_6 fl_X3_24 (xw_at xw_up_s rfl) rfl ?_
  refine xj_putfield (G2 := xw_up G 19 (pR v (nI b) (nI b) fa)) hk dX3_takeWord_9 fl_X3_101 rfl rfl (xw_at xw_up_s rfl) (Nat.le_of_ble_eq_true rfl) (xw_wr2 rfl) ?_
  refine xj_aload_n (i := 0) hk dX3_takeWord_12 rfl rfl ?_
  refine xj_aload_n (i := 0) hk dX3_takeWord_13 rfl rfl ?_
  refine xj_getfield hk dX3_takeWord_14 fl_X3_24 (xw_at xw_up_s rfl) rfl ?_
  refine xj_callV hk hz (fr1 := 1) (lo1 := 21) (r1 := some (.int (xb (glu (tp_by t) b)))) (As := [.int (nI b)]) (st := []) (st2 := [.int (xb (glu (tp_by t) b))]) (G1 := xw_up G 19 (pR v (nI b) (nI b) fa)) ml_X3_137 (c_X3_isGlued (b := b) (pl := nI b) (ws := nI b) (fa := fa) (show (xw_up G 19 (pR v (nI b) (nI b) fa)) 18 = pc_T v t from (show (xw_up G 19 (pR v (nI b) (nI b) fa)) 18 = pc_T v t from by rw [xw_up_n (by decide), g18])) htl hl7 (show (xw_up G 19 (pR v (nI b) (nI b) fa)) 19 = pR v (nI b) (nI b) fa from xw_up_s) (by omega)) (xw_at xw_up_s rfl) rfl dX3_takeWord_17 ⟨Nat.le_of_ble_eq_true rfl, Nat.le_of_ble_eq_true rfl⟩ rfl (Nat.le_of_ble_eq_true rfl) rfl rfl ?_
  refine xj_ifb_eq (tgt := 24) hk dX3_takeWord_20 (by decide) (fun c20 => ?_) (fun c20 => ?_)
  · refine xj.eqG (G' := xw_up (xw_up G 19 (pR v (nI b) (nI b) fa)) 19 (pR v (nI (b + 0)) (nI b) fa)) (by rw [Nat.add_zero]; exact (xw_up_same xw_up_s).symm) ?_
    refine l_X3_takeWord_24 hk hz (show (xw_up G 19 (pR v (nI b) (nI b) fa)) 18 = pc_T v t from (show (xw_up G 19 (pR v (nI b) (nI b) fa)) 18 = pc_T v t from by rw [xw_up_n (by decide), g18])) htl hl7 (show (xw_up G 19 (pR v (nI b) (nI b) fa)) 19 = pR v (nI b) (nI b) fa from xw_up_s) h_b.2 (fun i hi9 er9 => ?_) (l - b + 1) 0 (by omega) (by omega) rfl
    refine xj.eqG (G' := xw_up G 19 (pR v (nI (b + i)) (nI b) fa)) (by rw [xw_up_u]) ?_
    refine xj_return hk hz dX3_takeWord_68 ?_
    refine ⟨rfl, ?_⟩
    rw [show wdE (tp_by t) l p = b + i from by simp only [wdE]; rw [← e_b, if_neg (by rw [c20]; decide), er9], ← e_b]
  · refine xj_return hk hz dX3_takeWord_23 ?_
    refine ⟨rfl, ?_⟩
    rw [show wdE (tp_by t) l p = b from by simp only [wdE]; rw [← e_b, if_pos c20], ← e_b]


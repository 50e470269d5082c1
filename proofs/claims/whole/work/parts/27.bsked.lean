theorem RecS_od' {B : bk_T} {n : Nat} {S S' : sl_T} (hn : n ≤ 30) (h : RecS B n S S') : pls n (sl_od S') (fun j => xn (sl_od S' j)) ∧ inj n (fun j => xn (sl_od S' j)) := by
  obtain ⟨p, h1, h2⟩ := RecS_od h
  have e : ∀ j, j < n → xn (sl_od S' j) = p j := fun j hj => by have := h2.1 j hj; rw [h1 j hj, xn_nI (by omega)]
  refine ⟨fun j hj => ?_, fun j hj => ?_, fun i j hij hj => ?_⟩
  · show sl_od S' j = nI (xn (sl_od S' j)); rw [e j hj]; exact h1 j hj
  · show xn (sl_od S' j) < n; rw [e j hj]; exact h2.1 j hj
  · show xn (sl_od S' i) ≠ xn (sl_od S' j); rw [e i (by omega), e j hj]; exact h2.2 i j hij hj
theorem rsK_congr {ra ad ad' : Nat → Int32} {p p' : Nat → Nat} : ∀ {n : Nat}, (∀ j, j < n → p j = p' j ∧ ad (p j) = ad' (p' j)) → rsK ra ad p n = rsK ra ad' p' n
  | 0, _ => rfl
  | n + 1, h => by
    obtain ⟨a, b⟩ := h n (Nat.lt_succ_self n)
    simp only [rsK, rsK_congr (fun j hj => h j (Nat.lt_succ_of_lt hj)), b]
    rw [a]
theorem fnd_congr {p q : Nat → Bool} : ∀ {n : Nat}, (∀ j, j < n → p j = q j) → fnd p n = fnd q n
  | 0, _ => rfl
  | n + 1, h => by simp only [fnd, fnd_congr (fun j hj => h j (Nat.lt_succ_of_lt hj)), h n (Nat.lt_succ_self n)]
theorem rsV_congr {ra ad ad' : Nat → Int32} {p p' : Nat → Nat} {x : Int32} {n : Nat} (h : ∀ j, j < n → p j = p' j ∧ ad (p j) = ad' (p' j)) : rsV ra ad p x n = rsV ra ad' p' x n := by
  have e : fnd (rsP ra ad p x) n = fnd (rsP ra ad' p' x) n := fnd_congr (fun j hj => by
    obtain ⟨a, b⟩ := h j hj
    simp only [rsP, rsK_congr (n := j) (fun i hi => h i (by omega)), b]
    rw [a])
  simp only [rsV, e]
  split
  · rename_i q; rw [(h _ q).1]
  · rfl
def stepR (B : bk_T) (S : sl_T) (n : Nat) (k : Int32) : Int32 := rsV (bk_ra B) (sl_ad S) (fun j => xn (sl_od S j)) k n
def q_step (B : bk_T) (S : sl_T) (n : Nat) (k w : Int32) : Int32 := if stepR B S n k = -1 then -1 else if w = 0 then stepR B S n k else if w = 1 then sm (sel (bk_ra B) (stepR B S n k) (sl_ad S)) n else if w = 2 then sm (fun j => if bk_ra B j = -1 then 0 else if stepR B S n k < bk_ra B j then 0 else sl_ad S j) n else if w = 3 then sm (sel (bk_ra B) (stepR B S n k) (sl_so S)) n else if w = 4 then sm (fun j => if bk_ra B j = stepR B S n k then (if sl_ad S j ≤ 0 then 0 else 1) else 0) n else -1
theorem step_ag {B : bk_T} {n : Nat} {S R : sl_T} (k w : Int32) (hp : inj n (fun j => xn (sl_od S j))) (h : agS n S R) : q_step B S n k w = q_step B R n k w := by
  have e : stepR B S n k = stepR B R n k := rsV_congr (fun j hj => ⟨by rw [(h.1 j hj).1], by rw [← (h.1 j hj).1]; exact (h.1 _ (hp.1 j hj)).2.1⟩)
  simp only [q_step]
  rw [e, selad_ag h, selso2_ag h, upTo_ag h, bAt_ag h]
set_option maxHeartbeats 1000000 in
set_option maxRecDepth 10000 in
theorem l_X7_dearest {v : xw_V} {κ : xk_K} {post : Option Value → xw_G → Prop} {z : Nat × Nat × Nat} {G : xw_G} {B : bk_T} {S : sl_T} {n : Nat} (hk : xk_Ok v κ yX7_dearest cX7_dearest 8 (some .int) 6 137) (hz : xk_zf κ = z) (g0 : G 0 = pc_X v) (g1 : G 1 = pc_B v 1 B) (g2 : G 2 = pc_S v 2 1 S) (hio : sl_io S = nI n) (hn : bk_bi B = nI n) (hn30 : n ≤ 30) (hhs : okHs (bk_hs B) n) (kx : xj v κ post z G 54 [some (.ref (xw_ad v 0 0)), some (.ref (xw_ad v 2 0)), some (.int ((q_dear (payF B S) n).1)), some (.long ((q_dear (payF B S) n).2)), none, some (.int (nI n)), none, none] []) : ∀ (m : Nat) (k : Nat), n - k < m → k ≤ n → xj v κ post z G 15 [some (.ref (xw_ad v 0 0)), some (.ref (xw_ad v 2 0)), some (.int ((q_dear (payF B S) k).1)), some (.long ((q_dear (payF B S) k).2)), none, some (.int (nI k)), none, none] [] := by
  intro m
  induction m with
  | zero => intro k h; exact absurd h (Nat.not_lt_zero _)
  | succ m ih =>
    intro k hm hi
    refine xj_iload hk dX7_dearest_15 rfl ?_
    refine xj_aload_n (i := 0) hk dX7_dearest_17 rfl rfl ?_
    refine xj_getfield hk dX7_dearest_18 fl_X7_10 (xw_at g0 rfl) rfl ?_
    refine xj_getfield hk dX7_dearest_21 fl_X7_83 (xw_at g1 rfl) rfl ?_
    refine xj.eqi (x' := nI n) hn ?_
    refine xj_icmp_ge (tgt := 54) hk dX7_dearest_24 (by decide) (fun c24 => ?_) (fun c24 => ?_)
    · have c24 : n ≤ k := (nI_leI (a := n) (b := k) (by omega) (by omega)).mp c24
      have e9 : k = n := by omega
      subst e9
      exact kx
    · have c24 : ¬ n ≤ k := fun q => c24 ((nI_leI (a := n) (b := k) (by omega) (by omega)).mpr q)
      refine xj_aload_n (i := 1) hk dX7_dearest_27 rfl rfl ?_
      refine xj_iload hk dX7_dearest_28 rfl ?_
      refine xj_callV hk hz (fr1 := 1) (lo1 := 21) (r1 := some (.long (payF B S k))) (As := [.int (nI k)]) (st := []) (st2 := [.long (payF B S k)]) (G1 := G) ml_X7_193 (c_X4_paysFor (j := k) (show G 2 = pc_S v 2 1 S from g2) (show G 1 = pc_B v 1 B from g1) (by decide) (by omega)) (xw_at g2 rfl) rfl dX7_dearest_30 ⟨Nat.le_of_ble_eq_true rfl, Nat.le_of_ble_eq_true rfl⟩ rfl (Nat.le_of_ble_eq_true rfl) rfl rfl ?_
      refine xj_lstore (i := 6) (ls2 := [some (.ref (xw_ad v 0 0)), some (.ref (xw_ad v 2 0)), some (.int ((q_dear (payF B S) k).1)), some (.long ((q_dear (payF B S) k).2)), none, some (.int (nI k)), some (.long (payF B S k)), none]) hk dX7_dearest_33 (by decide) rfl rfl ?_
      refine xj_lload hk dX7_dearest_35 rfl ?_
      refine xj_lload_n (i := 3) hk dX7_dearest_37 rfl rfl ?_
      refine xj_lcmp hk dX7_dearest_38 ?_
      refine xj_if_le (tgt := 48) hk dX7_dearest_39 (by decide) (fun c39 => ?_) (fun c39 => ?_)
      · refine xj_iinc (i := 5) (x2 := nI (k + 1)) (ls2 := [some (.ref (xw_ad v 0 0)), some (.ref (xw_ad v 2 0)), some (.int ((q_dear (payF B S) k).1)), some (.long ((q_dear (payF B S) k).2)), none, some (.int (nI (k + 1))), some (.long (payF B S k)), none]) hk dX7_dearest_48 rfl (nI_1 k) (by decide) rfl rfl ?_
        refine xj_goto (tgt := 15) hk dX7_dearest_51 (by decide) ?_
        refine xj.le (ls' := [some (.ref (xw_ad v 0 0)), some (.ref (xw_ad v 2 0)), some (.int ((q_dear (payF B S) ((k + 1))).1)), some (.long ((q_dear (payF B S) ((k + 1))).2)), none, some (.int (nI ((k + 1)))), none, none]) (by simp [xl_le, q_dear, c39]) (ih (k + 1) (by omega) (by omega))
      · refine xj_lload hk dX7_dearest_42 rfl ?_
        refine xj_lstore_n (i := 3) (ls2 := [some (.ref (xw_ad v 0 0)), some (.ref (xw_ad v 2 0)), some (.int ((q_dear (payF B S) k).1)), some (.long (payF B S k)), none, some (.int (nI k)), some (.long (payF B S k)), none]) hk dX7_dearest_44 rfl (by decide) rfl rfl ?_
        refine xj_iload hk dX7_dearest_45 rfl ?_
        refine xj_istore_n (i := 2) (ls2 := [some (.ref (xw_ad v 0 0)), some (.ref (xw_ad v 2 0)), some (.int (nI k)), some (.long (payF B S k)), none, some (.int (nI k)), some (.long (payF B S k)), none]) hk dX7_dearest_47 rfl (by decide) rfl rfl ?_
        refine xj_iinc (i := 5) (x2 := nI (k + 1)) (ls2 := [some (.ref (xw_ad v 0 0)), some (.ref (xw_ad v 2 0)), some (.int (nI k)), some (.long (payF B S k)), none, some (.int (nI (k + 1))), some (.long (payF B S k)), none]) hk dX7_dearest_48 rfl (nI_1 k) (by decide) rfl rfl ?_
        refine xj_goto (tgt := 15) hk dX7_dearest_51 (by decide) ?_
        refine xj.le (ls' := [some (.ref (xw_ad v 0 0)), some (.ref (xw_ad v 2 0)), some (.int ((q_dear (payF B S) ((k + 1))).1)), some (.long ((q_dear (payF B S) ((k + 1))).2)), none, some (.int (nI ((k + 1)))), none, none]) (by simp [xl_le, q_dear, c39]) (ih (k + 1) (by omega) (by omega))

set_option maxHeartbeats 1000000 in
set_option maxRecDepth 10000 in
theorem c_X7_dearest {v : xw_V} {G : xw_G} {B : bk_T} {n r e a l : Nat} {K : Nat → bk_T} {t : tp_T} (hX : XB v G B n r e a K t l) : xk_Con v yX7_dearest cX7_dearest 8 (some .int) 6 137 [.ref (xw_ad v 0 0)] G (fun r9 G' => r9 = some (.int ((q_dear (payF B (kR B n)) n).1)) ∧ XB v G' B n r e a K t l ∧ XF G G') := by
  refine xk_of (ls0 := [some (.ref (xw_ad v 0 0)), none, none, none, none, none, none, none]) (by decide) rfl (Nat.le_of_ble_eq_true rfl) ?_
  intro κ z hk hz
  obtain ⟨okb, he12, ha12, hK0, hl700, htl, S, A, Q, rd, sw, okS, okQ, g0, g1, g2, g3, g4, g5, gK, g18, g19, g20⟩ := hX
  obtain ⟨hn, hn30, how, hhs, hr, hr8⟩ := id okb
  refine xj_aload_n (i := 0) hk dX7_dearest_0 rfl rfl ?_
  refine xj_callVE hk hz (fr1 := 5) (lo1 := 117) (As := []) (st := []) ml_X7_142 (c_X7_standing (n := n) (show G 0 = pc_X v from g0) (show G 1 = pc_B v 1 B from g1) (show G 2 = pc_S v 2 1 S from g2) okS hn hn30 how hhs) (xw_at g0 rfl) rfl dX7_dearest_1 ⟨Nat.le_of_ble_eq_true rfl, Nat.le_of_ble_eq_true rfl⟩ rfl (Nat.le_of_ble_eq_true rfl) rfl ?_
  rintro _ _ ⟨S1, hS1, rfl, rfl⟩
  have hag := kR_ag how hhs hS1
  have hio := RecS_io hS1
  show xj v κ _ z (xw_up G 2 (pc_S v 2 1 S1)) 4 _ [.ref (xw_ad v 2 0)]
  refine xj_astore_n (i := 1) (ls2 := [some (.ref (xw_ad v 0 0)), some (.ref (xw_ad v 2 0)), none, none, none, none, none, none]) hk dX7_dearest_4 rfl (by decide) rfl rfl ?_
  refine xj_bipush (x := (-2)) hk dX7_dearest_5 (by decide) ?_
  refine xj_istore_n (i := 2) (ls2 := [some (.ref (xw_ad v 0 0)), some (.ref (xw_ad v 2 0)), some (.int ((-2))), none, none, none, none, none]) hk dX7_dearest_7 rfl (by decide) rfl rfl ?_
  refine xj_ldc2 (x := -1) hk dX7_dearest_8 kl_X7_197 ?_
  refine xj_lstore_n (i := 3) (ls2 := [some (.ref (xw_ad v 0 0)), some (.ref (xw_ad v 2 0)), some (.int ((-2))), some (.long ((-1))), none, none, none, none]) hk dX7_dearest_11 rfl (by decide) rfl rfl ?_
  refine xj_iconst (x := 0) hk dX7_dearest_12 (by decide) ?_
  refine xj_istore (i := 5) (ls2 := [some (.ref (xw_ad v 0 0)), some (.ref (xw_ad v 2 0)), some (.int ((-2))), some (.long ((-1))), none, some (.int 0), none, none]) hk dX7_dearest_13 (by decide) rfl rfl ?_
  refine l_X7_dearest hk hz (show (xw_up G 2 (pc_S v 2 1 S1)) 0 = pc_X v from (show (xw_up G 2 (pc_S v 2 1 S1)) 0 = pc_X v from by rw [xw_up_n (by decide), g0])) (show (xw_up G 2 (pc_S v 2 1 S1)) 1 = pc_B v 1 B from (show (xw_up G 2 (pc_S v 2 1 S1)) 1 = pc_B v 1 B from by rw [xw_up_n (by decide), g1])) (show (xw_up G 2 (pc_S v 2 1 S1)) 2 = pc_S v 2 1 S1 from xw_up_s) hio hn hn30 hhs ?_ (n + 1) 0 (by omega) (by omega)
  refine xj_iload_n (i := 2) hk dX7_dearest_54 rfl rfl ?_
  refine xj_ireturn hk hz dX7_dearest_55 ?_
  refine ⟨?_, ⟨okb, he12, ha12, hK0, hl700, htl, S1, A, Q, rd, sw, (Rec_okO hn30 hS1), okQ, (show (xw_up G 2 (pc_S v 2 1 S1)) 0 = pc_X v from (show (xw_up G 2 (pc_S v 2 1 S1)) 0 = pc_X v from by rw [xw_up_n (by decide), g0])), (show (xw_up G 2 (pc_S v 2 1 S1)) 1 = pc_B v 1 B from (show (xw_up G 2 (pc_S v 2 1 S1)) 1 = pc_B v 1 B from by rw [xw_up_n (by decide), g1])), (show (xw_up G 2 (pc_S v 2 1 S1)) 2 = pc_S v 2 1 S1 from xw_up_s), (show (xw_up G 2 (pc_S v 2 1 S1)) 3 = pc_B v 3 A from (show (xw_up G 2 (pc_S v 2 1 S1)) 3 = pc_B v 3 A from by rw [xw_up_n (by decide), g3])), (show (xw_up G 2 (pc_S v 2 1 S1)) 4 = pc_S v 4 3 Q from (show (xw_up G 2 (pc_S v 2 1 S1)) 4 = pc_S v 4 3 Q from by rw [xw_up_n (by decide), g4])), (show (xw_up G 2 (pc_S v 2 1 S1)) 5 = pc_P v (nI e, nI a) from (show (xw_up G 2 (pc_S v 2 1 S1)) 5 = pP v (nI e) (nI a) from by rw [xw_up_n (by decide), g5])), (fun j9 h9 => by rw [xw_up_n (by omega)]; exact gK j9 h9), (show (xw_up G 2 (pc_S v 2 1 S1)) 18 = pc_T v t from (show (xw_up G 2 (pc_S v 2 1 S1)) 18 = pc_T v t from by rw [xw_up_n (by decide), g18])), (show (xw_up G 2 (pc_S v 2 1 S1)) 19 = pc_R v rd from (show (xw_up G 2 (pc_S v 2 1 S1)) 19 = pc_R v rd from by rw [xw_up_n (by decide), g19])), (show (xw_up G 2 (pc_S v 2 1 S1)) 20 = pc_W  sw from (show (xw_up G 2 (pc_S v 2 1 S1)) 20 = pc_W  sw from by rw [xw_up_n (by decide), g20]))⟩, (fun g h9 => by rw [xw_up_n (by omega)])⟩
  rw [← dear_ag (fun j hj => payF_ag hag hj)]

set_option maxHeartbeats 1000000 in
set_option maxRecDepth 10000 in
theorem l_X7_full {v : xw_V} {κ : xk_K} {post : Option Value → xw_G → Prop} {z : Nat × Nat × Nat} {G : xw_G} {B : bk_T} {S : sl_T} {n : Nat} (hk : xk_Ok v κ yX7_full cX7_full 5 (some .int) 6 137) (hz : xk_zf κ = z) (g0 : G 0 = pc_X v) (g1 : G 1 = pc_B v 1 B) (g2 : G 2 = pc_S v 2 1 S) (hio : sl_io S = nI n) (hn : bk_bi B = nI n) (hn30 : n ≤ 30) (hhs : okHs (bk_hs B) n) (kx : xj v κ post z G 47 [some (.ref (xw_ad v 0 0)), some (.ref (xw_ad v 2 0)), some (.int (sm (fun o => if sUnd B S n (nI o) ≤ 0 then 0 else if sUnd B S n (nI o) < sl_ro S o then 0 else 1) 8)), some (.int (nI 8)), none] []) : ∀ (m : Nat) (k : Nat), 8 - k < m → k ≤ 8 → xj v κ post z G 9 [some (.ref (xw_ad v 0 0)), some (.ref (xw_ad v 2 0)), some (.int (sm (fun o => if sUnd B S n (nI o) ≤ 0 then 0 else if sUnd B S n (nI o) < sl_ro S o then 0 else 1) k)), some (.int (nI k)), none] [] := by
  intro m
  induction m with
  | zero => intro k h; exact absurd h (Nat.not_lt_zero _)
  | succ m ih =>
    intro k hm hi
    refine xj_iload_n (i := 3) hk dX7_full_9 rfl rfl ?_
    refine xj_bipush (x := 8) hk dX7_full_10 (by decide) ?_
    refine xj_icmp_ge (tgt := 47) hk dX7_full_12 (by decide) (fun c12 => ?_) (fun c12 => ?_)
    · have c12 : 8 ≤ k := (nI_leI (a := 8) (b := k) (by omega) (by omega)).mp c12
      have e9 : k = 8 := by omega
      subst e9
      refine xj.le (ls' := [some (.ref (xw_ad v 0 0)), some (.ref (xw_ad v 2 0)), some (.int (sm (fun o => if sUnd B S n (nI o) ≤ 0 then 0 else if sUnd B S n (nI o) < sl_ro S o then 0 else 1) 8)), some (.int (nI 8)), none]) (by simp [xl_le]) kx
    · have c12 : ¬ 8 ≤ k := fun q => c12 ((nI_leI (a := 8) (b := k) (by omega) (by omega)).mpr q)
      refine xj_aload_n (i := 1) hk dX7_full_15 rfl rfl ?_
      refine xj_iload_n (i := 3) hk dX7_full_16 rfl rfl ?_
      refine xj_callV hk hz (fr1 := 0) (lo1 := 0) (r1 := some (.int (sUnd B S n (nI k)))) (As := [.int (nI k)]) (st := []) (st2 := [.int (sUnd B S n (nI k))]) (G1 := G) ml_X7_228 (c_X4_soldUnder (n := n) (show G 2 = pc_S v 2 1 S from g2) (show G 1 = pc_B v 1 B from g1) (by decide) hio hn30 hhs (nI k)) (xw_at g2 rfl) rfl dX7_full_17 ⟨Nat.le_of_ble_eq_true rfl, Nat.le_of_ble_eq_true rfl⟩ rfl (Nat.le_of_ble_eq_true rfl) rfl rfl ?_
      refine xj_istore (i := 4) (ls2 := [some (.ref (xw_ad v 0 0)), some (.ref (xw_ad v 2 0)), some (.int (sm (fun o => if sUnd B S n (nI o) ≤ 0 then 0 else if sUnd B S n (nI o) < sl_ro S o then 0 else 1) k)), some (.int (nI k)), some (.int (sUnd B S n (nI k)))]) hk dX7_full_20 (by decide) rfl rfl ?_
      refine xj_iload hk dX7_full_22 rfl ?_
      refine xj_if_le (tgt := 41) hk dX7_full_24 (by decide) (fun c24 => ?_) (fun c24 => ?_)
      · refine xj_iinc (i := 3) (x2 := nI (k + 1)) (ls2 := [some (.ref (xw_ad v 0 0)), some (.ref (xw_ad v 2 0)), some (.int (sm (fun o => if sUnd B S n (nI o) ≤ 0 then 0 else if sUnd B S n (nI o) < sl_ro S o then 0 else 1) k)), some (.int (nI (k + 1))), some (.int (sUnd B S n (nI k)))]) hk dX7_full_41 rfl (nI_1 k) (by decide) rfl rfl ?_
        refine xj_goto (tgt := 9) hk dX7_full_44 (by decide) ?_
        refine xj.le (ls' := [some (.ref (xw_ad v 0 0)), some (.ref (xw_ad v 2 0)), some (.int (sm (fun o => if sUnd B S n (nI o) ≤ 0 then 0 else if sUnd B S n (nI o) < sl_ro S o then 0 else 1) ((k + 1)))), some (.int (nI ((k + 1)))), none]) (by simp [xl_le, sm, c24]) (ih (k + 1) (by omega) (by omega))
      · refine xj_iload hk dX7_full_27 rfl ?_
        refine xj_aload_n (i := 1) hk dX7_full_29 rfl rfl ?_
        refine xj_getfield hk dX7_full_30 fl_X7_199 (xw_at g2 rfl) rfl ?_
        refine xj_iload_n (i := 3) hk dX7_full_33 rfl rfl ?_
        refine xj_iaload (k := k) hk dX7_full_34 (xw_at g2 rfl) (xi_n (by omega) (by decide)) ?_
        refine xj_icmp_lt (tgt := 41) hk dX7_full_35 (by decide) (fun c35 => ?_) (fun c35 => ?_)
        · refine xj_iinc (i := 3) (x2 := nI (k + 1)) (ls2 := [some (.ref (xw_ad v 0 0)), some (.ref (xw_ad v 2 0)), some (.int (sm (fun o => if sUnd B S n (nI o) ≤ 0 then 0 else if sUnd B S n (nI o) < sl_ro S o then 0 else 1) k)), some (.int (nI (k + 1))), some (.int (sUnd B S n (nI k)))]) hk dX7_full_41 rfl (nI_1 k) (by decide) rfl rfl ?_
          refine xj_goto (tgt := 9) hk dX7_full_44 (by decide) ?_
          refine xj.le (ls' := [some (.ref (xw_ad v 0 0)), some (.ref (xw_ad v 2 0)), some (.int (sm (fun o => if sUnd B S n (nI o) ≤ 0 then 0 else if sUnd B S n (nI o) < sl_ro S o then 0 else 1) ((k + 1)))), some (.int (nI ((k + 1)))), none]) (by simp [xl_le, sm, c24, c35]) (ih (k + 1) (by omega) (by omega))
        · refine xj_iinc (i := 2) (x2 := (sm (fun o => if sUnd B S n (nI o) ≤ 0 then 0 else if sUnd B S n (nI o) < sl_ro S o then 0 else 1) k) + 1) (ls2 := [some (.ref (xw_ad v 0 0)), some (.ref (xw_ad v 2 0)), some (.int ((sm (fun o => if sUnd B S n (nI o) ≤ 0 then 0 else if sUnd B S n (nI o) < sl_ro S o then 0 else 1) k) + 1)), some (.int (nI k)), some (.int (sUnd B S n (nI k)))]) hk dX7_full_38 rfl rfl (by decide) rfl rfl ?_
          refine xj_iinc (i := 3) (x2 := nI (k + 1)) (ls2 := [some (.ref (xw_ad v 0 0)), some (.ref (xw_ad v 2 0)), some (.int ((sm (fun o => if sUnd B S n (nI o) ≤ 0 then 0 else if sUnd B S n (nI o) < sl_ro S o then 0 else 1) k) + 1)), some (.int (nI (k + 1))), some (.int (sUnd B S n (nI k)))]) hk dX7_full_41 rfl (nI_1 k) (by decide) rfl rfl ?_
          refine xj_goto (tgt := 9) hk dX7_full_44 (by decide) ?_
          refine xj.le (ls' := [some (.ref (xw_ad v 0 0)), some (.ref (xw_ad v 2 0)), some (.int (sm (fun o => if sUnd B S n (nI o) ≤ 0 then 0 else if sUnd B S n (nI o) < sl_ro S o then 0 else 1) ((k + 1)))), some (.int (nI ((k + 1)))), none]) (by simp [xl_le, sm, c24, c35]) (ih (k + 1) (by omega) (by omega))

set_option maxHeartbeats 1000000 in
set_option maxRecDepth 10000 in
theorem c_X7_full {v : xw_V} {G : xw_G} {B : bk_T} {n r e a l : Nat} {K : Nat → bk_T} {t : tp_T} (hX : XB v G B n r e a K t l) : xk_Con v yX7_full cX7_full 5 (some .int) 6 137 [.ref (xw_ad v 0 0)] G (fun r9 G' => r9 = some (.int (q_full B (kR B n) n)) ∧ XB v G' B n r e a K t l ∧ XF G G') := by
  refine xk_of (ls0 := [some (.ref (xw_ad v 0 0)), none, none, none, none]) (by decide) rfl (Nat.le_of_ble_eq_true rfl) ?_
  intro κ z hk hz
  obtain ⟨okb, he12, ha12, hK0, hl700, htl, S, A, Q, rd, sw, okS, okQ, g0, g1, g2, g3, g4, g5, gK, g18, g19, g20⟩ := hX
  obtain ⟨hn, hn30, how, hhs, hr, hr8⟩ := id okb
  refine xj_aload_n (i := 0) hk dX7_full_0 rfl rfl ?_
  refine xj_callVE hk hz (fr1 := 5) (lo1 := 117) (As := []) (st := []) ml_X7_142 (c_X7_standing (n := n) (show G 0 = pc_X v from g0) (show G 1 = pc_B v 1 B from g1) (show G 2 = pc_S v 2 1 S from g2) okS hn hn30 how hhs) (xw_at g0 rfl) rfl dX7_full_1 ⟨Nat.le_of_ble_eq_true rfl, Nat.le_of_ble_eq_true rfl⟩ rfl (Nat.le_of_ble_eq_true rfl) rfl ?_
  rintro _ _ ⟨S1, hS1, rfl, rfl⟩
  have hag := kR_ag how hhs hS1
  have hio := RecS_io hS1
  show xj v κ _ z (xw_up G 2 (pc_S v 2 1 S1)) 4 _ [.ref (xw_ad v 2 0)]
  refine xj_astore_n (i := 1) (ls2 := [some (.ref (xw_ad v 0 0)), some (.ref (xw_ad v 2 0)), none, none, none]) hk dX7_full_4 rfl (by decide) rfl rfl ?_
  refine xj_iconst (x := 0) hk dX7_full_5 (by decide) ?_
  refine xj_istore_n (i := 2) (ls2 := [some (.ref (xw_ad v 0 0)), some (.ref (xw_ad v 2 0)), some (.int 0), none, none]) hk dX7_full_6 rfl (by decide) rfl rfl ?_
  refine xj_iconst (x := 0) hk dX7_full_7 (by decide) ?_
  refine xj_istore_n (i := 3) (ls2 := [some (.ref (xw_ad v 0 0)), some (.ref (xw_ad v 2 0)), some (.int 0), some (.int 0), none]) hk dX7_full_8 rfl (by decide) rfl rfl ?_
  refine l_X7_full hk hz (show (xw_up G 2 (pc_S v 2 1 S1)) 0 = pc_X v from (show (xw_up G 2 (pc_S v 2 1 S1)) 0 = pc_X v from by rw [xw_up_n (by decide), g0])) (show (xw_up G 2 (pc_S v 2 1 S1)) 1 = pc_B v 1 B from (show (xw_up G 2 (pc_S v 2 1 S1)) 1 = pc_B v 1 B from by rw [xw_up_n (by decide), g1])) (show (xw_up G 2 (pc_S v 2 1 S1)) 2 = pc_S v 2 1 S1 from xw_up_s) hio hn hn30 hhs ?_ (8 + 1) 0 (by omega) (by omega)
  refine xj_iload_n (i := 2) hk dX7_full_47 rfl rfl ?_
  refine xj_ireturn hk hz dX7_full_48 ?_
  refine ⟨?_, ⟨okb, he12, ha12, hK0, hl700, htl, S1, A, Q, rd, sw, (Rec_okO hn30 hS1), okQ, (show (xw_up G 2 (pc_S v 2 1 S1)) 0 = pc_X v from (show (xw_up G 2 (pc_S v 2 1 S1)) 0 = pc_X v from by rw [xw_up_n (by decide), g0])), (show (xw_up G 2 (pc_S v 2 1 S1)) 1 = pc_B v 1 B from (show (xw_up G 2 (pc_S v 2 1 S1)) 1 = pc_B v 1 B from by rw [xw_up_n (by decide), g1])), (show (xw_up G 2 (pc_S v 2 1 S1)) 2 = pc_S v 2 1 S1 from xw_up_s), (show (xw_up G 2 (pc_S v 2 1 S1)) 3 = pc_B v 3 A from (show (xw_up G 2 (pc_S v 2 1 S1)) 3 = pc_B v 3 A from by rw [xw_up_n (by decide), g3])), (show (xw_up G 2 (pc_S v 2 1 S1)) 4 = pc_S v 4 3 Q from (show (xw_up G 2 (pc_S v 2 1 S1)) 4 = pc_S v 4 3 Q from by rw [xw_up_n (by decide), g4])), (show (xw_up G 2 (pc_S v 2 1 S1)) 5 = pc_P v (nI e, nI a) from (show (xw_up G 2 (pc_S v 2 1 S1)) 5 = pP v (nI e) (nI a) from by rw [xw_up_n (by decide), g5])), (fun j9 h9 => by rw [xw_up_n (by omega)]; exact gK j9 h9), (show (xw_up G 2 (pc_S v 2 1 S1)) 18 = pc_T v t from (show (xw_up G 2 (pc_S v 2 1 S1)) 18 = pc_T v t from by rw [xw_up_n (by decide), g18])), (show (xw_up G 2 (pc_S v 2 1 S1)) 19 = pc_R v rd from (show (xw_up G 2 (pc_S v 2 1 S1)) 19 = pc_R v rd from by rw [xw_up_n (by decide), g19])), (show (xw_up G 2 (pc_S v 2 1 S1)) 20 = pc_W  sw from (show (xw_up G 2 (pc_S v 2 1 S1)) 20 = pc_W  sw from by rw [xw_up_n (by decide), g20]))⟩, (fun g h9 => by rw [xw_up_n (by omega)])⟩
  rw [← full_ag hag]
  simp [q_full]

set_option maxHeartbeats 1000000 in
set_option maxRecDepth 10000 in
theorem l_X7_crowded {v : xw_V} {κ : xk_K} {post : Option Value → xw_G → Prop} {z : Nat × Nat × Nat} {G : xw_G} {B : bk_T} {S : sl_T} {n : Nat} (hk : xk_Ok v κ yX7_crowded cX7_crowded 6 (some .int) 6 137) (hz : xk_zf κ = z) (g0 : G 0 = pc_X v) (g1 : G 1 = pc_B v 1 B) (g2 : G 2 = pc_S v 2 1 S) (hio : sl_io S = nI n) (hn : bk_bi B = nI n) (hn30 : n ≤ 30) (hhs : okHs (bk_hs B) n) (hne : ¬ sl_sp S + sl_sr S = 0) (kx : xj v κ post z G 56 [some (.ref (xw_ad v 0 0)), some (.ref (xw_ad v 2 0)), some (.int (sl_sp S + sl_sr S)), some (.int (sm (fun h => hdr B S n h * hdr B S n h) 8)), some (.int (nI 8)), none] []) : ∀ (m : Nat) (k : Nat), 8 - k < m → k ≤ 8 → xj v κ post z G 22 [some (.ref (xw_ad v 0 0)), some (.ref (xw_ad v 2 0)), some (.int (sl_sp S + sl_sr S)), some (.int (sm (fun h => hdr B S n h * hdr B S n h) k)), some (.int (nI k)), none] [] := by
  intro m
  induction m with
  | zero => intro k h; exact absurd h (Nat.not_lt_zero _)
  | succ m ih =>
    intro k hm hi
    refine xj_iload hk dX7_crowded_22 rfl ?_
    refine xj_bipush (x := 8) hk dX7_crowded_24 (by decide) ?_
    refine xj_icmp_ge (tgt := 56) hk dX7_crowded_26 (by decide) (fun c26 => ?_) (fun c26 => ?_)
    · have c26 : 8 ≤ k := (nI_leI (a := 8) (b := k) (by omega) (by omega)).mp c26
      have e9 : k = 8 := by omega
      subst e9
      exact kx
    · have c26 : ¬ 8 ≤ k := fun q => c26 ((nI_leI (a := 8) (b := k) (by omega) (by omega)).mpr q)
      refine xj_aload_n (i := 1) hk dX7_crowded_29 rfl rfl ?_
      refine xj_iload hk dX7_crowded_30 rfl ?_
      refine xj_callV hk hz (fr1 := 1) (lo1 := 25) (r1 := some (.int (sm (sel (bk_hs B) (nI k) (sl_so S)) n))) (As := [.int (nI k)]) (st := []) (st2 := [.int (sm (sel (bk_hs B) (nI k) (sl_so S)) n)]) (G1 := G) ml_X7_169 (c_X4_soldTo (n := n) (show G 2 = pc_S v 2 1 S from g2) (show G 1 = pc_B v 1 B from g1) (by decide) hio hn30 (nI k)) (xw_at g2 rfl) rfl dX7_crowded_32 ⟨Nat.le_of_ble_eq_true rfl, Nat.le_of_ble_eq_true rfl⟩ rfl (Nat.le_of_ble_eq_true rfl) rfl rfl ?_
      refine xj_bipush (x := 100) hk dX7_crowded_35 (by decide) ?_
      refine xj_imul hk dX7_crowded_37 ?_
      refine xj_iload_n (i := 2) hk dX7_crowded_38 rfl rfl ?_
      refine xj_idiv hk dX7_crowded_39 hne ?_
      refine xj_istore (i := 5) (ls2 := [some (.ref (xw_ad v 0 0)), some (.ref (xw_ad v 2 0)), some (.int (sl_sp S + sl_sr S)), some (.int (sm (fun h => hdr B S n h * hdr B S n h) k)), some (.int (nI k)), some (.int (((sm (sel (bk_hs B) (nI k) (sl_so S)) n) * 100) / (sl_sp S + sl_sr S)))]) hk dX7_crowded_40 (by decide) rfl rfl ?_
      refine xj_iload_n (i := 3) hk dX7_crowded_42 rfl rfl ?_
      refine xj_iload hk dX7_crowded_43 rfl ?_
      refine xj_iload hk dX7_crowded_45 rfl ?_
      refine xj_imul hk dX7_crowded_47 ?_
      refine xj_iadd hk dX7_crowded_48 ?_
      refine xj_istore_n (i := 3) (ls2 := [some (.ref (xw_ad v 0 0)), some (.ref (xw_ad v 2 0)), some (.int (sl_sp S + sl_sr S)), some (.int ((sm (fun h => hdr B S n h * hdr B S n h) k) + ((((sm (sel (bk_hs B) (nI k) (sl_so S)) n) * 100) / (sl_sp S + sl_sr S)) * (((sm (sel (bk_hs B) (nI k) (sl_so S)) n) * 100) / (sl_sp S + sl_sr S))))), some (.int (nI k)), some (.int (((sm (sel (bk_hs B) (nI k) (sl_so S)) n) * 100) / (sl_sp S + sl_sr S)))]) hk dX7_crowded_49 rfl (by decide) rfl rfl ?_
      refine xj_iinc (i := 4) (x2 := nI (k + 1)) (ls2 := [some (.ref (xw_ad v 0 0)), some (.ref (xw_ad v 2 0)), some (.int (sl_sp S + sl_sr S)), some (.int ((sm (fun h => hdr B S n h * hdr B S n h) k) + ((((sm (sel (bk_hs B) (nI k) (sl_so S)) n) * 100) / (sl_sp S + sl_sr S)) * (((sm (sel (bk_hs B) (nI k) (sl_so S)) n) * 100) / (sl_sp S + sl_sr S))))), some (.int (nI (k + 1))), some (.int (((sm (sel (bk_hs B) (nI k) (sl_so S)) n) * 100) / (sl_sp S + sl_sr S)))]) hk dX7_crowded_50 rfl (nI_1 k) (by decide) rfl rfl ?_
      refine xj_goto (tgt := 22) hk dX7_crowded_53 (by decide) ?_
      refine xj.le (ls' := [some (.ref (xw_ad v 0 0)), some (.ref (xw_ad v 2 0)), some (.int (sl_sp S + sl_sr S)), some (.int (sm (fun h => hdr B S n h * hdr B S n h) ((k + 1)))), some (.int (nI ((k + 1)))), none]) (by simp [xl_le, sm, hdr]) (ih (k + 1) (by omega) (by omega))

set_option maxHeartbeats 1000000 in
set_option maxRecDepth 10000 in
theorem c_X7_crowded {v : xw_V} {G : xw_G} {B : bk_T} {n r e a l : Nat} {K : Nat → bk_T} {t : tp_T} (hX : XB v G B n r e a K t l) : xk_Con v yX7_crowded cX7_crowded 6 (some .int) 6 137 [.ref (xw_ad v 0 0)] G (fun r9 G' => r9 = some (.int (q_crowd B (kR B n) n)) ∧ XB v G' B n r e a K t l ∧ XF G G') := by
  refine xk_of (ls0 := [some (.ref (xw_ad v 0 0)), none, none, none, none, none]) (by decide) rfl (Nat.le_of_ble_eq_true rfl) ?_
  intro κ z hk hz
  obtain ⟨okb, he12, ha12, hK0, hl700, htl, S, A, Q, rd, sw, okS, okQ, g0, g1, g2, g3, g4, g5, gK, g18, g19, g20⟩ := hX
  obtain ⟨hn, hn30, how, hhs, hr, hr8⟩ := id okb
  refine xj_aload_n (i := 0) hk dX7_crowded_0 rfl rfl ?_
  refine xj_callVE hk hz (fr1 := 5) (lo1 := 117) (As := []) (st := []) ml_X7_142 (c_X7_standing (n := n) (show G 0 = pc_X v from g0) (show G 1 = pc_B v 1 B from g1) (show G 2 = pc_S v 2 1 S from g2) okS hn hn30 how hhs) (xw_at g0 rfl) rfl dX7_crowded_1 ⟨Nat.le_of_ble_eq_true rfl, Nat.le_of_ble_eq_true rfl⟩ rfl (Nat.le_of_ble_eq_true rfl) rfl ?_
  rintro _ _ ⟨S1, hS1, rfl, rfl⟩
  have hag := kR_ag how hhs hS1
  have hio := RecS_io hS1
  show xj v κ _ z (xw_up G 2 (pc_S v 2 1 S1)) 4 _ [.ref (xw_ad v 2 0)]
  refine xj_astore_n (i := 1) (ls2 := [some (.ref (xw_ad v 0 0)), some (.ref (xw_ad v 2 0)), none, none, none, none]) hk dX7_crowded_4 rfl (by decide) rfl rfl ?_
  refine xj_aload_n (i := 1) hk dX7_crowded_5 rfl rfl ?_
  refine xj_callV hk hz (fr1 := 0) (lo1 := 0) (r1 := some (.int ((sl_sp S1) + (sl_sr S1)))) (As := []) (st := []) (st2 := [.int ((sl_sp S1) + (sl_sr S1))]) (G1 := xw_up G 2 (pc_S v 2 1 S1)) ml_X7_146 (c_X4_soldInAll (show (xw_up G 2 (pc_S v 2 1 S1)) 2 = pc_S v 2 1 S1 from xw_up_s) (show (xw_up G 2 (pc_S v 2 1 S1)) 1 = pc_B v 1 B from (show (xw_up G 2 (pc_S v 2 1 S1)) 1 = pc_B v 1 B from by rw [xw_up_n (by decide), g1])) (by decide)  ) (xw_at xw_up_s rfl) rfl dX7_crowded_6 ⟨Nat.le_of_ble_eq_true rfl, Nat.le_of_ble_eq_true rfl⟩ rfl (Nat.le_of_ble_eq_true rfl) rfl rfl ?_
  refine xj_istore_n (i := 2) (ls2 := [some (.ref (xw_ad v 0 0)), some (.ref (xw_ad v 2 0)), some (.int ((sl_sp S1) + (sl_sr S1))), none, none, none]) hk dX7_crowded_9 rfl (by decide) rfl rfl ?_
  refine xj_iload_n (i := 2) hk dX7_crowded_10 rfl rfl ?_
  refine xj_iconst (x := 1) hk dX7_crowded_11 (by decide) ?_
  refine xj_icmp_ge (tgt := 17) hk dX7_crowded_12 (by decide) (fun c12 => ?_) (fun c12 => ?_)
  · refine xj_iconst (x := 0) hk dX7_crowded_17 (by decide) ?_
    refine xj_istore_n (i := 3) (ls2 := [some (.ref (xw_ad v 0 0)), some (.ref (xw_ad v 2 0)), some (.int ((sl_sp S1) + (sl_sr S1))), some (.int 0), none, none]) hk dX7_crowded_18 rfl (by decide) rfl rfl ?_
    refine xj_iconst (x := 0) hk dX7_crowded_19 (by decide) ?_
    refine xj_istore (i := 4) (ls2 := [some (.ref (xw_ad v 0 0)), some (.ref (xw_ad v 2 0)), some (.int ((sl_sp S1) + (sl_sr S1))), some (.int 0), some (.int 0), none]) hk dX7_crowded_20 (by decide) rfl rfl ?_
    refine l_X7_crowded hk hz (show (xw_up G 2 (pc_S v 2 1 S1)) 0 = pc_X v from (show (xw_up G 2 (pc_S v 2 1 S1)) 0 = pc_X v from by rw [xw_up_n (by decide), g0])) (show (xw_up G 2 (pc_S v 2 1 S1)) 1 = pc_B v 1 B from (show (xw_up G 2 (pc_S v 2 1 S1)) 1 = pc_B v 1 B from by rw [xw_up_n (by decide), g1])) (show (xw_up G 2 (pc_S v 2 1 S1)) 2 = pc_S v 2 1 S1 from xw_up_s) hio hn hn30 hhs (i1ne c12) ?_ (8 + 1) 0 (by omega) (by omega)
    refine xj_iload_n (i := 3) hk dX7_crowded_56 rfl rfl ?_
    refine xj_ireturn hk hz dX7_crowded_57 ?_
    refine ⟨?_, ⟨okb, he12, ha12, hK0, hl700, htl, S1, A, Q, rd, sw, (Rec_okO hn30 hS1), okQ, (show (xw_up G 2 (pc_S v 2 1 S1)) 0 = pc_X v from (show (xw_up G 2 (pc_S v 2 1 S1)) 0 = pc_X v from by rw [xw_up_n (by decide), g0])), (show (xw_up G 2 (pc_S v 2 1 S1)) 1 = pc_B v 1 B from (show (xw_up G 2 (pc_S v 2 1 S1)) 1 = pc_B v 1 B from by rw [xw_up_n (by decide), g1])), (show (xw_up G 2 (pc_S v 2 1 S1)) 2 = pc_S v 2 1 S1 from xw_up_s), (show (xw_up G 2 (pc_S v 2 1 S1)) 3 = pc_B v 3 A from (show (xw_up G 2 (pc_S v 2 1 S1)) 3 = pc_B v 3 A from by rw [xw_up_n (by decide), g3])), (show (xw_up G 2 (pc_S v 2 1 S1)) 4 = pc_S v 4 3 Q from (show (xw_up G 2 (pc_S v 2 1 S1)) 4 = pc_S v 4 3 Q from by rw [xw_up_n (by decide), g4])), (show (xw_up G 2 (pc_S v 2 1 S1)) 5 = pc_P v (nI e, nI a) from (show (xw_up G 2 (pc_S v 2 1 S1)) 5 = pP v (nI e) (nI a) from by rw [xw_up_n (by decide), g5])), (fun j9 h9 => by rw [xw_up_n (by omega)]; exact gK j9 h9), (show (xw_up G 2 (pc_S v 2 1 S1)) 18 = pc_T v t from (show (xw_up G 2 (pc_S v 2 1 S1)) 18 = pc_T v t from by rw [xw_up_n (by decide), g18])), (show (xw_up G 2 (pc_S v 2 1 S1)) 19 = pc_R v rd from (show (xw_up G 2 (pc_S v 2 1 S1)) 19 = pc_R v rd from by rw [xw_up_n (by decide), g19])), (show (xw_up G 2 (pc_S v 2 1 S1)) 20 = pc_W  sw from (show (xw_up G 2 (pc_S v 2 1 S1)) 20 = pc_W  sw from by rw [xw_up_n (by decide), g20]))⟩, (fun g h9 => by rw [xw_up_n (by omega)])⟩
    rw [← crowd_ag hag]
    simp [q_crowd, c12]
  · refine xj_iconst (x := 0) hk dX7_crowded_15 (by decide) ?_
    refine xj_ireturn hk hz dX7_crowded_16 ?_
    refine ⟨?_, ⟨okb, he12, ha12, hK0, hl700, htl, S1, A, Q, rd, sw, (Rec_okO hn30 hS1), okQ, (show (xw_up G 2 (pc_S v 2 1 S1)) 0 = pc_X v from (show (xw_up G 2 (pc_S v 2 1 S1)) 0 = pc_X v from by rw [xw_up_n (by decide), g0])), (show (xw_up G 2 (pc_S v 2 1 S1)) 1 = pc_B v 1 B from (show (xw_up G 2 (pc_S v 2 1 S1)) 1 = pc_B v 1 B from by rw [xw_up_n (by decide), g1])), (show (xw_up G 2 (pc_S v 2 1 S1)) 2 = pc_S v 2 1 S1 from xw_up_s), (show (xw_up G 2 (pc_S v 2 1 S1)) 3 = pc_B v 3 A from (show (xw_up G 2 (pc_S v 2 1 S1)) 3 = pc_B v 3 A from by rw [xw_up_n (by decide), g3])), (show (xw_up G 2 (pc_S v 2 1 S1)) 4 = pc_S v 4 3 Q from (show (xw_up G 2 (pc_S v 2 1 S1)) 4 = pc_S v 4 3 Q from by rw [xw_up_n (by decide), g4])), (show (xw_up G 2 (pc_S v 2 1 S1)) 5 = pc_P v (nI e, nI a) from (show (xw_up G 2 (pc_S v 2 1 S1)) 5 = pP v (nI e) (nI a) from by rw [xw_up_n (by decide), g5])), (fun j9 h9 => by rw [xw_up_n (by omega)]; exact gK j9 h9), (show (xw_up G 2 (pc_S v 2 1 S1)) 18 = pc_T v t from (show (xw_up G 2 (pc_S v 2 1 S1)) 18 = pc_T v t from by rw [xw_up_n (by decide), g18])), (show (xw_up G 2 (pc_S v 2 1 S1)) 19 = pc_R v rd from (show (xw_up G 2 (pc_S v 2 1 S1)) 19 = pc_R v rd from by rw [xw_up_n (by decide), g19])), (show (xw_up G 2 (pc_S v 2 1 S1)) 20 = pc_W  sw from (show (xw_up G 2 (pc_S v 2 1 S1)) 20 = pc_W  sw from by rw [xw_up_n (by decide), g20]))⟩, (fun g h9 => by rw [xw_up_n (by omega)])⟩
    rw [← crowd_ag hag]
    simp [q_crowd, c12]

set_option maxHeartbeats 1000000 in
set_option maxRecDepth 10000 in
theorem c_X7_step {v : xw_V} {G : xw_G} {B : bk_T} {n r e a l : Nat} {K : Nat → bk_T} {t : tp_T} (hX : XB v G B n r e a K t l) (x : Int32) (w : Int32) : xk_Con v yX7_step cX7_step 5 (some .int) 6 137 [.ref (xw_ad v 0 0), .int x, .int w] G (fun r9 G' => r9 = some (.int (q_step B (kR B n) n x w)) ∧ XB v G' B n r e a K t l ∧ XF G G') := by
  refine xk_of (ls0 := [some (.ref (xw_ad v 0 0)), some (.int x), some (.int w), none, none]) (by decide) rfl (Nat.le_of_ble_eq_true rfl) ?_
  intro κ z hk hz
  obtain ⟨okb, he12, ha12, hK0, hl700, htl, S, A, Q, rd, sw, okS, okQ, g0, g1, g2, g3, g4, g5, gK, g18, g19, g20⟩ := hX
  obtain ⟨hn, hn30, how, hhs, hr, hr8⟩ := id okb
  refine xj_aload_n (i := 0) hk dX7_step_0 rfl rfl ?_
  refine xj_callVE hk hz (fr1 := 5) (lo1 := 117) (As := []) (st := []) ml_X7_142 (c_X7_standing (n := n) (show G 0 = pc_X v from g0) (show G 1 = pc_B v 1 B from g1) (show G 2 = pc_S v 2 1 S from g2) okS hn hn30 how hhs) (xw_at g0 rfl) rfl dX7_step_1 ⟨Nat.le_of_ble_eq_true rfl, Nat.le_of_ble_eq_true rfl⟩ rfl (Nat.le_of_ble_eq_true rfl) rfl ?_
  rintro _ _ ⟨S1, hS1, rfl, rfl⟩
  have hag := kR_ag how hhs hS1
  have hio := RecS_io hS1
  show xj v κ _ z (xw_up G 2 (pc_S v 2 1 S1)) 4 _ [.ref (xw_ad v 2 0)]
  refine xj_astore_n (i := 3) (ls2 := [some (.ref (xw_ad v 0 0)), some (.int x), some (.int w), some (.ref (xw_ad v 2 0)), none]) hk dX7_step_4 rfl (by decide) rfl rfl ?_
  refine xj_aload_n (i := 3) hk dX7_step_5 rfl rfl ?_
  refine xj_iload_n (i := 1) hk dX7_step_6 rfl rfl ?_
  refine xj_callV hk hz (fr1 := 0) (lo1 := 0) (r1 := some (.int (stepR B S1 n x))) (As := [.int x]) (st := []) (st2 := [.int (stepR B S1 n x)]) (G1 := xw_up G 2 (pc_S v 2 1 S1)) ml_X7_231 (c_X4_rateOfStep (n := n) (p := fun j => xn (sl_od S1 j)) (show (xw_up G 2 (pc_S v 2 1 S1)) 2 = pc_S v 2 1 S1 from xw_up_s) (show (xw_up G 2 (pc_S v 2 1 S1)) 1 = pc_B v 1 B from (show (xw_up G 2 (pc_S v 2 1 S1)) 1 = pc_B v 1 B from by rw [xw_up_n (by decide), g1])) (by decide) hio hn30 (RecS_od' hn30 hS1).1 (RecS_od' hn30 hS1).2 x) (xw_at xw_up_s rfl) rfl dX7_step_7 ⟨Nat.le_of_ble_eq_true rfl, Nat.le_of_ble_eq_true rfl⟩ rfl (Nat.le_of_ble_eq_true rfl) rfl rfl ?_
  refine xj_istore (i := 4) (ls2 := [some (.ref (xw_ad v 0 0)), some (.int x), some (.int w), some (.ref (xw_ad v 2 0)), some (.int (stepR B S1 n x))]) hk dX7_step_10 (by decide) rfl rfl ?_
  refine xj_iload hk dX7_step_12 rfl ?_
  refine xj_iconst (x := (-1)) hk dX7_step_14 (by decide) ?_
  refine xj_icmp_ne (tgt := 20) hk dX7_step_15 (by decide) (fun c15 => ?_) (fun c15 => ?_)
  · refine xj_iload_n (i := 2) hk dX7_step_20 rfl rfl ?_
    by_cases s21_0 : w = 0
    · refine xj_swIn (tgt := 56) (off := 35) hk dX7_step_21 (by rw [s21_0]; decide) (by rw [s21_0]; decide) (by rw [s21_0]; decide) (by decide) ?_
      refine xj_iload hk dX7_step_56 rfl ?_
      refine xj_ireturn hk hz dX7_step_58 ?_
      refine ⟨?_, ⟨okb, he12, ha12, hK0, hl700, htl, S1, A, Q, rd, sw, (Rec_okO hn30 hS1), okQ, (show (xw_up G 2 (pc_S v 2 1 S1)) 0 = pc_X v from (show (xw_up G 2 (pc_S v 2 1 S1)) 0 = pc_X v from by rw [xw_up_n (by decide), g0])), (show (xw_up G 2 (pc_S v 2 1 S1)) 1 = pc_B v 1 B from (show (xw_up G 2 (pc_S v 2 1 S1)) 1 = pc_B v 1 B from by rw [xw_up_n (by decide), g1])), (show (xw_up G 2 (pc_S v 2 1 S1)) 2 = pc_S v 2 1 S1 from xw_up_s), (show (xw_up G 2 (pc_S v 2 1 S1)) 3 = pc_B v 3 A from (show (xw_up G 2 (pc_S v 2 1 S1)) 3 = pc_B v 3 A from by rw [xw_up_n (by decide), g3])), (show (xw_up G 2 (pc_S v 2 1 S1)) 4 = pc_S v 4 3 Q from (show (xw_up G 2 (pc_S v 2 1 S1)) 4 = pc_S v 4 3 Q from by rw [xw_up_n (by decide), g4])), (show (xw_up G 2 (pc_S v 2 1 S1)) 5 = pc_P v (nI e, nI a) from (show (xw_up G 2 (pc_S v 2 1 S1)) 5 = pP v (nI e) (nI a) from by rw [xw_up_n (by decide), g5])), (fun j9 h9 => by rw [xw_up_n (by omega)]; exact gK j9 h9), (show (xw_up G 2 (pc_S v 2 1 S1)) 18 = pc_T v t from (show (xw_up G 2 (pc_S v 2 1 S1)) 18 = pc_T v t from by rw [xw_up_n (by decide), g18])), (show (xw_up G 2 (pc_S v 2 1 S1)) 19 = pc_R v rd from (show (xw_up G 2 (pc_S v 2 1 S1)) 19 = pc_R v rd from by rw [xw_up_n (by decide), g19])), (show (xw_up G 2 (pc_S v 2 1 S1)) 20 = pc_W  sw from (show (xw_up G 2 (pc_S v 2 1 S1)) 20 = pc_W  sw from by rw [xw_up_n (by decide), g20]))⟩, (fun g h9 => by rw [xw_up_n (by omega)])⟩
      rw [← step_ag _ _ (RecS_od' hn30 hS1).2 hag]
      simp [q_step, c15, s21_0]
    by_cases s21_1 : w = 1
    · refine xj_swIn (tgt := 59) (off := 38) hk dX7_step_21 (by rw [s21_1]; decide) (by rw [s21_1]; decide) (by rw [s21_1]; decide) (by decide) ?_
      refine xj_aload_n (i := 3) hk dX7_step_59 rfl rfl ?_
      refine xj_iload hk dX7_step_60 rfl ?_
      refine xj_callV hk hz (fr1 := 1) (lo1 := 25) (r1 := some (.int (sm (sel (bk_ra B) (stepR B S1 n x) (sl_ad S1)) n))) (As := [.int (stepR B S1 n x)]) (st := []) (st2 := [.int (sm (sel (bk_ra B) (stepR B S1 n x) (sl_ad S1)) n)]) (G1 := xw_up G 2 (pc_S v 2 1 S1)) ml_X7_234 (c_X4_admittedAt (n := n) (show (xw_up G 2 (pc_S v 2 1 S1)) 2 = pc_S v 2 1 S1 from xw_up_s) (show (xw_up G 2 (pc_S v 2 1 S1)) 1 = pc_B v 1 B from (show (xw_up G 2 (pc_S v 2 1 S1)) 1 = pc_B v 1 B from by rw [xw_up_n (by decide), g1])) (by decide) hio hn30 (stepR B S1 n x)) (xw_at xw_up_s rfl) rfl dX7_step_62 ⟨Nat.le_of_ble_eq_true rfl, Nat.le_of_ble_eq_true rfl⟩ rfl (Nat.le_of_ble_eq_true rfl) rfl rfl ?_
      refine xj_ireturn hk hz dX7_step_65 ?_
      refine ⟨?_, ⟨okb, he12, ha12, hK0, hl700, htl, S1, A, Q, rd, sw, (Rec_okO hn30 hS1), okQ, (show (xw_up G 2 (pc_S v 2 1 S1)) 0 = pc_X v from (show (xw_up G 2 (pc_S v 2 1 S1)) 0 = pc_X v from by rw [xw_up_n (by decide), g0])), (show (xw_up G 2 (pc_S v 2 1 S1)) 1 = pc_B v 1 B from (show (xw_up G 2 (pc_S v 2 1 S1)) 1 = pc_B v 1 B from by rw [xw_up_n (by decide), g1])), (show (xw_up G 2 (pc_S v 2 1 S1)) 2 = pc_S v 2 1 S1 from xw_up_s), (show (xw_up G 2 (pc_S v 2 1 S1)) 3 = pc_B v 3 A from (show (xw_up G 2 (pc_S v 2 1 S1)) 3 = pc_B v 3 A from by rw [xw_up_n (by decide), g3])), (show (xw_up G 2 (pc_S v 2 1 S1)) 4 = pc_S v 4 3 Q from (show (xw_up G 2 (pc_S v 2 1 S1)) 4 = pc_S v 4 3 Q from by rw [xw_up_n (by decide), g4])), (show (xw_up G 2 (pc_S v 2 1 S1)) 5 = pc_P v (nI e, nI a) from (show (xw_up G 2 (pc_S v 2 1 S1)) 5 = pP v (nI e) (nI a) from by rw [xw_up_n (by decide), g5])), (fun j9 h9 => by rw [xw_up_n (by omega)]; exact gK j9 h9), (show (xw_up G 2 (pc_S v 2 1 S1)) 18 = pc_T v t from (show (xw_up G 2 (pc_S v 2 1 S1)) 18 = pc_T v t from by rw [xw_up_n (by decide), g18])), (show (xw_up G 2 (pc_S v 2 1 S1)) 19 = pc_R v rd from (show (xw_up G 2 (pc_S v 2 1 S1)) 19 = pc_R v rd from by rw [xw_up_n (by decide), g19])), (show (xw_up G 2 (pc_S v 2 1 S1)) 20 = pc_W  sw from (show (xw_up G 2 (pc_S v 2 1 S1)) 20 = pc_W  sw from by rw [xw_up_n (by decide), g20]))⟩, (fun g h9 => by rw [xw_up_n (by omega)])⟩
      rw [← step_ag _ _ (RecS_od' hn30 hS1).2 hag]
      simp [q_step, c15, s21_0, s21_1]
    by_cases s21_2 : w = 2
    · refine xj_swIn (tgt := 66) (off := 45) hk dX7_step_21 (by rw [s21_2]; decide) (by rw [s21_2]; decide) (by rw [s21_2]; decide) (by decide) ?_
      refine xj_aload_n (i := 3) hk dX7_step_66 rfl rfl ?_
      refine xj_iload hk dX7_step_67 rfl ?_
      refine xj_callV hk hz (fr1 := 0) (lo1 := 0) (r1 := some (.int (sm (fun j => if (bk_ra B) j = -1 then 0 else if stepR B S1 n x < (bk_ra B) j then 0 else (sl_ad S1) j) n))) (As := [.int (stepR B S1 n x)]) (st := []) (st2 := [.int (sm (fun j => if (bk_ra B) j = -1 then 0 else if stepR B S1 n x < (bk_ra B) j then 0 else (sl_ad S1) j) n)]) (G1 := xw_up G 2 (pc_S v 2 1 S1)) ml_X7_222 (c_X4_admittedUpTo (n := n) (show (xw_up G 2 (pc_S v 2 1 S1)) 2 = pc_S v 2 1 S1 from xw_up_s) (show (xw_up G 2 (pc_S v 2 1 S1)) 1 = pc_B v 1 B from (show (xw_up G 2 (pc_S v 2 1 S1)) 1 = pc_B v 1 B from by rw [xw_up_n (by decide), g1])) (by decide) hio hn30 (stepR B S1 n x)) (xw_at xw_up_s rfl) rfl dX7_step_69 ⟨Nat.le_of_ble_eq_true rfl, Nat.le_of_ble_eq_true rfl⟩ rfl (Nat.le_of_ble_eq_true rfl) rfl rfl ?_
      refine xj_ireturn hk hz dX7_step_72 ?_
      refine ⟨?_, ⟨okb, he12, ha12, hK0, hl700, htl, S1, A, Q, rd, sw, (Rec_okO hn30 hS1), okQ, (show (xw_up G 2 (pc_S v 2 1 S1)) 0 = pc_X v from (show (xw_up G 2 (pc_S v 2 1 S1)) 0 = pc_X v from by rw [xw_up_n (by decide), g0])), (show (xw_up G 2 (pc_S v 2 1 S1)) 1 = pc_B v 1 B from (show (xw_up G 2 (pc_S v 2 1 S1)) 1 = pc_B v 1 B from by rw [xw_up_n (by decide), g1])), (show (xw_up G 2 (pc_S v 2 1 S1)) 2 = pc_S v 2 1 S1 from xw_up_s), (show (xw_up G 2 (pc_S v 2 1 S1)) 3 = pc_B v 3 A from (show (xw_up G 2 (pc_S v 2 1 S1)) 3 = pc_B v 3 A from by rw [xw_up_n (by decide), g3])), (show (xw_up G 2 (pc_S v 2 1 S1)) 4 = pc_S v 4 3 Q from (show (xw_up G 2 (pc_S v 2 1 S1)) 4 = pc_S v 4 3 Q from by rw [xw_up_n (by decide), g4])), (show (xw_up G 2 (pc_S v 2 1 S1)) 5 = pc_P v (nI e, nI a) from (show (xw_up G 2 (pc_S v 2 1 S1)) 5 = pP v (nI e) (nI a) from by rw [xw_up_n (by decide), g5])), (fun j9 h9 => by rw [xw_up_n (by omega)]; exact gK j9 h9), (show (xw_up G 2 (pc_S v 2 1 S1)) 18 = pc_T v t from (show (xw_up G 2 (pc_S v 2 1 S1)) 18 = pc_T v t from by rw [xw_up_n (by decide), g18])), (show (xw_up G 2 (pc_S v 2 1 S1)) 19 = pc_R v rd from (show (xw_up G 2 (pc_S v 2 1 S1)) 19 = pc_R v rd from by rw [xw_up_n (by decide), g19])), (show (xw_up G 2 (pc_S v 2 1 S1)) 20 = pc_W  sw from (show (xw_up G 2 (pc_S v 2 1 S1)) 20 = pc_W  sw from by rw [xw_up_n (by decide), g20]))⟩, (fun g h9 => by rw [xw_up_n (by omega)])⟩
      rw [← step_ag _ _ (RecS_od' hn30 hS1).2 hag]
      simp [q_step, c15, s21_0, s21_1, s21_2]
    by_cases s21_3 : w = 3
    · refine xj_swIn (tgt := 73) (off := 52) hk dX7_step_21 (by rw [s21_3]; decide) (by rw [s21_3]; decide) (by rw [s21_3]; decide) (by decide) ?_
      refine xj_aload_n (i := 3) hk dX7_step_73 rfl rfl ?_
      refine xj_iload hk dX7_step_74 rfl ?_
      refine xj_callV hk hz (fr1 := 1) (lo1 := 25) (r1 := some (.int (sm (sel (bk_ra B) (stepR B S1 n x) (sl_so S1)) n))) (As := [.int (stepR B S1 n x)]) (st := []) (st2 := [.int (sm (sel (bk_ra B) (stepR B S1 n x) (sl_so S1)) n)]) (G1 := xw_up G 2 (pc_S v 2 1 S1)) ml_X7_237 (c_X4_soldAtRate (n := n) (show (xw_up G 2 (pc_S v 2 1 S1)) 2 = pc_S v 2 1 S1 from xw_up_s) (show (xw_up G 2 (pc_S v 2 1 S1)) 1 = pc_B v 1 B from (show (xw_up G 2 (pc_S v 2 1 S1)) 1 = pc_B v 1 B from by rw [xw_up_n (by decide), g1])) (by decide) hio hn30 (stepR B S1 n x)) (xw_at xw_up_s rfl) rfl dX7_step_76 ⟨Nat.le_of_ble_eq_true rfl, Nat.le_of_ble_eq_true rfl⟩ rfl (Nat.le_of_ble_eq_true rfl) rfl rfl ?_
      refine xj_ireturn hk hz dX7_step_79 ?_
      refine ⟨?_, ⟨okb, he12, ha12, hK0, hl700, htl, S1, A, Q, rd, sw, (Rec_okO hn30 hS1), okQ, (show (xw_up G 2 (pc_S v 2 1 S1)) 0 = pc_X v from (show (xw_up G 2 (pc_S v 2 1 S1)) 0 = pc_X v from by rw [xw_up_n (by decide), g0])), (show (xw_up G 2 (pc_S v 2 1 S1)) 1 = pc_B v 1 B from (show (xw_up G 2 (pc_S v 2 1 S1)) 1 = pc_B v 1 B from by rw [xw_up_n (by decide), g1])), (show (xw_up G 2 (pc_S v 2 1 S1)) 2 = pc_S v 2 1 S1 from xw_up_s), (show (xw_up G 2 (pc_S v 2 1 S1)) 3 = pc_B v 3 A from (show (xw_up G 2 (pc_S v 2 1 S1)) 3 = pc_B v 3 A from by rw [xw_up_n (by decide), g3])), (show (xw_up G 2 (pc_S v 2 1 S1)) 4 = pc_S v 4 3 Q from (show (xw_up G 2 (pc_S v 2 1 S1)) 4 = pc_S v 4 3 Q from by rw [xw_up_n (by decide), g4])), (show (xw_up G 2 (pc_S v 2 1 S1)) 5 = pc_P v (nI e, nI a) from (show (xw_up G 2 (pc_S v 2 1 S1)) 5 = pP v (nI e) (nI a) from by rw [xw_up_n (by decide), g5])), (fun j9 h9 => by rw [xw_up_n (by omega)]; exact gK j9 h9), (show (xw_up G 2 (pc_S v 2 1 S1)) 18 = pc_T v t from (show (xw_up G 2 (pc_S v 2 1 S1)) 18 = pc_T v t from by rw [xw_up_n (by decide), g18])), (show (xw_up G 2 (pc_S v 2 1 S1)) 19 = pc_R v rd from (show (xw_up G 2 (pc_S v 2 1 S1)) 19 = pc_R v rd from by rw [xw_up_n (by decide), g19])), (show (xw_up G 2 (pc_S v 2 1 S1)) 20 = pc_W  sw from (show (xw_up G 2 (pc_S v 2 1 S1)) 20 = pc_W  sw from by rw [xw_up_n (by decide), g20]))⟩, (fun g h9 => by rw [xw_up_n (by omega)])⟩
      rw [← step_ag _ _ (RecS_od' hn30 hS1).2 hag]
      simp [q_step, c15, s21_0, s21_1, s21_2, s21_3]
    by_cases s21_4 : w = 4
    · refine xj_swIn (tgt := 80) (off := 59) hk dX7_step_21 (by rw [s21_4]; decide) (by rw [s21_4]; decide) (by rw [s21_4]; decide) (by decide) ?_
      refine xj_aload_n (i := 3) hk dX7_step_80 rfl rfl ?_
      refine xj_iload hk dX7_step_81 rfl ?_
      refine xj_callV hk hz (fr1 := 0) (lo1 := 0) (r1 := some (.int (sm (fun j => if (bk_ra B) j = stepR B S1 n x then (if (sl_ad S1) j ≤ 0 then 0 else 1) else 0) n))) (As := [.int (stepR B S1 n x)]) (st := []) (st2 := [.int (sm (fun j => if (bk_ra B) j = stepR B S1 n x then (if (sl_ad S1) j ≤ 0 then 0 else 1) else 0) n)]) (G1 := xw_up G 2 (pc_S v 2 1 S1)) ml_X7_240 (c_X4_bidsAt (n := n) (show (xw_up G 2 (pc_S v 2 1 S1)) 2 = pc_S v 2 1 S1 from xw_up_s) (show (xw_up G 2 (pc_S v 2 1 S1)) 1 = pc_B v 1 B from (show (xw_up G 2 (pc_S v 2 1 S1)) 1 = pc_B v 1 B from by rw [xw_up_n (by decide), g1])) (by decide) hio hn30 (stepR B S1 n x)) (xw_at xw_up_s rfl) rfl dX7_step_83 ⟨Nat.le_of_ble_eq_true rfl, Nat.le_of_ble_eq_true rfl⟩ rfl (Nat.le_of_ble_eq_true rfl) rfl rfl ?_
      refine xj_ireturn hk hz dX7_step_86 ?_
      refine ⟨?_, ⟨okb, he12, ha12, hK0, hl700, htl, S1, A, Q, rd, sw, (Rec_okO hn30 hS1), okQ, (show (xw_up G 2 (pc_S v 2 1 S1)) 0 = pc_X v from (show (xw_up G 2 (pc_S v 2 1 S1)) 0 = pc_X v from by rw [xw_up_n (by decide), g0])), (show (xw_up G 2 (pc_S v 2 1 S1)) 1 = pc_B v 1 B from (show (xw_up G 2 (pc_S v 2 1 S1)) 1 = pc_B v 1 B from by rw [xw_up_n (by decide), g1])), (show (xw_up G 2 (pc_S v 2 1 S1)) 2 = pc_S v 2 1 S1 from xw_up_s), (show (xw_up G 2 (pc_S v 2 1 S1)) 3 = pc_B v 3 A from (show (xw_up G 2 (pc_S v 2 1 S1)) 3 = pc_B v 3 A from by rw [xw_up_n (by decide), g3])), (show (xw_up G 2 (pc_S v 2 1 S1)) 4 = pc_S v 4 3 Q from (show (xw_up G 2 (pc_S v 2 1 S1)) 4 = pc_S v 4 3 Q from by rw [xw_up_n (by decide), g4])), (show (xw_up G 2 (pc_S v 2 1 S1)) 5 = pc_P v (nI e, nI a) from (show (xw_up G 2 (pc_S v 2 1 S1)) 5 = pP v (nI e) (nI a) from by rw [xw_up_n (by decide), g5])), (fun j9 h9 => by rw [xw_up_n (by omega)]; exact gK j9 h9), (show (xw_up G 2 (pc_S v 2 1 S1)) 18 = pc_T v t from (show (xw_up G 2 (pc_S v 2 1 S1)) 18 = pc_T v t from by rw [xw_up_n (by decide), g18])), (show (xw_up G 2 (pc_S v 2 1 S1)) 19 = pc_R v rd from (show (xw_up G 2 (pc_S v 2 1 S1)) 19 = pc_R v rd from by rw [xw_up_n (by decide), g19])), (show (xw_up G 2 (pc_S v 2 1 S1)) 20 = pc_W  sw from (show (xw_up G 2 (pc_S v 2 1 S1)) 20 = pc_W  sw from by rw [xw_up_n (by decide), g20]))⟩, (fun g h9 => by rw [xw_up_n (by omega)])⟩
      rw [← step_ag _ _ (RecS_od' hn30 hS1).2 hag]
      simp [q_step, c15, s21_0, s21_1, s21_2, s21_3, s21_4]
    refine xj_swOut (tgt := 87) hk dX7_step_21 (sw_out5 s21_0 s21_1 s21_2 s21_3 s21_4) (by decide) ?_
    refine xj_iconst (x := (-1)) hk dX7_step_87 (by decide) ?_
    refine xj_ireturn hk hz dX7_step_88 ?_
    refine ⟨?_, ⟨okb, he12, ha12, hK0, hl700, htl, S1, A, Q, rd, sw, (Rec_okO hn30 hS1), okQ, (show (xw_up G 2 (pc_S v 2 1 S1)) 0 = pc_X v from (show (xw_up G 2 (pc_S v 2 1 S1)) 0 = pc_X v from by rw [xw_up_n (by decide), g0])), (show (xw_up G 2 (pc_S v 2 1 S1)) 1 = pc_B v 1 B from (show (xw_up G 2 (pc_S v 2 1 S1)) 1 = pc_B v 1 B from by rw [xw_up_n (by decide), g1])), (show (xw_up G 2 (pc_S v 2 1 S1)) 2 = pc_S v 2 1 S1 from xw_up_s), (show (xw_up G 2 (pc_S v 2 1 S1)) 3 = pc_B v 3 A from (show (xw_up G 2 (pc_S v 2 1 S1)) 3 = pc_B v 3 A from by rw [xw_up_n (by decide), g3])), (show (xw_up G 2 (pc_S v 2 1 S1)) 4 = pc_S v 4 3 Q from (show (xw_up G 2 (pc_S v 2 1 S1)) 4 = pc_S v 4 3 Q from by rw [xw_up_n (by decide), g4])), (show (xw_up G 2 (pc_S v 2 1 S1)) 5 = pc_P v (nI e, nI a) from (show (xw_up G 2 (pc_S v 2 1 S1)) 5 = pP v (nI e) (nI a) from by rw [xw_up_n (by decide), g5])), (fun j9 h9 => by rw [xw_up_n (by omega)]; exact gK j9 h9), (show (xw_up G 2 (pc_S v 2 1 S1)) 18 = pc_T v t from (show (xw_up G 2 (pc_S v 2 1 S1)) 18 = pc_T v t from by rw [xw_up_n (by decide), g18])), (show (xw_up G 2 (pc_S v 2 1 S1)) 19 = pc_R v rd from (show (xw_up G 2 (pc_S v 2 1 S1)) 19 = pc_R v rd from by rw [xw_up_n (by decide), g19])), (show (xw_up G 2 (pc_S v 2 1 S1)) 20 = pc_W  sw from (show (xw_up G 2 (pc_S v 2 1 S1)) 20 = pc_W  sw from by rw [xw_up_n (by decide), g20]))⟩, (fun g h9 => by rw [xw_up_n (by omega)])⟩
    rw [← step_ag _ _ (RecS_od' hn30 hS1).2 hag]
    simp [q_step, c15, s21_0, s21_1, s21_2, s21_3, s21_4]
  · refine xj_iconst (x := (-1)) hk dX7_step_18 (by decide) ?_
    refine xj_ireturn hk hz dX7_step_19 ?_
    refine ⟨?_, ⟨okb, he12, ha12, hK0, hl700, htl, S1, A, Q, rd, sw, (Rec_okO hn30 hS1), okQ, (show (xw_up G 2 (pc_S v 2 1 S1)) 0 = pc_X v from (show (xw_up G 2 (pc_S v 2 1 S1)) 0 = pc_X v from by rw [xw_up_n (by decide), g0])), (show (xw_up G 2 (pc_S v 2 1 S1)) 1 = pc_B v 1 B from (show (xw_up G 2 (pc_S v 2 1 S1)) 1 = pc_B v 1 B from by rw [xw_up_n (by decide), g1])), (show (xw_up G 2 (pc_S v 2 1 S1)) 2 = pc_S v 2 1 S1 from xw_up_s), (show (xw_up G 2 (pc_S v 2 1 S1)) 3 = pc_B v 3 A from (show (xw_up G 2 (pc_S v 2 1 S1)) 3 = pc_B v 3 A from by rw [xw_up_n (by decide), g3])), (show (xw_up G 2 (pc_S v 2 1 S1)) 4 = pc_S v 4 3 Q from (show (xw_up G 2 (pc_S v 2 1 S1)) 4 = pc_S v 4 3 Q from by rw [xw_up_n (by decide), g4])), (show (xw_up G 2 (pc_S v 2 1 S1)) 5 = pc_P v (nI e, nI a) from (show (xw_up G 2 (pc_S v 2 1 S1)) 5 = pP v (nI e) (nI a) from by rw [xw_up_n (by decide), g5])), (fun j9 h9 => by rw [xw_up_n (by omega)]; exact gK j9 h9), (show (xw_up G 2 (pc_S v 2 1 S1)) 18 = pc_T v t from (show (xw_up G 2 (pc_S v 2 1 S1)) 18 = pc_T v t from by rw [xw_up_n (by decide), g18])), (show (xw_up G 2 (pc_S v 2 1 S1)) 19 = pc_R v rd from (show (xw_up G 2 (pc_S v 2 1 S1)) 19 = pc_R v rd from by rw [xw_up_n (by decide), g19])), (show (xw_up G 2 (pc_S v 2 1 S1)) 20 = pc_W  sw from (show (xw_up G 2 (pc_S v 2 1 S1)) 20 = pc_W  sw from by rw [xw_up_n (by decide), g20]))⟩, (fun g h9 => by rw [xw_up_n (by omega)])⟩
    rw [← step_ag _ _ (RecS_od' hn30 hS1).2 hag]
    simp [q_step, c15]

set_option maxHeartbeats 1000000 in
set_option maxRecDepth 10000 in
theorem c_X7_record {v : xw_V} {G : xw_G} {B : bk_T} {n r e a l : Nat} {K : Nat → bk_T} {t : tp_T} (hX : XB v G B n r e a K t l) (x : Int32) (w : Int32) : xk_Con v yX7_record cX7_record 4 (some .int) 1 21 [.ref (xw_ad v 0 0), .int x, .int w] G (fun r9 G' => r9 = some (.int (q_record B x w)) ∧ XB v G' B n r e a K t l ∧ XF G G') := by
  refine xk_of (ls0 := [some (.ref (xw_ad v 0 0)), some (.int x), some (.int w), none]) (by decide) rfl (Nat.le_of_ble_eq_true rfl) ?_
  intro κ z hk hz
  obtain ⟨okb, he12, ha12, hK0, hl700, htl, S, A, Q, rd, sw, okS, okQ, g0, g1, g2, g3, g4, g5, gK, g18, g19, g20⟩ := hX
  obtain ⟨hn, hn30, how, hhs, hr, hr8⟩ := id okb
  refine xj_aload_n (i := 0) hk dX7_record_0 rfl rfl ?_
  refine xj_getfield hk dX7_record_1 fl_X7_10 (xw_at g0 rfl) rfl ?_
  refine xj_getfield hk dX7_record_4 fl_X7_149 (xw_at g1 rfl) rfl ?_
  refine xj_astore_n (i := 3) (ls2 := [some (.ref (xw_ad v 0 0)), some (.int x), some (.int w), some (.ref (xw_ad v 1 7))]) hk dX7_record_7 rfl (by decide) rfl rfl ?_
  refine xj_aload_n (i := 3) hk dX7_record_8 rfl rfl ?_
  refine xj_iload_n (i := 1) hk dX7_record_9 rfl rfl ?_
  refine xj_callV hk hz (fr1 := 0) (lo1 := 0) (r1 := some (.int (xb (hasB (bk_ln B) x)))) (As := [.int x]) (st := []) (st2 := [.int (xb (hasB (bk_ln B) x))]) (G1 := G) ml_X7_269 (c_X1_hasLine (show G 1 = pc_B v 1 B from g1) x) (xw_at g1 rfl) rfl dX7_record_10 ⟨Nat.le_of_ble_eq_true rfl, Nat.le_of_ble_eq_true rfl⟩ rfl (Nat.le_of_ble_eq_true rfl) rfl rfl ?_
  refine xj_ifb_ne (tgt := 18) hk dX7_record_13 (by decide) (fun c13 => ?_) (fun c13 => ?_)
  · obtain ⟨j, hj_j, rfl⟩ := hasB_of hr (by omega) c13
    refine xj_iload_n (i := 2) hk dX7_record_18 rfl rfl ?_
    by_cases s19_0 : w = 0
    · refine xj_swIn (tgt := 44) (off := 25) hk dX7_record_19 (by rw [s19_0]; decide) (by rw [s19_0]; decide) (by rw [s19_0]; decide) (by decide) ?_
      refine xj_aload_n (i := 3) hk dX7_record_44 rfl rfl ?_
      refine xj_getfield hk dX7_record_45 fl_X7_272 (xw_at g1 rfl) rfl ?_
      refine xj_iload_n (i := 1) hk dX7_record_48 rfl rfl ?_
      refine xj_iaload (k := j) hk dX7_record_49 (xw_at g1 rfl) (xi_n (by omega) (by decide)) ?_
      refine xj_ireturn hk hz dX7_record_50 ?_
      refine ⟨?_, ⟨okb, he12, ha12, hK0, hl700, htl, S, A, Q, rd, sw, okS, okQ, (show G 0 = pc_X v from g0), (show G 1 = pc_B v 1 B from g1), (show G 2 = pc_S v 2 1 S from g2), (show G 3 = pc_B v 3 A from g3), (show G 4 = pc_S v 4 3 Q from g4), (show G 5 = pc_P v (nI e, nI a) from g5), gK, (show G 18 = pc_T v t from g18), (show G 19 = pc_R v rd from g19), (show G 20 = pc_W  sw from g20)⟩, (fun _ _ => rfl)⟩
      simp [q_record, c13, xn_nI (show j < 2 ^ 31 by omega), s19_0]
    by_cases s19_1 : w = 1
    · refine xj_swIn (tgt := 51) (off := 32) hk dX7_record_19 (by rw [s19_1]; decide) (by rw [s19_1]; decide) (by rw [s19_1]; decide) (by decide) ?_
      refine xj_aload_n (i := 3) hk dX7_record_51 rfl rfl ?_
      refine xj_getfield hk dX7_record_52 fl_X7_275 (xw_at g1 rfl) rfl ?_
      refine xj_iload_n (i := 1) hk dX7_record_55 rfl rfl ?_
      refine xj_iaload (k := j) hk dX7_record_56 (xw_at g1 rfl) (xi_n (by omega) (by decide)) ?_
      refine xj_ireturn hk hz dX7_record_57 ?_
      refine ⟨?_, ⟨okb, he12, ha12, hK0, hl700, htl, S, A, Q, rd, sw, okS, okQ, (show G 0 = pc_X v from g0), (show G 1 = pc_B v 1 B from g1), (show G 2 = pc_S v 2 1 S from g2), (show G 3 = pc_B v 3 A from g3), (show G 4 = pc_S v 4 3 Q from g4), (show G 5 = pc_P v (nI e, nI a) from g5), gK, (show G 18 = pc_T v t from g18), (show G 19 = pc_R v rd from g19), (show G 20 = pc_W  sw from g20)⟩, (fun _ _ => rfl)⟩
      simp [q_record, c13, xn_nI (show j < 2 ^ 31 by omega), s19_0, s19_1]
    by_cases s19_2 : w = 2
    · refine xj_swIn (tgt := 58) (off := 39) hk dX7_record_19 (by rw [s19_2]; decide) (by rw [s19_2]; decide) (by rw [s19_2]; decide) (by decide) ?_
      refine xj_aload_n (i := 3) hk dX7_record_58 rfl rfl ?_
      refine xj_getfield hk dX7_record_59 fl_X7_278 (xw_at g1 rfl) rfl ?_
      refine xj_iload_n (i := 1) hk dX7_record_62 rfl rfl ?_
      refine xj_iaload (k := j) hk dX7_record_63 (xw_at g1 rfl) (xi_n (by omega) (by decide)) ?_
      refine xj_ireturn hk hz dX7_record_64 ?_
      refine ⟨?_, ⟨okb, he12, ha12, hK0, hl700, htl, S, A, Q, rd, sw, okS, okQ, (show G 0 = pc_X v from g0), (show G 1 = pc_B v 1 B from g1), (show G 2 = pc_S v 2 1 S from g2), (show G 3 = pc_B v 3 A from g3), (show G 4 = pc_S v 4 3 Q from g4), (show G 5 = pc_P v (nI e, nI a) from g5), gK, (show G 18 = pc_T v t from g18), (show G 19 = pc_R v rd from g19), (show G 20 = pc_W  sw from g20)⟩, (fun _ _ => rfl)⟩
      simp [q_record, c13, xn_nI (show j < 2 ^ 31 by omega), s19_0, s19_1, s19_2]
    refine xj_swOut (tgt := 65) hk dX7_record_19 (sw_out3 s19_0 s19_1 s19_2) (by decide) ?_
    refine xj_iconst (x := (-1)) hk dX7_record_65 (by decide) ?_
    refine xj_ireturn hk hz dX7_record_66 ?_
    refine ⟨?_, ⟨okb, he12, ha12, hK0, hl700, htl, S, A, Q, rd, sw, okS, okQ, (show G 0 = pc_X v from g0), (show G 1 = pc_B v 1 B from g1), (show G 2 = pc_S v 2 1 S from g2), (show G 3 = pc_B v 3 A from g3), (show G 4 = pc_S v 4 3 Q from g4), (show G 5 = pc_P v (nI e, nI a) from g5), gK, (show G 18 = pc_T v t from g18), (show G 19 = pc_R v rd from g19), (show G 20 = pc_W  sw from g20)⟩, (fun _ _ => rfl)⟩
    simp [q_record, c13, xn_nI (show j < 2 ^ 31 by omega), s19_0, s19_1, s19_2]
  · refine xj_iconst (x := (-1)) hk dX7_record_16 (by decide) ?_
    refine xj_ireturn hk hz dX7_record_17 ?_
    refine ⟨?_, ⟨okb, he12, ha12, hK0, hl700, htl, S, A, Q, rd, sw, okS, okQ, (show G 0 = pc_X v from g0), (show G 1 = pc_B v 1 B from g1), (show G 2 = pc_S v 2 1 S from g2), (show G 3 = pc_B v 3 A from g3), (show G 4 = pc_S v 4 3 Q from g4), (show G 5 = pc_P v (nI e, nI a) from g5), gK, (show G 18 = pc_T v t from g18), (show G 19 = pc_R v rd from g19), (show G 20 = pc_W  sw from g20)⟩, (fun _ _ => rfl)⟩
    simp [q_record, c13]

set_option maxHeartbeats 1000000 in
set_option maxRecDepth 10000 in
theorem c_X7_recordPaid {v : xw_V} {G : xw_G} {B : bk_T} {n r e a l : Nat} {K : Nat → bk_T} {t : tp_T} (hX : XB v G B n r e a K t l) (x : Int32) : xk_Con v yX7_recordPaid cX7_recordPaid 2 (some .long) 1 21 [.ref (xw_ad v 0 0), .int x] G (fun r9 G' => r9 = some (.long (q_rpaid B x)) ∧ XB v G' B n r e a K t l ∧ XF G G') := by
  refine xk_of (ls0 := [some (.ref (xw_ad v 0 0)), some (.int x)]) (by decide) rfl (Nat.le_of_ble_eq_true rfl) ?_
  intro κ z hk hz
  obtain ⟨okb, he12, ha12, hK0, hl700, htl, S, A, Q, rd, sw, okS, okQ, g0, g1, g2, g3, g4, g5, gK, g18, g19, g20⟩ := hX
  obtain ⟨hn, hn30, how, hhs, hr, hr8⟩ := id okb
  refine xj_aload_n (i := 0) hk dX7_recordPaid_0 rfl rfl ?_
  refine xj_getfield hk dX7_recordPaid_1 fl_X7_10 (xw_at g0 rfl) rfl ?_
  refine xj_getfield hk dX7_recordPaid_4 fl_X7_149 (xw_at g1 rfl) rfl ?_
  refine xj_iload_n (i := 1) hk dX7_recordPaid_7 rfl rfl ?_
  refine xj_callV hk hz (fr1 := 0) (lo1 := 0) (r1 := some (.int (xb (hasB (bk_ln B) x)))) (As := [.int x]) (st := []) (st2 := [.int (xb (hasB (bk_ln B) x))]) (G1 := G) ml_X7_269 (c_X1_hasLine (show G 1 = pc_B v 1 B from g1) x) (xw_at g1 rfl) rfl dX7_recordPaid_8 ⟨Nat.le_of_ble_eq_true rfl, Nat.le_of_ble_eq_true rfl⟩ rfl (Nat.le_of_ble_eq_true rfl) rfl rfl ?_
  refine xj_ifb_eq (tgt := 29) hk dX7_recordPaid_11 (by decide) (fun c11 => ?_) (fun c11 => ?_)
  · refine xj_ldc2 (x := -1) hk dX7_recordPaid_29 kl_X7_197 ?_
    refine xj_lreturn hk hz dX7_recordPaid_32 ?_
    refine ⟨?_, ⟨okb, he12, ha12, hK0, hl700, htl, S, A, Q, rd, sw, okS, okQ, (show G 0 = pc_X v from g0), (show G 1 = pc_B v 1 B from g1), (show G 2 = pc_S v 2 1 S from g2), (show G 3 = pc_B v 3 A from g3), (show G 4 = pc_S v 4 3 Q from g4), (show G 5 = pc_P v (nI e, nI a) from g5), gK, (show G 18 = pc_T v t from g18), (show G 19 = pc_R v rd from g19), (show G 20 = pc_W  sw from g20)⟩, (fun _ _ => rfl)⟩
    simp [q_rpaid, c11]
  · obtain ⟨j, hj_j, rfl⟩ := hasB_of hr (by omega) c11
    refine xj_aload_n (i := 0) hk dX7_recordPaid_14 rfl rfl ?_
    refine xj_getfield hk dX7_recordPaid_15 fl_X7_10 (xw_at g0 rfl) rfl ?_
    refine xj_getfield hk dX7_recordPaid_18 fl_X7_149 (xw_at g1 rfl) rfl ?_
    refine xj_getfield hk dX7_recordPaid_21 fl_X7_289 (xw_at g1 rfl) rfl ?_
    refine xj_iload_n (i := 1) hk dX7_recordPaid_24 rfl rfl ?_
    refine xj_laload (k := j) hk dX7_recordPaid_25 (xw_at g1 rfl) (xi_n (by omega) (by decide)) ?_
    refine xj_goto (tgt := 32) hk dX7_recordPaid_26 (by decide) ?_
    refine xj_lreturn hk hz dX7_recordPaid_32 ?_
    refine ⟨?_, ⟨okb, he12, ha12, hK0, hl700, htl, S, A, Q, rd, sw, okS, okQ, (show G 0 = pc_X v from g0), (show G 1 = pc_B v 1 B from g1), (show G 2 = pc_S v 2 1 S from g2), (show G 3 = pc_B v 3 A from g3), (show G 4 = pc_S v 4 3 Q from g4), (show G 5 = pc_P v (nI e, nI a) from g5), gK, (show G 18 = pc_T v t from g18), (show G 19 = pc_R v rd from g19), (show G 20 = pc_W  sw from g20)⟩, (fun _ _ => rfl)⟩
    simp [q_rpaid, c11, xn_nI (show j < 2 ^ 31 by omega)]

set_option maxHeartbeats 1000000 in
set_option maxRecDepth 10000 in
theorem c_X7_records {v : xw_V} {G : xw_G} {B : bk_T} {n r e a l : Nat} {K : Nat → bk_T} {t : tp_T} (hX : XB v G B n r e a K t l) (w : Int32) : xk_Con v yX7_records cX7_records 2 (some .int) 2 43 [.ref (xw_ad v 0 0), .int w] G (fun r9 G' => r9 = some (.int (q_records B r w)) ∧ XB v G' B n r e a K t l ∧ XF G G') := by
  refine xk_of (ls0 := [some (.ref (xw_ad v 0 0)), some (.int w)]) (by decide) rfl (Nat.le_of_ble_eq_true rfl) ?_
  intro κ z hk hz
  obtain ⟨okb, he12, ha12, hK0, hl700, htl, S, A, Q, rd, sw, okS, okQ, g0, g1, g2, g3, g4, g5, gK, g18, g19, g20⟩ := hX
  obtain ⟨hn, hn30, how, hhs, hr, hr8⟩ := id okb
  refine xj_iload_n (i := 1) hk dX7_records_0 rfl rfl ?_
  by_cases s1_0 : w = 0
  · refine xj_swIn (tgt := 32) (off := 31) hk dX7_records_1 (by rw [s1_0]; decide) (by rw [s1_0]; decide) (by rw [s1_0]; decide) (by decide) ?_
    refine xj_aload_n (i := 0) hk dX7_records_32 rfl rfl ?_
    refine xj_getfield hk dX7_records_33 fl_X7_10 (xw_at g0 rfl) rfl ?_
    refine xj_getfield hk dX7_records_36 fl_X7_149 (xw_at g1 rfl) rfl ?_
    refine xj_callV hk hz (fr1 := 0) (lo1 := 0) (r1 := some (.int (sm (bk_so B) r))) (As := []) (st := []) (st2 := [.int (sm (bk_so B) r)]) (G1 := G) ml_X7_279 (c_X1_soldInAll (r := r) (show G 1 = pc_B v 1 B from g1) hr hr8) (xw_at g1 rfl) rfl dX7_records_39 ⟨Nat.le_of_ble_eq_true rfl, Nat.le_of_ble_eq_true rfl⟩ rfl (Nat.le_of_ble_eq_true rfl) rfl rfl ?_
    refine xj_ireturn hk hz dX7_records_42 ?_
    refine ⟨?_, ⟨okb, he12, ha12, hK0, hl700, htl, S, A, Q, rd, sw, okS, okQ, (show G 0 = pc_X v from g0), (show G 1 = pc_B v 1 B from g1), (show G 2 = pc_S v 2 1 S from g2), (show G 3 = pc_B v 3 A from g3), (show G 4 = pc_S v 4 3 Q from g4), (show G 5 = pc_P v (nI e, nI a) from g5), gK, (show G 18 = pc_T v t from g18), (show G 19 = pc_R v rd from g19), (show G 20 = pc_W  sw from g20)⟩, (fun _ _ => rfl)⟩
    simp [q_records, s1_0]
  by_cases s1_1 : w = 1
  · refine xj_swIn (tgt := 43) (off := 42) hk dX7_records_1 (by rw [s1_1]; decide) (by rw [s1_1]; decide) (by rw [s1_1]; decide) (by decide) ?_
    refine xj_aload_n (i := 0) hk dX7_records_43 rfl rfl ?_
    refine xj_getfield hk dX7_records_44 fl_X7_10 (xw_at g0 rfl) rfl ?_
    refine xj_getfield hk dX7_records_47 fl_X7_149 (xw_at g1 rfl) rfl ?_
    refine xj_callV hk hz (fr1 := 0) (lo1 := 0) (r1 := some (.int (mst (bk_st B) r))) (As := []) (st := []) (st2 := [.int (mst (bk_st B) r)]) (G1 := G) ml_X7_280 (c_X1_meanStop (r := r) (show G 1 = pc_B v 1 B from g1) hr hr8) (xw_at g1 rfl) rfl dX7_records_50 ⟨Nat.le_of_ble_eq_true rfl, Nat.le_of_ble_eq_true rfl⟩ rfl (Nat.le_of_ble_eq_true rfl) rfl rfl ?_
    refine xj_ireturn hk hz dX7_records_53 ?_
    refine ⟨?_, ⟨okb, he12, ha12, hK0, hl700, htl, S, A, Q, rd, sw, okS, okQ, (show G 0 = pc_X v from g0), (show G 1 = pc_B v 1 B from g1), (show G 2 = pc_S v 2 1 S from g2), (show G 3 = pc_B v 3 A from g3), (show G 4 = pc_S v 4 3 Q from g4), (show G 5 = pc_P v (nI e, nI a) from g5), gK, (show G 18 = pc_T v t from g18), (show G 19 = pc_R v rd from g19), (show G 20 = pc_W  sw from g20)⟩, (fun _ _ => rfl)⟩
    simp [q_records, s1_0, s1_1]
  by_cases s1_2 : w = 2
  · refine xj_swIn (tgt := 54) (off := 53) hk dX7_records_1 (by rw [s1_2]; decide) (by rw [s1_2]; decide) (by rw [s1_2]; decide) (by decide) ?_
    refine xj_aload_n (i := 0) hk dX7_records_54 rfl rfl ?_
    refine xj_getfield hk dX7_records_55 fl_X7_10 (xw_at g0 rfl) rfl ?_
    refine xj_getfield hk dX7_records_58 fl_X7_149 (xw_at g1 rfl) rfl ?_
    refine xj_callV hk hz (fr1 := 1) (lo1 := 21) (r1 := some (.int (gst (bk_st B) r))) (As := []) (st := []) (st2 := [.int (gst (bk_st B) r)]) (G1 := G) ml_X7_283 (c_X1_greatestStop (r := r) (show G 1 = pc_B v 1 B from g1) hr hr8) (xw_at g1 rfl) rfl dX7_records_61 ⟨Nat.le_of_ble_eq_true rfl, Nat.le_of_ble_eq_true rfl⟩ rfl (Nat.le_of_ble_eq_true rfl) rfl rfl ?_
    refine xj_ireturn hk hz dX7_records_64 ?_
    refine ⟨?_, ⟨okb, he12, ha12, hK0, hl700, htl, S, A, Q, rd, sw, okS, okQ, (show G 0 = pc_X v from g0), (show G 1 = pc_B v 1 B from g1), (show G 2 = pc_S v 2 1 S from g2), (show G 3 = pc_B v 3 A from g3), (show G 4 = pc_S v 4 3 Q from g4), (show G 5 = pc_P v (nI e, nI a) from g5), gK, (show G 18 = pc_T v t from g18), (show G 19 = pc_R v rd from g19), (show G 20 = pc_W  sw from g20)⟩, (fun _ _ => rfl)⟩
    simp [q_records, s1_0, s1_1, s1_2]
  by_cases s1_3 : w = 3
  · refine xj_swIn (tgt := 65) (off := 64) hk dX7_records_1 (by rw [s1_3]; decide) (by rw [s1_3]; decide) (by rw [s1_3]; decide) (by decide) ?_
    refine xj_aload_n (i := 0) hk dX7_records_65 rfl rfl ?_
    refine xj_getfield hk dX7_records_66 fl_X7_10 (xw_at g0 rfl) rfl ?_
    refine xj_getfield hk dX7_records_69 fl_X7_149 (xw_at g1 rfl) rfl ?_
    refine xj_callV hk hz (fr1 := 0) (lo1 := 0) (r1 := some (.int (lst (bk_st B) r))) (As := []) (st := []) (st2 := [.int (lst (bk_st B) r)]) (G1 := G) ml_X7_286 (c_X1_leastStop (r := r) (show G 1 = pc_B v 1 B from g1) hr hr8) (xw_at g1 rfl) rfl dX7_records_72 ⟨Nat.le_of_ble_eq_true rfl, Nat.le_of_ble_eq_true rfl⟩ rfl (Nat.le_of_ble_eq_true rfl) rfl rfl ?_
    refine xj_ireturn hk hz dX7_records_75 ?_
    refine ⟨?_, ⟨okb, he12, ha12, hK0, hl700, htl, S, A, Q, rd, sw, okS, okQ, (show G 0 = pc_X v from g0), (show G 1 = pc_B v 1 B from g1), (show G 2 = pc_S v 2 1 S from g2), (show G 3 = pc_B v 3 A from g3), (show G 4 = pc_S v 4 3 Q from g4), (show G 5 = pc_P v (nI e, nI a) from g5), gK, (show G 18 = pc_T v t from g18), (show G 19 = pc_R v rd from g19), (show G 20 = pc_W  sw from g20)⟩, (fun _ _ => rfl)⟩
    simp [q_records, s1_0, s1_1, s1_2, s1_3]
  refine xj_swOut (tgt := 76) hk dX7_records_1 (sw_out4 s1_0 s1_1 s1_2 s1_3) (by decide) ?_
  refine xj_iconst (x := (-1)) hk dX7_records_76 (by decide) ?_
  refine xj_ireturn hk hz dX7_records_77 ?_
  refine ⟨?_, ⟨okb, he12, ha12, hK0, hl700, htl, S, A, Q, rd, sw, okS, okQ, (show G 0 = pc_X v from g0), (show G 1 = pc_B v 1 B from g1), (show G 2 = pc_S v 2 1 S from g2), (show G 3 = pc_B v 3 A from g3), (show G 4 = pc_S v 4 3 Q from g4), (show G 5 = pc_P v (nI e, nI a) from g5), gK, (show G 18 = pc_T v t from g18), (show G 19 = pc_R v rd from g19), (show G 20 = pc_W  sw from g20)⟩, (fun _ _ => rfl)⟩
  simp [q_records, s1_0, s1_1, s1_2, s1_3]

set_option maxHeartbeats 1000000 in
set_option maxRecDepth 10000 in
theorem c_X7_count {v : xw_V} {G : xw_G} {B : bk_T} {n r e a l : Nat} {K : Nat → bk_T} {t : tp_T} (hX : XB v G B n r e a K t l) (w : Int32) : xk_Con v yX7_count cX7_count 2 (some .int) 6 137 [.ref (xw_ad v 0 0), .int w] G (fun r9 G' => r9 = some (.int (q_count B (kR B n) n r a l w)) ∧ XB v G' B n r e a K t l ∧ XF G G') := by
  refine xk_of (ls0 := [some (.ref (xw_ad v 0 0)), some (.int w)]) (by decide) rfl (Nat.le_of_ble_eq_true rfl) ?_
  intro κ z hk hz
  obtain ⟨okb, he12, ha12, hK0, hl700, htl, S, A, Q, rd, sw, okS, okQ, g0, g1, g2, g3, g4, g5, gK, g18, g19, g20⟩ := hX
  obtain ⟨hn, hn30, how, hhs, hr, hr8⟩ := id okb
  refine xj_iload_n (i := 1) hk dX7_count_0 rfl rfl ?_
  by_cases s1_0 : w = 0
  · refine xj_swIn (tgt := 52) (off := 51) hk dX7_count_1 (by rw [s1_0]; decide) (by rw [s1_0]; decide) (by rw [s1_0]; decide) (by decide) ?_
    refine xj_aload_n (i := 0) hk dX7_count_52 rfl rfl ?_
    refine xj_getfield hk dX7_count_53 fl_X7_10 (xw_at g0 rfl) rfl ?_
    refine xj_getfield hk dX7_count_56 fl_X7_83 (xw_at g1 rfl) rfl ?_
    refine xj.eqi (x' := nI n) hn ?_
    refine xj_ireturn hk hz dX7_count_59 ?_
    refine ⟨?_, ⟨okb, he12, ha12, hK0, hl700, htl, S, A, Q, rd, sw, okS, okQ, (show G 0 = pc_X v from g0), (show G 1 = pc_B v 1 B from g1), (show G 2 = pc_S v 2 1 S from g2), (show G 3 = pc_B v 3 A from g3), (show G 4 = pc_S v 4 3 Q from g4), (show G 5 = pc_P v (nI e, nI a) from g5), gK, (show G 18 = pc_T v t from g18), (show G 19 = pc_R v rd from g19), (show G 20 = pc_W  sw from g20)⟩, (fun _ _ => rfl)⟩
    simp [q_count, s1_0]
  by_cases s1_1 : w = 1
  · refine xj_swIn (tgt := 60) (off := 59) hk dX7_count_1 (by rw [s1_1]; decide) (by rw [s1_1]; decide) (by rw [s1_1]; decide) (by decide) ?_
    refine xj_aload_n (i := 0) hk dX7_count_60 rfl rfl ?_
    refine xj_getfield hk dX7_count_61 fl_X7_10 (xw_at g0 rfl) rfl ?_
    refine xj_callV hk hz (fr1 := 0) (lo1 := 0) (r1 := some (.int (sm (fun j => if (bk_ra B) j = -1 then 1 else 0) n))) (As := []) (st := []) (st2 := [.int (sm (fun j => if (bk_ra B) j = -1 then 1 else 0) n)]) (G1 := G) ml_X7_301 (c_X0_plainBids (n := n) (show G 1 = pc_B v 1 B from g1) hn hn30 ) (xw_at g1 rfl) rfl dX7_count_64 ⟨Nat.le_of_ble_eq_true rfl, Nat.le_of_ble_eq_true rfl⟩ rfl (Nat.le_of_ble_eq_true rfl) rfl rfl ?_
    refine xj_ireturn hk hz dX7_count_67 ?_
    refine ⟨?_, ⟨okb, he12, ha12, hK0, hl700, htl, S, A, Q, rd, sw, okS, okQ, (show G 0 = pc_X v from g0), (show G 1 = pc_B v 1 B from g1), (show G 2 = pc_S v 2 1 S from g2), (show G 3 = pc_B v 3 A from g3), (show G 4 = pc_S v 4 3 Q from g4), (show G 5 = pc_P v (nI e, nI a) from g5), gK, (show G 18 = pc_T v t from g18), (show G 19 = pc_R v rd from g19), (show G 20 = pc_W  sw from g20)⟩, (fun _ _ => rfl)⟩
    simp [q_count, s1_0, s1_1]
  by_cases s1_2 : w = 2
  · refine xj_swIn (tgt := 68) (off := 67) hk dX7_count_1 (by rw [s1_2]; decide) (by rw [s1_2]; decide) (by rw [s1_2]; decide) (by decide) ?_
    refine xj_aload_n (i := 0) hk dX7_count_68 rfl rfl ?_
    refine xj_getfield hk dX7_count_69 fl_X7_10 (xw_at g0 rfl) rfl ?_
    refine xj_getfield hk dX7_count_72 fl_X7_149 (xw_at g1 rfl) rfl ?_
    refine xj_getfield hk dX7_count_75 fl_X7_304 (xw_at g1 rfl) rfl ?_
    refine xj.eqi (x' := nI r) hr ?_
    refine xj_ireturn hk hz dX7_count_78 ?_
    refine ⟨?_, ⟨okb, he12, ha12, hK0, hl700, htl, S, A, Q, rd, sw, okS, okQ, (show G 0 = pc_X v from g0), (show G 1 = pc_B v 1 B from g1), (show G 2 = pc_S v 2 1 S from g2), (show G 3 = pc_B v 3 A from g3), (show G 4 = pc_S v 4 3 Q from g4), (show G 5 = pc_P v (nI e, nI a) from g5), gK, (show G 18 = pc_T v t from g18), (show G 19 = pc_R v rd from g19), (show G 20 = pc_W  sw from g20)⟩, (fun _ _ => rfl)⟩
    simp [q_count, s1_0, s1_1, s1_2]
  by_cases s1_3 : w = 3
  · refine xj_swIn (tgt := 79) (off := 78) hk dX7_count_1 (by rw [s1_3]; decide) (by rw [s1_3]; decide) (by rw [s1_3]; decide) (by decide) ?_
    refine xj_aload_n (i := 0) hk dX7_count_79 rfl rfl ?_
    refine xj_getfield hk dX7_count_80 fl_X7_34 (xw_at g0 rfl) rfl ?_
    refine xj_getfield hk dX7_count_83 fl_X7_178 (xw_at g5 rfl) rfl ?_
    refine xj_ireturn hk hz dX7_count_86 ?_
    refine ⟨?_, ⟨okb, he12, ha12, hK0, hl700, htl, S, A, Q, rd, sw, okS, okQ, (show G 0 = pc_X v from g0), (show G 1 = pc_B v 1 B from g1), (show G 2 = pc_S v 2 1 S from g2), (show G 3 = pc_B v 3 A from g3), (show G 4 = pc_S v 4 3 Q from g4), (show G 5 = pc_P v (nI e, nI a) from g5), gK, (show G 18 = pc_T v t from g18), (show G 19 = pc_R v rd from g19), (show G 20 = pc_W  sw from g20)⟩, (fun _ _ => rfl)⟩
    simp [q_count, s1_0, s1_1, s1_2, s1_3]
  by_cases s1_4 : w = 4
  · refine xj_swIn (tgt := 87) (off := 86) hk dX7_count_1 (by rw [s1_4]; decide) (by rw [s1_4]; decide) (by rw [s1_4]; decide) (by decide) ?_
    refine xj_aload_n (i := 0) hk dX7_count_87 rfl rfl ?_
    refine xj_getfield hk dX7_count_88 fl_X7_41 (xw_at g0 rfl) rfl ?_
    refine xj_getfield hk dX7_count_91 fl_X7_69 (xw_at g18 rfl) rfl ?_
    refine xj.eqi (x' := nI l) htl ?_
    refine xj_ireturn hk hz dX7_count_94 ?_
    refine ⟨?_, ⟨okb, he12, ha12, hK0, hl700, htl, S, A, Q, rd, sw, okS, okQ, (show G 0 = pc_X v from g0), (show G 1 = pc_B v 1 B from g1), (show G 2 = pc_S v 2 1 S from g2), (show G 3 = pc_B v 3 A from g3), (show G 4 = pc_S v 4 3 Q from g4), (show G 5 = pc_P v (nI e, nI a) from g5), gK, (show G 18 = pc_T v t from g18), (show G 19 = pc_R v rd from g19), (show G 20 = pc_W  sw from g20)⟩, (fun _ _ => rfl)⟩
    simp [q_count, s1_0, s1_1, s1_2, s1_3, s1_4]
  by_cases s1_5 : w = 5
  · refine xj_swIn (tgt := 95) (off := 94) hk dX7_count_1 (by rw [s1_5]; decide) (by rw [s1_5]; decide) (by rw [s1_5]; decide) (by decide) ?_
    refine xj_aload_n (i := 0) hk dX7_count_95 rfl rfl ?_
    refine xj_callVE hk hz (fr1 := 5) (lo1 := 117) (As := []) (st := []) ml_X7_142 (c_X7_standing (n := n) (show G 0 = pc_X v from g0) (show G 1 = pc_B v 1 B from g1) (show G 2 = pc_S v 2 1 S from g2) okS hn hn30 how hhs) (xw_at g0 rfl) rfl dX7_count_96 ⟨Nat.le_of_ble_eq_true rfl, Nat.le_of_ble_eq_true rfl⟩ rfl (Nat.le_of_ble_eq_true rfl) rfl ?_
    rintro _ _ ⟨S1, hS1, rfl, rfl⟩
    have hag := kR_ag how hhs hS1
    have hio := RecS_io hS1
    show xj v κ _ z (xw_up G 2 (pc_S v 2 1 S1)) 99 _ [.ref (xw_ad v 2 0)]
    refine xj_iconst (x := 1) hk dX7_count_99 (by decide) ?_
    refine xj_callV hk hz (fr1 := 0) (lo1 := 0) (r1 := some (.int (sm (fun j => if (sl_wy S1) j = 1 then 1 else 0) n))) (As := [.int 1]) (st := []) (st2 := [.int (sm (fun j => if (sl_wy S1) j = 1 then 1 else 0) n)]) (G1 := xw_up G 2 (pc_S v 2 1 S1)) ml_X7_307 (c_X4_bidsWithWhy (n := n) (show (xw_up G 2 (pc_S v 2 1 S1)) 2 = pc_S v 2 1 S1 from xw_up_s) (show (xw_up G 2 (pc_S v 2 1 S1)) 1 = pc_B v 1 B from (show (xw_up G 2 (pc_S v 2 1 S1)) 1 = pc_B v 1 B from by rw [xw_up_n (by decide), g1])) (by decide) hio hn30 1) (xw_at xw_up_s rfl) rfl dX7_count_100 ⟨Nat.le_of_ble_eq_true rfl, Nat.le_of_ble_eq_true rfl⟩ rfl (Nat.le_of_ble_eq_true rfl) rfl rfl ?_
    refine xj_ireturn hk hz dX7_count_103 ?_
    refine ⟨?_, ⟨okb, he12, ha12, hK0, hl700, htl, S1, A, Q, rd, sw, (Rec_okO hn30 hS1), okQ, (show (xw_up G 2 (pc_S v 2 1 S1)) 0 = pc_X v from (show (xw_up G 2 (pc_S v 2 1 S1)) 0 = pc_X v from by rw [xw_up_n (by decide), g0])), (show (xw_up G 2 (pc_S v 2 1 S1)) 1 = pc_B v 1 B from (show (xw_up G 2 (pc_S v 2 1 S1)) 1 = pc_B v 1 B from by rw [xw_up_n (by decide), g1])), (show (xw_up G 2 (pc_S v 2 1 S1)) 2 = pc_S v 2 1 S1 from xw_up_s), (show (xw_up G 2 (pc_S v 2 1 S1)) 3 = pc_B v 3 A from (show (xw_up G 2 (pc_S v 2 1 S1)) 3 = pc_B v 3 A from by rw [xw_up_n (by decide), g3])), (show (xw_up G 2 (pc_S v 2 1 S1)) 4 = pc_S v 4 3 Q from (show (xw_up G 2 (pc_S v 2 1 S1)) 4 = pc_S v 4 3 Q from by rw [xw_up_n (by decide), g4])), (show (xw_up G 2 (pc_S v 2 1 S1)) 5 = pc_P v (nI e, nI a) from (show (xw_up G 2 (pc_S v 2 1 S1)) 5 = pP v (nI e) (nI a) from by rw [xw_up_n (by decide), g5])), (fun j9 h9 => by rw [xw_up_n (by omega)]; exact gK j9 h9), (show (xw_up G 2 (pc_S v 2 1 S1)) 18 = pc_T v t from (show (xw_up G 2 (pc_S v 2 1 S1)) 18 = pc_T v t from by rw [xw_up_n (by decide), g18])), (show (xw_up G 2 (pc_S v 2 1 S1)) 19 = pc_R v rd from (show (xw_up G 2 (pc_S v 2 1 S1)) 19 = pc_R v rd from by rw [xw_up_n (by decide), g19])), (show (xw_up G 2 (pc_S v 2 1 S1)) 20 = pc_W  sw from (show (xw_up G 2 (pc_S v 2 1 S1)) 20 = pc_W  sw from by rw [xw_up_n (by decide), g20]))⟩, (fun g h9 => by rw [xw_up_n (by omega)])⟩
    rw [← q_count_ag _ hag]
    simp [q_count, s1_0, s1_1, s1_2, s1_3, s1_4, s1_5]
  by_cases s1_6 : w = 6
  · refine xj_swIn (tgt := 104) (off := 103) hk dX7_count_1 (by rw [s1_6]; decide) (by rw [s1_6]; decide) (by rw [s1_6]; decide) (by decide) ?_
    refine xj_aload_n (i := 0) hk dX7_count_104 rfl rfl ?_
    refine xj_callVE hk hz (fr1 := 5) (lo1 := 117) (As := []) (st := []) ml_X7_142 (c_X7_standing (n := n) (show G 0 = pc_X v from g0) (show G 1 = pc_B v 1 B from g1) (show G 2 = pc_S v 2 1 S from g2) okS hn hn30 how hhs) (xw_at g0 rfl) rfl dX7_count_105 ⟨Nat.le_of_ble_eq_true rfl, Nat.le_of_ble_eq_true rfl⟩ rfl (Nat.le_of_ble_eq_true rfl) rfl ?_
    rintro _ _ ⟨S1, hS1, rfl, rfl⟩
    have hag := kR_ag how hhs hS1
    have hio := RecS_io hS1
    show xj v κ _ z (xw_up G 2 (pc_S v 2 1 S1)) 108 _ [.ref (xw_ad v 2 0)]
    refine xj_iconst (x := 2) hk dX7_count_108 (by decide) ?_
    refine xj_callV hk hz (fr1 := 0) (lo1 := 0) (r1 := some (.int (sm (fun j => if (sl_wy S1) j = 2 then 1 else 0) n))) (As := [.int 2]) (st := []) (st2 := [.int (sm (fun j => if (sl_wy S1) j = 2 then 1 else 0) n)]) (G1 := xw_up G 2 (pc_S v 2 1 S1)) ml_X7_307 (c_X4_bidsWithWhy (n := n) (show (xw_up G 2 (pc_S v 2 1 S1)) 2 = pc_S v 2 1 S1 from xw_up_s) (show (xw_up G 2 (pc_S v 2 1 S1)) 1 = pc_B v 1 B from (show (xw_up G 2 (pc_S v 2 1 S1)) 1 = pc_B v 1 B from by rw [xw_up_n (by decide), g1])) (by decide) hio hn30 2) (xw_at xw_up_s rfl) rfl dX7_count_109 ⟨Nat.le_of_ble_eq_true rfl, Nat.le_of_ble_eq_true rfl⟩ rfl (Nat.le_of_ble_eq_true rfl) rfl rfl ?_
    refine xj_ireturn hk hz dX7_count_112 ?_
    refine ⟨?_, ⟨okb, he12, ha12, hK0, hl700, htl, S1, A, Q, rd, sw, (Rec_okO hn30 hS1), okQ, (show (xw_up G 2 (pc_S v 2 1 S1)) 0 = pc_X v from (show (xw_up G 2 (pc_S v 2 1 S1)) 0 = pc_X v from by rw [xw_up_n (by decide), g0])), (show (xw_up G 2 (pc_S v 2 1 S1)) 1 = pc_B v 1 B from (show (xw_up G 2 (pc_S v 2 1 S1)) 1 = pc_B v 1 B from by rw [xw_up_n (by decide), g1])), (show (xw_up G 2 (pc_S v 2 1 S1)) 2 = pc_S v 2 1 S1 from xw_up_s), (show (xw_up G 2 (pc_S v 2 1 S1)) 3 = pc_B v 3 A from (show (xw_up G 2 (pc_S v 2 1 S1)) 3 = pc_B v 3 A from by rw [xw_up_n (by decide), g3])), (show (xw_up G 2 (pc_S v 2 1 S1)) 4 = pc_S v 4 3 Q from (show (xw_up G 2 (pc_S v 2 1 S1)) 4 = pc_S v 4 3 Q from by rw [xw_up_n (by decide), g4])), (show (xw_up G 2 (pc_S v 2 1 S1)) 5 = pc_P v (nI e, nI a) from (show (xw_up G 2 (pc_S v 2 1 S1)) 5 = pP v (nI e) (nI a) from by rw [xw_up_n (by decide), g5])), (fun j9 h9 => by rw [xw_up_n (by omega)]; exact gK j9 h9), (show (xw_up G 2 (pc_S v 2 1 S1)) 18 = pc_T v t from (show (xw_up G 2 (pc_S v 2 1 S1)) 18 = pc_T v t from by rw [xw_up_n (by decide), g18])), (show (xw_up G 2 (pc_S v 2 1 S1)) 19 = pc_R v rd from (show (xw_up G 2 (pc_S v 2 1 S1)) 19 = pc_R v rd from by rw [xw_up_n (by decide), g19])), (show (xw_up G 2 (pc_S v 2 1 S1)) 20 = pc_W  sw from (show (xw_up G 2 (pc_S v 2 1 S1)) 20 = pc_W  sw from by rw [xw_up_n (by decide), g20]))⟩, (fun g h9 => by rw [xw_up_n (by omega)])⟩
    rw [← q_count_ag _ hag]
    simp [q_count, s1_0, s1_1, s1_2, s1_3, s1_4, s1_5, s1_6]
  by_cases s1_7 : w = 7
  · refine xj_swIn (tgt := 113) (off := 112) hk dX7_count_1 (by rw [s1_7]; decide) (by rw [s1_7]; decide) (by rw [s1_7]; decide) (by decide) ?_
    refine xj_aload_n (i := 0) hk dX7_count_113 rfl rfl ?_
    refine xj_getfield hk dX7_count_114 fl_X7_10 (xw_at g0 rfl) rfl ?_
    refine xj_callV hk hz (fr1 := 2) (lo1 := 46) (r1 := some (.int (sm (fun j => if sm (sel (bk_hs B) (nI j) (bk_lo B)) n ≤ 0 then 0 else 1) 8))) (As := []) (st := []) (st2 := [.int (sm (fun j => if sm (sel (bk_hs B) (nI j) (bk_lo B)) n ≤ 0 then 0 else 1) 8)]) (G1 := G) ml_X7_310 (c_X0_housesWithBids (n := n) (show G 1 = pc_B v 1 B from g1) hn hn30 ) (xw_at g1 rfl) rfl dX7_count_117 ⟨Nat.le_of_ble_eq_true rfl, Nat.le_of_ble_eq_true rfl⟩ rfl (Nat.le_of_ble_eq_true rfl) rfl rfl ?_
    refine xj_ireturn hk hz dX7_count_120 ?_
    refine ⟨?_, ⟨okb, he12, ha12, hK0, hl700, htl, S, A, Q, rd, sw, okS, okQ, (show G 0 = pc_X v from g0), (show G 1 = pc_B v 1 B from g1), (show G 2 = pc_S v 2 1 S from g2), (show G 3 = pc_B v 3 A from g3), (show G 4 = pc_S v 4 3 Q from g4), (show G 5 = pc_P v (nI e, nI a) from g5), gK, (show G 18 = pc_T v t from g18), (show G 19 = pc_R v rd from g19), (show G 20 = pc_W  sw from g20)⟩, (fun _ _ => rfl)⟩
    simp [q_count, s1_0, s1_1, s1_2, s1_3, s1_4, s1_5, s1_6, s1_7]
  by_cases s1_8 : w = 8
  · refine xj_swIn (tgt := 121) (off := 120) hk dX7_count_1 (by rw [s1_8]; decide) (by rw [s1_8]; decide) (by rw [s1_8]; decide) (by decide) ?_
    refine xj_aload_n (i := 0) hk dX7_count_121 rfl rfl ?_
    refine xj_getfield hk dX7_count_122 fl_X7_10 (xw_at g0 rfl) rfl ?_
    refine xj_callV hk hz (fr1 := 1) (lo1 := 23) (r1 := some (.int (sm (fun j => if ownd (bk_ow B) (nI j) ≤ 0 then 0 else 1) 8))) (As := []) (st := []) (st2 := [.int (sm (fun j => if ownd (bk_ow B) (nI j) ≤ 0 then 0 else 1) 8)]) (G1 := G) ml_X7_313 (c_X0_ownersInAll (show G 1 = pc_B v 1 B from g1) ) (xw_at g1 rfl) rfl dX7_count_125 ⟨Nat.le_of_ble_eq_true rfl, Nat.le_of_ble_eq_true rfl⟩ rfl (Nat.le_of_ble_eq_true rfl) rfl rfl ?_
    refine xj_ireturn hk hz dX7_count_128 ?_
    refine ⟨?_, ⟨okb, he12, ha12, hK0, hl700, htl, S, A, Q, rd, sw, okS, okQ, (show G 0 = pc_X v from g0), (show G 1 = pc_B v 1 B from g1), (show G 2 = pc_S v 2 1 S from g2), (show G 3 = pc_B v 3 A from g3), (show G 4 = pc_S v 4 3 Q from g4), (show G 5 = pc_P v (nI e, nI a) from g5), gK, (show G 18 = pc_T v t from g18), (show G 19 = pc_R v rd from g19), (show G 20 = pc_W  sw from g20)⟩, (fun _ _ => rfl)⟩
    simp [q_count, s1_0, s1_1, s1_2, s1_3, s1_4, s1_5, s1_6, s1_7, s1_8]
  refine xj_swOut (tgt := 129) hk dX7_count_1 (sw_out9 s1_0 s1_1 s1_2 s1_3 s1_4 s1_5 s1_6 s1_7 s1_8) (by decide) ?_
  refine xj_iconst (x := (-1)) hk dX7_count_129 (by decide) ?_
  refine xj_ireturn hk hz dX7_count_130 ?_
  refine ⟨?_, ⟨okb, he12, ha12, hK0, hl700, htl, S, A, Q, rd, sw, okS, okQ, (show G 0 = pc_X v from g0), (show G 1 = pc_B v 1 B from g1), (show G 2 = pc_S v 2 1 S from g2), (show G 3 = pc_B v 3 A from g3), (show G 4 = pc_S v 4 3 Q from g4), (show G 5 = pc_P v (nI e, nI a) from g5), gK, (show G 18 = pc_T v t from g18), (show G 19 = pc_R v rd from g19), (show G 20 = pc_W  sw from g20)⟩, (fun _ _ => rfl)⟩
  simp [q_count, s1_0, s1_1, s1_2, s1_3, s1_4, s1_5, s1_6, s1_7, s1_8]


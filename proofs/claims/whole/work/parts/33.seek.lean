noncomputable def p_offer (B : bk_T) (n : Nat) (r : Int32) (i : Nat) : Bool := !(decide (sl_st (kR (bk_wte B (xu (bk_te B) 0 (nI (i + 1)))) n) < r))
noncomputable def q_offer (B : bk_T) (n : Nat) (r : Int32) : Int32 := if isR r = true then (if fnd (p_offer B n r) 2000 < 2000 then nI (fnd (p_offer B n r) 2000 + 1) else -2) else -1
noncomputable def p_limit (B : bk_T) (n : Nat) (h y : Int32) (i : Nat) : Bool := !(decide (sm (sel (bk_hs B) h (sl_so (kR (bk_wte B (xu (bk_te B) 1 (nI (i + 1)))) n))) n < y))
noncomputable def q_limit (B : bk_T) (n : Nat) (h y : Int32) : Int32 := if isH h = true ∧ 1 ≤ y then (if fnd (p_limit B n h y) 100 < 100 then nI (fnd (p_limit B n h y) 100 + 1) else -2) else -1
noncomputable def p_share (B : bk_T) (n : Nat) (y : Int32) (i : Nat) : Bool := !(decide (sl_sp (kR (bk_wte B (xu (bk_te B) 2 (nI i))) n) < y))
noncomputable def q_share (B : bk_T) (n : Nat) (y : Int32) : Int32 := if 1 ≤ y then (if fnd (p_share B n y) 101 < 101 then nI (fnd (p_share B n y) 101) else -2) else -1
set_option maxHeartbeats 1000000 in
set_option maxRecDepth 10000 in
theorem l_X7_offerFor {v : xw_V} {κ : xk_K} {post : Option Value → xw_G → Prop} {z : Nat × Nat × Nat} {G : xw_G} {B : bk_T} {n : Nat} (hk : xk_Ok v κ yX7_offerFor cX7_offerFor 3 (some .int) 7 159) (hz : xk_zf κ = z) (g0 : G 0 = pc_X v) (hn30 : n ≤ 30) (how : okOw (bk_ow B)) (hhs : okHs (bk_hs B) n) (r1 : Int32) (kx : ∀ (A : bk_T) (Q : sl_T), okO Q → fnd (p_offer B n r1) 2000 = 2000 → xj v κ post z (xw_up (xw_up G 3 (pc_B v 3 A)) 4 (pc_S v 4 3 Q)) 50 [some (.ref (xw_ad v 0 0)), some (.int r1), some (.int (nI (2000 + 1)))] []) (kr : ∀ (i : Nat) (A : bk_T) (Q : sl_T), okO Q → i < 2000 → fnd (p_offer B n r1) 2000 = i → xj v κ post z (xw_up (xw_up G 3 (pc_B v 3 A)) 4 (pc_S v 4 3 Q)) 42 [some (.ref (xw_ad v 0 0)), some (.int r1), some (.int (nI (i + 1)))] []) : ∀ (m : Nat) (i : Nat) (A : bk_T) (Q : sl_T), 2000 - i < m → i ≤ 2000 → fnd (p_offer B n r1) i = i → (∃ x0, eqB n (bk_wte B (xu (bk_te B) 0 x0)) A) → bk_bi A = nI n → okO Q → xj v κ post z (xw_up (xw_up G 3 (pc_B v 3 A)) 4 (pc_S v 4 3 Q)) 22 [some (.ref (xw_ad v 0 0)), some (.int r1), some (.int (nI (i + 1)))] [] := by
  intro m
  induction m with
  | zero => intro i A Q h; exact absurd h (Nat.not_lt_zero _)
  | succ m ih =>
    intro i A Q hm hi hf he hnA okQ
    obtain ⟨x0, he⟩ := he
    refine xj_iload_n (i := 2) hk dX7_offerFor_22 rfl rfl ?_
    refine xj_sipush (x := 2000) hk dX7_offerFor_23 (by decide) ?_
    refine xj_icmp_gt (tgt := 50) hk dX7_offerFor_26 (by decide) (fun c26 => ?_) (fun c26 => ?_)
    · have c26 : 2000 < i + 1 := (nI_ltI (a := 2000) (b := i + 1) (by omega) (by omega)).mp c26
      have e9 : i = 2000 := by omega
      subst e9
      exact kx _ _ okQ hf
    · have c26 : ¬ 2000 < i + 1 := fun q => c26 ((nI_ltI (a := 2000) (b := i + 1) (by omega) (by omega)).mpr q)
      refine xj_aload_n (i := 0) hk dX7_offerFor_29 rfl rfl ?_
      refine xj_iconst (x := 0) hk dX7_offerFor_30 (by decide) ?_
      refine xj.eqi (x' := nI 0) rfl ?_
      refine xj_iload_n (i := 2) hk dX7_offerFor_31 rfl rfl ?_
      refine xj_callVE hk hz (fr1 := 6) (lo1 := 137) (As := [.int (nI 0), .int (nI (i + 1))]) (st := []) ml_X7_247 (c_X7_tryTerm (n := n) (k := 0) (B := B) (show (xw_up (xw_up G 3 (pc_B v 3 A)) 4 (pc_S v 4 3 Q)) 0 = pc_X v from (show (xw_up (xw_up G 3 (pc_B v 3 A)) 4 (pc_S v 4 3 Q)) 0 = pc_X v from by rw [xw_up_n (by decide), xw_up_n (by decide), g0])) (show (xw_up (xw_up G 3 (pc_B v 3 A)) 4 (pc_S v 4 3 Q)) 3 = pc_B v 3 A from (show (xw_up (xw_up G 3 (pc_B v 3 A)) 4 (pc_S v 4 3 Q)) 3 = pc_B v 3 A from by rw [xw_up_n (by decide), xw_up_s])) (show (xw_up (xw_up G 3 (pc_B v 3 A)) 4 (pc_S v 4 3 Q)) 4 = pc_S v 4 3 Q from xw_up_s) okQ hnA hn30 how hhs he (by decide) (nI (i + 1))) (xw_at (show (xw_up (xw_up G 3 (pc_B v 3 A)) 4 (pc_S v 4 3 Q)) 0 = pc_X v from by rw [xw_up_n (by decide), xw_up_n (by decide), g0]) rfl) rfl dX7_offerFor_32 ⟨Nat.le_of_ble_eq_true rfl, Nat.le_of_ble_eq_true rfl⟩ rfl (Nat.le_of_ble_eq_true rfl) rfl ?_
      rintro _ _ ⟨A1, S1, hA1, hnA1, hag, okQ1, hio1, rfl, rfl⟩
      refine xj.eqG (G' := xw_up (xw_up G 3 (pc_B v 3 A1)) 4 (pc_S v 4 3 S1)) up43 ?_
      show xj v κ _ z (xw_up (xw_up G 3 (pc_B v 3 A1)) 4 (pc_S v 4 3 S1)) 35 _ [.ref (xw_ad v 4 0)]
      refine xj_getfield hk dX7_offerFor_35 fl_X7_153 (xw_at xw_up_s rfl) rfl ?_
      refine xj.eqi (x' := sl_st (kR (bk_wte B (xu (bk_te B) 0 (nI (i + 1)))) n)) hag.2.2.2.2.2.2.2.2.1 ?_
      refine xj_iload_n (i := 1) hk dX7_offerFor_38 rfl rfl ?_
      refine xj_icmp_lt (tgt := 44) hk dX7_offerFor_39 (by decide) (fun c39 => ?_) (fun c39 => ?_)
      · refine xj_iinc (i := 2) (x2 := nI (i + 1 + 1)) (ls2 := [some (.ref (xw_ad v 0 0)), some (.int r1), some (.int (nI (i + 1 + 1)))]) hk dX7_offerFor_44 rfl (nI_1 (i + 1)) (by decide) rfl rfl ?_
        refine xj_goto (tgt := 22) hk dX7_offerFor_47 (by decide) ?_
        exact ih (i + 1) A1 S1 (by omega) (by omega) (fnd_no hf (by simp [p_offer, c39])) ⟨_, hA1⟩ hnA1 okQ1
      · exact kr i A1 S1 okQ1 (by omega) (fnd_at hf (by simp [p_offer, c39]) _ (by omega))

set_option maxHeartbeats 1000000 in
set_option maxRecDepth 10000 in
theorem c_X7_offerFor {v : xw_V} {G : xw_G} {B : bk_T} {n r e a l : Nat} {K : Nat → bk_T} {t : tp_T} (hX : XB v G B n r e a K t l) (r1 : Int32) : xk_Con v yX7_offerFor cX7_offerFor 3 (some .int) 7 159 [.ref (xw_ad v 0 0), .int r1] G (fun r9 G' => r9 = some (.int (q_offer B n r1)) ∧ XB v G' B n r e a K t l ∧ XF G G') := by
  refine xk_of (ls0 := [some (.ref (xw_ad v 0 0)), some (.int r1), none]) (by decide) rfl (Nat.le_of_ble_eq_true rfl) ?_
  intro κ z hk hz
  obtain ⟨okb, he12, ha12, hK0, hl700, htl, S, A, Q, rd, sw, okS, okQ, g0, g1, g2, g3, g4, g5, gK, g18, g19, g20⟩ := hX
  obtain ⟨hn, hn30, how, hhs, hr, hr8⟩ := id okb
  refine xj_iload_n (i := 1) hk dX7_offerFor_0 rfl rfl ?_
  refine xj_callS hk hz (fr1 := 0) (lo1 := 0) (r1 := some (.int (xb (isR r1)))) (As := [.int r1]) (st := []) (st2 := [.int (xb (isR r1))]) (G1 := G) ml_X7_86 (c_X7_isRate r1) dX7_offerFor_1 ⟨Nat.le_of_ble_eq_true rfl, Nat.le_of_ble_eq_true rfl⟩ rfl (Nat.le_of_ble_eq_true rfl) rfl rfl ?_
  refine xj_ifb_ne (tgt := 9) hk dX7_offerFor_4 (by decide) (fun c4 => ?_) (fun c4 => ?_)
  · refine xj_aload_n (i := 0) hk dX7_offerFor_9 rfl rfl ?_
    refine xj_getfield hk dX7_offerFor_10 fl_X7_25 (xw_at g0 rfl) rfl ?_
    refine xj_aload_n (i := 0) hk dX7_offerFor_13 rfl rfl ?_
    refine xj_getfield hk dX7_offerFor_14 fl_X7_10 (xw_at g0 rfl) rfl ?_
    refine xj_callVE hk hz (fr1 := 1) (lo1 := 22) (As := [.ref (xw_ad v 1 0)]) (st := []) ml_X7_77 (c_X0_copyFromE (n := n) (show G 3 = pc_B v 3 A from g3) (show G 1 = pc_B v 1 B from g1) (by decide) hn hn30) (xw_at g3 rfl) rfl dX7_offerFor_17 ⟨Nat.le_of_ble_eq_true rfl, Nat.le_of_ble_eq_true rfl⟩ rfl (Nat.le_of_ble_eq_true rfl) rfl ?_
    rintro _ _ ⟨rfl, C, hC, rfl⟩
    show xj v κ _ z (xw_up G 3 (pc_B v 3 C)) 20 _ []
    refine xj_iconst (x := 1) hk dX7_offerFor_20 (by decide) ?_
    refine xj_istore_n (i := 2) (ls2 := [some (.ref (xw_ad v 0 0)), some (.int r1), some (.int 1)]) hk dX7_offerFor_21 rfl (by decide) rfl rfl ?_
    refine xj.to (ls' := [some (.ref (xw_ad v 0 0)), some (.int (r1)), some (.int (nI (0 + 1)))]) rfl ?_
    refine xj.eqG (G' := xw_up (xw_up G 3 (pc_B v 3 C)) 4 (pc_S v 4 3 Q)) (xw_up_same (show (xw_up G 3 (pc_B v 3 C)) 4 = pc_S v 4 3 Q from (show (xw_up G 3 (pc_B v 3 C)) 4 = pc_S v 4 3 Q from by rw [xw_up_n (by decide), g4]))).symm ?_
    refine l_X7_offerFor hk hz g0 hn30 how hhs r1 (fun A1 S1 okQ1 hx => ?_) (fun i A1 S1 okQ1 hi hx => ?_) (2000 + 1) 0 C Q (by omega) (by omega) rfl ⟨_, (show eqB n (bk_wte B (xu (bk_te B) 0 (bk_te B 0))) C from by rw [wte_self]; exact hC.1)⟩ hC.2.1 okQ
    · refine xj_bipush (x := (-2)) hk dX7_offerFor_50 (by decide) ?_
      refine xj_ireturn hk hz dX7_offerFor_52 ?_
      refine ⟨?_, ⟨okb, he12, ha12, hK0, hl700, htl, S, A1, S1, rd, sw, okS, okQ1, (show (xw_up (xw_up G 3 (pc_B v 3 A1)) 4 (pc_S v 4 3 S1)) 0 = pc_X v from (show (xw_up (xw_up G 3 (pc_B v 3 A1)) 4 (pc_S v 4 3 S1)) 0 = pc_X v from by rw [xw_up_n (by decide), xw_up_n (by decide), g0])), (show (xw_up (xw_up G 3 (pc_B v 3 A1)) 4 (pc_S v 4 3 S1)) 1 = pc_B v 1 B from (show (xw_up (xw_up G 3 (pc_B v 3 A1)) 4 (pc_S v 4 3 S1)) 1 = pc_B v 1 B from by rw [xw_up_n (by decide), xw_up_n (by decide), g1])), (show (xw_up (xw_up G 3 (pc_B v 3 A1)) 4 (pc_S v 4 3 S1)) 2 = pc_S v 2 1 S from (show (xw_up (xw_up G 3 (pc_B v 3 A1)) 4 (pc_S v 4 3 S1)) 2 = pc_S v 2 1 S from by rw [xw_up_n (by decide), xw_up_n (by decide), g2])), (show (xw_up (xw_up G 3 (pc_B v 3 A1)) 4 (pc_S v 4 3 S1)) 3 = pc_B v 3 A1 from (show (xw_up (xw_up G 3 (pc_B v 3 A1)) 4 (pc_S v 4 3 S1)) 3 = pc_B v 3 A1 from by rw [xw_up_n (by decide), xw_up_s])), (show (xw_up (xw_up G 3 (pc_B v 3 A1)) 4 (pc_S v 4 3 S1)) 4 = pc_S v 4 3 S1 from xw_up_s), (show (xw_up (xw_up G 3 (pc_B v 3 A1)) 4 (pc_S v 4 3 S1)) 5 = pc_P v (nI e, nI a) from (show (xw_up (xw_up G 3 (pc_B v 3 A1)) 4 (pc_S v 4 3 S1)) 5 = pP v (nI e) (nI a) from by rw [xw_up_n (by decide), xw_up_n (by decide), g5])), (fun j9 h9 => by rw [xw_up_n (by omega), xw_up_n (by omega)]; exact gK j9 h9), (show (xw_up (xw_up G 3 (pc_B v 3 A1)) 4 (pc_S v 4 3 S1)) 18 = pc_T v t from (show (xw_up (xw_up G 3 (pc_B v 3 A1)) 4 (pc_S v 4 3 S1)) 18 = pc_T v t from by rw [xw_up_n (by decide), xw_up_n (by decide), g18])), (show (xw_up (xw_up G 3 (pc_B v 3 A1)) 4 (pc_S v 4 3 S1)) 19 = pc_R v rd from (show (xw_up (xw_up G 3 (pc_B v 3 A1)) 4 (pc_S v 4 3 S1)) 19 = pc_R v rd from by rw [xw_up_n (by decide), xw_up_n (by decide), g19])), (show (xw_up (xw_up G 3 (pc_B v 3 A1)) 4 (pc_S v 4 3 S1)) 20 = pc_W  sw from (show (xw_up (xw_up G 3 (pc_B v 3 A1)) 4 (pc_S v 4 3 S1)) 20 = pc_W  sw from by rw [xw_up_n (by decide), xw_up_n (by decide), g20]))⟩, (fun g h9 => by rw [xw_up_n (by omega), xw_up_n (by omega)])⟩
      simp only [q_offer]; rw [if_pos c4, if_neg (by rw [hx]; exact Nat.lt_irrefl _)]
    · refine xj_iload_n (i := 2) hk dX7_offerFor_42 rfl rfl ?_
      refine xj_ireturn hk hz dX7_offerFor_43 ?_
      refine ⟨?_, ⟨okb, he12, ha12, hK0, hl700, htl, S, A1, S1, rd, sw, okS, okQ1, (show (xw_up (xw_up G 3 (pc_B v 3 A1)) 4 (pc_S v 4 3 S1)) 0 = pc_X v from (show (xw_up (xw_up G 3 (pc_B v 3 A1)) 4 (pc_S v 4 3 S1)) 0 = pc_X v from by rw [xw_up_n (by decide), xw_up_n (by decide), g0])), (show (xw_up (xw_up G 3 (pc_B v 3 A1)) 4 (pc_S v 4 3 S1)) 1 = pc_B v 1 B from (show (xw_up (xw_up G 3 (pc_B v 3 A1)) 4 (pc_S v 4 3 S1)) 1 = pc_B v 1 B from by rw [xw_up_n (by decide), xw_up_n (by decide), g1])), (show (xw_up (xw_up G 3 (pc_B v 3 A1)) 4 (pc_S v 4 3 S1)) 2 = pc_S v 2 1 S from (show (xw_up (xw_up G 3 (pc_B v 3 A1)) 4 (pc_S v 4 3 S1)) 2 = pc_S v 2 1 S from by rw [xw_up_n (by decide), xw_up_n (by decide), g2])), (show (xw_up (xw_up G 3 (pc_B v 3 A1)) 4 (pc_S v 4 3 S1)) 3 = pc_B v 3 A1 from (show (xw_up (xw_up G 3 (pc_B v 3 A1)) 4 (pc_S v 4 3 S1)) 3 = pc_B v 3 A1 from by rw [xw_up_n (by decide), xw_up_s])), (show (xw_up (xw_up G 3 (pc_B v 3 A1)) 4 (pc_S v 4 3 S1)) 4 = pc_S v 4 3 S1 from xw_up_s), (show (xw_up (xw_up G 3 (pc_B v 3 A1)) 4 (pc_S v 4 3 S1)) 5 = pc_P v (nI e, nI a) from (show (xw_up (xw_up G 3 (pc_B v 3 A1)) 4 (pc_S v 4 3 S1)) 5 = pP v (nI e) (nI a) from by rw [xw_up_n (by decide), xw_up_n (by decide), g5])), (fun j9 h9 => by rw [xw_up_n (by omega), xw_up_n (by omega)]; exact gK j9 h9), (show (xw_up (xw_up G 3 (pc_B v 3 A1)) 4 (pc_S v 4 3 S1)) 18 = pc_T v t from (show (xw_up (xw_up G 3 (pc_B v 3 A1)) 4 (pc_S v 4 3 S1)) 18 = pc_T v t from by rw [xw_up_n (by decide), xw_up_n (by decide), g18])), (show (xw_up (xw_up G 3 (pc_B v 3 A1)) 4 (pc_S v 4 3 S1)) 19 = pc_R v rd from (show (xw_up (xw_up G 3 (pc_B v 3 A1)) 4 (pc_S v 4 3 S1)) 19 = pc_R v rd from by rw [xw_up_n (by decide), xw_up_n (by decide), g19])), (show (xw_up (xw_up G 3 (pc_B v 3 A1)) 4 (pc_S v 4 3 S1)) 20 = pc_W  sw from (show (xw_up (xw_up G 3 (pc_B v 3 A1)) 4 (pc_S v 4 3 S1)) 20 = pc_W  sw from by rw [xw_up_n (by decide), xw_up_n (by decide), g20]))⟩, (fun g h9 => by rw [xw_up_n (by omega), xw_up_n (by omega)])⟩
      simp only [q_offer]; rw [if_pos c4, if_pos (by rw [hx]; exact hi), hx]
  · refine xj_iconst (x := (-1)) hk dX7_offerFor_7 (by decide) ?_
    refine xj_ireturn hk hz dX7_offerFor_8 ?_
    refine ⟨?_, ⟨okb, he12, ha12, hK0, hl700, htl, S, A, Q, rd, sw, okS, okQ, (show G 0 = pc_X v from g0), (show G 1 = pc_B v 1 B from g1), (show G 2 = pc_S v 2 1 S from g2), (show G 3 = pc_B v 3 A from g3), (show G 4 = pc_S v 4 3 Q from g4), (show G 5 = pc_P v (nI e, nI a) from g5), gK, (show G 18 = pc_T v t from g18), (show G 19 = pc_R v rd from g19), (show G 20 = pc_W  sw from g20)⟩, (fun _ _ => rfl)⟩
    simp [q_offer, c4]

set_option maxHeartbeats 1000000 in
set_option maxRecDepth 10000 in
theorem l_X7_limitFor {v : xw_V} {κ : xk_K} {post : Option Value → xw_G → Prop} {z : Nat × Nat × Nat} {G : xw_G} {B : bk_T} {n : Nat} (hk : xk_Ok v κ yX7_limitFor cX7_limitFor 4 (some .int) 7 159) (hz : xk_zf κ = z) (g0 : G 0 = pc_X v) (hn30 : n ≤ 30) (how : okOw (bk_ow B)) (hhs : okHs (bk_hs B) n) (h y : Int32) (kx : ∀ (A : bk_T) (Q : sl_T), okO Q → fnd (p_limit B n h y) 100 = 100 → xj v κ post z (xw_up (xw_up G 3 (pc_B v 3 A)) 4 (pc_S v 4 3 Q)) 62 [some (.ref (xw_ad v 0 0)), some (.int h), some (.int y), some (.int (nI (100 + 1)))] []) (kr : ∀ (i : Nat) (A : bk_T) (Q : sl_T), okO Q → i < 100 → fnd (p_limit B n h y) 100 = i → xj v κ post z (xw_up (xw_up G 3 (pc_B v 3 A)) 4 (pc_S v 4 3 Q)) 54 [some (.ref (xw_ad v 0 0)), some (.int h), some (.int y), some (.int (nI (i + 1)))] []) : ∀ (m : Nat) (i : Nat) (A : bk_T) (Q : sl_T), 100 - i < m → i ≤ 100 → fnd (p_limit B n h y) i = i → (∃ x0, eqB n (bk_wte B (xu (bk_te B) 1 x0)) A) → bk_bi A = nI n → okO Q → xj v κ post z (xw_up (xw_up G 3 (pc_B v 3 A)) 4 (pc_S v 4 3 Q)) 31 [some (.ref (xw_ad v 0 0)), some (.int h), some (.int y), some (.int (nI (i + 1)))] [] := by
  intro m
  induction m with
  | zero => intro i A Q h; exact absurd h (Nat.not_lt_zero _)
  | succ m ih =>
    intro i A Q hm hi hf he hnA okQ
    obtain ⟨x0, he⟩ := he
    refine xj_iload_n (i := 3) hk dX7_limitFor_31 rfl rfl ?_
    refine xj_getstat (q := xk_stats[2]) hk (List.getElem_mem _) dX7_limitFor_32 sl_X7_254 ?_
    refine xj_iconst (x := 1) hk dX7_limitFor_35 (by decide) ?_
    refine xj_staload (q := xk_stats[2]) (k := 1) hk (List.getElem_mem _) dX7_limitFor_36 (show xi 1 1 7 from (xi_d 1 7 (by decide))) ?_
    refine xj.eqi (x' := 100) rfl ?_
    refine xj_icmp_gt (tgt := 62) hk dX7_limitFor_37 (by decide) (fun c37 => ?_) (fun c37 => ?_)
    · have c37 : 100 < i + 1 := (nI_ltI (a := 100) (b := i + 1) (by omega) (by omega)).mp c37
      have e9 : i = 100 := by omega
      subst e9
      exact kx _ _ okQ hf
    · have c37 : ¬ 100 < i + 1 := fun q => c37 ((nI_ltI (a := 100) (b := i + 1) (by omega) (by omega)).mpr q)
      refine xj_aload_n (i := 0) hk dX7_limitFor_40 rfl rfl ?_
      refine xj_iconst (x := 1) hk dX7_limitFor_41 (by decide) ?_
      refine xj.eqi (x' := nI 1) rfl ?_
      refine xj_iload_n (i := 3) hk dX7_limitFor_42 rfl rfl ?_
      refine xj_callVE hk hz (fr1 := 6) (lo1 := 137) (As := [.int (nI 1), .int (nI (i + 1))]) (st := []) ml_X7_247 (c_X7_tryTerm (n := n) (k := 1) (B := B) (show (xw_up (xw_up G 3 (pc_B v 3 A)) 4 (pc_S v 4 3 Q)) 0 = pc_X v from (show (xw_up (xw_up G 3 (pc_B v 3 A)) 4 (pc_S v 4 3 Q)) 0 = pc_X v from by rw [xw_up_n (by decide), xw_up_n (by decide), g0])) (show (xw_up (xw_up G 3 (pc_B v 3 A)) 4 (pc_S v 4 3 Q)) 3 = pc_B v 3 A from (show (xw_up (xw_up G 3 (pc_B v 3 A)) 4 (pc_S v 4 3 Q)) 3 = pc_B v 3 A from by rw [xw_up_n (by decide), xw_up_s])) (show (xw_up (xw_up G 3 (pc_B v 3 A)) 4 (pc_S v 4 3 Q)) 4 = pc_S v 4 3 Q from xw_up_s) okQ hnA hn30 how hhs he (by decide) (nI (i + 1))) (xw_at (show (xw_up (xw_up G 3 (pc_B v 3 A)) 4 (pc_S v 4 3 Q)) 0 = pc_X v from by rw [xw_up_n (by decide), xw_up_n (by decide), g0]) rfl) rfl dX7_limitFor_43 ⟨Nat.le_of_ble_eq_true rfl, Nat.le_of_ble_eq_true rfl⟩ rfl (Nat.le_of_ble_eq_true rfl) rfl ?_
      rintro _ _ ⟨A1, S1, hA1, hnA1, hag, okQ1, hio1, rfl, rfl⟩
      refine xj.eqG (G' := xw_up (xw_up G 3 (pc_B v 3 A1)) 4 (pc_S v 4 3 S1)) up43 ?_
      show xj v κ _ z (xw_up (xw_up G 3 (pc_B v 3 A1)) 4 (pc_S v 4 3 S1)) 46 _ [.ref (xw_ad v 4 0)]
      refine xj_iload_n (i := 1) hk dX7_limitFor_46 rfl rfl ?_
      refine xj_callV hk hz (fr1 := 1) (lo1 := 25) (r1 := some (.int (sm (sel (bk_hs A1) h (sl_so S1)) n))) (As := [.int h]) (st := []) (st2 := [.int (sm (sel (bk_hs A1) h (sl_so S1)) n)]) (G1 := xw_up (xw_up G 3 (pc_B v 3 A1)) 4 (pc_S v 4 3 S1)) ml_X7_169 (c_X4_soldTo (n := n) (show (xw_up (xw_up G 3 (pc_B v 3 A1)) 4 (pc_S v 4 3 S1)) 4 = pc_S v 4 3 S1 from xw_up_s) (show (xw_up (xw_up G 3 (pc_B v 3 A1)) 4 (pc_S v 4 3 S1)) 3 = pc_B v 3 A1 from (show (xw_up (xw_up G 3 (pc_B v 3 A1)) 4 (pc_S v 4 3 S1)) 3 = pc_B v 3 A1 from by rw [xw_up_n (by decide), xw_up_s])) (by decide) hio1 hn30 h) (xw_at xw_up_s rfl) rfl dX7_limitFor_47 ⟨Nat.le_of_ble_eq_true rfl, Nat.le_of_ble_eq_true rfl⟩ rfl (Nat.le_of_ble_eq_true rfl) rfl rfl ?_
      refine xj.eqi (x' := sm (sel (bk_hs B) h (sl_so (kR (bk_wte B (xu (bk_te B) 1 (nI (i + 1)))) n))) n) (selso_eq (X := bk_wte B (xu (bk_te B) 1 (nI (i + 1)))) hA1 hag) ?_
      refine xj_iload_n (i := 2) hk dX7_limitFor_50 rfl rfl ?_
      refine xj_icmp_lt (tgt := 56) hk dX7_limitFor_51 (by decide) (fun c51 => ?_) (fun c51 => ?_)
      · refine xj_iinc (i := 3) (x2 := nI (i + 1 + 1)) (ls2 := [some (.ref (xw_ad v 0 0)), some (.int h), some (.int y), some (.int (nI (i + 1 + 1)))]) hk dX7_limitFor_56 rfl (nI_1 (i + 1)) (by decide) rfl rfl ?_
        refine xj_goto (tgt := 31) hk dX7_limitFor_59 (by decide) ?_
        exact ih (i + 1) A1 S1 (by omega) (by omega) (fnd_no hf (by simp [p_limit, c51])) ⟨_, hA1⟩ hnA1 okQ1
      · exact kr i A1 S1 okQ1 (by omega) (fnd_at hf (by simp [p_limit, c51]) _ (by omega))

set_option maxHeartbeats 1000000 in
set_option maxRecDepth 10000 in
theorem c_X7_limitFor {v : xw_V} {G : xw_G} {B : bk_T} {n r e a l : Nat} {K : Nat → bk_T} {t : tp_T} (hX : XB v G B n r e a K t l) (h : Int32) (y : Int32) : xk_Con v yX7_limitFor cX7_limitFor 4 (some .int) 7 159 [.ref (xw_ad v 0 0), .int h, .int y] G (fun r9 G' => r9 = some (.int (q_limit B n h y)) ∧ XB v G' B n r e a K t l ∧ XF G G') := by
  refine xk_of (ls0 := [some (.ref (xw_ad v 0 0)), some (.int h), some (.int y), none]) (by decide) rfl (Nat.le_of_ble_eq_true rfl) ?_
  intro κ z hk hz
  obtain ⟨okb, he12, ha12, hK0, hl700, htl, S, A, Q, rd, sw, okS, okQ, g0, g1, g2, g3, g4, g5, gK, g18, g19, g20⟩ := hX
  obtain ⟨hn, hn30, how, hhs, hr, hr8⟩ := id okb
  refine xj_iload_n (i := 1) hk dX7_limitFor_0 rfl rfl ?_
  refine xj_callS hk hz (fr1 := 0) (lo1 := 0) (r1 := some (.int (xb (isH h)))) (As := [.int h]) (st := []) (st2 := [.int (xb (isH h))]) (G1 := G) ml_X7_90 (c_X7_isHouse h) dX7_limitFor_1 ⟨Nat.le_of_ble_eq_true rfl, Nat.le_of_ble_eq_true rfl⟩ rfl (Nat.le_of_ble_eq_true rfl) rfl rfl ?_
  refine xj_ifb_eq (tgt := 12) hk dX7_limitFor_4 (by decide) (fun c4 => ?_) (fun c4 => ?_)
  · refine xj_iconst (x := (-1)) hk dX7_limitFor_12 (by decide) ?_
    refine xj_ireturn hk hz dX7_limitFor_13 ?_
    refine ⟨?_, ⟨okb, he12, ha12, hK0, hl700, htl, S, A, Q, rd, sw, okS, okQ, (show G 0 = pc_X v from g0), (show G 1 = pc_B v 1 B from g1), (show G 2 = pc_S v 2 1 S from g2), (show G 3 = pc_B v 3 A from g3), (show G 4 = pc_S v 4 3 Q from g4), (show G 5 = pc_P v (nI e, nI a) from g5), gK, (show G 18 = pc_T v t from g18), (show G 19 = pc_R v rd from g19), (show G 20 = pc_W  sw from g20)⟩, (fun _ _ => rfl)⟩
    simp [q_limit, c4]
  · refine xj_iload_n (i := 2) hk dX7_limitFor_7 rfl rfl ?_
    refine xj_iconst (x := 1) hk dX7_limitFor_8 (by decide) ?_
    refine xj_icmp_ge (tgt := 14) hk dX7_limitFor_9 (by decide) (fun c9 => ?_) (fun c9 => ?_)
    · refine xj_aload_n (i := 0) hk dX7_limitFor_14 rfl rfl ?_
      refine xj_getfield hk dX7_limitFor_15 fl_X7_25 (xw_at g0 rfl) rfl ?_
      refine xj_aload_n (i := 0) hk dX7_limitFor_18 rfl rfl ?_
      refine xj_getfield hk dX7_limitFor_19 fl_X7_10 (xw_at g0 rfl) rfl ?_
      refine xj_callVE hk hz (fr1 := 1) (lo1 := 22) (As := [.ref (xw_ad v 1 0)]) (st := []) ml_X7_77 (c_X0_copyFromE (n := n) (show G 3 = pc_B v 3 A from g3) (show G 1 = pc_B v 1 B from g1) (by decide) hn hn30) (xw_at g3 rfl) rfl dX7_limitFor_22 ⟨Nat.le_of_ble_eq_true rfl, Nat.le_of_ble_eq_true rfl⟩ rfl (Nat.le_of_ble_eq_true rfl) rfl ?_
      rintro _ _ ⟨rfl, C, hC, rfl⟩
      show xj v κ _ z (xw_up G 3 (pc_B v 3 C)) 25 _ []
      refine xj_getstat (q := xk_stats[1]) hk (List.getElem_mem _) dX7_limitFor_25 sl_X7_251 ?_
      refine xj_iconst (x := 1) hk dX7_limitFor_28 (by decide) ?_
      refine xj_staload (q := xk_stats[1]) (k := 1) hk (List.getElem_mem _) dX7_limitFor_29 (show xi 1 1 7 from (xi_d 1 7 (by decide))) ?_
      refine xj.eqi (x' := 1) rfl ?_
      refine xj_istore_n (i := 3) (ls2 := [some (.ref (xw_ad v 0 0)), some (.int h), some (.int y), some (.int 1)]) hk dX7_limitFor_30 rfl (by decide) rfl rfl ?_
      refine xj.to (ls' := [some (.ref (xw_ad v 0 0)), some (.int (h)), some (.int (y)), some (.int (nI (0 + 1)))]) rfl ?_
      refine xj.eqG (G' := xw_up (xw_up G 3 (pc_B v 3 C)) 4 (pc_S v 4 3 Q)) (xw_up_same (show (xw_up G 3 (pc_B v 3 C)) 4 = pc_S v 4 3 Q from (show (xw_up G 3 (pc_B v 3 C)) 4 = pc_S v 4 3 Q from by rw [xw_up_n (by decide), g4]))).symm ?_
      refine l_X7_limitFor hk hz g0 hn30 how hhs h y (fun A1 S1 okQ1 hx => ?_) (fun i A1 S1 okQ1 hi hx => ?_) (100 + 1) 0 C Q (by omega) (by omega) rfl ⟨_, (show eqB n (bk_wte B (xu (bk_te B) 1 (bk_te B 1))) C from by rw [wte_self]; exact hC.1)⟩ hC.2.1 okQ
      · refine xj_bipush (x := (-2)) hk dX7_limitFor_62 (by decide) ?_
        refine xj_ireturn hk hz dX7_limitFor_64 ?_
        refine ⟨?_, ⟨okb, he12, ha12, hK0, hl700, htl, S, A1, S1, rd, sw, okS, okQ1, (show (xw_up (xw_up G 3 (pc_B v 3 A1)) 4 (pc_S v 4 3 S1)) 0 = pc_X v from (show (xw_up (xw_up G 3 (pc_B v 3 A1)) 4 (pc_S v 4 3 S1)) 0 = pc_X v from by rw [xw_up_n (by decide), xw_up_n (by decide), g0])), (show (xw_up (xw_up G 3 (pc_B v 3 A1)) 4 (pc_S v 4 3 S1)) 1 = pc_B v 1 B from (show (xw_up (xw_up G 3 (pc_B v 3 A1)) 4 (pc_S v 4 3 S1)) 1 = pc_B v 1 B from by rw [xw_up_n (by decide), xw_up_n (by decide), g1])), (show (xw_up (xw_up G 3 (pc_B v 3 A1)) 4 (pc_S v 4 3 S1)) 2 = pc_S v 2 1 S from (show (xw_up (xw_up G 3 (pc_B v 3 A1)) 4 (pc_S v 4 3 S1)) 2 = pc_S v 2 1 S from by rw [xw_up_n (by decide), xw_up_n (by decide), g2])), (show (xw_up (xw_up G 3 (pc_B v 3 A1)) 4 (pc_S v 4 3 S1)) 3 = pc_B v 3 A1 from (show (xw_up (xw_up G 3 (pc_B v 3 A1)) 4 (pc_S v 4 3 S1)) 3 = pc_B v 3 A1 from by rw [xw_up_n (by decide), xw_up_s])), (show (xw_up (xw_up G 3 (pc_B v 3 A1)) 4 (pc_S v 4 3 S1)) 4 = pc_S v 4 3 S1 from xw_up_s), (show (xw_up (xw_up G 3 (pc_B v 3 A1)) 4 (pc_S v 4 3 S1)) 5 = pc_P v (nI e, nI a) from (show (xw_up (xw_up G 3 (pc_B v 3 A1)) 4 (pc_S v 4 3 S1)) 5 = pP v (nI e) (nI a) from by rw [xw_up_n (by decide), xw_up_n (by decide), g5])), (fun j9 h9 => by rw [xw_up_n (by omega), xw_up_n (by omega)]; exact gK j9 h9), (show (xw_up (xw_up G 3 (pc_B v 3 A1)) 4 (pc_S v 4 3 S1)) 18 = pc_T v t from (show (xw_up (xw_up G 3 (pc_B v 3 A1)) 4 (pc_S v 4 3 S1)) 18 = pc_T v t from by rw [xw_up_n (by decide), xw_up_n (by decide), g18])), (show (xw_up (xw_up G 3 (pc_B v 3 A1)) 4 (pc_S v 4 3 S1)) 19 = pc_R v rd from (show (xw_up (xw_up G 3 (pc_B v 3 A1)) 4 (pc_S v 4 3 S1)) 19 = pc_R v rd from by rw [xw_up_n (by decide), xw_up_n (by decide), g19])), (show (xw_up (xw_up G 3 (pc_B v 3 A1)) 4 (pc_S v 4 3 S1)) 20 = pc_W  sw from (show (xw_up (xw_up G 3 (pc_B v 3 A1)) 4 (pc_S v 4 3 S1)) 20 = pc_W  sw from by rw [xw_up_n (by decide), xw_up_n (by decide), g20]))⟩, (fun g h9 => by rw [xw_up_n (by omega), xw_up_n (by omega)])⟩
        simp only [q_limit]; rw [if_pos ⟨c4, c9⟩, if_neg (by rw [hx]; exact Nat.lt_irrefl _)]
      · refine xj_iload_n (i := 3) hk dX7_limitFor_54 rfl rfl ?_
        refine xj_ireturn hk hz dX7_limitFor_55 ?_
        refine ⟨?_, ⟨okb, he12, ha12, hK0, hl700, htl, S, A1, S1, rd, sw, okS, okQ1, (show (xw_up (xw_up G 3 (pc_B v 3 A1)) 4 (pc_S v 4 3 S1)) 0 = pc_X v from (show (xw_up (xw_up G 3 (pc_B v 3 A1)) 4 (pc_S v 4 3 S1)) 0 = pc_X v from by rw [xw_up_n (by decide), xw_up_n (by decide), g0])), (show (xw_up (xw_up G 3 (pc_B v 3 A1)) 4 (pc_S v 4 3 S1)) 1 = pc_B v 1 B from (show (xw_up (xw_up G 3 (pc_B v 3 A1)) 4 (pc_S v 4 3 S1)) 1 = pc_B v 1 B from by rw [xw_up_n (by decide), xw_up_n (by decide), g1])), (show (xw_up (xw_up G 3 (pc_B v 3 A1)) 4 (pc_S v 4 3 S1)) 2 = pc_S v 2 1 S from (show (xw_up (xw_up G 3 (pc_B v 3 A1)) 4 (pc_S v 4 3 S1)) 2 = pc_S v 2 1 S from by rw [xw_up_n (by decide), xw_up_n (by decide), g2])), (show (xw_up (xw_up G 3 (pc_B v 3 A1)) 4 (pc_S v 4 3 S1)) 3 = pc_B v 3 A1 from (show (xw_up (xw_up G 3 (pc_B v 3 A1)) 4 (pc_S v 4 3 S1)) 3 = pc_B v 3 A1 from by rw [xw_up_n (by decide), xw_up_s])), (show (xw_up (xw_up G 3 (pc_B v 3 A1)) 4 (pc_S v 4 3 S1)) 4 = pc_S v 4 3 S1 from xw_up_s), (show (xw_up (xw_up G 3 (pc_B v 3 A1)) 4 (pc_S v 4 3 S1)) 5 = pc_P v (nI e, nI a) from (show (xw_up (xw_up G 3 (pc_B v 3 A1)) 4 (pc_S v 4 3 S1)) 5 = pP v (nI e) (nI a) from by rw [xw_up_n (by decide), xw_up_n (by decide), g5])), (fun j9 h9 => by rw [xw_up_n (by omega), xw_up_n (by omega)]; exact gK j9 h9), (show (xw_up (xw_up G 3 (pc_B v 3 A1)) 4 (pc_S v 4 3 S1)) 18 = pc_T v t from (show (xw_up (xw_up G 3 (pc_B v 3 A1)) 4 (pc_S v 4 3 S1)) 18 = pc_T v t from by rw [xw_up_n (by decide), xw_up_n (by decide), g18])), (show (xw_up (xw_up G 3 (pc_B v 3 A1)) 4 (pc_S v 4 3 S1)) 19 = pc_R v rd from (show (xw_up (xw_up G 3 (pc_B v 3 A1)) 4 (pc_S v 4 3 S1)) 19 = pc_R v rd from by rw [xw_up_n (by decide), xw_up_n (by decide), g19])), (show (xw_up (xw_up G 3 (pc_B v 3 A1)) 4 (pc_S v 4 3 S1)) 20 = pc_W  sw from (show (xw_up (xw_up G 3 (pc_B v 3 A1)) 4 (pc_S v 4 3 S1)) 20 = pc_W  sw from by rw [xw_up_n (by decide), xw_up_n (by decide), g20]))⟩, (fun g h9 => by rw [xw_up_n (by omega), xw_up_n (by omega)])⟩
        simp only [q_limit]; rw [if_pos ⟨c4, c9⟩, if_pos (by rw [hx]; exact hi), hx]
    · refine xj_iconst (x := (-1)) hk dX7_limitFor_12 (by decide) ?_
      refine xj_ireturn hk hz dX7_limitFor_13 ?_
      refine ⟨?_, ⟨okb, he12, ha12, hK0, hl700, htl, S, A, Q, rd, sw, okS, okQ, (show G 0 = pc_X v from g0), (show G 1 = pc_B v 1 B from g1), (show G 2 = pc_S v 2 1 S from g2), (show G 3 = pc_B v 3 A from g3), (show G 4 = pc_S v 4 3 Q from g4), (show G 5 = pc_P v (nI e, nI a) from g5), gK, (show G 18 = pc_T v t from g18), (show G 19 = pc_R v rd from g19), (show G 20 = pc_W  sw from g20)⟩, (fun _ _ => rfl)⟩
      simp [q_limit, c4, c9]

set_option maxHeartbeats 1000000 in
set_option maxRecDepth 10000 in
theorem l_X7_shareFor {v : xw_V} {κ : xk_K} {post : Option Value → xw_G → Prop} {z : Nat × Nat × Nat} {G : xw_G} {B : bk_T} {n : Nat} (hk : xk_Ok v κ yX7_shareFor cX7_shareFor 3 (some .int) 7 159) (hz : xk_zf κ = z) (g0 : G 0 = pc_X v) (hn30 : n ≤ 30) (how : okOw (bk_ow B)) (hhs : okHs (bk_hs B) n) (y : Int32) (kx : ∀ (A : bk_T) (Q : sl_T), okO Q → fnd (p_share B n y) 101 = 101 → xj v κ post z (xw_up (xw_up G 3 (pc_B v 3 A)) 4 (pc_S v 4 3 Q)) 54 [some (.ref (xw_ad v 0 0)), some (.int y), some (.int (nI 101))] []) (kr : ∀ (i : Nat) (A : bk_T) (Q : sl_T), okO Q → i < 101 → fnd (p_share B n y) 101 = i → xj v κ post z (xw_up (xw_up G 3 (pc_B v 3 A)) 4 (pc_S v 4 3 Q)) 46 [some (.ref (xw_ad v 0 0)), some (.int y), some (.int (nI i))] []) : ∀ (m : Nat) (i : Nat) (A : bk_T) (Q : sl_T), 101 - i < m → i ≤ 101 → fnd (p_share B n y) i = i → (∃ x0, eqB n (bk_wte B (xu (bk_te B) 2 x0)) A) → bk_bi A = nI n → okO Q → xj v κ post z (xw_up (xw_up G 3 (pc_B v 3 A)) 4 (pc_S v 4 3 Q)) 24 [some (.ref (xw_ad v 0 0)), some (.int y), some (.int (nI i))] [] := by
  intro m
  induction m with
  | zero => intro i A Q h; exact absurd h (Nat.not_lt_zero _)
  | succ m ih =>
    intro i A Q hm hi hf he hnA okQ
    obtain ⟨x0, he⟩ := he
    refine xj_iload_n (i := 2) hk dX7_shareFor_24 rfl rfl ?_
    refine xj_getstat (q := xk_stats[2]) hk (List.getElem_mem _) dX7_shareFor_25 sl_X7_254 ?_
    refine xj_iconst (x := 2) hk dX7_shareFor_28 (by decide) ?_
    refine xj_staload (q := xk_stats[2]) (k := 2) hk (List.getElem_mem _) dX7_shareFor_29 (show xi 2 2 7 from (xi_d 2 7 (by decide))) ?_
    refine xj.eqi (x' := 100) rfl ?_
    refine xj_icmp_gt (tgt := 54) hk dX7_shareFor_30 (by decide) (fun c30 => ?_) (fun c30 => ?_)
    · have c30 : 100 < i := (nI_ltI (a := 100) (b := i) (by omega) (by omega)).mp c30
      have e9 : i = 101 := by omega
      subst e9
      exact kx _ _ okQ hf
    · have c30 : ¬ 100 < i := fun q => c30 ((nI_ltI (a := 100) (b := i) (by omega) (by omega)).mpr q)
      refine xj_aload_n (i := 0) hk dX7_shareFor_33 rfl rfl ?_
      refine xj_iconst (x := 2) hk dX7_shareFor_34 (by decide) ?_
      refine xj.eqi (x' := nI 2) rfl ?_
      refine xj_iload_n (i := 2) hk dX7_shareFor_35 rfl rfl ?_
      refine xj_callVE hk hz (fr1 := 6) (lo1 := 137) (As := [.int (nI 2), .int (nI i)]) (st := []) ml_X7_247 (c_X7_tryTerm (n := n) (k := 2) (B := B) (show (xw_up (xw_up G 3 (pc_B v 3 A)) 4 (pc_S v 4 3 Q)) 0 = pc_X v from (show (xw_up (xw_up G 3 (pc_B v 3 A)) 4 (pc_S v 4 3 Q)) 0 = pc_X v from by rw [xw_up_n (by decide), xw_up_n (by decide), g0])) (show (xw_up (xw_up G 3 (pc_B v 3 A)) 4 (pc_S v 4 3 Q)) 3 = pc_B v 3 A from (show (xw_up (xw_up G 3 (pc_B v 3 A)) 4 (pc_S v 4 3 Q)) 3 = pc_B v 3 A from by rw [xw_up_n (by decide), xw_up_s])) (show (xw_up (xw_up G 3 (pc_B v 3 A)) 4 (pc_S v 4 3 Q)) 4 = pc_S v 4 3 Q from xw_up_s) okQ hnA hn30 how hhs he (by decide) (nI i)) (xw_at (show (xw_up (xw_up G 3 (pc_B v 3 A)) 4 (pc_S v 4 3 Q)) 0 = pc_X v from by rw [xw_up_n (by decide), xw_up_n (by decide), g0]) rfl) rfl dX7_shareFor_36 ⟨Nat.le_of_ble_eq_true rfl, Nat.le_of_ble_eq_true rfl⟩ rfl (Nat.le_of_ble_eq_true rfl) rfl ?_
      rintro _ _ ⟨A1, S1, hA1, hnA1, hag, okQ1, hio1, rfl, rfl⟩
      refine xj.eqG (G' := xw_up (xw_up G 3 (pc_B v 3 A1)) 4 (pc_S v 4 3 S1)) up43 ?_
      show xj v κ _ z (xw_up (xw_up G 3 (pc_B v 3 A1)) 4 (pc_S v 4 3 S1)) 39 _ [.ref (xw_ad v 4 0)]
      refine xj_getfield hk dX7_shareFor_39 fl_X7_257 (xw_at xw_up_s rfl) rfl ?_
      refine xj.eqi (x' := sl_sp (kR (bk_wte B (xu (bk_te B) 2 (nI i))) n)) hag.2.2.2.2.2.2.1 ?_
      refine xj_iload_n (i := 1) hk dX7_shareFor_42 rfl rfl ?_
      refine xj_icmp_lt (tgt := 48) hk dX7_shareFor_43 (by decide) (fun c43 => ?_) (fun c43 => ?_)
      · refine xj_iinc (i := 2) (x2 := nI (i + 1)) (ls2 := [some (.ref (xw_ad v 0 0)), some (.int y), some (.int (nI (i + 1)))]) hk dX7_shareFor_48 rfl (nI_1 i) (by decide) rfl rfl ?_
        refine xj_goto (tgt := 24) hk dX7_shareFor_51 (by decide) ?_
        exact ih (i + 1) A1 S1 (by omega) (by omega) (fnd_no hf (by simp [p_share, c43])) ⟨_, hA1⟩ hnA1 okQ1
      · exact kr i A1 S1 okQ1 (by omega) (fnd_at hf (by simp [p_share, c43]) _ (by omega))

set_option maxHeartbeats 1000000 in
set_option maxRecDepth 10000 in
theorem c_X7_shareFor {v : xw_V} {G : xw_G} {B : bk_T} {n r e a l : Nat} {K : Nat → bk_T} {t : tp_T} (hX : XB v G B n r e a K t l) (y : Int32) : xk_Con v yX7_shareFor cX7_shareFor 3 (some .int) 7 159 [.ref (xw_ad v 0 0), .int y] G (fun r9 G' => r9 = some (.int (q_share B n y)) ∧ XB v G' B n r e a K t l ∧ XF G G') := by
  refine xk_of (ls0 := [some (.ref (xw_ad v 0 0)), some (.int y), none]) (by decide) rfl (Nat.le_of_ble_eq_true rfl) ?_
  intro κ z hk hz
  obtain ⟨okb, he12, ha12, hK0, hl700, htl, S, A, Q, rd, sw, okS, okQ, g0, g1, g2, g3, g4, g5, gK, g18, g19, g20⟩ := hX
  obtain ⟨hn, hn30, how, hhs, hr, hr8⟩ := id okb
  refine xj_iload_n (i := 1) hk dX7_shareFor_0 rfl rfl ?_
  refine xj_iconst (x := 1) hk dX7_shareFor_1 (by decide) ?_
  refine xj_icmp_ge (tgt := 7) hk dX7_shareFor_2 (by decide) (fun c2 => ?_) (fun c2 => ?_)
  · refine xj_aload_n (i := 0) hk dX7_shareFor_7 rfl rfl ?_
    refine xj_getfield hk dX7_shareFor_8 fl_X7_25 (xw_at g0 rfl) rfl ?_
    refine xj_aload_n (i := 0) hk dX7_shareFor_11 rfl rfl ?_
    refine xj_getfield hk dX7_shareFor_12 fl_X7_10 (xw_at g0 rfl) rfl ?_
    refine xj_callVE hk hz (fr1 := 1) (lo1 := 22) (As := [.ref (xw_ad v 1 0)]) (st := []) ml_X7_77 (c_X0_copyFromE (n := n) (show G 3 = pc_B v 3 A from g3) (show G 1 = pc_B v 1 B from g1) (by decide) hn hn30) (xw_at g3 rfl) rfl dX7_shareFor_15 ⟨Nat.le_of_ble_eq_true rfl, Nat.le_of_ble_eq_true rfl⟩ rfl (Nat.le_of_ble_eq_true rfl) rfl ?_
    rintro _ _ ⟨rfl, C, hC, rfl⟩
    show xj v κ _ z (xw_up G 3 (pc_B v 3 C)) 18 _ []
    refine xj_getstat (q := xk_stats[1]) hk (List.getElem_mem _) dX7_shareFor_18 sl_X7_251 ?_
    refine xj_iconst (x := 2) hk dX7_shareFor_21 (by decide) ?_
    refine xj_staload (q := xk_stats[1]) (k := 2) hk (List.getElem_mem _) dX7_shareFor_22 (show xi 2 2 7 from (xi_d 2 7 (by decide))) ?_
    refine xj.eqi (x' := 0) rfl ?_
    refine xj_istore_n (i := 2) (ls2 := [some (.ref (xw_ad v 0 0)), some (.int y), some (.int 0)]) hk dX7_shareFor_23 rfl (by decide) rfl rfl ?_
    refine xj.to (ls' := [some (.ref (xw_ad v 0 0)), some (.int (y)), some (.int (nI 0))]) rfl ?_
    refine xj.eqG (G' := xw_up (xw_up G 3 (pc_B v 3 C)) 4 (pc_S v 4 3 Q)) (xw_up_same (show (xw_up G 3 (pc_B v 3 C)) 4 = pc_S v 4 3 Q from (show (xw_up G 3 (pc_B v 3 C)) 4 = pc_S v 4 3 Q from by rw [xw_up_n (by decide), g4]))).symm ?_
    refine l_X7_shareFor hk hz g0 hn30 how hhs y (fun A1 S1 okQ1 hx => ?_) (fun i A1 S1 okQ1 hi hx => ?_) (101 + 1) 0 C Q (by omega) (by omega) rfl ⟨_, (show eqB n (bk_wte B (xu (bk_te B) 2 (bk_te B 2))) C from by rw [wte_self]; exact hC.1)⟩ hC.2.1 okQ
    · refine xj_bipush (x := (-2)) hk dX7_shareFor_54 (by decide) ?_
      refine xj_ireturn hk hz dX7_shareFor_56 ?_
      refine ⟨?_, ⟨okb, he12, ha12, hK0, hl700, htl, S, A1, S1, rd, sw, okS, okQ1, (show (xw_up (xw_up G 3 (pc_B v 3 A1)) 4 (pc_S v 4 3 S1)) 0 = pc_X v from (show (xw_up (xw_up G 3 (pc_B v 3 A1)) 4 (pc_S v 4 3 S1)) 0 = pc_X v from by rw [xw_up_n (by decide), xw_up_n (by decide), g0])), (show (xw_up (xw_up G 3 (pc_B v 3 A1)) 4 (pc_S v 4 3 S1)) 1 = pc_B v 1 B from (show (xw_up (xw_up G 3 (pc_B v 3 A1)) 4 (pc_S v 4 3 S1)) 1 = pc_B v 1 B from by rw [xw_up_n (by decide), xw_up_n (by decide), g1])), (show (xw_up (xw_up G 3 (pc_B v 3 A1)) 4 (pc_S v 4 3 S1)) 2 = pc_S v 2 1 S from (show (xw_up (xw_up G 3 (pc_B v 3 A1)) 4 (pc_S v 4 3 S1)) 2 = pc_S v 2 1 S from by rw [xw_up_n (by decide), xw_up_n (by decide), g2])), (show (xw_up (xw_up G 3 (pc_B v 3 A1)) 4 (pc_S v 4 3 S1)) 3 = pc_B v 3 A1 from (show (xw_up (xw_up G 3 (pc_B v 3 A1)) 4 (pc_S v 4 3 S1)) 3 = pc_B v 3 A1 from by rw [xw_up_n (by decide), xw_up_s])), (show (xw_up (xw_up G 3 (pc_B v 3 A1)) 4 (pc_S v 4 3 S1)) 4 = pc_S v 4 3 S1 from xw_up_s), (show (xw_up (xw_up G 3 (pc_B v 3 A1)) 4 (pc_S v 4 3 S1)) 5 = pc_P v (nI e, nI a) from (show (xw_up (xw_up G 3 (pc_B v 3 A1)) 4 (pc_S v 4 3 S1)) 5 = pP v (nI e) (nI a) from by rw [xw_up_n (by decide), xw_up_n (by decide), g5])), (fun j9 h9 => by rw [xw_up_n (by omega), xw_up_n (by omega)]; exact gK j9 h9), (show (xw_up (xw_up G 3 (pc_B v 3 A1)) 4 (pc_S v 4 3 S1)) 18 = pc_T v t from (show (xw_up (xw_up G 3 (pc_B v 3 A1)) 4 (pc_S v 4 3 S1)) 18 = pc_T v t from by rw [xw_up_n (by decide), xw_up_n (by decide), g18])), (show (xw_up (xw_up G 3 (pc_B v 3 A1)) 4 (pc_S v 4 3 S1)) 19 = pc_R v rd from (show (xw_up (xw_up G 3 (pc_B v 3 A1)) 4 (pc_S v 4 3 S1)) 19 = pc_R v rd from by rw [xw_up_n (by decide), xw_up_n (by decide), g19])), (show (xw_up (xw_up G 3 (pc_B v 3 A1)) 4 (pc_S v 4 3 S1)) 20 = pc_W  sw from (show (xw_up (xw_up G 3 (pc_B v 3 A1)) 4 (pc_S v 4 3 S1)) 20 = pc_W  sw from by rw [xw_up_n (by decide), xw_up_n (by decide), g20]))⟩, (fun g h9 => by rw [xw_up_n (by omega), xw_up_n (by omega)])⟩
      simp only [q_share]; rw [if_pos c2, if_neg (by rw [hx]; exact Nat.lt_irrefl _)]
    · refine xj_iload_n (i := 2) hk dX7_shareFor_46 rfl rfl ?_
      refine xj_ireturn hk hz dX7_shareFor_47 ?_
      refine ⟨?_, ⟨okb, he12, ha12, hK0, hl700, htl, S, A1, S1, rd, sw, okS, okQ1, (show (xw_up (xw_up G 3 (pc_B v 3 A1)) 4 (pc_S v 4 3 S1)) 0 = pc_X v from (show (xw_up (xw_up G 3 (pc_B v 3 A1)) 4 (pc_S v 4 3 S1)) 0 = pc_X v from by rw [xw_up_n (by decide), xw_up_n (by decide), g0])), (show (xw_up (xw_up G 3 (pc_B v 3 A1)) 4 (pc_S v 4 3 S1)) 1 = pc_B v 1 B from (show (xw_up (xw_up G 3 (pc_B v 3 A1)) 4 (pc_S v 4 3 S1)) 1 = pc_B v 1 B from by rw [xw_up_n (by decide), xw_up_n (by decide), g1])), (show (xw_up (xw_up G 3 (pc_B v 3 A1)) 4 (pc_S v 4 3 S1)) 2 = pc_S v 2 1 S from (show (xw_up (xw_up G 3 (pc_B v 3 A1)) 4 (pc_S v 4 3 S1)) 2 = pc_S v 2 1 S from by rw [xw_up_n (by decide), xw_up_n (by decide), g2])), (show (xw_up (xw_up G 3 (pc_B v 3 A1)) 4 (pc_S v 4 3 S1)) 3 = pc_B v 3 A1 from (show (xw_up (xw_up G 3 (pc_B v 3 A1)) 4 (pc_S v 4 3 S1)) 3 = pc_B v 3 A1 from by rw [xw_up_n (by decide), xw_up_s])), (show (xw_up (xw_up G 3 (pc_B v 3 A1)) 4 (pc_S v 4 3 S1)) 4 = pc_S v 4 3 S1 from xw_up_s), (show (xw_up (xw_up G 3 (pc_B v 3 A1)) 4 (pc_S v 4 3 S1)) 5 = pc_P v (nI e, nI a) from (show (xw_up (xw_up G 3 (pc_B v 3 A1)) 4 (pc_S v 4 3 S1)) 5 = pP v (nI e) (nI a) from by rw [xw_up_n (by decide), xw_up_n (by decide), g5])), (fun j9 h9 => by rw [xw_up_n (by omega), xw_up_n (by omega)]; exact gK j9 h9), (show (xw_up (xw_up G 3 (pc_B v 3 A1)) 4 (pc_S v 4 3 S1)) 18 = pc_T v t from (show (xw_up (xw_up G 3 (pc_B v 3 A1)) 4 (pc_S v 4 3 S1)) 18 = pc_T v t from by rw [xw_up_n (by decide), xw_up_n (by decide), g18])), (show (xw_up (xw_up G 3 (pc_B v 3 A1)) 4 (pc_S v 4 3 S1)) 19 = pc_R v rd from (show (xw_up (xw_up G 3 (pc_B v 3 A1)) 4 (pc_S v 4 3 S1)) 19 = pc_R v rd from by rw [xw_up_n (by decide), xw_up_n (by decide), g19])), (show (xw_up (xw_up G 3 (pc_B v 3 A1)) 4 (pc_S v 4 3 S1)) 20 = pc_W  sw from (show (xw_up (xw_up G 3 (pc_B v 3 A1)) 4 (pc_S v 4 3 S1)) 20 = pc_W  sw from by rw [xw_up_n (by decide), xw_up_n (by decide), g20]))⟩, (fun g h9 => by rw [xw_up_n (by omega), xw_up_n (by omega)])⟩
      simp only [q_share]; rw [if_pos c2, if_pos (by rw [hx]; exact hi), hx]
  · refine xj_iconst (x := (-1)) hk dX7_shareFor_5 (by decide) ?_
    refine xj_ireturn hk hz dX7_shareFor_6 ?_
    refine ⟨?_, ⟨okb, he12, ha12, hK0, hl700, htl, S, A, Q, rd, sw, okS, okQ, (show G 0 = pc_X v from g0), (show G 1 = pc_B v 1 B from g1), (show G 2 = pc_S v 2 1 S from g2), (show G 3 = pc_B v 3 A from g3), (show G 4 = pc_S v 4 3 Q from g4), (show G 5 = pc_P v (nI e, nI a) from g5), gK, (show G 18 = pc_T v t from g18), (show G 19 = pc_R v rd from g19), (show G 20 = pc_W  sw from g20)⟩, (fun _ _ => rfl)⟩
    simp [q_share, c2]


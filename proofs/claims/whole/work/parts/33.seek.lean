noncomputable def p_offer (B : bk_T) (n : Nat) (r : Int32) (i : Nat) : Bool := !(decide (sl_st (kR (bk_wte B (xu (bk_te B) 0 (nI (i + 1)))) n) < r))
noncomputable def q_offer (B : bk_T) (n : Nat) (r : Int32) : Int32 := if isR r = true then (if fnd (p_offer B n r) 2000 < 2000 then nI (fnd (p_offer B n r) 2000 + 1) else -2) else -1
noncomputable def p_limit (B : bk_T) (n : Nat) (h y : Int32) (i : Nat) : Bool := !(decide (sm (sel (bk_hs B) h (sl_so (kR (bk_wte B (xu (bk_te B) 1 (nI (i + 1)))) n))) n < y))
noncomputable def q_limit (B : bk_T) (n : Nat) (h y : Int32) : Int32 := if isH h = true ∧ 1 ≤ y then (if fnd (p_limit B n h y) 100 < 100 then nI (fnd (p_limit B n h y) 100 + 1) else -2) else -1
noncomputable def p_share (B : bk_T) (n : Nat) (y : Int32) (i : Nat) : Bool := !(decide (sl_sp (kR (bk_wte B (xu (bk_te B) 2 (nI i))) n) < y))
noncomputable def q_share (B : bk_T) (n : Nat) (y : Int32) : Int32 := if 1 ≤ y then (if fnd (p_share B n y) 101 < 101 then nI (fnd (p_share B n y) 101) else -2) else -1
set_option maxHeartbeats 1000000 in
set_option maxRecDepth 10000 in
theorem l_X7_offerFor {v : xw_V} {κ : xk_K} {post : Option Value → xw_G → Prop} {z : Nat × Nat × Nat} {G : xw_G} {B : bk_T} {n : Nat} (hk : xk_Ok v κ yX7_offerFor cX7_offerFor 3 (some .int) 7 159) (hz : xk_zf κ = z) (g0 : G 0 = pc_X v) (hn30 : n ≤ 30) (how : okOw (bk_ow B)) (hhs : okHs (bk_hs B) n) (r1 : Int32) (kx : ∀ (A : bk_T) (Q : sl_T), okO Q → fnd (p_offer B n r1) 2000 = 2000 → xj v κ post z (xw_up (xw_up G 3 (pc_B v 3 A)) 4 (pc_S v 4 3 Q)) 50 [some (.ref (xw_ad v 0 0)), some (.int r1), some (.int (nI (2000 + 1)))] []) (kr : ∀ (i : Nat) (A : bk_T) (Q : sl_T), okO Q → i < 2000 → fnd (p_offer B n r1) 2000 = i → xj v κ post z (xw_up (xw_up G 3 (pc_B v 3 A)) 4 (pc_S v 4 3 Q)) 42 [some (.ref (xw_ad v 0 0)), some (.int r1), some (.int (nI (i + 1)))] []) : ∀ (m : Nat) (i : Nat) (A : bk_T) (Q : sl_T), 2000 - i < m → i ≤ 2000 → fnd (p_offer B n r1) i = i → (∃ x0, eqB n (bk_wte B (xu (bk_te B) 0 x0)) A) → bk_bi A = nI n → okO Q → xj v κ post z (xw_up (xw_up G 3 (pc_B v 3 A)) 4 (pc_S v 4 3 Q)) 22 [some (.ref (xw_ad v 0 0)), some (.int r1), some (.int (nI (i + 1)))] [] := by
  intro m
  induction m with
  | zero => intro i A Q h; exact absurd h (Nat.not_lt_zero _)
  | succ m ih =>
    intro i A Q hm hi hf he hnA okQ
    obtain ⟨x0, he⟩ := he
    refine xj_iload_n (i := 2) hk dX7_offerFor_22 rfl rfl ?_
    refine xj_sipush (x := 2000) hk dX7_offerFor_23 (by decide) ?_
    refine xj_icmp_gt (tgt := 50) hk dX7_offerFor_26 (by decide) (fun c26 => ?_) (fun c26 => ?_)
    · have c26 : 2000 < i + 1 := (nI_ltI (a := 2000) (b := i + 1) (by omega) (by omega)).mp c26
      have e9 : i = 2000 := by omega
      subst e9
      exact kx _ _ okQ hf
    · have c26 : ¬ 2000 < i + 1 := fun q => c26 ((nI_ltI (a := 2000) (b := i + 1) (by omega) (by omega)).mpr q)
      refine xj_aload_n (i := 0) hk dX7_offerFor_29 rfl rfl ?_
      refine xj_iconst (x := 0) hk dX7_offerFor_30 (by decide) ?_
      refine xj.eqi (x' := nI 0) rfl ?_
      refine xj_iload_n (i := 2) hk dX7_offerFor_31 rfl rfl ?_
      refine xj_callVE hk hz (fr1 := 6) (lo1 := 137) (As := [.int (nI 0), .int (nI (i + 1))]) (st := []) ml_X7_247 (c_X7_tryTerm (n := n) (k := 0) (B := B) (show (xw_up (xw_up G 3 (pc_B v 3 A)) 4 (pc_S v 4 3 Q)) 0 = pc_X v from (show (xw_up (xw_up G 3 (pc_B v 3 A)) 4 (pc_S v 4 3 Q)) 0 = pc_X v from by rw [xw_up_n (by decide), xw_up_n (by decide), g0])) (show (xw_up (xw_up G 3 (pc_B v 3 A)) 4 (pc_S v 4 3 Q)) 3 = pc_B v 3 A from (show (xw_up (xw_up G 3 (pc_B v 3 A)) 4 (pc_S v 4 3 Q)) 3 = pc_B v 3 A from by rw [xw_up_n (by decide), xw_up_s])) (show (xw_up (xw_up G 3 (pc_B v 3 A)) 4 (pc_S v 4 3 Q)) 4 = pc_S v 4 3 Q from xw_up_s) okQ hnA hn30 how hhs he (by decide) (nI (i + 1))) (xw_at (show (xw_up (xw_up G 3 (pc_B v 3 A)) 4 (pc_S v 4 3 Q)) 0 = pc_X v from by rw [xw_up_n (by decide), xw_up_n (by decide), g0]) rfl) rfl dX7_offerFor_32 ⟨Nat.le_of_ble_eq_true rfl, Nat.le_of_ble_eq_true rfl⟩ rfl (Nat.le_of_ble_eq_true rfl) rfl ?_
      rintro _ _ ⟨A1, S1, hA1, hnA1, hag, okQ1, hio1, rfl, rfl⟩
      refine xj.eqG (G' := xw_up (xw_up G 3 (pc_B v 3 A1)) 4 (pc_S v 4 3 S1)) up43 ?_
      show xj v κ _ z (xw_up (xw_up G 3 (pc_B v 3 A1)) 4 (pc_S v 4 3 S1)) 35 _ [.ref (xw_ad v 4 0)]
      refine xj_getfield hk dX7_offerFor_35 fl_X7_153 (xw_at xw_up_s rfl) rfl ?_
      refine xj.eqi (x' := sl_st (kR (bk_wte B (xu (bk_te B) 0 (nI (i + 1)))) n)) hag.2.2.2.2.2.2.2.2.1 ?_
      refine xj_iload_n (i := 1) hk dX7_offerFor_38 rfl rfl ?_
      refine xj_icmp_lt (tgt := 44) hk dX7_offerFor_39 (by decide) (fun c39 => ?_) (fun c39 => ?_)
      · refine xj_iinc (i := 2) (x2 := nI (i + 1 + 1)) (ls2 := [some (.ref (xw_ad v 0 0)), some (.int r1), some (.int (nI (i + 1 + 1)))]) hk dX7_offerFor_44 rfl (nI_1 (i + 1)) (by decide) rfl rfl ?_
        refine xj_goto (tgt := 22) hk dX7_offerFor_47 (by decide) ?_
        exact ih (i + 1) A1 S1 (by omega) (by omega) (fnd_no hf (by simp [p_offer, c39])) ⟨_, hA1⟩ hnA1 okQ1
      · exact kr i A1 S1 okQ1 (by omega) (fnd_at hf (by simp [p_offer, c39]) _ (by omega))

set_option maxHeartbeats 1000000 in
set_option maxRecDepth 10000 in
theorem c_X7_offerFor {v : xw_V} {G : xw_G} {B : bk_T} {n r e a l : Nat} {K : Nat → bk_T} {t : tp_T} (hX : XB v G B n r e a K t l) (r1 : Int32) : xk_Con v yX7_offerFor cX7_offerFor 3 (some .int) 7 159 [.ref (xw_ad v 0 0), .int r1] G (fun r9 G' => r9 = some (.int (q_offer B n r1)) ∧ XB v G' B n r e a K t l ∧ XF G G') := by
  refine xk_of (ls0 := [some (.ref (xw_ad v 0 0)), some (.int r1), none]) (by decide) rfl (Nat.le_of_ble_eq_true rfl) ?_
  intro κ z hk hz
  obtain ⟨okb, he12, ha12, hK0, hl700, htl, S, A, Q, rd, sw, okS, okQ, g0, g1, g2, g3, g4, g5, gK, g18, g19, g20⟩ := hX
  obtain ⟨hn, hn30, how, hhs, hr, hr8⟩ := id okb
  refine xj_iload_n (i := 1) hk dX7_offerFor_0 rfl rfl ?_
  refine xj_callS hk hz (fr1 := 0) (lo1 := 0) (r1 := some (.int (xb (isR r1)))) (As := [.int r1]) (st := []) (st2 := [.int (xb (isR r1))]) (G1 := G) ml_X7_86 (c_X7_isRate r1) dX7_offerFor_1 ⟨Nat.le_of_ble_eq_true rfl, Nat.le_of_ble_eq_true rfl⟩ rfl (Nat.le_of_ble_eq_true rfl) rfl rfl ?_
  refine xj_ifb_ne (tgt := 9) hk dX7_offerFor_4 (by decide) (fun c4 => ?_) (fun c4 => ?_)
  · refine xj_aload_n (i := 0) hk dX7_offerFor_9 rfl rfl ?_
    refine xj_getfield hk dX7_offerFor_10 fl_X7_25 (xw_at g0 rfl) rfl ?_
    refine xj_aload_n (i := 0) hk dX7_offerFor_13 rfl rfl ?_
    refine xj_getfield hk dX7_offerFor_14 fl_X7_10 (xw_at g0 rfl) rfl ?_
    refine xj_callVE hk hz (fr1 := 1) (lo1 := 22) (As := [.ref (xw_ad v 1 0)]) (st := []) ml_X7_77 (c_X0_copyFromE (n := n) (show G 3 = pc_B v 3 A from g3) (show G 1 = pc_B v 1 B from g1) (by decide) hn hn30) (xw_at g3 rfl) rfl dX7_offerFor_17 ⟨Nat.le_of_ble_eq_true rfl, Nat.le_of_ble_eq_true rfl⟩ rfl (Nat.le_of_ble_eq_true rfl) rfl ?_
    rintro _ _ ⟨rfl, C, hC, rfl⟩
    show xj v κ _ z (xw_up G 3 (pc_B v 3 C)) 20 _ []
    refine xj_iconst (x := 1) hk dX7_offerFor_20 (by decide) ?_
    refine xj_istore_n (i := 2) (ls2 := [some (.ref (xw_ad v 0 0)), some (.int r1), some (.int 1)]) hk dX7_offerFor_21 rfl (by decide) rfl rfl ?_
    refine xj.to (ls' := [some (.ref (xw_ad v 0 0)), some (.int (r1)), some (.int (nI (0 + 1)))]) rfl ?_
    refine xj.eqG (G' := xw_up (xw_up G 3 (pc_B v 3 C)) 4 (pc_S v 4 3 Q)) (xw_up_same (show (xw_up G 3 (pc_B v 3 C)) 4 = pc_S v 4 3 Q from (show (xw_up G 3 (pc_B v 3 C)) 4 = pc_S v 4 3 Q from by rw [xw_up_n (by decide), g4]))).symm ?_
    refine l_X7_offerFor hk hz g0 hn30 how hhs r1 (fun A1 S1 okQ1 hx => ?_) (fun i A1 S1 okQ1 hi hx => ?_) (2000 + 1) 0 C Q (by omega) (by omega) rfl ⟨_, (show eqB n (bk_wte B (xu (bk_te B) 0 (bk_te B 0))) C from by rw [wte_self]; exact hC.1)⟩ hC.2.1 okQ
    · refine xj_bipush (x := (-2)) hk dX7_offerFor_50 (by decide) ?_
      refine xj_ireturn hk hz dX7_offerFor_52 ?_
      refine ⟨?_, ⟨okb, he12, ha12, hK0, hl700, htl, S, A1, S1, rd, sw, okS, okQ1, (show (xw_up (xw_up G 3 (pc_B v 3 A1)) 4 (pc_S v 4 3 S1)) 0 = pc_X v from (show (xw_up (xw_up G 3 (pc_B v 3 A1)) 4 (pc_S v 4 3 S1)) 0 = pc_X v from by rw [xw_up_n (by decide), xw_up_n (by decide), g0])), (show (xw_up (xw_up G 3 (pc_B v 3 A1)) 4 (pc_S v 4 3 S1)) 1 = pc_B v 1 B from (show (xw_up (xw_up G 3 (pc_B v 3 A1)) 4 (pc_S v 4 3 S1)) 1 = pc_B v 1 B from by rw [xw_up_n (by decide), xw_up_n (by decide), g1])), (show (xw_up (xw_up G 3 (pc_B v 3 A1)) 4 (pc_S v 4 3 S1)) 2 = pc_S v 2 1 S from (show (xw_up (xw_up G 3 (pc_B v 3 A1)) 4 (pc_S v 4 3 S1)) 2 = pc_S v 2 1 S from by rw [xw_up_n (by decide), xw_up_n (by decide), g2])), (show (xw_up (xw_up G 3 (pc_B v 3 A1)) 4 (pc_S v 4 3 S1)) 3 = pc_B v 3 A1 from (show (xw_up (xw_up G 3 (pc_B v 3 A1)) 4 (pc_S v 4 3 S1)) 3 = pc_B v 3 A1 from by rw [xw_up_n (by decide), xw_up_s])), (show (xw_up (xw_up G 3 (pc_B v 3 A1)) 4 (pc_S v 4 3 S1)) 4 = pc_S v 4 3 S1 from xw_up_s), (show (xw_up (xw_up G 3 (pc_B v 3 A1)) 4 (pc_S v 4 3 S1)) 5 = pc_P v (nI e, nI a) from (show (xw_up (xw_up G 3 (pc_B v 3 A1)) 4 (pc_S v 4 3 S1)) 5 = pP v (nI e) (nI a) from by rw [xw_up_n (by decide), xw_up_n (by decide), g5])), (fun j9 h9 => by rw [xw_up_n (by omega), xw_up_n (by omega)]; exact gK j9 h9), (show (xw_up (xw_up G 3 (pc_B v 3 A1)) 4 (pc_S v 4 3 S1)) 18 = pc_T v t from (show (xw_up (xw_up G 3 (pc_B v 3 A1)) 4 (pc_S v 4 3 S1)) 18 = pc_T v t from by rw [xw_up_n (by decide), xw_up_n (by decide), g18])), (show (xw_up (xw_up G 3 (pc_B v 3 A1)) 4 (pc_S v 4 3 S1)) 19 = pc_R v rd from (show (xw_up (xw_up G 3 (pc_B v 3 A1)) 4 (pc_S v 4 3 S1)) 19 = pc_R v rd from by rw [xw_up_n (by decide), xw_up_n (by decide), g19])), (show (xw_up (xw_up G 3 (pc_B v 3 A1)) 4 (pc_S v 4 3 S1)) 20 = pc_W  sw from (show (xw_up (xw_up G 3 (pc_B v 3 A1)) 4 (pc_S v 4 3 S1)) 20 = pc_W  sw from by rw [xw_up_n (by decide), xw_up_n (by decide), g20]))⟩, (fun g h9 => by rw [xw_up_n (by omega), xw_up_n (by omega)])⟩
      simp only [q_offer]; rw [if_pos c4, if_neg (by rw [hx]; exact Nat.lt_irrefl _)]
    · refine xj_iload_n (i := 2) hk dX7_offerFor_42 rfl rfl ?_
      refine xj_ireturn hk hz dX7_offerFor_43 ?_
      refine ⟨?_, ⟨okb, he12, ha12, hK0, hl700, htl, S, A1, S1, rd, sw, okS, okQ1, (show (xw_up (xw_up G 3 (pc_B v 3 A1)) 4 (pc_S v 4 3 S1)) 0 = pc_X v from (show (xw_up (xw_up G 3 (pc_B v 3 A1)) 4 (pc_S v 4 3 S1)) 0 = pc_X v from by rw [xw_up_n (by decide), xw_up_n (by decide), g0])), (show (xw_up (xw_up G 3 (pc_B v 3 A1)) 4 (pc_S v 4 3 S1)) 1 = pc_B v 1 B from (show (xw_up (xw_up G 3 (pc_B v 3 A1)) 4 (pc_S v 4 3 S1)) 1 = pc_B v 1 B from by rw [xw_up_n (by decide), xw_up_n (by decide), g1])), (show (xw_up (xw_up G 3 (pc_B v 3 A1)) 4 (pc_S v 4 3 S1)) 2 = pc_S v 2 1 S from (show (xw_up (xw_up G 3 (pc_B v 3 A1)) 4 (pc_S v 4 3 S1)) 2 = pc_S v 2 1 S from by rw [xw_up_n (by decide), xw_up_n (by decide), g2])), (show (xw_up (xw_up G 3 (pc_B v 3 A1)) 4 (pc_S v 4 3 S1)) 3 = pc_B v 3 A1 from (show (xw_up (xw_up G 3 (pc_B v 3 A1)) 4 (pc_S v 4 3 S1)) 3 = pc_B v 3 A1 from by rw [xw_up_n (by decide), xw_up_s])), (show (xw_up (xw_up G 3 (pc_B v 3 A1)) 4 (pc_S v 4 3 S1)) 4 = pc_S v 4 3 S1 from xw_up_s), (show (xw_up (xw_up G 3 (pc_B v 3 A1)) 4 (pc_S v 4 3 S1)) 5 = pc_P v (nI e, nI a) from (show (xw_up (xw_up G 3 (pc_B v 3 A1)) 4 (pc_S v 4 3 S1)) 5 = pP v (nI e) (nI a) from by rw [xw_up_n (by decide), xw_up_n (by decide), g5])), (fun j9 h9 => by rw [xw_up_n (by omega), xw_up_n (by omega)]; exact gK j9 h9), (show (xw_up (xw_up G 3 (pc_B v 3 A1)) 4 (pc_S v 4 3 S1)) 18 = pc_T v t from (show (xw_up (xw_up G 3 (pc_B v 3 A1)) 4 (pc_S v 4 3 S1)) 18 = pc_T v t from by rw [xw_up_n (by decide), xw_up_n (by decide), g18])), (show (xw_up (xw_up G 3 (pc_B v 3 A1)) 4 (pc_S v 4 3 S1)) 19 = pc_R v rd from (show (xw_up (xw_up G 3 (pc_B v 3 A1)) 4 (pc_S v 4 3 S1)) 19 = pc_R v rd from by rw [xw_up_n (by decide), xw_up_n (by decide), g19])), (show (xw_up (xw_up G 3 (pc_B v 3 A1)) 4 (pc_S v 4 3 S1)) 20 = pc_W  sw from (show (xw_up (xw_up G 3 (pc_B v 3 A1)) 4 (pc_S v 4 3 S1)) 20 = pc_W  sw from by rw [xw_up_n (by decide), xw_up_n (by decide), g20]))⟩, (fun g h9 => by rw [xw_up_n (by omega), xw_up_n (by omega)])⟩
      simp only [q_offer]; rw [if_pos c4, if_pos (by rw [hx]; exact hi), hx]
  · refine xj_iconst (x := (-1)) hk dX7_offerFor_7 (by decide) ?_
    refine xj_ireturn hk hz dX7_offerFor_8 ?_
    refine ⟨?_, ⟨okb, he12, ha12, hK0, hl700, htl, S, A, Q, rd, sw, okS, okQ, (show G 0 = pc_X v from g0), (show G 1 = pc_B v 1 B from g1), (show G 2 = pc_S v 2 1 S from g2), (show G 3 = pc_B v 3 A from g3), (show G 4 = pc_S v 4 3 Q from g4), (show G 5 = pc_P v (nI e, nI a) from g5), gK, (show G 18 = pc_T v t from g18), (show G 19 = pc_R v rd from g19), (show G 20 = pc_W  sw from g20)⟩, (fun _ _ => rfl)⟩
    simp [q_offer, c4]

set_option maxHeartbeats 1000000 in
set_option maxRecDepth 10000 in
theorem l_X7_limitFor {v : xw_V} {κ : xk_K} {post : Option Value → xw_G → Prop} {z : Nat × Nat × Nat} {G : xw_G} {B : bk_T} {n : Nat} (hk : xk_Ok v κ yX7_limitFor cX7_limitFor 4 (some .int) 7 159) (hz : xk_zf κ = z) (g0 : G 0 = pc_X v) (hn30 : n ≤ 30) (how : okOw (bk_ow B)) (hhs : okHs (bk_hs B) n) (h y : Int32) (kx : ∀ (A : bk_T) (Q : sl_T), okO Q → fnd (p_limit B n h y) 100 = 100 → xj v κ post z (xw_up (xw_up G 3 (pc_B v 3 A)) 4 (pc_S v 4 3 Q)) 62 [some (.ref (xw_ad v 0 0)), some (.int h), some (.int y), some (.int (nI (100 + 1)))] []) (kr : ∀ (i : Nat) (A : bk_T) (Q : sl_T), okO Q → i < 100 → fnd (p_limit B n h y) 100 = i → xj v κ post z (xw_up (xw_up G 3 (pc_B v 3 A)) 4 (pc_S v 4 3 Q)) 54 [some (.ref (xw_ad v 0 0)), some (.int h), some (.int y), some (.int (nI (i + 1)))] []) : ∀ (m : Nat) (i : Nat) (A : bk_T) (Q : sl_T), 100 - i < m → i ≤ 100 → fnd (p_limit B n h y) i = i → (∃ x0, eqB n (bk_wte B (xu (bk_te B) 1 x0)) A) → bk_bi A = nI n → okO Q → xj v κ post z (xw_up (xw_up G 3 (pc_B v 3 A)) 4 (pc_S v 4 3 Q)) 31 [some (.ref (xw_ad v 0 0)), some (.int h), some (.int y), some (.int (nI (i + 1)))] [] := by
  intro m
  induction m with
  | zero => intro i A Q h; exact absurd h (Nat.not_lt_zero _)
  | succ m ih =>
    intro i A Q hm hi hf he hnA okQ
    obtain ⟨x0, he⟩ := he
    refine xj_iload_n (i := 3) hk dX7_limitFor_31 rfl rfl ?_
    refine xj_getstat (q := xk_stats[2]) hk (List.getElem_mem _) dX7_limitFor_32 sl_X7_257 ?_
    refine xj_iconst (x := 1) hk dX7_limitFor_35 (by decide) ?_
    refine xj_staload (q := xk_stats[2]) (k := 1) hk (List.getElem_mem _) dX7_limitFor_36 (show xi 1 1 7 from (xi_d 1 7 (by decide))) ?_
    refine xj.eqi (x' := 100) rfl ?_
    refine xj_icmp_gt (tgt := 62) hk dX7_limitFor_37 (by decide) (fun c37 => ?_) (fun c37 => ?_)
    · have c37 : 100 < i + 1 := (nI_ltI (a := 100) (b := i + 1) (by omega) (by omega)).mp c37
      have e9 : i = 100 := by omega
      subst e9
      exact kx _ _ okQ hf
    · have c37 : ¬ 100 < i + 1 := fun q => c37 ((nI_ltI (a := 100) (b := i + 1) (by omega) (by omega)).mpr q)
      refine xj_aload_n (i := 0) hk dX7_limitFor_40 rfl rfl ?_
      refine xj_iconst (x := 1) hk dX7_limitFor_41 (by decide) ?_
      refine xj.eqi (x' := nI 1) rfl ?_
      refine xj_iload_n (i := 3) hk dX7_limitFor_42 rfl rfl ?_
      refine xj_callVE hk hz (fr1 := 6) (lo1 := 137) (As := [.int (nI 1), .int (nI (i + 1))]) (st := []) ml_X7_247 (c_X7_tryTerm (n := n) (k := 1) (B := B) (show (xw_up (xw_up G 3 (pc_B v 3 A)) 4 (pc_S v 4 3 Q)) 0 = pc_X v from (show (xw_up (xw_up G 3 (pc_B v 3 A)) 4 (pc_S v 4 3 Q)) 0 = pc_X v from by rw [xw_up_n (by decide), xw_up_n (by decide), g0])) (show (xw_up (xw_up G 3 (pc_B v 3 A)) 4 (pc_S v 4 3 Q)) 3 = pc_B v 3 A from (show (xw_up (xw_up G 3 (pc_B v 3 A)) 4 (pc_S v 4 3 Q)) 3 = pc_B v 3 A from by rw [xw_up_n (by decide), xw_up_s])) (show (xw_up (xw_up G 3 (pc_B v 3 A)) 4 (pc_S v 4 3 Q)) 4 = pc_S v 4 3 Q from xw_up_s) okQ hnA hn30 how hhs he (by decide) (nI (i + 1))) (xw_at (show (xw_up (xw_up G 3 (pc_B v 3 A)) 4 (pc_S v 4 3 Q)) 0 = pc_X v from by rw [xw_up_n (by decide), xw_up_n (by decide), g0]) rfl) rfl dX7_limitFor_43 ⟨Nat.le_of_ble_eq_true rfl, Nat.le_of_ble_eq_true rfl⟩ rfl (Nat.le_of_ble_eq_true rfl) rfl ?_
      rintro _ _ ⟨A1, S1, hA1, hnA1, hag, okQ1, hio1, rfl, rfl⟩
      refine xj.eqG (G' := xw_up (xw_up G 3 (pc_B v 3 A1)) 4 (pc_S v 4 3 S1)) up43 ?_
      show xj v κ _ z (xw_up (xw_up G 3 (pc_B v 3 A1)) 4 (pc_S v 4 3 S1)) 46 _ [.ref (xw_ad v 4 0)]
      refine xj_iload_n (i := 1) hk dX7_limitFor_46 rfl rfl ?_
      refine xj_callV hk hz (fr1 := 1) (lo1 := 25) (r1 := some (.int (sm (sel (bk_hs A1) h (sl_so S1)) n))) (As := [.int h]) (st := []) (st2 := [.int (sm (sel (bk_hs A1) h (sl_so S1)) n)]) (G1 := xw_up (xw_up G 3 (pc_B v 3 A1)) 4 (pc_S v 4 3 S1)) ml_X7_169 (c_X4_soldTo (n := n) (show (xw_up (xw_up G 3 (pc_B v 3 A1)) 4 (pc_S v 4 3 S1)) 4 = pc_S v 4 3 S1 from xw_up_s) (show (xw_up (xw_up G 3 (pc_B v 3 A1)) 4 (pc_S v 4 3 S1)) 3 = pc_B v 3 A1 from (show (xw_up (xw_up G 3 (pc_B v 3 A1)) 4 (pc_S v 4 3 S1)) 3 = pc_B v 3 A1 from by rw [xw_up_n (by decide), xw_up_s])) (by decide) hio1 hn30 h) (xw_at xw_up_s rfl) rfl dX7_limitFor_47 ⟨Nat.le_of_ble_eq_true rfl, Nat.le_of_ble_eq_true rfl⟩ rfl (Nat.le_of_ble_eq_true rfl) rfl rfl ?_
      refine xj.eqi (x' := sm (sel (bk_hs B) h (sl_so (kR (bk_wte B (xu (bk_te B) 1 (nI (i + 1)))) n))) n) (selso_eq (X := bk_wte B (xu (bk_te B) 1 (nI (i + 1)))) hA1 hag) ?_
      refine xj_iload_n (i := 2) hk dX7_limitFor_50 rfl rfl ?_
      refine xj_icmp_lt (tgt := 56) hk dX7_limitFor_51 (by decide) (fun c51 => ?_) (fun c51 => ?_)
      · refine xj_iinc (i := 3) (x2 := nI (i + 1 + 1)) (ls2 := [some (.ref (xw_ad v 0 0)), some (.int h), some (.int y), some (.int (nI (i + 1 + 1)))]) hk dX7_limitFor_56 rfl (nI_1 (i + 1)) (by decide) rfl rfl ?_
        refine xj_goto (tgt := 31) hk dX7_limitFor_59 (by decide) ?_
        exact ih (i + 1) A1 S1 (by omega) (by omega) (fnd_no hf (by simp [p_limit, c51])) ⟨_, hA1⟩ hnA1 okQ1
      · exact kr i A1 S1 okQ1 (by omega) (fnd_at hf (by simp [p_limit, c51]) _ (by omega))

set_option maxHeartbeats 1000000 in
set_option maxRecDepth 10000 in
theorem c_X7_limitFor {v : xw_V} {G : xw_G} {B : bk_T} {n r e a l : Nat} {K : Nat → bk_T} {t : tp_T} (hX : XB v G B n r e a K t l) (h : Int32) (y : Int32) : xk_Con v yX7_limitFor cX7_limitFor 4 (some .int) 7 159 [.ref (xw_ad v 0 0), .int h, .int y] G (fun r9 G' => r9 = some (.int (q_limit B n h y)) ∧ XB v G' B n r e a K t l ∧ XF G G') := by
  refine xk_of (ls0 := [some (.ref (xw_ad v 0 0)), some (.int h), some (.int y), none]) (by decide) rfl (Nat.le_of_ble_eq_true rfl) ?_
  intro κ z hk hz
  obtain ⟨okb, he12, ha12, hK0, hl700, htl, S, A, Q, rd, sw, okS, okQ, g0, g1, g2, g3, g4, g5, gK, g18, g19, g20⟩ := hX
  obtain ⟨hn, hn30, how, hhs, hr, hr8⟩ := id okb
  refine xj_iload_n (i := 1) hk dX7_limitFor_0 rfl rfl ?_
  refine xj_callS hk hz (fr1 := 0) (lo1 := 0) (r1 := some (.int (xb (isH h)))) (As := [.int h]) (st := []) (st2 := [.int (xb (isH h))]) (G1 := G) ml_X7_90 (c_X7_isHouse h) dX7_limitFor_1 ⟨Nat.le_of_ble_eq_true rfl, Nat.le_of_ble_eq_true rfl⟩ rfl (Nat.le_of_ble_eq_true rfl) rfl rfl ?_
  refine xj_ifb_eq (tgt := 12) hk dX7_limitFor_4 (by decide) (fun c4 => ?_) (fun c4 => ?_)
  · refine xj_iconst (x := (-1)) hk dX7_limitFor_12 (by decide) ?_
    refine xj_ireturn hk hz dX7_limitFor_13 ?_
    refine ⟨?_, ⟨okb, he12, ha12, hK0, hl700, htl, S, A, Q, rd, sw, okS, okQ, (show G 0 = pc_X v from g0), (show G 1 = pc_B v 1 B from g1), (show G 2 = pc_S v 2 1 S from g2), (show G 3 = pc_B v 3 A from g3), (show G 4 = pc_S v 4 3 Q from g4), (show G 5 = pc_P v (nI e, nI a) from g5), gK, (show G 18 = pc_T v t from g18), (show G 19 = pc_R v rd from g19), (show G 20 = pc_W  sw from g20)⟩, (fun _ _ => rfl)⟩
    simp [q_limit, c4]
  · refine xj_iload_n (i := 2) hk dX7_limitFor_7 rfl rfl ?_
    refine xj_iconst (x := 1) hk dX7_limitFor_8 (by decide) ?_
    refine xj_icmp_ge (tgt := 14) hk dX7_limitFor_9 (by decide) (fun c9 => ?_) (fun c9 => ?_)
    · refine xj_aload_n (i := 0) hk dX7_limitFor_14 rfl rfl ?_
      refine xj_getfield hk dX7_limitFor_15 fl_X7_25 (xw_at g0 rfl) rfl ?_
      refine xj_aload_n (i := 0) hk dX7_limitFor_18 rfl rfl ?_
      refine xj_getfield hk dX7_limitFor_19 fl_X7_10 (xw_at g0 rfl) rfl ?_
      refine xj_callVE hk hz (fr1 := 1) (lo1 := 22) (As := [.ref (xw_ad v 1 0)]) (st := []) ml_X7_77 (c_X0_copyFromE (n := n) (show G 3 = pc_B v 3 A from g3) (show G 1 = pc_B v 1 B from g1) (by decide) hn hn30) (xw_at g3 rfl) rfl dX7_limitFor_22 ⟨Nat.le_of_ble_eq_true rfl, Nat.le_of_ble_eq_true rfl⟩ rfl (Nat.le_of_ble_eq_true rfl) rfl ?_
      rintro _ _ ⟨rfl, C, hC, rfl⟩
      show xj v κ _ z (xw_up G 3 (pc_B v 3 C)) 25 _ []
      refine xj_getstat (q := xk_stats[1]) hk (List.getElem_mem _) dX7_limitFor_25 sl_X7_254 ?_
      refine xj_iconst (x := 1) hk dX7_limitFor_28 (by decide) ?_
      refine xj_staload (q := xk_stats[1]) (k := 1) hk (List.getElem_mem _) dX7_limitFor_29 (show xi 1 1 7 from (xi_d 1 7 (by decide))) ?_
      refine xj.eqi (x' := 1) rfl ?_
      refine xj_istore_n (i := 3) (ls2 := [some (.ref (xw_ad v 0 0)), some (.int h), some (.int y), some (.int 1)]) hk dX7_limitFor_30 rfl (by decide) rfl rfl ?_
      refine xj.to (ls' := [some (.ref (xw_ad v 0 0)), some (.int (h)), some (.int (y)), some (.int (nI (0 + 1)))]) rfl ?_
      refine xj.eqG (G' := xw_up (xw_up G 3 (pc_B v 3 C)) 4 (pc_S v 4 3 Q)) (xw_up_same (show (xw_up G 3 (pc_B v 3 C)) 4 = pc_S v 4 3 Q from (show (xw_up G 3 (pc_B v 3 C)) 4 = pc_S v 4 3 Q from by rw [xw_up_n (by decide), g4]))).symm ?_
      refine l_X7_limitFor hk hz g0 hn30 how hhs h y (fun A1 S1 okQ1 hx => ?_) (fun i A1 S1 okQ1 hi hx => ?_) (100 + 1) 0 C Q (by omega) (by omega) rfl ⟨_, (show eqB n (bk_wte B (xu (bk_te B) 1 (bk_te B 1))) C from by rw [wte_self]; exact hC.1)⟩ hC.2.1 okQ
      · refine xj_bipush (x := (-2)) hk dX7_limitFor_62 (by decide) ?_
        refine xj_ireturn hk hz dX7_limitFor_64 ?_
        refine ⟨?_, ⟨okb, he12, ha12, hK0, hl700, htl, S, A1, S1, rd, sw, okS, okQ1, (show (xw_up (xw_up G 3 (pc_B v 3 A1)) 4 (pc_S v 4 3 S1)) 0 = pc_X v from (show (xw_up (xw_up G 3 (pc_B v 3 A1)) 4 (pc_S v 4 3 S1)) 0 = pc_X v from by rw [xw_up_n (by decide), xw_up_n (by decide), g0])), (show (xw_up (xw_up G 3 (pc_B v 3 A1)) 4 (pc_S v 4 3 S1)) 1 = pc_B v 1 B from (show (xw_up (xw_up G 3 (pc_B v 3 A1)) 4 (pc_S v 4 3 S1)) 1 = pc_B v 1 B from by rw [xw_up_n (by decide), xw_up_n (by decide), g1])), (show (xw_up (xw_up G 3 (pc_B v 3 A1)) 4 (pc_S v 4 3 S1)) 2 = pc_S v 2 1 S from (show (xw_up (xw_up G 3 (pc_B v 3 A1)) 4 (pc_S v 4 3 S1)) 2 = pc_S v 2 1 S from by rw [xw_up_n (by decide), xw_up_n (by decide), g2])), (show (xw_up (xw_up G 3 (pc_B v 3 A1)) 4 (pc_S v 4 3 S1)) 3 = pc_B v 3 A1 from (show (xw_up (xw_up G 3 (pc_B v 3 A1)) 4 (pc_S v 4 3 S1)) 3 = pc_B v 3 A1 from by rw [xw_up_n (by decide), xw_up_s])), (show (xw_up (xw_up G 3 (pc_B v 3 A1)) 4 (pc_S v 4 3 S1)) 4 = pc_S v 4 3 S1 from xw_up_s), (show (xw_up (xw_up G 3 (pc_B v 3 A1)) 4 (pc_S v 4 3 S1)) 5 = pc_P v (nI e, nI a) from (show (xw_up (xw_up G 3 (pc_B v 3 A1)) 4 (pc_S v 4 3 S1)) 5 = pP v (nI e) (nI a) from by rw [xw_up_n (by decide), xw_up_n (by decide), g5])), (fun j9 h9 => by rw [xw_up_n (by omega), xw_up_n (by omega)]; exact gK j9 h9), (show (xw_up (xw_up G 3 (pc_B v 3 A1)) 4 (pc_S v 4 3 S1)) 18 = pc_T v t from (show (xw_up (xw_up G 3 (pc_B v 3 A1)) 4 (pc_S v 4 3 S1)) 18 = pc_T v t from by rw [xw_up_n (by decide), xw_up_n (by decide), g18])), (show (xw_up (xw_up G 3 (pc_B v 3 A1)) 4 (pc_S v 4 3 S1)) 19 = pc_R v rd from (show (xw_up (xw_up G 3 (pc_B v 3 A1)) 4 (pc_S v 4 3 S1)) 19 = pc_R v rd from by rw [xw_up_n (by decide), xw_up_n (by decide), g19])), (show (xw_up (xw_up G 3 (pc_B v 3 A1)) 4 (pc_S v 4 3 S1)) 20 = pc_W  sw from (show (xw_up (xw_up G 3 (pc_B v 3 A1)) 4 (pc_S v 4 3 S1)) 20 = pc_W  sw from by rw [xw_up_n (by decide), xw_up_n (by decide), g20]))⟩, (fun g h9 => by rw [xw_up_n (by omega), xw_up_n (by omega)])⟩
        simp only [q_limit]; rw [if_pos ⟨c4, c9⟩, if_neg (by rw [hx]; exact Nat.lt_irrefl _)]
      · refine xj_iload_n (i := 3) hk dX7_limitFor_54 rfl rfl ?_
        refine xj_ireturn hk hz dX7_limitFor_55 ?_
        refine ⟨?_, ⟨okb, he12, ha12, hK0, hl700, htl, S, A1, S1, rd, sw, okS, okQ1, (show (xw_up (xw_up G 3 (pc_B v 3 A1)) 4 (pc_S v 4 3 S1)) 0 = pc_X v from (show (xw_up (xw_up G 3 (pc_B v 3 A1)) 4 (pc_S v 4 3 S1)) 0 = pc_X v from by rw [xw_up_n (by decide), xw_up_n (by decide), g0])), (show (xw_up (xw_up G 3 (pc_B v 3 A1)) 4 (pc_S v 4 3 S1)) 1 = pc_B v 1 B from (show (xw_up (xw_up G 3 (pc_B v 3 A1)) 4 (pc_S v 4 3 S1)) 1 = pc_B v 1 B from by rw [xw_up_n (by decide), xw_up_n (by decide), g1])), (show (xw_up (xw_up G 3 (pc_B v 3 A1)) 4 (pc_S v 4 3 S1)) 2 = pc_S v 2 1 S from (show (xw_up (xw_up G 3 (pc_B v 3 A1)) 4 (pc_S v 4 3 S1)) 2 = pc_S v 2 1 S from by rw [xw_up_n (by decide), xw_up_n (by decide), g2])), (show (xw_up (xw_up G 3 (pc_B v 3 A1)) 4 (pc_S v 4 3 S1)) 3 = pc_B v 3 A1 from (show (xw_up (xw_up G 3 (pc_B v 3 A1)) 4 (pc_S v 4 3 S1)) 3 = pc_B v 3 A1 from by rw [xw_up_n (by decide), xw_up_s])), (show (xw_up (xw_up G 3 (pc_B v 3 A1)) 4 (pc_S v 4 3 S1)) 4 = pc_S v 4 3 S1 from xw_up_s), (show (xw_up (xw_up G 3 (pc_B v 3 A1)) 4 (pc_S v 4 3 S1)) 5 = pc_P v (nI e, nI a) from (show (xw_up (xw_up G 3 (pc_B v 3 A1)) 4 (pc_S v 4 3 S1)) 5 = pP v (nI e) (nI a) from by rw [xw_up_n (by decide), xw_up_n (by decide), g5])), (fun j9 h9 => by rw [xw_up_n (by omega), xw_up_n (by omega)]; exact gK j9 h9), (show (xw_up (xw_up G 3 (pc_B v 3 A1)) 4 (pc_S v 4 3 S1)) 18 = pc_T v t from (show (xw_up (xw_up G 3 (pc_B v 3 A1)) 4 (pc_S v 4 3 S1)) 18 = pc_T v t from by rw [xw_up_n (by decide), xw_up_n (by decide), g18])), (show (xw_up (xw_up G 3 (pc_B v 3 A1)) 4 (pc_S v 4 3 S1)) 19 = pc_R v rd from (show (xw_up (xw_up G 3 (pc_B v 3 A1)) 4 (pc_S v 4 3 S1)) 19 = pc_R v rd from by rw [xw_up_n (by decide), xw_up_n (by decide), g19])), (show (xw_up (xw_up G 3 (pc_B v 3 A1)) 4 (pc_S v 4 3 S1)) 20 = pc_W  sw from (show (xw_up (xw_up G 3 (pc_B v 3 A1)) 4 (pc_S v 4 3 S1)) 20 = pc_W  sw from by rw [xw_up_n (by decide), xw_up_n (by decide), g20]))⟩, (fun g h9 => by rw [xw_up_n (by omega), xw_up_n (by omega)])⟩
        simp only [q_limit]; rw [if_pos ⟨c4, c9⟩, if_pos (by rw [hx]; exact hi), hx]
    · refine xj_iconst (x := (-1)) hk dX7_limitFor_12 (by decide) ?_
      refine xj_ireturn hk hz dX7_limitFor_13 ?_
      refine ⟨?_, ⟨okb, he12, ha12, hK0, hl700, htl, S, A, Q, rd, sw, okS, okQ, (show G 0 = pc_X v from g0), (show G 1 = pc_B v 1 B from g1), (show G 2 = pc_S v 2 1 S from g2), (show G 3 = pc_B v 3 A from g3), (show G 4 = pc_S v 4 3 Q from g4), (show G 5 = pc_P v (nI e, nI a) from g5), gK, (show G 18 = pc_T v t from g18), (show G 19 = pc_R v rd from g19), (show G 20 = pc_W  sw from g20)⟩, (fun _ _ => rfl)⟩
      simp [q_limit, c4, c9]

set_option maxHeartbeats 1000000 in
set_option maxRecDepth 10000 in
theorem l_X7_shareFor {v : xw_V} {κ : xk_K} {post : Option Value → xw_G → Prop} {z : Nat × Nat × Nat} {G : xw_G} {B : bk_T} {n : Nat} (hk : xk_Ok v κ yX7_shareFor cX7_shareFor 3 (some .int) 7 159) (hz : xk_zf κ = z) (g0 : G 0 = pc_X v) (hn30 : n ≤ 30) (how : okOw (bk_ow B)) (hhs : okHs (bk_hs B) n) (y : Int32) (kx : ∀ (A : bk_T) (Q : sl_T), okO Q → fnd (p_share B n y) 101 = 101 → xj v κ post z (xw_up (xw_up G 3 (pc_B v 3 A)) 4 (pc_S v 4 3 Q)) 54 [some (.ref (xw_ad v 0 0)), some (.int y), some (.int (nI 101))] []) (kr : ∀ (i : Nat) (A : bk_T) (Q : sl_T), okO Q → i < 101 → fnd (p_share B n y) 101 = i → xj v κ post z (xw_up (xw_up G 3 (pc_B v 3 A)) 4 (pc_S v 4 3 Q)) 46 [some (.ref (xw_ad v 0 0)), some (.int y), some (.int (nI i))] []) : ∀ (m : Nat) (i : Nat) (A : bk_T) (Q : sl_T), 101 - i < m → i ≤ 101 → fnd (p_share B n y) i = i → (∃ x0, eqB n (bk_wte B (xu (bk_te B) 2 x0)) A) → bk_bi A = nI n → okO Q → xj v κ post z (xw_up (xw_up G 3 (pc_B v 3 A)) 4 (pc_S v 4 3 Q)) 24 [some (.ref (xw_ad v 0 0)), some (.int y), some (.int (nI i))] [] := by
  intro m
  induction m with
  | zero => intro i A Q h; exact absurd h (Nat.not_lt_zero _)
  | succ m ih =>
    intro i A Q hm hi hf he hnA okQ
    obtain ⟨x0, he⟩ := he
    refine xj_iload_n (i := 2) hk dX7_shareFor_24 rfl rfl ?_
    refine xj_getstat (q := xk_stats[2]) hk (List.getElem_mem _) dX7_shareFor_25 sl_X7_257 ?_
    refine xj_iconst (x := 2) hk dX7_shareFor_28 (by decide) ?_
    refine xj_staload (q := xk_stats[2]) (k := 2) hk (List.getElem_mem _) dX7_shareFor_29 (show xi 2 2 7 from (xi_d 2 7 (by decide))) ?_
    refine xj.eqi (x' := 100) rfl ?_
    refine xj_icmp_gt (tgt := 54) hk dX7_shareFor_30 (by decide) (fun c30 => ?_) (fun c30 => ?_)
    · have c30 : 100 < i := (nI_ltI (a := 100) (b := i) (by omega) (by omega)).mp c30
      have e9 : i = 101 := by omega
      subst e9
      exact kx _ _ okQ hf
    · have c30 : ¬ 100 < i := fun q => c30 ((nI_ltI (a := 100) (b := i) (by omega) (by omega)).mpr q)
      refine xj_aload_n (i := 0) hk dX7_shareFor_33 rfl rfl ?_
      refine xj_iconst (x := 2) hk dX7_shareFor_34 (by decide) ?_
      refine xj.eqi (x' := nI 2) rfl ?_
      refine xj_iload_n (i := 2) hk dX7_shareFor_35 rfl rfl ?_
      refine xj_callVE hk hz (fr1 := 6) (lo1 := 137) (As := [.int (nI 2), .int (nI i)]) (st := []) ml_X7_247 (c_X7_tryTerm (n := n) (k := 2) (B := B) (show (xw_up (xw_up G 3 (pc_B v 3 A)) 4 (pc_S v 4 3 Q)) 0 = pc_X v from (show (xw_up (xw_up G 3 (pc_B v 3 A)) 4 (pc_S v 4 3 Q)) 0 = pc_X v from by rw [xw_up_n (by decide), xw_up_n (by decide), g0])) (show (xw_up (xw_up G 3 (pc_B v 3 A)) 4 (pc_S v 4 3 Q)) 3 = pc_B v 3 A from (show (xw_up (xw_up G 3 (pc_B v 3 A)) 4 (pc_S v 4 3 Q)) 3 = pc_B v 3 A from by rw [xw_up_n (by decide), xw_up_s])) (show (xw_up (xw_up G 3 (pc_B v 3 A)) 4 (pc_S v 4 3 Q)) 4 = pc_S v 4 3 Q from xw_up_s) okQ hnA hn30 how hhs he (by decide) (nI i)) (xw_at (show (xw_up (xw_up G 3 (pc_B v 3 A)) 4 (pc_S v 4 3 Q)) 0 = pc_X v from by rw [xw_up_n (by decide), xw_up_n (by decide), g0]) rfl) rfl dX7_shareFor_36 ⟨Nat.le_of_ble_eq_true rfl, Nat.le_of_ble_eq_true rfl⟩ rfl (Nat.le_of_ble_eq_true rfl) rfl ?_
      rintro _ _ ⟨A1, S1, hA1, hnA1, hag, okQ1, hio1, rfl, rfl⟩
      refine xj.eqG (G' := xw_up (xw_up G 3 (pc_B v 3 A1)) 4 (pc_S v 4 3 S1)) up43 ?_
      show xj v κ _ z (xw_up (xw_up G 3 (pc_B v 3 A1)) 4 (pc_S v 4 3 S1)) 39 _ [.ref (xw_ad v 4 0)]
      refine xj_getfield hk dX7_shareFor_39 fl_X7_260 (xw_at xw_up_s rfl) rfl ?_
      refine xj.eqi (x' := sl_sp (kR (bk_wte B (xu (bk_te B) 2 (nI i))) n)) hag.2.2.2.2.2.2.1 ?_
      refine xj_iload_n (i := 1) hk dX7_shareFor_42 rfl rfl ?_
      refine xj_icmp_lt (tgt := 48) hk dX7_shareFor_43 (by decide) (fun c43 => ?_) (fun c43 => ?_)
      · refine xj_iinc (i := 2) (x2 := nI (i + 1)) (ls2 := [some (.ref (xw_ad v 0 0)), some (.int y), some (.int (nI (i + 1)))]) hk dX7_shareFor_48 rfl (nI_1 i) (by decide) rfl rfl ?_
        refine xj_goto (tgt := 24) hk dX7_shareFor_51 (by decide) ?_
        exact ih (i + 1) A1 S1 (by omega) (by omega) (fnd_no hf (by simp [p_share, c43])) ⟨_, hA1⟩ hnA1 okQ1
      · exact kr i A1 S1 okQ1 (by omega) (fnd_at hf (by simp [p_share, c43]) _ (by omega))

set_option maxHeartbeats 1000000 in
set_option maxRecDepth 10000 in
theorem c_X7_shareFor {v : xw_V} {G : xw_G} {B : bk_T} {n r e a l : Nat} {K : Nat → bk_T} {t : tp_T} (hX : XB v G B n r e a K t l) (y : Int32) : xk_Con v yX7_shareFor cX7_shareFor 3 (some .int) 7 159 [.ref (xw_ad v 0 0), .int y] G (fun r9 G' => r9 = some (.int (q_share B n y)) ∧ XB v G' B n r e a K t l ∧ XF G G') := by
  refine xk_of (ls0 := [some (.ref (xw_ad v 0 0)), some (.int y), none]) (by decide) rfl (Nat.le_of_ble_eq_true rfl) ?_
  intro κ z hk hz
  obtain ⟨okb, he12, ha12, hK0, hl700, htl, S, A, Q, rd, sw, okS, okQ, g0, g1, g2, g3, g4, g5, gK, g18, g19, g20⟩ := hX
  obtain ⟨hn, hn30, how, hhs, hr, hr8⟩ := id okb
  refine xj_iload_n (i := 1) hk dX7_shareFor_0 rfl rfl ?_
  refine xj_iconst (x := 1) hk dX7_shareFor_1 (by decide) ?_
  refine xj_icmp_ge (tgt := 7) hk dX7_shareFor_2 (by decide) (fun c2 => ?_) (fun c2 => ?_)
  · refine xj_aload_n (i := 0) hk dX7_shareFor_7 rfl rfl ?_
    refine xj_getfield hk dX7_shareFor_8 fl_X7_25 (xw_at g0 rfl) rfl ?_
    refine xj_aload_n (i := 0) hk dX7_shareFor_11 rfl rfl ?_
    refine xj_getfield hk dX7_shareFor_12 fl_X7_10 (xw_at g0 rfl) rfl ?_
    refine xj_callVE hk hz (fr1 := 1) (lo1 := 22) (As := [.ref (xw_ad v 1 0)]) (st := []) ml_X7_77 (c_X0_copyFromE (n := n) (show G 3 = pc_B v 3 A from g3) (show G 1 = pc_B v 1 B from g1) (by decide) hn hn30) (xw_at g3 rfl) rfl dX7_shareFor_15 ⟨Nat.le_of_ble_eq_true rfl, Nat.le_of_ble_eq_true rfl⟩ rfl (Nat.le_of_ble_eq_true rfl) rfl ?_
    rintro _ _ ⟨rfl, C, hC, rfl⟩
    show xj v κ _ z (xw_up G 3 (pc_B v 3 C)) 18 _ []
    refine xj_getstat (q := xk_stats[1]) hk (List.getElem_mem _) dX7_shareFor_18 sl_X7_254 ?_
    refine xj_iconst (x := 2) hk dX7_shareFor_21 (by decide) ?_
    refine xj_staload (q := xk_stats[1]) (k := 2) hk (List.getElem_mem _) dX7_shareFor_22 (show xi 2 2 7 from (xi_d 2 7 (by decide))) ?_
    refine xj.eqi (x' := 0) rfl ?_
    refine xj_istore_n (i := 2) (ls2 := [some (.ref (xw_ad v 0 0)), some (.int y), some (.int 0)]) hk dX7_shareFor_23 rfl (by decide) rfl rfl ?_
    refine xj.to (ls' := [some (.ref (xw_ad v 0 0)), some (.int (y)), some (.int (nI 0))]) rfl ?_
    refine xj.eqG (G' := xw_up (xw_up G 3 (pc_B v 3 C)) 4 (pc_S v 4 3 Q)) (xw_up_same (show (xw_up G 3 (pc_B v 3 C)) 4 = pc_S v 4 3 Q from (show (xw_up G 3 (pc_B v 3 C)) 4 = pc_S v 4 3 Q from by rw [xw_up_n (by decide), g4]))).symm ?_
    refine l_X7_shareFor hk hz g0 hn30 how hhs y (fun A1 S1 okQ1 hx => ?_) (fun i A1 S1 okQ1 hi hx => ?_) (101 + 1) 0 C Q (by omega) (by omega) rfl ⟨_, (show eqB n (bk_wte B (xu (bk_te B) 2 (bk_te B 2))) C from by rw [wte_self]; exact hC.1)⟩ hC.2.1 okQ
    · refine xj_bipush (x := (-2)) hk dX7_shareFor_54 (by decide) ?_
      refine xj_ireturn hk hz dX7_shareFor_56 ?_
      refine ⟨?_, ⟨okb, he12, ha12, hK0, hl700, htl, S, A1, S1, rd, sw, okS, okQ1, (show (xw_up (xw_up G 3 (pc_B v 3 A1)) 4 (pc_S v 4 3 S1)) 0 = pc_X v from (show (xw_up (xw_up G 3 (pc_B v 3 A1)) 4 (pc_S v 4 3 S1)) 0 = pc_X v from by rw [xw_up_n (by decide), xw_up_n (by decide), g0])), (show (xw_up (xw_up G 3 (pc_B v 3 A1)) 4 (pc_S v 4 3 S1)) 1 = pc_B v 1 B from (show (xw_up (xw_up G 3 (pc_B v 3 A1)) 4 (pc_S v 4 3 S1)) 1 = pc_B v 1 B from by rw [xw_up_n (by decide), xw_up_n (by decide), g1])), (show (xw_up (xw_up G 3 (pc_B v 3 A1)) 4 (pc_S v 4 3 S1)) 2 = pc_S v 2 1 S from (show (xw_up (xw_up G 3 (pc_B v 3 A1)) 4 (pc_S v 4 3 S1)) 2 = pc_S v 2 1 S from by rw [xw_up_n (by decide), xw_up_n (by decide), g2])), (show (xw_up (xw_up G 3 (pc_B v 3 A1)) 4 (pc_S v 4 3 S1)) 3 = pc_B v 3 A1 from (show (xw_up (xw_up G 3 (pc_B v 3 A1)) 4 (pc_S v 4 3 S1)) 3 = pc_B v 3 A1 from by rw [xw_up_n (by decide), xw_up_s])), (show (xw_up (xw_up G 3 (pc_B v 3 A1)) 4 (pc_S v 4 3 S1)) 4 = pc_S v 4 3 S1 from xw_up_s), (show (xw_up (xw_up G 3 (pc_B v 3 A1)) 4 (pc_S v 4 3 S1)) 5 = pc_P v (nI e, nI a) from (show (xw_up (xw_up G 3 (pc_B v 3 A1)) 4 (pc_S v 4 3 S1)) 5 = pP v (nI e) (nI a) from by rw [xw_up_n (by decide), xw_up_n (by decide), g5])), (fun j9 h9 => by rw [xw_up_n (by omega), xw_up_n (by omega)]; exact gK j9 h9), (show (xw_up (xw_up G 3 (pc_B v 3 A1)) 4 (pc_S v 4 3 S1)) 18 = pc_T v t from (show (xw_up (xw_up G 3 (pc_B v 3 A1)) 4 (pc_S v 4 3 S1)) 18 = pc_T v t from by rw [xw_up_n (by decide), xw_up_n (by decide), g18])), (show (xw_up (xw_up G 3 (pc_B v 3 A1)) 4 (pc_S v 4 3 S1)) 19 = pc_R v rd from (show (xw_up (xw_up G 3 (pc_B v 3 A1)) 4 (pc_S v 4 3 S1)) 19 = pc_R v rd from by rw [xw_up_n (by decide), xw_up_n (by decide), g19])), (show (xw_up (xw_up G 3 (pc_B v 3 A1)) 4 (pc_S v 4 3 S1)) 20 = pc_W  sw from (show (xw_up (xw_up G 3 (pc_B v 3 A1)) 4 (pc_S v 4 3 S1)) 20 = pc_W  sw from by rw [xw_up_n (by decide), xw_up_n (by decide), g20]))⟩, (fun g h9 => by rw [xw_up_n (by omega), xw_up_n (by omega)])⟩
      simp only [q_share]; rw [if_pos c2, if_neg (by rw [hx]; exact Nat.lt_irrefl _)]
    · refine xj_iload_n (i := 2) hk dX7_shareFor_46 rfl rfl ?_
      refine xj_ireturn hk hz dX7_shareFor_47 ?_
      refine ⟨?_, ⟨okb, he12, ha12, hK0, hl700, htl, S, A1, S1, rd, sw, okS, okQ1, (show (xw_up (xw_up G 3 (pc_B v 3 A1)) 4 (pc_S v 4 3 S1)) 0 = pc_X v from (show (xw_up (xw_up G 3 (pc_B v 3 A1)) 4 (pc_S v 4 3 S1)) 0 = pc_X v from by rw [xw_up_n (by decide), xw_up_n (by decide), g0])), (show (xw_up (xw_up G 3 (pc_B v 3 A1)) 4 (pc_S v 4 3 S1)) 1 = pc_B v 1 B from (show (xw_up (xw_up G 3 (pc_B v 3 A1)) 4 (pc_S v 4 3 S1)) 1 = pc_B v 1 B from by rw [xw_up_n (by decide), xw_up_n (by decide), g1])), (show (xw_up (xw_up G 3 (pc_B v 3 A1)) 4 (pc_S v 4 3 S1)) 2 = pc_S v 2 1 S from (show (xw_up (xw_up G 3 (pc_B v 3 A1)) 4 (pc_S v 4 3 S1)) 2 = pc_S v 2 1 S from by rw [xw_up_n (by decide), xw_up_n (by decide), g2])), (show (xw_up (xw_up G 3 (pc_B v 3 A1)) 4 (pc_S v 4 3 S1)) 3 = pc_B v 3 A1 from (show (xw_up (xw_up G 3 (pc_B v 3 A1)) 4 (pc_S v 4 3 S1)) 3 = pc_B v 3 A1 from by rw [xw_up_n (by decide), xw_up_s])), (show (xw_up (xw_up G 3 (pc_B v 3 A1)) 4 (pc_S v 4 3 S1)) 4 = pc_S v 4 3 S1 from xw_up_s), (show (xw_up (xw_up G 3 (pc_B v 3 A1)) 4 (pc_S v 4 3 S1)) 5 = pc_P v (nI e, nI a) from (show (xw_up (xw_up G 3 (pc_B v 3 A1)) 4 (pc_S v 4 3 S1)) 5 = pP v (nI e) (nI a) from by rw [xw_up_n (by decide), xw_up_n (by decide), g5])), (fun j9 h9 => by rw [xw_up_n (by omega), xw_up_n (by omega)]; exact gK j9 h9), (show (xw_up (xw_up G 3 (pc_B v 3 A1)) 4 (pc_S v 4 3 S1)) 18 = pc_T v t from (show (xw_up (xw_up G 3 (pc_B v 3 A1)) 4 (pc_S v 4 3 S1)) 18 = pc_T v t from by rw [xw_up_n (by decide), xw_up_n (by decide), g18])), (show (xw_up (xw_up G 3 (pc_B v 3 A1)) 4 (pc_S v 4 3 S1)) 19 = pc_R v rd from (show (xw_up (xw_up G 3 (pc_B v 3 A1)) 4 (pc_S v 4 3 S1)) 19 = pc_R v rd from by rw [xw_up_n (by decide), xw_up_n (by decide), g19])), (show (xw_up (xw_up G 3 (pc_B v 3 A1)) 4 (pc_S v 4 3 S1)) 20 = pc_W  sw from (show (xw_up (xw_up G 3 (pc_B v 3 A1)) 4 (pc_S v 4 3 S1)) 20 = pc_W  sw from by rw [xw_up_n (by decide), xw_up_n (by decide), g20]))⟩, (fun g h9 => by rw [xw_up_n (by omega), xw_up_n (by omega)])⟩
      simp only [q_share]; rw [if_pos c2, if_pos (by rw [hx]; exact hi), hx]
  · refine xj_iconst (x := (-1)) hk dX7_shareFor_5 (by decide) ?_
    refine xj_ireturn hk hz dX7_shareFor_6 ?_
    refine ⟨?_, ⟨okb, he12, ha12, hK0, hl700, htl, S, A, Q, rd, sw, okS, okQ, (show G 0 = pc_X v from g0), (show G 1 = pc_B v 1 B from g1), (show G 2 = pc_S v 2 1 S from g2), (show G 3 = pc_B v 3 A from g3), (show G 4 = pc_S v 4 3 Q from g4), (show G 5 = pc_P v (nI e, nI a) from g5), gK, (show G 18 = pc_T v t from g18), (show G 19 = pc_R v rd from g19), (show G 20 = pc_W  sw from g20)⟩, (fun _ _ => rfl)⟩
    simp [q_share, c2]

theorem pos_of {y : Int32} (h : 1 ≤ y) : ∃ m, 1 ≤ m ∧ m < 2 ^ 31 ∧ y = nI m := by
  have h0 : ¬ y < 0 := by
    intro q
    have a := Int32.lt_iff_toInt_lt.mp q
    have b := Int32.le_iff_toInt_le.mp h
    simp at a b
    omega
  obtain ⟨m, hm, rfl⟩ := nI_of h0
  exact ⟨m, (nI_leI (a := 1) (b := m) (by omega) hm).mp h, hm, rfl⟩
noncomputable def p_lots (B : bk_T) (n j m i : Nat) : Bool := !(decide (sl_so (kR (bk_wlo B (xu (bk_lo B) j (nI (m + i)))) n) j < nI m))
noncomputable def q_lots (B : bk_T) (n : Nat) (b y : Int32) : Int32 := if hasB (bk_bi B) b = true ∧ 1 ≤ y then (if fnd (p_lots B n (xn b) (xn y)) (1001 - xn y) < 1001 - xn y then nI (xn y + fnd (p_lots B n (xn b) (xn y)) (1001 - xn y)) else -2) else -1
noncomputable def p_yield (B : bk_T) (n j : Nat) (y : Int32) (i : Nat) : Bool := !(decide (sl_so (kR (bk_wra B (xu (bk_ra B) j (nI (999 - i)))) n) j < y))
noncomputable def q_yield (B : bk_T) (n : Nat) (b y : Int32) : Int32 := if hasB (bk_bi B) b = true ∧ ¬ bk_ra B (xn b) = -1 ∧ 1 ≤ y then (if fnd (p_yield B n (xn b) y) 1000 < 1000 then nI (999 - fnd (p_yield B n (xn b) y) 1000) else -2) else -1
set_option maxHeartbeats 1000000 in
set_option maxRecDepth 10000 in
theorem l_X7_lotsFor {v : xw_V} {κ : xk_K} {post : Option Value → xw_G → Prop} {z : Nat × Nat × Nat} {G : xw_G} {B : bk_T} {n : Nat} {j u0 : Nat} (hk : xk_Ok v κ yX7_lotsFor cX7_lotsFor 4 (some .int) 6 137) (hz : xk_zf κ = z) (g0 : G 0 = pc_X v) (hn30 : n ≤ 30) (how : okOw (bk_ow B)) (hhs : okHs (bk_hs B) n) (hj_j : j < n) (hm1 : 1 ≤ u0) (hm31 : u0 < 2 ^ 31) (kx : ∀ (A : bk_T) (Q : sl_T), okO Q → fnd (p_lots B n j u0) (1001 - u0) = 1001 - u0 → xj v κ post z (xw_up (xw_up G 3 (pc_B v 3 A)) 4 (pc_S v 4 3 Q)) 69 [some (.ref (xw_ad v 0 0)), some (.int (nI j)), some (.int (nI u0)), some (.int (nI (u0 + (1001 - u0))))] []) (kr : ∀ (i : Nat) (A : bk_T) (Q : sl_T), okO Q → i < 1001 - u0 → fnd (p_lots B n j u0) (1001 - u0) = i → xj v κ post z (xw_up (xw_up G 3 (pc_B v 3 A)) 4 (pc_S v 4 3 Q)) 61 [some (.ref (xw_ad v 0 0)), some (.int (nI j)), some (.int (nI u0)), some (.int (nI (u0 + i)))] []) : ∀ (m : Nat) (i : Nat) (A : bk_T) (Q : sl_T), 1001 - u0 - i < m → i ≤ 1001 - u0 → fnd (p_lots B n j u0) i = i → (∃ x0, eqB n (bk_wlo B (xu (bk_lo B) j x0)) A) → bk_bi A = nI n → okO Q → xj v κ post z (xw_up (xw_up G 3 (pc_B v 3 A)) 4 (pc_S v 4 3 Q)) 31 [some (.ref (xw_ad v 0 0)), some (.int (nI j)), some (.int (nI u0)), some (.int (nI (u0 + i)))] [] := by
  intro m
  induction m with
  | zero => intro i A Q h; exact absurd h (Nat.not_lt_zero _)
  | succ m ih =>
    intro i A Q hm hi hf he hnA okQ
    obtain ⟨x0, he⟩ := he
    refine xj_iload_n (i := 3) hk dX7_lotsFor_31 rfl rfl ?_
    refine xj_sipush (x := 1000) hk dX7_lotsFor_32 (by decide) ?_
    refine xj_icmp_gt (tgt := 69) hk dX7_lotsFor_35 (by decide) (fun c35 => ?_) (fun c35 => ?_)
    · have c35 : 1000 < u0 + i := (nI_ltI (a := 1000) (b := u0 + i) (by omega) (by omega)).mp c35
      have e9 : i = 1001 - u0 := by omega
      subst e9
      exact kx _ _ okQ hf
    · have c35 : ¬ 1000 < u0 + i := fun q => c35 ((nI_ltI (a := 1000) (b := u0 + i) (by omega) (by omega)).mpr q)
      refine xj_aload_n (i := 0) hk dX7_lotsFor_38 rfl rfl ?_
      refine xj_getfield hk dX7_lotsFor_39 fl_X7_25 (xw_at (show (xw_up (xw_up G 3 (pc_B v 3 A)) 4 (pc_S v 4 3 Q)) 0 = pc_X v from by rw [xw_up_n (by decide), xw_up_n (by decide), g0]) rfl) rfl ?_
      refine xj_getfield hk dX7_lotsFor_42 fl_X7_116 (xw_at (show (xw_up (xw_up G 3 (pc_B v 3 A)) 4 (pc_S v 4 3 Q)) 3 = pc_B v 3 A from by rw [xw_up_n (by decide), xw_up_s]) rfl) rfl ?_
      refine xj_iload_n (i := 1) hk dX7_lotsFor_45 rfl rfl ?_
      refine xj_iload_n (i := 3) hk dX7_lotsFor_46 rfl rfl ?_
      refine xj_iastore (k := j) (G2 := xw_up (xw_up G 3 (pB v 3 (bk_te A) (bk_ho A) (bk_ow A) (bk_hs A) (bk_ra A) (xu (bk_lo A) j (nI (u0 + i))) (bk_bi A) (bk_st A) (bk_av A) (bk_so A) (bk_pa A) (bk_ln A))) 4 (pc_S v 4 3 Q)) hk dX7_lotsFor_47 (xw_at (show (xw_up (xw_up G 3 (pc_B v 3 A)) 4 (pc_S v 4 3 Q)) 3 = pc_B v 3 A from by rw [xw_up_n (by decide), xw_up_s]) rfl) (xi_n (by omega) (by decide)) (by rw [(show (xw_up (xw_up G 3 (pc_B v 3 A)) 4 (pc_S v 4 3 Q)) 3 = pc_B v 3 A from by rw [xw_up_n (by decide), xw_up_s]), xw_up_c (by decide), xw_up_u]; rfl) ?_
      refine xj_aload_n (i := 0) hk dX7_lotsFor_48 rfl rfl ?_
      refine xj_callVE hk hz (fr1 := 5) (lo1 := 117) (As := []) (st := []) ml_X7_251 (c_X7_tried (n := n) (show (xw_up (xw_up G 3 (pB v 3 (bk_te A) (bk_ho A) (bk_ow A) (bk_hs A) (bk_ra A) (xu (bk_lo A) j (nI (u0 + i))) (bk_bi A) (bk_st A) (bk_av A) (bk_so A) (bk_pa A) (bk_ln A))) 4 (pc_S v 4 3 Q)) 0 = pc_X v from (show (xw_up (xw_up G 3 (pB v 3 (bk_te A) (bk_ho A) (bk_ow A) (bk_hs A) (bk_ra A) (xu (bk_lo A) j (nI (u0 + i))) (bk_bi A) (bk_st A) (bk_av A) (bk_so A) (bk_pa A) (bk_ln A))) 4 (pc_S v 4 3 Q)) 0 = pc_X v from by rw [xw_up_n (by decide), xw_up_n (by decide), g0])) (show (xw_up (xw_up G 3 (pB v 3 (bk_te A) (bk_ho A) (bk_ow A) (bk_hs A) (bk_ra A) (xu (bk_lo A) j (nI (u0 + i))) (bk_bi A) (bk_st A) (bk_av A) (bk_so A) (bk_pa A) (bk_ln A))) 4 (pc_S v 4 3 Q)) 3 = pc_B v 3 (bk_te A, bk_ho A, bk_ow A, bk_hs A, bk_ra A, xu (bk_lo A) j (nI (u0 + i)), bk_bi A, bk_st A, bk_av A, bk_so A, bk_pa A, bk_ln A) from (show (xw_up (xw_up G 3 (pB v 3 (bk_te A) (bk_ho A) (bk_ow A) (bk_hs A) (bk_ra A) (xu (bk_lo A) j (nI (u0 + i))) (bk_bi A) (bk_st A) (bk_av A) (bk_so A) (bk_pa A) (bk_ln A))) 4 (pc_S v 4 3 Q)) 3 = pB v 3 (bk_te A) (bk_ho A) (bk_ow A) (bk_hs A) (bk_ra A) (xu (bk_lo A) j (nI (u0 + i))) (bk_bi A) (bk_st A) (bk_av A) (bk_so A) (bk_pa A) (bk_ln A) from by rw [xw_up_n (by decide), xw_up_s])) (show (xw_up (xw_up G 3 (pB v 3 (bk_te A) (bk_ho A) (bk_ow A) (bk_hs A) (bk_ra A) (xu (bk_lo A) j (nI (u0 + i))) (bk_bi A) (bk_st A) (bk_av A) (bk_so A) (bk_pa A) (bk_ln A))) 4 (pc_S v 4 3 Q)) 4 = pc_S v 4 3 Q from xw_up_s) okQ hnA hn30 (eqB_ow (eqB_lo (nI (u0 + i)) he) how) (eqB_hs (eqB_lo (nI (u0 + i)) he) hhs)) (xw_at (show (xw_up (xw_up G 3 (pB v 3 (bk_te A) (bk_ho A) (bk_ow A) (bk_hs A) (bk_ra A) (xu (bk_lo A) j (nI (u0 + i))) (bk_bi A) (bk_st A) (bk_av A) (bk_so A) (bk_pa A) (bk_ln A))) 4 (pc_S v 4 3 Q)) 0 = pc_X v from by rw [xw_up_n (by decide), xw_up_n (by decide), g0]) rfl) rfl dX7_lotsFor_49 ⟨Nat.le_of_ble_eq_true rfl, Nat.le_of_ble_eq_true rfl⟩ rfl (Nat.le_of_ble_eq_true rfl) rfl ?_
      rintro _ _ ⟨S1, hS1, rfl, rfl⟩
      have hag := kR_ag2 (B := (bk_wlo B (xu (bk_lo B) j (nI (u0 + i))))) (eqB_lo (nI (u0 + i)) he) how hhs hS1
      have hio1 := RecS_io hS1
      simp only [xw_up_u]
      have okQ1 : okO S1 := Rec_okO hn30 hS1
      show xj v κ _ z (xw_up (xw_up G 3 (pB v 3 (bk_te A) (bk_ho A) (bk_ow A) (bk_hs A) (bk_ra A) (xu (bk_lo A) j (nI (u0 + i))) (bk_bi A) (bk_st A) (bk_av A) (bk_so A) (bk_pa A) (bk_ln A))) 4 (pc_S v 4 3 S1)) 52 _ [.ref (xw_ad v 4 0)]
      refine xj_getfield hk dX7_lotsFor_52 fl_X7_190 (xw_at xw_up_s rfl) rfl ?_
      refine xj_iload_n (i := 1) hk dX7_lotsFor_55 rfl rfl ?_
      refine xj_iaload (k := j) hk dX7_lotsFor_56 (xw_at xw_up_s rfl) (xi_n (by omega) (by decide)) ?_
      refine xj.eqi (x' := sl_so (kR (bk_wlo B (xu (bk_lo B) j (nI (u0 + i)))) n) j) (hag.1 j hj_j).2.2.2 ?_
      refine xj_iload_n (i := 2) hk dX7_lotsFor_57 rfl rfl ?_
      refine xj_icmp_lt (tgt := 63) hk dX7_lotsFor_58 (by decide) (fun c58 => ?_) (fun c58 => ?_)
      · refine xj_iinc (i := 3) (x2 := nI (u0 + i + 1)) (ls2 := [some (.ref (xw_ad v 0 0)), some (.int (nI j)), some (.int (nI u0)), some (.int (nI (u0 + i + 1)))]) hk dX7_lotsFor_63 rfl (nI_1 (u0 + i)) (by decide) rfl rfl ?_
        refine xj_goto (tgt := 31) hk dX7_lotsFor_66 (by decide) ?_
        exact ih (i + 1) (bk_wlo A (xu (bk_lo A) j (nI (u0 + i)))) S1 (by omega) (by omega) (fnd_no hf (by simp [p_lots, c58])) ⟨_, (eqB_lo (nI (u0 + i)) he)⟩ hnA okQ1
      · exact kr i (bk_wlo A (xu (bk_lo A) j (nI (u0 + i)))) S1 okQ1 (by omega) (fnd_at hf (by simp [p_lots, c58]) _ (by omega))

set_option maxHeartbeats 1000000 in
set_option maxRecDepth 10000 in
theorem c_X7_lotsFor {v : xw_V} {G : xw_G} {B : bk_T} {n r e a l : Nat} {K : Nat → bk_T} {t : tp_T} (hX : XB v G B n r e a K t l) (b : Int32) (y : Int32) : xk_Con v yX7_lotsFor cX7_lotsFor 4 (some .int) 6 137 [.ref (xw_ad v 0 0), .int b, .int y] G (fun r9 G' => r9 = some (.int (q_lots B n b y)) ∧ XB v G' B n r e a K t l ∧ XF G G') := by
  refine xk_of (ls0 := [some (.ref (xw_ad v 0 0)), some (.int b), some (.int y), none]) (by decide) rfl (Nat.le_of_ble_eq_true rfl) ?_
  intro κ z hk hz
  obtain ⟨okb, he12, ha12, hK0, hl700, htl, S, A, Q, rd, sw, okS, okQ, g0, g1, g2, g3, g4, g5, gK, g18, g19, g20⟩ := hX
  obtain ⟨hn, hn30, how, hhs, hr, hr8⟩ := id okb
  refine xj_aload_n (i := 0) hk dX7_lotsFor_0 rfl rfl ?_
  refine xj_getfield hk dX7_lotsFor_1 fl_X7_10 (xw_at g0 rfl) rfl ?_
  refine xj_iload_n (i := 1) hk dX7_lotsFor_4 rfl rfl ?_
  refine xj_callV hk hz (fr1 := 0) (lo1 := 0) (r1 := some (.int (xb (hasB (bk_bi B) b)))) (As := [.int b]) (st := []) (st2 := [.int (xb (hasB (bk_bi B) b))]) (G1 := G) ml_X7_103 (c_X0_hasBid (show G 1 = pc_B v 1 B from g1) b) (xw_at g1 rfl) rfl dX7_lotsFor_5 ⟨Nat.le_of_ble_eq_true rfl, Nat.le_of_ble_eq_true rfl⟩ rfl (Nat.le_of_ble_eq_true rfl) rfl rfl ?_
  refine xj_ifb_eq (tgt := 16) hk dX7_lotsFor_8 (by decide) (fun c8 => ?_) (fun c8 => ?_)
  · refine xj_iconst (x := (-1)) hk dX7_lotsFor_16 (by decide) ?_
    refine xj_ireturn hk hz dX7_lotsFor_17 ?_
    refine ⟨?_, ⟨okb, he12, ha12, hK0, hl700, htl, S, A, Q, rd, sw, okS, okQ, (show G 0 = pc_X v from g0), (show G 1 = pc_B v 1 B from g1), (show G 2 = pc_S v 2 1 S from g2), (show G 3 = pc_B v 3 A from g3), (show G 4 = pc_S v 4 3 Q from g4), (show G 5 = pc_P v (nI e, nI a) from g5), gK, (show G 18 = pc_T v t from g18), (show G 19 = pc_R v rd from g19), (show G 20 = pc_W  sw from g20)⟩, (fun _ _ => rfl)⟩
    simp [q_lots, c8]
  · obtain ⟨j, hj_j, rfl⟩ := hasB_of hn hn30 c8
    refine xj_iload_n (i := 2) hk dX7_lotsFor_11 rfl rfl ?_
    refine xj_iconst (x := 1) hk dX7_lotsFor_12 (by decide) ?_
    refine xj_icmp_ge (tgt := 18) hk dX7_lotsFor_13 (by decide) (fun c13 => ?_) (fun c13 => ?_)
    · obtain ⟨u0, hm1, hm31, rfl⟩ := pos_of c13
      refine xj_aload_n (i := 0) hk dX7_lotsFor_18 rfl rfl ?_
      refine xj_getfield hk dX7_lotsFor_19 fl_X7_25 (xw_at g0 rfl) rfl ?_
      refine xj_aload_n (i := 0) hk dX7_lotsFor_22 rfl rfl ?_
      refine xj_getfield hk dX7_lotsFor_23 fl_X7_10 (xw_at g0 rfl) rfl ?_
      refine xj_callVE hk hz (fr1 := 1) (lo1 := 22) (As := [.ref (xw_ad v 1 0)]) (st := []) ml_X7_77 (c_X0_copyFromE (n := n) (show G 3 = pc_B v 3 A from g3) (show G 1 = pc_B v 1 B from g1) (by decide) hn hn30) (xw_at g3 rfl) rfl dX7_lotsFor_26 ⟨Nat.le_of_ble_eq_true rfl, Nat.le_of_ble_eq_true rfl⟩ rfl (Nat.le_of_ble_eq_true rfl) rfl ?_
      rintro _ _ ⟨rfl, C, hC, rfl⟩
      show xj v κ _ z (xw_up G 3 (pc_B v 3 C)) 29 _ []
      refine xj_iload_n (i := 2) hk dX7_lotsFor_29 rfl rfl ?_
      refine xj_istore_n (i := 3) (ls2 := [some (.ref (xw_ad v 0 0)), some (.int (nI j)), some (.int (nI u0)), some (.int (nI u0))]) hk dX7_lotsFor_30 rfl (by decide) rfl rfl ?_
      refine xj.to (ls' := [some (.ref (xw_ad v 0 0)), some (.int (nI j)), some (.int (nI u0)), some (.int (nI (u0 + 0)))]) rfl ?_
      refine xj.eqG (G' := xw_up (xw_up G 3 (pc_B v 3 C)) 4 (pc_S v 4 3 Q)) (xw_up_same (show (xw_up G 3 (pc_B v 3 C)) 4 = pc_S v 4 3 Q from (show (xw_up G 3 (pc_B v 3 C)) 4 = pc_S v 4 3 Q from by rw [xw_up_n (by decide), g4]))).symm ?_
      refine l_X7_lotsFor hk hz g0 hn30 how hhs hj_j hm1 hm31 (fun A1 S1 okQ1 hx => ?_) (fun i A1 S1 okQ1 hi hx => ?_) (1001 - u0 + 1) 0 C Q (by omega) (by omega) rfl ⟨_, (show eqB n (bk_wlo B (xu (bk_lo B) j (bk_lo B j))) C from by rw [wlo_self]; exact hC.1)⟩ hC.2.1 okQ
      · refine xj_bipush (x := (-2)) hk dX7_lotsFor_69 (by decide) ?_
        refine xj_ireturn hk hz dX7_lotsFor_71 ?_
        refine ⟨?_, ⟨okb, he12, ha12, hK0, hl700, htl, S, A1, S1, rd, sw, okS, okQ1, (show (xw_up (xw_up G 3 (pc_B v 3 A1)) 4 (pc_S v 4 3 S1)) 0 = pc_X v from (show (xw_up (xw_up G 3 (pc_B v 3 A1)) 4 (pc_S v 4 3 S1)) 0 = pc_X v from by rw [xw_up_n (by decide), xw_up_n (by decide), g0])), (show (xw_up (xw_up G 3 (pc_B v 3 A1)) 4 (pc_S v 4 3 S1)) 1 = pc_B v 1 B from (show (xw_up (xw_up G 3 (pc_B v 3 A1)) 4 (pc_S v 4 3 S1)) 1 = pc_B v 1 B from by rw [xw_up_n (by decide), xw_up_n (by decide), g1])), (show (xw_up (xw_up G 3 (pc_B v 3 A1)) 4 (pc_S v 4 3 S1)) 2 = pc_S v 2 1 S from (show (xw_up (xw_up G 3 (pc_B v 3 A1)) 4 (pc_S v 4 3 S1)) 2 = pc_S v 2 1 S from by rw [xw_up_n (by decide), xw_up_n (by decide), g2])), (show (xw_up (xw_up G 3 (pc_B v 3 A1)) 4 (pc_S v 4 3 S1)) 3 = pc_B v 3 A1 from (show (xw_up (xw_up G 3 (pc_B v 3 A1)) 4 (pc_S v 4 3 S1)) 3 = pc_B v 3 A1 from by rw [xw_up_n (by decide), xw_up_s])), (show (xw_up (xw_up G 3 (pc_B v 3 A1)) 4 (pc_S v 4 3 S1)) 4 = pc_S v 4 3 S1 from xw_up_s), (show (xw_up (xw_up G 3 (pc_B v 3 A1)) 4 (pc_S v 4 3 S1)) 5 = pc_P v (nI e, nI a) from (show (xw_up (xw_up G 3 (pc_B v 3 A1)) 4 (pc_S v 4 3 S1)) 5 = pP v (nI e) (nI a) from by rw [xw_up_n (by decide), xw_up_n (by decide), g5])), (fun j9 h9 => by rw [xw_up_n (by omega), xw_up_n (by omega)]; exact gK j9 h9), (show (xw_up (xw_up G 3 (pc_B v 3 A1)) 4 (pc_S v 4 3 S1)) 18 = pc_T v t from (show (xw_up (xw_up G 3 (pc_B v 3 A1)) 4 (pc_S v 4 3 S1)) 18 = pc_T v t from by rw [xw_up_n (by decide), xw_up_n (by decide), g18])), (show (xw_up (xw_up G 3 (pc_B v 3 A1)) 4 (pc_S v 4 3 S1)) 19 = pc_R v rd from (show (xw_up (xw_up G 3 (pc_B v 3 A1)) 4 (pc_S v 4 3 S1)) 19 = pc_R v rd from by rw [xw_up_n (by decide), xw_up_n (by decide), g19])), (show (xw_up (xw_up G 3 (pc_B v 3 A1)) 4 (pc_S v 4 3 S1)) 20 = pc_W  sw from (show (xw_up (xw_up G 3 (pc_B v 3 A1)) 4 (pc_S v 4 3 S1)) 20 = pc_W  sw from by rw [xw_up_n (by decide), xw_up_n (by decide), g20]))⟩, (fun g h9 => by rw [xw_up_n (by omega), xw_up_n (by omega)])⟩
        simp only [q_lots, xn_nI (show j < 2 ^ 31 by omega), xn_nI (show u0 < 2 ^ 31 by omega)]; rw [if_pos ⟨hasB_nI hn hn30 hj_j, c13⟩, if_neg (by rw [hx]; exact Nat.lt_irrefl _)]
      · refine xj_iload_n (i := 3) hk dX7_lotsFor_61 rfl rfl ?_
        refine xj_ireturn hk hz dX7_lotsFor_62 ?_
        refine ⟨?_, ⟨okb, he12, ha12, hK0, hl700, htl, S, A1, S1, rd, sw, okS, okQ1, (show (xw_up (xw_up G 3 (pc_B v 3 A1)) 4 (pc_S v 4 3 S1)) 0 = pc_X v from (show (xw_up (xw_up G 3 (pc_B v 3 A1)) 4 (pc_S v 4 3 S1)) 0 = pc_X v from by rw [xw_up_n (by decide), xw_up_n (by decide), g0])), (show (xw_up (xw_up G 3 (pc_B v 3 A1)) 4 (pc_S v 4 3 S1)) 1 = pc_B v 1 B from (show (xw_up (xw_up G 3 (pc_B v 3 A1)) 4 (pc_S v 4 3 S1)) 1 = pc_B v 1 B from by rw [xw_up_n (by decide), xw_up_n (by decide), g1])), (show (xw_up (xw_up G 3 (pc_B v 3 A1)) 4 (pc_S v 4 3 S1)) 2 = pc_S v 2 1 S from (show (xw_up (xw_up G 3 (pc_B v 3 A1)) 4 (pc_S v 4 3 S1)) 2 = pc_S v 2 1 S from by rw [xw_up_n (by decide), xw_up_n (by decide), g2])), (show (xw_up (xw_up G 3 (pc_B v 3 A1)) 4 (pc_S v 4 3 S1)) 3 = pc_B v 3 A1 from (show (xw_up (xw_up G 3 (pc_B v 3 A1)) 4 (pc_S v 4 3 S1)) 3 = pc_B v 3 A1 from by rw [xw_up_n (by decide), xw_up_s])), (show (xw_up (xw_up G 3 (pc_B v 3 A1)) 4 (pc_S v 4 3 S1)) 4 = pc_S v 4 3 S1 from xw_up_s), (show (xw_up (xw_up G 3 (pc_B v 3 A1)) 4 (pc_S v 4 3 S1)) 5 = pc_P v (nI e, nI a) from (show (xw_up (xw_up G 3 (pc_B v 3 A1)) 4 (pc_S v 4 3 S1)) 5 = pP v (nI e) (nI a) from by rw [xw_up_n (by decide), xw_up_n (by decide), g5])), (fun j9 h9 => by rw [xw_up_n (by omega), xw_up_n (by omega)]; exact gK j9 h9), (show (xw_up (xw_up G 3 (pc_B v 3 A1)) 4 (pc_S v 4 3 S1)) 18 = pc_T v t from (show (xw_up (xw_up G 3 (pc_B v 3 A1)) 4 (pc_S v 4 3 S1)) 18 = pc_T v t from by rw [xw_up_n (by decide), xw_up_n (by decide), g18])), (show (xw_up (xw_up G 3 (pc_B v 3 A1)) 4 (pc_S v 4 3 S1)) 19 = pc_R v rd from (show (xw_up (xw_up G 3 (pc_B v 3 A1)) 4 (pc_S v 4 3 S1)) 19 = pc_R v rd from by rw [xw_up_n (by decide), xw_up_n (by decide), g19])), (show (xw_up (xw_up G 3 (pc_B v 3 A1)) 4 (pc_S v 4 3 S1)) 20 = pc_W  sw from (show (xw_up (xw_up G 3 (pc_B v 3 A1)) 4 (pc_S v 4 3 S1)) 20 = pc_W  sw from by rw [xw_up_n (by decide), xw_up_n (by decide), g20]))⟩, (fun g h9 => by rw [xw_up_n (by omega), xw_up_n (by omega)])⟩
        simp only [q_lots, xn_nI (show j < 2 ^ 31 by omega), xn_nI (show u0 < 2 ^ 31 by omega)]; rw [if_pos ⟨hasB_nI hn hn30 hj_j, c13⟩, if_pos (by rw [hx]; exact hi), hx]
    · refine xj_iconst (x := (-1)) hk dX7_lotsFor_16 (by decide) ?_
      refine xj_ireturn hk hz dX7_lotsFor_17 ?_
      refine ⟨?_, ⟨okb, he12, ha12, hK0, hl700, htl, S, A, Q, rd, sw, okS, okQ, (show G 0 = pc_X v from g0), (show G 1 = pc_B v 1 B from g1), (show G 2 = pc_S v 2 1 S from g2), (show G 3 = pc_B v 3 A from g3), (show G 4 = pc_S v 4 3 Q from g4), (show G 5 = pc_P v (nI e, nI a) from g5), gK, (show G 18 = pc_T v t from g18), (show G 19 = pc_R v rd from g19), (show G 20 = pc_W  sw from g20)⟩, (fun _ _ => rfl)⟩
      simp [q_lots, c8, xn_nI (show j < 2 ^ 31 by omega), c13]

set_option maxHeartbeats 1000000 in
set_option maxRecDepth 10000 in
theorem l_X7_yieldFor {v : xw_V} {κ : xk_K} {post : Option Value → xw_G → Prop} {z : Nat × Nat × Nat} {G : xw_G} {B : bk_T} {n : Nat} {j : Nat} (hk : xk_Ok v κ yX7_yieldFor cX7_yieldFor 4 (some .int) 7 159) (hz : xk_zf κ = z) (g0 : G 0 = pc_X v) (hn30 : n ≤ 30) (how : okOw (bk_ow B)) (hhs : okHs (bk_hs B) n) (y : Int32) (hj_j : j < n) (kx : ∀ (A : bk_T) (Q : sl_T), okO Q → fnd (p_yield B n j y) 1000 = 1000 → xj v κ post z (xw_up (xw_up G 3 (pc_B v 3 A)) 4 (pc_S v 4 3 Q)) 73 [some (.ref (xw_ad v 0 0)), some (.int (nI j)), some (.int y), some (.int (nI (1000 - 1000) - 1))] []) (kr : ∀ (i : Nat) (A : bk_T) (Q : sl_T), okO Q → i < 1000 → fnd (p_yield B n j y) 1000 = i → xj v κ post z (xw_up (xw_up G 3 (pc_B v 3 A)) 4 (pc_S v 4 3 Q)) 65 [some (.ref (xw_ad v 0 0)), some (.int (nI j)), some (.int y), some (.int (nI (999 - i)))] []) : ∀ (m : Nat) (i : Nat) (A : bk_T) (Q : sl_T), 1000 - i < m → i ≤ 1000 → fnd (p_yield B n j y) i = i → (∃ x0, eqB n (bk_wra B (xu (bk_ra B) j x0)) A) → bk_bi A = nI n → okO Q → xj v κ post z (xw_up (xw_up G 3 (pc_B v 3 A)) 4 (pc_S v 4 3 Q)) 46 [some (.ref (xw_ad v 0 0)), some (.int (nI j)), some (.int y), some (.int (nI (1000 - i) - 1))] [] := by
  intro m
  induction m with
  | zero => intro i A Q h; exact absurd h (Nat.not_lt_zero _)
  | succ m ih =>
    intro i A Q hm hi hf he hnA okQ
    obtain ⟨x0, he⟩ := he
    refine xj_iload_n (i := 3) hk dX7_yieldFor_46 rfl rfl ?_
    refine xj_if_lt (tgt := 73) hk dX7_yieldFor_47 (by decide) (fun c47 => ?_) (fun c47 => ?_)
    · have c47 : i = 1000 := by have := (nI_neg (i := 1000 - i) (by omega)).mp c47; omega
      have e9 : i = 1000 := by omega
      subst e9
      exact kx _ _ okQ hf
    · have c47 : ¬ i = 1000 := fun q => c47 ((nI_neg (i := 1000 - i) (by omega)).mpr (by omega))
      refine xj.to (ls' := [some (.ref (xw_ad v 0 0)), some (.int (nI j)), some (.int y), some (.int (nI (999 - i)))]) (by rw [nI_sub1 (k := 1000 - i) (by omega), show 1000 - i - 1 = 999 - i by omega]) ?_
      refine xj_aload_n (i := 0) hk dX7_yieldFor_50 rfl rfl ?_
      refine xj_iload_n (i := 1) hk dX7_yieldFor_51 rfl rfl ?_
      refine xj_iload_n (i := 3) hk dX7_yieldFor_52 rfl rfl ?_
      refine xj_callVE hk hz (fr1 := 6) (lo1 := 137) (As := [.int (nI j), .int (nI (999 - i))]) (st := []) ml_X7_263 (c_X7_tryRate (n := n) (k := j) (B := B) (show (xw_up (xw_up G 3 (pc_B v 3 A)) 4 (pc_S v 4 3 Q)) 0 = pc_X v from (show (xw_up (xw_up G 3 (pc_B v 3 A)) 4 (pc_S v 4 3 Q)) 0 = pc_X v from by rw [xw_up_n (by decide), xw_up_n (by decide), g0])) (show (xw_up (xw_up G 3 (pc_B v 3 A)) 4 (pc_S v 4 3 Q)) 3 = pc_B v 3 A from (show (xw_up (xw_up G 3 (pc_B v 3 A)) 4 (pc_S v 4 3 Q)) 3 = pc_B v 3 A from by rw [xw_up_n (by decide), xw_up_s])) (show (xw_up (xw_up G 3 (pc_B v 3 A)) 4 (pc_S v 4 3 Q)) 4 = pc_S v 4 3 Q from xw_up_s) okQ hnA hn30 how hhs he hj_j (nI (999 - i))) (xw_at (show (xw_up (xw_up G 3 (pc_B v 3 A)) 4 (pc_S v 4 3 Q)) 0 = pc_X v from by rw [xw_up_n (by decide), xw_up_n (by decide), g0]) rfl) rfl dX7_yieldFor_53 ⟨Nat.le_of_ble_eq_true rfl, Nat.le_of_ble_eq_true rfl⟩ rfl (Nat.le_of_ble_eq_true rfl) rfl ?_
      rintro _ _ ⟨A1, S1, hA1, hnA1, hag, okQ1, hio1, rfl, rfl⟩
      refine xj.eqG (G' := xw_up (xw_up G 3 (pc_B v 3 A1)) 4 (pc_S v 4 3 S1)) up43 ?_
      show xj v κ _ z (xw_up (xw_up G 3 (pc_B v 3 A1)) 4 (pc_S v 4 3 S1)) 56 _ [.ref (xw_ad v 4 0)]
      refine xj_getfield hk dX7_yieldFor_56 fl_X7_190 (xw_at xw_up_s rfl) rfl ?_
      refine xj_iload_n (i := 1) hk dX7_yieldFor_59 rfl rfl ?_
      refine xj_iaload (k := j) hk dX7_yieldFor_60 (xw_at xw_up_s rfl) (xi_n (by omega) (by decide)) ?_
      refine xj.eqi (x' := sl_so (kR (bk_wra B (xu (bk_ra B) j (nI (999 - i)))) n) j) (hag.1 j hj_j).2.2.2 ?_
      refine xj_iload_n (i := 2) hk dX7_yieldFor_61 rfl rfl ?_
      refine xj_icmp_lt (tgt := 67) hk dX7_yieldFor_62 (by decide) (fun c62 => ?_) (fun c62 => ?_)
      · refine xj_iinc (i := 3) (x2 := nI (1000 - (i + 1)) - 1) (ls2 := [some (.ref (xw_ad v 0 0)), some (.int (nI j)), some (.int y), some (.int (nI (1000 - (i + 1)) - 1))]) hk dX7_yieldFor_67 rfl (by rw [nI_decI, show 1000 - (i + 1) = 999 - i by omega]) (by decide) rfl rfl ?_
        refine xj_goto (tgt := 46) hk dX7_yieldFor_70 (by decide) ?_
        exact ih (i + 1) A1 S1 (by omega) (by omega) (fnd_no hf (by simp [p_yield, c62])) ⟨_, hA1⟩ hnA1 okQ1
      · exact kr i A1 S1 okQ1 (by omega) (fnd_at hf (by simp [p_yield, c62]) _ (by omega))

set_option maxHeartbeats 1000000 in
set_option maxRecDepth 10000 in
theorem c_X7_yieldFor {v : xw_V} {G : xw_G} {B : bk_T} {n r e a l : Nat} {K : Nat → bk_T} {t : tp_T} (hX : XB v G B n r e a K t l) (b : Int32) (y : Int32) : xk_Con v yX7_yieldFor cX7_yieldFor 4 (some .int) 7 159 [.ref (xw_ad v 0 0), .int b, .int y] G (fun r9 G' => r9 = some (.int (q_yield B n b y)) ∧ XB v G' B n r e a K t l ∧ XF G G') := by
  refine xk_of (ls0 := [some (.ref (xw_ad v 0 0)), some (.int b), some (.int y), none]) (by decide) rfl (Nat.le_of_ble_eq_true rfl) ?_
  intro κ z hk hz
  obtain ⟨okb, he12, ha12, hK0, hl700, htl, S, A, Q, rd, sw, okS, okQ, g0, g1, g2, g3, g4, g5, gK, g18, g19, g20⟩ := hX
  obtain ⟨hn, hn30, how, hhs, hr, hr8⟩ := id okb
  refine xj_aload_n (i := 0) hk dX7_yieldFor_0 rfl rfl ?_
  refine xj_getfield hk dX7_yieldFor_1 fl_X7_10 (xw_at g0 rfl) rfl ?_
  refine xj_iload_n (i := 1) hk dX7_yieldFor_4 rfl rfl ?_
  refine xj_callV hk hz (fr1 := 0) (lo1 := 0) (r1 := some (.int (xb (hasB (bk_bi B) b)))) (As := [.int b]) (st := []) (st2 := [.int (xb (hasB (bk_bi B) b))]) (G1 := G) ml_X7_103 (c_X0_hasBid (show G 1 = pc_B v 1 B from g1) b) (xw_at g1 rfl) rfl dX7_yieldFor_5 ⟨Nat.le_of_ble_eq_true rfl, Nat.le_of_ble_eq_true rfl⟩ rfl (Nat.le_of_ble_eq_true rfl) rfl rfl ?_
  refine xj_ifb_eq (tgt := 29) hk dX7_yieldFor_8 (by decide) (fun c8 => ?_) (fun c8 => ?_)
  · refine xj_iconst (x := (-1)) hk dX7_yieldFor_29 (by decide) ?_
    refine xj_ireturn hk hz dX7_yieldFor_30 ?_
    refine ⟨?_, ⟨okb, he12, ha12, hK0, hl700, htl, S, A, Q, rd, sw, okS, okQ, (show G 0 = pc_X v from g0), (show G 1 = pc_B v 1 B from g1), (show G 2 = pc_S v 2 1 S from g2), (show G 3 = pc_B v 3 A from g3), (show G 4 = pc_S v 4 3 Q from g4), (show G 5 = pc_P v (nI e, nI a) from g5), gK, (show G 18 = pc_T v t from g18), (show G 19 = pc_R v rd from g19), (show G 20 = pc_W  sw from g20)⟩, (fun _ _ => rfl)⟩
    simp [q_yield, c8]
  · obtain ⟨j, hj_j, rfl⟩ := hasB_of hn hn30 c8
    refine xj_aload_n (i := 0) hk dX7_yieldFor_11 rfl rfl ?_
    refine xj_getfield hk dX7_yieldFor_12 fl_X7_10 (xw_at g0 rfl) rfl ?_
    refine xj_getfield hk dX7_yieldFor_15 fl_X7_120 (xw_at g1 rfl) rfl ?_
    refine xj_iload_n (i := 1) hk dX7_yieldFor_18 rfl rfl ?_
    refine xj_iaload (k := j) hk dX7_yieldFor_19 (xw_at g1 rfl) (xi_n (by omega) (by decide)) ?_
    refine xj_iconst (x := (-1)) hk dX7_yieldFor_20 (by decide) ?_
    refine xj_icmp_eq (tgt := 29) hk dX7_yieldFor_21 (by decide) (fun c21 => ?_) (fun c21 => ?_)
    · refine xj_iconst (x := (-1)) hk dX7_yieldFor_29 (by decide) ?_
      refine xj_ireturn hk hz dX7_yieldFor_30 ?_
      refine ⟨?_, ⟨okb, he12, ha12, hK0, hl700, htl, S, A, Q, rd, sw, okS, okQ, (show G 0 = pc_X v from g0), (show G 1 = pc_B v 1 B from g1), (show G 2 = pc_S v 2 1 S from g2), (show G 3 = pc_B v 3 A from g3), (show G 4 = pc_S v 4 3 Q from g4), (show G 5 = pc_P v (nI e, nI a) from g5), gK, (show G 18 = pc_T v t from g18), (show G 19 = pc_R v rd from g19), (show G 20 = pc_W  sw from g20)⟩, (fun _ _ => rfl)⟩
      simp [q_yield, c8, xn_nI (show j < 2 ^ 31 by omega), c21]
    · refine xj_iload_n (i := 2) hk dX7_yieldFor_24 rfl rfl ?_
      refine xj_iconst (x := 1) hk dX7_yieldFor_25 (by decide) ?_
      refine xj_icmp_ge (tgt := 31) hk dX7_yieldFor_26 (by decide) (fun c26 => ?_) (fun c26 => ?_)
      · refine xj_aload_n (i := 0) hk dX7_yieldFor_31 rfl rfl ?_
        refine xj_getfield hk dX7_yieldFor_32 fl_X7_25 (xw_at g0 rfl) rfl ?_
        refine xj_aload_n (i := 0) hk dX7_yieldFor_35 rfl rfl ?_
        refine xj_getfield hk dX7_yieldFor_36 fl_X7_10 (xw_at g0 rfl) rfl ?_
        refine xj_callVE hk hz (fr1 := 1) (lo1 := 22) (As := [.ref (xw_ad v 1 0)]) (st := []) ml_X7_77 (c_X0_copyFromE (n := n) (show G 3 = pc_B v 3 A from g3) (show G 1 = pc_B v 1 B from g1) (by decide) hn hn30) (xw_at g3 rfl) rfl dX7_yieldFor_39 ⟨Nat.le_of_ble_eq_true rfl, Nat.le_of_ble_eq_true rfl⟩ rfl (Nat.le_of_ble_eq_true rfl) rfl ?_
        rintro _ _ ⟨rfl, C, hC, rfl⟩
        show xj v κ _ z (xw_up G 3 (pc_B v 3 C)) 42 _ []
        refine xj_sipush (x := 999) hk dX7_yieldFor_42 (by decide) ?_
        refine xj_istore_n (i := 3) (ls2 := [some (.ref (xw_ad v 0 0)), some (.int (nI j)), some (.int y), some (.int 999)]) hk dX7_yieldFor_45 rfl (by decide) rfl rfl ?_
        refine xj.to (ls' := [some (.ref (xw_ad v 0 0)), some (.int (nI j)), some (.int y), some (.int (nI (1000 - 0) - 1))]) rfl ?_
        refine xj.eqG (G' := xw_up (xw_up G 3 (pc_B v 3 C)) 4 (pc_S v 4 3 Q)) (xw_up_same (show (xw_up G 3 (pc_B v 3 C)) 4 = pc_S v 4 3 Q from (show (xw_up G 3 (pc_B v 3 C)) 4 = pc_S v 4 3 Q from by rw [xw_up_n (by decide), g4]))).symm ?_
        refine l_X7_yieldFor hk hz g0 hn30 how hhs y hj_j (fun A1 S1 okQ1 hx => ?_) (fun i A1 S1 okQ1 hi hx => ?_) (1000 + 1) 0 C Q (by omega) (by omega) rfl ⟨_, (show eqB n (bk_wra B (xu (bk_ra B) j (bk_ra B j))) C from by rw [wra_self]; exact hC.1)⟩ hC.2.1 okQ
        · refine xj_bipush (x := (-2)) hk dX7_yieldFor_73 (by decide) ?_
          refine xj_ireturn hk hz dX7_yieldFor_75 ?_
          refine ⟨?_, ⟨okb, he12, ha12, hK0, hl700, htl, S, A1, S1, rd, sw, okS, okQ1, (show (xw_up (xw_up G 3 (pc_B v 3 A1)) 4 (pc_S v 4 3 S1)) 0 = pc_X v from (show (xw_up (xw_up G 3 (pc_B v 3 A1)) 4 (pc_S v 4 3 S1)) 0 = pc_X v from by rw [xw_up_n (by decide), xw_up_n (by decide), g0])), (show (xw_up (xw_up G 3 (pc_B v 3 A1)) 4 (pc_S v 4 3 S1)) 1 = pc_B v 1 B from (show (xw_up (xw_up G 3 (pc_B v 3 A1)) 4 (pc_S v 4 3 S1)) 1 = pc_B v 1 B from by rw [xw_up_n (by decide), xw_up_n (by decide), g1])), (show (xw_up (xw_up G 3 (pc_B v 3 A1)) 4 (pc_S v 4 3 S1)) 2 = pc_S v 2 1 S from (show (xw_up (xw_up G 3 (pc_B v 3 A1)) 4 (pc_S v 4 3 S1)) 2 = pc_S v 2 1 S from by rw [xw_up_n (by decide), xw_up_n (by decide), g2])), (show (xw_up (xw_up G 3 (pc_B v 3 A1)) 4 (pc_S v 4 3 S1)) 3 = pc_B v 3 A1 from (show (xw_up (xw_up G 3 (pc_B v 3 A1)) 4 (pc_S v 4 3 S1)) 3 = pc_B v 3 A1 from by rw [xw_up_n (by decide), xw_up_s])), (show (xw_up (xw_up G 3 (pc_B v 3 A1)) 4 (pc_S v 4 3 S1)) 4 = pc_S v 4 3 S1 from xw_up_s), (show (xw_up (xw_up G 3 (pc_B v 3 A1)) 4 (pc_S v 4 3 S1)) 5 = pc_P v (nI e, nI a) from (show (xw_up (xw_up G 3 (pc_B v 3 A1)) 4 (pc_S v 4 3 S1)) 5 = pP v (nI e) (nI a) from by rw [xw_up_n (by decide), xw_up_n (by decide), g5])), (fun j9 h9 => by rw [xw_up_n (by omega), xw_up_n (by omega)]; exact gK j9 h9), (show (xw_up (xw_up G 3 (pc_B v 3 A1)) 4 (pc_S v 4 3 S1)) 18 = pc_T v t from (show (xw_up (xw_up G 3 (pc_B v 3 A1)) 4 (pc_S v 4 3 S1)) 18 = pc_T v t from by rw [xw_up_n (by decide), xw_up_n (by decide), g18])), (show (xw_up (xw_up G 3 (pc_B v 3 A1)) 4 (pc_S v 4 3 S1)) 19 = pc_R v rd from (show (xw_up (xw_up G 3 (pc_B v 3 A1)) 4 (pc_S v 4 3 S1)) 19 = pc_R v rd from by rw [xw_up_n (by decide), xw_up_n (by decide), g19])), (show (xw_up (xw_up G 3 (pc_B v 3 A1)) 4 (pc_S v 4 3 S1)) 20 = pc_W  sw from (show (xw_up (xw_up G 3 (pc_B v 3 A1)) 4 (pc_S v 4 3 S1)) 20 = pc_W  sw from by rw [xw_up_n (by decide), xw_up_n (by decide), g20]))⟩, (fun g h9 => by rw [xw_up_n (by omega), xw_up_n (by omega)])⟩
          simp only [q_yield, xn_nI (show j < 2 ^ 31 by omega)]; rw [if_pos ⟨hasB_nI hn hn30 hj_j, c21, c26⟩, if_neg (by rw [hx]; exact Nat.lt_irrefl _)]
        · refine xj_iload_n (i := 3) hk dX7_yieldFor_65 rfl rfl ?_
          refine xj_ireturn hk hz dX7_yieldFor_66 ?_
          refine ⟨?_, ⟨okb, he12, ha12, hK0, hl700, htl, S, A1, S1, rd, sw, okS, okQ1, (show (xw_up (xw_up G 3 (pc_B v 3 A1)) 4 (pc_S v 4 3 S1)) 0 = pc_X v from (show (xw_up (xw_up G 3 (pc_B v 3 A1)) 4 (pc_S v 4 3 S1)) 0 = pc_X v from by rw [xw_up_n (by decide), xw_up_n (by decide), g0])), (show (xw_up (xw_up G 3 (pc_B v 3 A1)) 4 (pc_S v 4 3 S1)) 1 = pc_B v 1 B from (show (xw_up (xw_up G 3 (pc_B v 3 A1)) 4 (pc_S v 4 3 S1)) 1 = pc_B v 1 B from by rw [xw_up_n (by decide), xw_up_n (by decide), g1])), (show (xw_up (xw_up G 3 (pc_B v 3 A1)) 4 (pc_S v 4 3 S1)) 2 = pc_S v 2 1 S from (show (xw_up (xw_up G 3 (pc_B v 3 A1)) 4 (pc_S v 4 3 S1)) 2 = pc_S v 2 1 S from by rw [xw_up_n (by decide), xw_up_n (by decide), g2])), (show (xw_up (xw_up G 3 (pc_B v 3 A1)) 4 (pc_S v 4 3 S1)) 3 = pc_B v 3 A1 from (show (xw_up (xw_up G 3 (pc_B v 3 A1)) 4 (pc_S v 4 3 S1)) 3 = pc_B v 3 A1 from by rw [xw_up_n (by decide), xw_up_s])), (show (xw_up (xw_up G 3 (pc_B v 3 A1)) 4 (pc_S v 4 3 S1)) 4 = pc_S v 4 3 S1 from xw_up_s), (show (xw_up (xw_up G 3 (pc_B v 3 A1)) 4 (pc_S v 4 3 S1)) 5 = pc_P v (nI e, nI a) from (show (xw_up (xw_up G 3 (pc_B v 3 A1)) 4 (pc_S v 4 3 S1)) 5 = pP v (nI e) (nI a) from by rw [xw_up_n (by decide), xw_up_n (by decide), g5])), (fun j9 h9 => by rw [xw_up_n (by omega), xw_up_n (by omega)]; exact gK j9 h9), (show (xw_up (xw_up G 3 (pc_B v 3 A1)) 4 (pc_S v 4 3 S1)) 18 = pc_T v t from (show (xw_up (xw_up G 3 (pc_B v 3 A1)) 4 (pc_S v 4 3 S1)) 18 = pc_T v t from by rw [xw_up_n (by decide), xw_up_n (by decide), g18])), (show (xw_up (xw_up G 3 (pc_B v 3 A1)) 4 (pc_S v 4 3 S1)) 19 = pc_R v rd from (show (xw_up (xw_up G 3 (pc_B v 3 A1)) 4 (pc_S v 4 3 S1)) 19 = pc_R v rd from by rw [xw_up_n (by decide), xw_up_n (by decide), g19])), (show (xw_up (xw_up G 3 (pc_B v 3 A1)) 4 (pc_S v 4 3 S1)) 20 = pc_W  sw from (show (xw_up (xw_up G 3 (pc_B v 3 A1)) 4 (pc_S v 4 3 S1)) 20 = pc_W  sw from by rw [xw_up_n (by decide), xw_up_n (by decide), g20]))⟩, (fun g h9 => by rw [xw_up_n (by omega), xw_up_n (by omega)])⟩
          simp only [q_yield, xn_nI (show j < 2 ^ 31 by omega)]; rw [if_pos ⟨hasB_nI hn hn30 hj_j, c21, c26⟩, if_pos (by rw [hx]; exact hi), hx]
      · refine xj_iconst (x := (-1)) hk dX7_yieldFor_29 (by decide) ?_
        refine xj_ireturn hk hz dX7_yieldFor_30 ?_
        refine ⟨?_, ⟨okb, he12, ha12, hK0, hl700, htl, S, A, Q, rd, sw, okS, okQ, (show G 0 = pc_X v from g0), (show G 1 = pc_B v 1 B from g1), (show G 2 = pc_S v 2 1 S from g2), (show G 3 = pc_B v 3 A from g3), (show G 4 = pc_S v 4 3 Q from g4), (show G 5 = pc_P v (nI e, nI a) from g5), gK, (show G 18 = pc_T v t from g18), (show G 19 = pc_R v rd from g19), (show G 20 = pc_W  sw from g20)⟩, (fun _ _ => rfl)⟩
        simp [q_yield, c8, xn_nI (show j < 2 ^ 31 by omega), c21, c26]

noncomputable def bo_f (B : bk_T) (n i : Nat) : Int64 := sml (payF (bk_wte B (xu (bk_te B) 0 (nI (i + 1)))) (kR (bk_wte B (xu (bk_te B) 0 (nI (i + 1)))) n)) n
def q_bst (f : Nat → Int64) : Nat → Int32 × Int64
  | 0 => (-2, -1)
  | k + 1 => if lg_cmp (f k) (q_bst f k).2 ≤ 0 then q_bst f k else (nI (k + 1), f k)
noncomputable def q_best (B : bk_T) (n : Nat) : Int32 := if n = 0 then -2 else (q_bst (bo_f B n) 2000).1
set_option maxHeartbeats 1000000 in
set_option maxRecDepth 10000 in
theorem l_X7_bestOffer {v : xw_V} {κ : xk_K} {post : Option Value → xw_G → Prop} {z : Nat × Nat × Nat} {G : xw_G} {B : bk_T} {n : Nat} (hk : xk_Ok v κ yX7_bestOffer cX7_bestOffer 7 (some .int) 7 159) (hz : xk_zf κ = z) (g0 : G 0 = pc_X v) (hn30 : n ≤ 30) (how : okOw (bk_ow B)) (hhs : okHs (bk_hs B) n) (kx : ∀ (A : bk_T) (Q : sl_T), okO Q → xj v κ post z (xw_up (xw_up G 3 (pc_B v 3 A)) 4 (pc_S v 4 3 Q)) 73 [some (.ref (xw_ad v 0 0)), some (.int ((q_bst (bo_f B n) 2000).1)), some (.long ((q_bst (bo_f B n) 2000).2)), none, some (.int (nI (2000 + 1))), none, none] []) : ∀ (m : Nat) (i : Nat) (A : bk_T) (Q : sl_T), 2000 - i < m → i ≤ 2000 → (∃ x0, eqB n (bk_wte B (xu (bk_te B) 0 x0)) A) → bk_bi A = nI n → okO Q → xj v κ post z (xw_up (xw_up G 3 (pc_B v 3 A)) 4 (pc_S v 4 3 Q)) 34 [some (.ref (xw_ad v 0 0)), some (.int ((q_bst (bo_f B n) i).1)), some (.long ((q_bst (bo_f B n) i).2)), none, some (.int (nI (i + 1))), none, none] [] := by
  intro m
  induction m with
  | zero => intro i A Q h; exact absurd h (Nat.not_lt_zero _)
  | succ m ih =>
    intro i A Q hm hi he hnA okQ
    obtain ⟨x0, he⟩ := he
    refine xj_iload hk dX7_bestOffer_34 rfl ?_
    refine xj_sipush (x := 2000) hk dX7_bestOffer_36 (by decide) ?_
    refine xj_icmp_gt (tgt := 73) hk dX7_bestOffer_39 (by decide) (fun c39 => ?_) (fun c39 => ?_)
    · have c39 : 2000 < i + 1 := (nI_ltI (a := 2000) (b := i + 1) (by omega) (by omega)).mp c39
      have e9 : i = 2000 := by omega
      subst e9
      exact kx _ _ okQ
    · have c39 : ¬ 2000 < i + 1 := fun q => c39 ((nI_ltI (a := 2000) (b := i + 1) (by omega) (by omega)).mpr q)
      refine xj_aload_n (i := 0) hk dX7_bestOffer_42 rfl rfl ?_
      refine xj_iconst (x := 0) hk dX7_bestOffer_43 (by decide) ?_
      refine xj.eqi (x' := nI 0) rfl ?_
      refine xj_iload hk dX7_bestOffer_44 rfl ?_
      refine xj_callVE hk hz (fr1 := 6) (lo1 := 137) (As := [.int (nI 0), .int (nI (i + 1))]) (st := []) ml_X7_247 (c_X7_tryTerm (n := n) (k := 0) (B := B) (show (xw_up (xw_up G 3 (pc_B v 3 A)) 4 (pc_S v 4 3 Q)) 0 = pc_X v from (show (xw_up (xw_up G 3 (pc_B v 3 A)) 4 (pc_S v 4 3 Q)) 0 = pc_X v from by rw [xw_up_n (by decide), xw_up_n (by decide), g0])) (show (xw_up (xw_up G 3 (pc_B v 3 A)) 4 (pc_S v 4 3 Q)) 3 = pc_B v 3 A from (show (xw_up (xw_up G 3 (pc_B v 3 A)) 4 (pc_S v 4 3 Q)) 3 = pc_B v 3 A from by rw [xw_up_n (by decide), xw_up_s])) (show (xw_up (xw_up G 3 (pc_B v 3 A)) 4 (pc_S v 4 3 Q)) 4 = pc_S v 4 3 Q from xw_up_s) okQ hnA hn30 how hhs he (by decide) (nI (i + 1))) (xw_at (show (xw_up (xw_up G 3 (pc_B v 3 A)) 4 (pc_S v 4 3 Q)) 0 = pc_X v from by rw [xw_up_n (by decide), xw_up_n (by decide), g0]) rfl) rfl dX7_bestOffer_46 ⟨Nat.le_of_ble_eq_true rfl, Nat.le_of_ble_eq_true rfl⟩ rfl (Nat.le_of_ble_eq_true rfl) rfl ?_
      rintro _ _ ⟨A1, S1, hA1, hnA1, hag, okQ1, hio1, rfl, rfl⟩
      refine xj.eqG (G' := xw_up (xw_up G 3 (pc_B v 3 A1)) 4 (pc_S v 4 3 S1)) up43 ?_
      show xj v κ _ z (xw_up (xw_up G 3 (pc_B v 3 A1)) 4 (pc_S v 4 3 S1)) 49 _ [.ref (xw_ad v 4 0)]
      refine xj_callV hk hz (fr1 := 2) (lo1 := 43) (r1 := some (.long (sml (payF A1 S1) n))) (As := []) (st := []) (st2 := [.long (sml (payF A1 S1) n)]) (G1 := xw_up (xw_up G 3 (pc_B v 3 A1)) 4 (pc_S v 4 3 S1)) ml_X7_159 (c_X4_paysInAll (n := n) (show (xw_up (xw_up G 3 (pc_B v 3 A1)) 4 (pc_S v 4 3 S1)) 4 = pc_S v 4 3 S1 from xw_up_s) (show (xw_up (xw_up G 3 (pc_B v 3 A1)) 4 (pc_S v 4 3 S1)) 3 = pc_B v 3 A1 from (show (xw_up (xw_up G 3 (pc_B v 3 A1)) 4 (pc_S v 4 3 S1)) 3 = pc_B v 3 A1 from by rw [xw_up_n (by decide), xw_up_s])) (by decide) hio1 hn30 ) (xw_at xw_up_s rfl) rfl dX7_bestOffer_49 ⟨Nat.le_of_ble_eq_true rfl, Nat.le_of_ble_eq_true rfl⟩ rfl (Nat.le_of_ble_eq_true rfl) rfl rfl ?_
      refine xj.eql (x' := bo_f B n i) (pa_eq hA1 hag) ?_
      refine xj_lstore (i := 5) (ls2 := [some (.ref (xw_ad v 0 0)), some (.int ((q_bst (bo_f B n) i).1)), some (.long ((q_bst (bo_f B n) i).2)), none, some (.int (nI (i + 1))), some (.long (bo_f B n i)), none]) hk dX7_bestOffer_52 (by decide) rfl rfl ?_
      refine xj_lload hk dX7_bestOffer_54 rfl ?_
      refine xj_lload_n (i := 2) hk dX7_bestOffer_56 rfl rfl ?_
      refine xj_lcmp hk dX7_bestOffer_57 ?_
      refine xj_if_le (tgt := 67) hk dX7_bestOffer_58 (by decide) (fun c58 => ?_) (fun c58 => ?_)
      · refine xj_iinc (i := 4) (x2 := nI (i + 1 + 1)) (ls2 := [some (.ref (xw_ad v 0 0)), some (.int ((q_bst (bo_f B n) i).1)), some (.long ((q_bst (bo_f B n) i).2)), none, some (.int (nI (i + 1 + 1))), some (.long (bo_f B n i)), none]) hk dX7_bestOffer_67 rfl (nI_1 (i + 1)) (by decide) rfl rfl ?_
        refine xj_goto (tgt := 34) hk dX7_bestOffer_70 (by decide) ?_
        refine xj.le (ls' := [some (.ref (xw_ad v 0 0)), some (.int ((q_bst (bo_f B n) i).1)), some (.long ((q_bst (bo_f B n) i).2)), none, some (.int (nI (i + 1 + 1))), none, none]) (by simp [xl_le] <;> rfl) ?_
        refine xj.to (ls' := [some (.ref (xw_ad v 0 0)), some (.int ((q_bst (bo_f B n) (i + 1)).1)), some (.long ((q_bst (bo_f B n) (i + 1)).2)), none, some (.int (nI (i + 1 + 1))), none, none]) (by simp only [q_bst]; rw [if_pos c58]) ?_
        exact ih (i + 1) A1 S1 (by omega) (by omega) ⟨_, hA1⟩ hnA1 okQ1
      · refine xj_lload hk dX7_bestOffer_61 rfl ?_
        refine xj_lstore_n (i := 2) (ls2 := [some (.ref (xw_ad v 0 0)), some (.int ((q_bst (bo_f B n) i).1)), some (.long (bo_f B n i)), none, some (.int (nI (i + 1))), some (.long (bo_f B n i)), none]) hk dX7_bestOffer_63 rfl (by decide) rfl rfl ?_
        refine xj_iload hk dX7_bestOffer_64 rfl ?_
        refine xj_istore_n (i := 1) (ls2 := [some (.ref (xw_ad v 0 0)), some (.int (nI (i + 1))), some (.long (bo_f B n i)), none, some (.int (nI (i + 1))), some (.long (bo_f B n i)), none]) hk dX7_bestOffer_66 rfl (by decide) rfl rfl ?_
        refine xj_iinc (i := 4) (x2 := nI (i + 1 + 1)) (ls2 := [some (.ref (xw_ad v 0 0)), some (.int (nI (i + 1))), some (.long (bo_f B n i)), none, some (.int (nI (i + 1 + 1))), some (.long (bo_f B n i)), none]) hk dX7_bestOffer_67 rfl (nI_1 (i + 1)) (by decide) rfl rfl ?_
        refine xj_goto (tgt := 34) hk dX7_bestOffer_70 (by decide) ?_
        refine xj.le (ls' := [some (.ref (xw_ad v 0 0)), some (.int (nI (i + 1))), some (.long (bo_f B n i)), none, some (.int (nI (i + 1 + 1))), none, none]) (by simp [xl_le] <;> rfl) ?_
        refine xj.to (ls' := [some (.ref (xw_ad v 0 0)), some (.int ((q_bst (bo_f B n) (i + 1)).1)), some (.long ((q_bst (bo_f B n) (i + 1)).2)), none, some (.int (nI (i + 1 + 1))), none, none]) (by simp only [q_bst]; rw [if_neg c58]) ?_
        exact ih (i + 1) A1 S1 (by omega) (by omega) ⟨_, hA1⟩ hnA1 okQ1

set_option maxHeartbeats 1000000 in
set_option maxRecDepth 10000 in
theorem c_X7_bestOffer {v : xw_V} {G : xw_G} {B : bk_T} {n r e a l : Nat} {K : Nat → bk_T} {t : tp_T} (hX : XB v G B n r e a K t l) : xk_Con v yX7_bestOffer cX7_bestOffer 7 (some .int) 7 159 [.ref (xw_ad v 0 0)] G (fun r9 G' => r9 = some (.int (q_best B n)) ∧ XB v G' B n r e a K t l ∧ XF G G') := by
  refine xk_of (ls0 := [some (.ref (xw_ad v 0 0)), none, none, none, none, none, none]) (by decide) rfl (Nat.le_of_ble_eq_true rfl) ?_
  intro κ z hk hz
  obtain ⟨okb, he12, ha12, hK0, hl700, htl, S, A, Q, rd, sw, okS, okQ, g0, g1, g2, g3, g4, g5, gK, g18, g19, g20⟩ := hX
  obtain ⟨hn, hn30, how, hhs, hr, hr8⟩ := id okb
  refine xj_aload_n (i := 0) hk dX7_bestOffer_0 rfl rfl ?_
  refine xj_getfield hk dX7_bestOffer_1 fl_X7_10 (xw_at g0 rfl) rfl ?_
  refine xj_getfield hk dX7_bestOffer_4 fl_X7_83 (xw_at g1 rfl) rfl ?_
  refine xj.eqi (x' := nI n) hn ?_
  refine xj_if_ne (tgt := 13) hk dX7_bestOffer_7 (by decide) (fun c7 => ?_) (fun c7 => ?_)
  · have c7 : ¬ n = 0 := fun q => c7 ((nI_eq (a := n) (b := 0) (by omega) (by omega)).mpr q)
    refine xj_aload_n (i := 0) hk dX7_bestOffer_13 rfl rfl ?_
    refine xj_getfield hk dX7_bestOffer_14 fl_X7_25 (xw_at g0 rfl) rfl ?_
    refine xj_aload_n (i := 0) hk dX7_bestOffer_17 rfl rfl ?_
    refine xj_getfield hk dX7_bestOffer_18 fl_X7_10 (xw_at g0 rfl) rfl ?_
    refine xj_callVE hk hz (fr1 := 1) (lo1 := 22) (As := [.ref (xw_ad v 1 0)]) (st := []) ml_X7_77 (c_X0_copyFromE (n := n) (show G 3 = pc_B v 3 A from g3) (show G 1 = pc_B v 1 B from g1) (by decide) hn hn30) (xw_at g3 rfl) rfl dX7_bestOffer_21 ⟨Nat.le_of_ble_eq_true rfl, Nat.le_of_ble_eq_true rfl⟩ rfl (Nat.le_of_ble_eq_true rfl) rfl ?_
    rintro _ _ ⟨rfl, C, hC, rfl⟩
    show xj v κ _ z (xw_up G 3 (pc_B v 3 C)) 24 _ []
    refine xj_bipush (x := (-2)) hk dX7_bestOffer_24 (by decide) ?_
    refine xj_istore_n (i := 1) (ls2 := [some (.ref (xw_ad v 0 0)), some (.int ((-2))), none, none, none, none, none]) hk dX7_bestOffer_26 rfl (by decide) rfl rfl ?_
    refine xj_ldc2 (x := -1) hk dX7_bestOffer_27 kl_X7_197 ?_
    refine xj_lstore_n (i := 2) (ls2 := [some (.ref (xw_ad v 0 0)), some (.int ((-2))), some (.long ((-1))), none, none, none, none]) hk dX7_bestOffer_30 rfl (by decide) rfl rfl ?_
    refine xj_iconst (x := 1) hk dX7_bestOffer_31 (by decide) ?_
    refine xj_istore (i := 4) (ls2 := [some (.ref (xw_ad v 0 0)), some (.int ((-2))), some (.long ((-1))), none, some (.int 1), none, none]) hk dX7_bestOffer_32 (by decide) rfl rfl ?_
    refine xj.to (ls' := [some (.ref (xw_ad v 0 0)), some (.int ((q_bst (bo_f B n) 0).1)), some (.long ((q_bst (bo_f B n) 0).2)), none, some (.int (nI (0 + 1))), none, none]) rfl ?_
    refine xj.eqG (G' := xw_up (xw_up G 3 (pc_B v 3 C)) 4 (pc_S v 4 3 Q)) (xw_up_same (show (xw_up G 3 (pc_B v 3 C)) 4 = pc_S v 4 3 Q from (show (xw_up G 3 (pc_B v 3 C)) 4 = pc_S v 4 3 Q from by rw [xw_up_n (by decide), g4]))).symm ?_
    refine l_X7_bestOffer hk hz g0 hn30 how hhs (fun A1 S1 okQ1 => ?_) 2001 0 C Q (by omega) (by omega) ⟨_, (show eqB n (bk_wte B (xu (bk_te B) 0 (bk_te B 0))) C from by rw [wte_self]; exact hC.1)⟩ hC.2.1 okQ
    refine xj_iload_n (i := 1) hk dX7_bestOffer_73 rfl rfl ?_
    refine xj_ireturn hk hz dX7_bestOffer_74 ?_
    refine ⟨?_, ⟨okb, he12, ha12, hK0, hl700, htl, S, A1, S1, rd, sw, okS, okQ1, (show (xw_up (xw_up G 3 (pc_B v 3 A1)) 4 (pc_S v 4 3 S1)) 0 = pc_X v from (show (xw_up (xw_up G 3 (pc_B v 3 A1)) 4 (pc_S v 4 3 S1)) 0 = pc_X v from by rw [xw_up_n (by decide), xw_up_n (by decide), g0])), (show (xw_up (xw_up G 3 (pc_B v 3 A1)) 4 (pc_S v 4 3 S1)) 1 = pc_B v 1 B from (show (xw_up (xw_up G 3 (pc_B v 3 A1)) 4 (pc_S v 4 3 S1)) 1 = pc_B v 1 B from by rw [xw_up_n (by decide), xw_up_n (by decide), g1])), (show (xw_up (xw_up G 3 (pc_B v 3 A1)) 4 (pc_S v 4 3 S1)) 2 = pc_S v 2 1 S from (show (xw_up (xw_up G 3 (pc_B v 3 A1)) 4 (pc_S v 4 3 S1)) 2 = pc_S v 2 1 S from by rw [xw_up_n (by decide), xw_up_n (by decide), g2])), (show (xw_up (xw_up G 3 (pc_B v 3 A1)) 4 (pc_S v 4 3 S1)) 3 = pc_B v 3 A1 from (show (xw_up (xw_up G 3 (pc_B v 3 A1)) 4 (pc_S v 4 3 S1)) 3 = pc_B v 3 A1 from by rw [xw_up_n (by decide), xw_up_s])), (show (xw_up (xw_up G 3 (pc_B v 3 A1)) 4 (pc_S v 4 3 S1)) 4 = pc_S v 4 3 S1 from xw_up_s), (show (xw_up (xw_up G 3 (pc_B v 3 A1)) 4 (pc_S v 4 3 S1)) 5 = pc_P v (nI e, nI a) from (show (xw_up (xw_up G 3 (pc_B v 3 A1)) 4 (pc_S v 4 3 S1)) 5 = pP v (nI e) (nI a) from by rw [xw_up_n (by decide), xw_up_n (by decide), g5])), (fun j9 h9 => by rw [xw_up_n (by omega), xw_up_n (by omega)]; exact gK j9 h9), (show (xw_up (xw_up G 3 (pc_B v 3 A1)) 4 (pc_S v 4 3 S1)) 18 = pc_T v t from (show (xw_up (xw_up G 3 (pc_B v 3 A1)) 4 (pc_S v 4 3 S1)) 18 = pc_T v t from by rw [xw_up_n (by decide), xw_up_n (by decide), g18])), (show (xw_up (xw_up G 3 (pc_B v 3 A1)) 4 (pc_S v 4 3 S1)) 19 = pc_R v rd from (show (xw_up (xw_up G 3 (pc_B v 3 A1)) 4 (pc_S v 4 3 S1)) 19 = pc_R v rd from by rw [xw_up_n (by decide), xw_up_n (by decide), g19])), (show (xw_up (xw_up G 3 (pc_B v 3 A1)) 4 (pc_S v 4 3 S1)) 20 = pc_W  sw from (show (xw_up (xw_up G 3 (pc_B v 3 A1)) 4 (pc_S v 4 3 S1)) 20 = pc_W  sw from by rw [xw_up_n (by decide), xw_up_n (by decide), g20]))⟩, (fun g h9 => by rw [xw_up_n (by omega), xw_up_n (by omega)])⟩
    simp only [q_best]; rw [if_neg c7]
  · have c7 : n = 0 := (nI_eq (a := n) (b := 0) (by omega) (by omega)).mp c7
    refine xj_bipush (x := (-2)) hk dX7_bestOffer_10 (by decide) ?_
    refine xj_ireturn hk hz dX7_bestOffer_12 ?_
    refine ⟨?_, ⟨okb, he12, ha12, hK0, hl700, htl, S, A, Q, rd, sw, okS, okQ, (show G 0 = pc_X v from g0), (show G 1 = pc_B v 1 B from g1), (show G 2 = pc_S v 2 1 S from g2), (show G 3 = pc_B v 3 A from g3), (show G 4 = pc_S v 4 3 Q from g4), (show G 5 = pc_P v (nI e, nI a) from g5), gK, (show G 18 = pc_T v t from g18), (show G 19 = pc_R v rd from g19), (show G 20 = pc_W  sw from g20)⟩, (fun _ _ => rfl)⟩
    simp only [q_best]; rw [if_pos c7]

theorem rmA_ag {h : Int32} : ∀ {i : Nat} {t t' : bd_T}, bdag t t' → i ≤ t.1 → bdag (bd_rmA h i t) (bd_rmA h i t')
  | 0, _, _, q, _ => q
  | i + 1, t, t', q, hi => by
    simp only [bd_rmA]
    rw [← (q.2 i hi).1]
    split
    · exact rmA_ag (rm_ag q) (by simp only [bd_rm]; omega)
    · exact rmA_ag q (by omega)
theorem rmA_le {h : Int32} : ∀ {i : Nat} {t : bd_T}, (bd_rmA h i t).1 ≤ t.1
  | 0, _ => Nat.le_refl _
  | i + 1, t => by
    simp only [bd_rmA]
    split
    · exact Nat.le_trans rmA_le (Nat.sub_le _ _)
    · exact rmA_le
theorem rmA_in {h : Int32} {p : Int32 → Prop} : ∀ {i : Nat} {t : bd_T}, (∀ b, b < t.1 → p (t.2.1 b)) → ∀ b, b < (bd_rmA h i t).1 → p ((bd_rmA h i t).2.1 b)
  | 0, _, q => q
  | i + 1, t, q => by
    simp only [bd_rmA]
    split
    · refine rmA_in (fun b hb => ?_)
      simp only [bd_rm] at hb ⊢
      simp only [shD]
      split
      · exact q _ (by omega)
      · exact q _ (by omega)
    · exact rmA_in q
theorem rmA_eqB {B C : bk_T} {n : Nat} {h : Int32} (q : eqB n B C) : eqB (bd_rmA h n (bk_bd C n)).1 (bk_wbd B (bd_rmA h n (bk_bd B n))) (bk_wbd C (bd_rmA h n (bk_bd C n))) := by
  have a := rmA_ag (h := h) (bd_of q) (Nat.le_refl n)
  exact ⟨q.1, q.2.1, fun j hj => a.2 j (by rw [a.1]; exact hj)⟩
theorem rmA_okHs {B : bk_T} {n : Nat} {h : Int32} (q : okHs (bk_hs B) n) : okHs (bk_hs (bk_wbd B (bd_rmA h n (bk_bd B n)))) (bd_rmA h n (bk_bd B n)).1 := rmA_in (p := fun x => xi x (xn x) 8) (t := bk_bd B n) q
noncomputable def pv_f (B : bk_T) (n i : Nat) : Int32 := sl_st (kR (bk_wbd B (bd_rmA (nI i) n (bk_bd B n))) (bd_rmA (nI i) n (bk_bd B n)).1)
def q_pv (f : Nat → Int32) : Nat → Int32 × Int32
  | 0 => (0, -2)
  | k + 1 => if f k ≤ (q_pv f k).2 then q_pv f k else (nI k, f k)
noncomputable def q_pivot (B : bk_T) (n : Nat) : Int32 := (q_pv (pv_f B n) 8).1
set_option maxHeartbeats 1000000 in
set_option maxRecDepth 10000 in
theorem l_X7_pivot {v : xw_V} {κ : xk_K} {post : Option Value → xw_G → Prop} {z : Nat × Nat × Nat} {G : xw_G} {B : bk_T} {n : Nat} (hk : xk_Ok v κ yX7_pivot cX7_pivot 5 (some .int) 6 137) (hz : xk_zf κ = z) (g0 : G 0 = pc_X v) (hn30 : n ≤ 30) (how : okOw (bk_ow B)) (hhs : okHs (bk_hs B) n) (g1 : G 1 = pc_B v 1 B) (hn : bk_bi B = nI n) (kx : ∀ (A : bk_T) (Q : sl_T), okO Q → xj v κ post z (xw_up (xw_up G 3 (pc_B v 3 A)) 4 (pc_S v 4 3 Q)) 58 [some (.ref (xw_ad v 0 0)), some (.int ((q_pv (pv_f B n) 8).1)), some (.int ((q_pv (pv_f B n) 8).2)), some (.int (nI 8)), none] []) : ∀ (m : Nat) (i : Nat) (A : bk_T) (Q : sl_T), 8 - i < m → i ≤ 8 → okO Q → xj v κ post z (xw_up (xw_up G 3 (pc_B v 3 A)) 4 (pc_S v 4 3 Q)) 7 [some (.ref (xw_ad v 0 0)), some (.int ((q_pv (pv_f B n) i).1)), some (.int ((q_pv (pv_f B n) i).2)), some (.int (nI i)), none] [] := by
  intro m
  induction m with
  | zero => intro i A Q h; exact absurd h (Nat.not_lt_zero _)
  | succ m ih =>
    intro i A Q hm hi okQ
    refine xj_iload_n (i := 3) hk dX7_pivot_7 rfl rfl ?_
    refine xj_bipush (x := 8) hk dX7_pivot_8 (by decide) ?_
    refine xj_icmp_ge (tgt := 58) hk dX7_pivot_10 (by decide) (fun c10 => ?_) (fun c10 => ?_)
    · have c10 : 8 ≤ i := (nI_leI (a := 8) (b := i) (by omega) (by omega)).mp c10
      have e9 : i = 8 := by omega
      subst e9
      exact kx _ _ okQ
    · have c10 : ¬ 8 ≤ i := fun q => c10 ((nI_leI (a := 8) (b := i) (by omega) (by omega)).mpr q)
      refine xj_aload_n (i := 0) hk dX7_pivot_13 rfl rfl ?_
      refine xj_getfield hk dX7_pivot_14 fl_X7_25 (xw_at (show (xw_up (xw_up G 3 (pc_B v 3 A)) 4 (pc_S v 4 3 Q)) 0 = pc_X v from by rw [xw_up_n (by decide), xw_up_n (by decide), g0]) rfl) rfl ?_
      refine xj_aload_n (i := 0) hk dX7_pivot_17 rfl rfl ?_
      refine xj_getfield hk dX7_pivot_18 fl_X7_10 (xw_at (show (xw_up (xw_up G 3 (pc_B v 3 A)) 4 (pc_S v 4 3 Q)) 0 = pc_X v from by rw [xw_up_n (by decide), xw_up_n (by decide), g0]) rfl) rfl ?_
      refine xj_callVE hk hz (fr1 := 1) (lo1 := 22) (As := [.ref (xw_ad v 1 0)]) (st := []) ml_X7_77 (c_X0_copyFromE (n := n) (show (xw_up (xw_up G 3 (pc_B v 3 A)) 4 (pc_S v 4 3 Q)) 3 = pc_B v 3 A from (show (xw_up (xw_up G 3 (pc_B v 3 A)) 4 (pc_S v 4 3 Q)) 3 = pc_B v 3 A from by rw [xw_up_n (by decide), xw_up_s])) (show (xw_up (xw_up G 3 (pc_B v 3 A)) 4 (pc_S v 4 3 Q)) 1 = pc_B v 1 B from (show (xw_up (xw_up G 3 (pc_B v 3 A)) 4 (pc_S v 4 3 Q)) 1 = pc_B v 1 B from by rw [xw_up_n (by decide), xw_up_n (by decide), g1])) (by decide) hn hn30) (xw_at (show (xw_up (xw_up G 3 (pc_B v 3 A)) 4 (pc_S v 4 3 Q)) 3 = pc_B v 3 A from by rw [xw_up_n (by decide), xw_up_s]) rfl) rfl dX7_pivot_21 ⟨Nat.le_of_ble_eq_true rfl, Nat.le_of_ble_eq_true rfl⟩ rfl (Nat.le_of_ble_eq_true rfl) rfl ?_
      rintro _ _ ⟨rfl, C, hC, rfl⟩
      simp only [xw_up_u, xw_up_c (show (4 : Nat) ≠ 3 from (by decide))]
      show xj v κ _ z (xw_up (xw_up G 3 (pc_B v 3 C)) 4 (pc_S v 4 3 Q)) 24 _ []
      refine xj_aload_n (i := 0) hk dX7_pivot_24 rfl rfl ?_
      refine xj_getfield hk dX7_pivot_25 fl_X7_25 (xw_at (show (xw_up (xw_up G 3 (pc_B v 3 C)) 4 (pc_S v 4 3 Q)) 0 = pc_X v from by rw [xw_up_n (by decide), xw_up_n (by decide), g0]) rfl) rfl ?_
      refine xj_iload_n (i := 3) hk dX7_pivot_28 rfl rfl ?_
      refine xj_callV hk hz (fr1 := 2) (lo1 := 43) (r1 := none) (As := [.int (nI i)]) (st := []) (st2 := []) (G1 := xw_up (xw_up G 3 (pB v 3 (bk_te C) (bk_ho C) (bk_ow C) ((bd_rmA (nI i) n (n, bk_hs C, bk_ra C, bk_lo C)).2.1) ((bd_rmA (nI i) n (n, bk_hs C, bk_ra C, bk_lo C)).2.2.1) ((bd_rmA (nI i) n (n, bk_hs C, bk_ra C, bk_lo C)).2.2.2) (nI (bd_rmA (nI i) n (n, bk_hs C, bk_ra C, bk_lo C)).1) (bk_st C) (bk_av C) (bk_so C) (bk_pa C) (bk_ln C))) 4 (pc_S v 4 3 Q)) ml_X7_266 (xk_cg (by rw [xw_up_c (by decide), xw_up_u] <;> rfl) (c_X0_removeAllOf (n := n) (show (xw_up (xw_up G 3 (pc_B v 3 C)) 4 (pc_S v 4 3 Q)) 3 = pc_B v 3 C from (show (xw_up (xw_up G 3 (pc_B v 3 C)) 4 (pc_S v 4 3 Q)) 3 = pc_B v 3 C from by rw [xw_up_n (by decide), xw_up_s])) hC.2.1 hn30 (nI i))) (xw_at (show (xw_up (xw_up G 3 (pc_B v 3 C)) 4 (pc_S v 4 3 Q)) 3 = pc_B v 3 C from by rw [xw_up_n (by decide), xw_up_s]) rfl) rfl dX7_pivot_29 ⟨Nat.le_of_ble_eq_true rfl, Nat.le_of_ble_eq_true rfl⟩ rfl (Nat.le_of_ble_eq_true rfl) rfl rfl ?_
      have hMl : (bd_rmA (nI i) n (bk_bd C n)).1 ≤ n := rmA_le (t := bk_bd C n)
      have hMe : (bd_rmA (nI i) n (bk_bd B n)).1 = (bd_rmA (nI i) n (bk_bd C n)).1 := (rmA_ag (h := nI i) (bd_of hC.1) (Nat.le_refl n)).1
      have hMh : okHs (bk_hs (bk_wbd B (bd_rmA (nI i) n (bk_bd B n)))) (bd_rmA (nI i) n (bk_bd C n)).1 := by rw [← hMe]; exact rmA_okHs hhs
      refine xj_aload_n (i := 0) hk dX7_pivot_32 rfl rfl ?_
      refine xj_callVE hk hz (fr1 := 5) (lo1 := 117) (As := []) (st := []) ml_X7_251 (c_X7_tried (n := (bd_rmA (nI i) n (bk_bd C n)).1) (show (xw_up (xw_up G 3 (pB v 3 (bk_te C) (bk_ho C) (bk_ow C) ((bd_rmA (nI i) n (n, bk_hs C, bk_ra C, bk_lo C)).2.1) ((bd_rmA (nI i) n (n, bk_hs C, bk_ra C, bk_lo C)).2.2.1) ((bd_rmA (nI i) n (n, bk_hs C, bk_ra C, bk_lo C)).2.2.2) (nI (bd_rmA (nI i) n (n, bk_hs C, bk_ra C, bk_lo C)).1) (bk_st C) (bk_av C) (bk_so C) (bk_pa C) (bk_ln C))) 4 (pc_S v 4 3 Q)) 0 = pc_X v from (show (xw_up (xw_up G 3 (pB v 3 (bk_te C) (bk_ho C) (bk_ow C) ((bd_rmA (nI i) n (n, bk_hs C, bk_ra C, bk_lo C)).2.1) ((bd_rmA (nI i) n (n, bk_hs C, bk_ra C, bk_lo C)).2.2.1) ((bd_rmA (nI i) n (n, bk_hs C, bk_ra C, bk_lo C)).2.2.2) (nI (bd_rmA (nI i) n (n, bk_hs C, bk_ra C, bk_lo C)).1) (bk_st C) (bk_av C) (bk_so C) (bk_pa C) (bk_ln C))) 4 (pc_S v 4 3 Q)) 0 = pc_X v from by rw [xw_up_n (by decide), xw_up_n (by decide), g0])) (show (xw_up (xw_up G 3 (pB v 3 (bk_te C) (bk_ho C) (bk_ow C) ((bd_rmA (nI i) n (n, bk_hs C, bk_ra C, bk_lo C)).2.1) ((bd_rmA (nI i) n (n, bk_hs C, bk_ra C, bk_lo C)).2.2.1) ((bd_rmA (nI i) n (n, bk_hs C, bk_ra C, bk_lo C)).2.2.2) (nI (bd_rmA (nI i) n (n, bk_hs C, bk_ra C, bk_lo C)).1) (bk_st C) (bk_av C) (bk_so C) (bk_pa C) (bk_ln C))) 4 (pc_S v 4 3 Q)) 3 = pc_B v 3 (bk_te C, bk_ho C, bk_ow C, (bd_rmA (nI i) n (n, bk_hs C, bk_ra C, bk_lo C)).2.1, (bd_rmA (nI i) n (n, bk_hs C, bk_ra C, bk_lo C)).2.2.1, (bd_rmA (nI i) n (n, bk_hs C, bk_ra C, bk_lo C)).2.2.2, nI (bd_rmA (nI i) n (n, bk_hs C, bk_ra C, bk_lo C)).1, bk_st C, bk_av C, bk_so C, bk_pa C, bk_ln C) from (show (xw_up (xw_up G 3 (pB v 3 (bk_te C) (bk_ho C) (bk_ow C) ((bd_rmA (nI i) n (n, bk_hs C, bk_ra C, bk_lo C)).2.1) ((bd_rmA (nI i) n (n, bk_hs C, bk_ra C, bk_lo C)).2.2.1) ((bd_rmA (nI i) n (n, bk_hs C, bk_ra C, bk_lo C)).2.2.2) (nI (bd_rmA (nI i) n (n, bk_hs C, bk_ra C, bk_lo C)).1) (bk_st C) (bk_av C) (bk_so C) (bk_pa C) (bk_ln C))) 4 (pc_S v 4 3 Q)) 3 = pB v 3 (bk_te C) (bk_ho C) (bk_ow C) ((bd_rmA (nI i) n (n, bk_hs C, bk_ra C, bk_lo C)).2.1) ((bd_rmA (nI i) n (n, bk_hs C, bk_ra C, bk_lo C)).2.2.1) ((bd_rmA (nI i) n (n, bk_hs C, bk_ra C, bk_lo C)).2.2.2) (nI (bd_rmA (nI i) n (n, bk_hs C, bk_ra C, bk_lo C)).1) (bk_st C) (bk_av C) (bk_so C) (bk_pa C) (bk_ln C) from by rw [xw_up_n (by decide), xw_up_s])) (show (xw_up (xw_up G 3 (pB v 3 (bk_te C) (bk_ho C) (bk_ow C) ((bd_rmA (nI i) n (n, bk_hs C, bk_ra C, bk_lo C)).2.1) ((bd_rmA (nI i) n (n, bk_hs C, bk_ra C, bk_lo C)).2.2.1) ((bd_rmA (nI i) n (n, bk_hs C, bk_ra C, bk_lo C)).2.2.2) (nI (bd_rmA (nI i) n (n, bk_hs C, bk_ra C, bk_lo C)).1) (bk_st C) (bk_av C) (bk_so C) (bk_pa C) (bk_ln C))) 4 (pc_S v 4 3 Q)) 4 = pc_S v 4 3 Q from xw_up_s) okQ rfl (by omega) (eqB_ow (rmA_eqB (h := nI i) hC.1) how) (eqB_hs (rmA_eqB (h := nI i) hC.1) hMh)) (xw_at (show (xw_up (xw_up G 3 (pB v 3 (bk_te C) (bk_ho C) (bk_ow C) ((bd_rmA (nI i) n (n, bk_hs C, bk_ra C, bk_lo C)).2.1) ((bd_rmA (nI i) n (n, bk_hs C, bk_ra C, bk_lo C)).2.2.1) ((bd_rmA (nI i) n (n, bk_hs C, bk_ra C, bk_lo C)).2.2.2) (nI (bd_rmA (nI i) n (n, bk_hs C, bk_ra C, bk_lo C)).1) (bk_st C) (bk_av C) (bk_so C) (bk_pa C) (bk_ln C))) 4 (pc_S v 4 3 Q)) 0 = pc_X v from by rw [xw_up_n (by decide), xw_up_n (by decide), g0]) rfl) rfl dX7_pivot_33 ⟨Nat.le_of_ble_eq_true rfl, Nat.le_of_ble_eq_true rfl⟩ rfl (Nat.le_of_ble_eq_true rfl) rfl ?_
      rintro _ _ ⟨S1, hS1, rfl, rfl⟩
      have hag := kR_ag2 (B := (bk_wbd B (bd_rmA (nI i) n (bk_bd B n)))) (rmA_eqB (h := nI i) hC.1) how hMh hS1
      have hio1 := RecS_io hS1
      have okQ1 : okO S1 := Rec_okO (by omega) hS1
      simp only [xw_up_u]
      show xj v κ _ z (xw_up (xw_up G 3 (pB v 3 (bk_te C) (bk_ho C) (bk_ow C) ((bd_rmA (nI i) n (n, bk_hs C, bk_ra C, bk_lo C)).2.1) ((bd_rmA (nI i) n (n, bk_hs C, bk_ra C, bk_lo C)).2.2.1) ((bd_rmA (nI i) n (n, bk_hs C, bk_ra C, bk_lo C)).2.2.2) (nI (bd_rmA (nI i) n (n, bk_hs C, bk_ra C, bk_lo C)).1) (bk_st C) (bk_av C) (bk_so C) (bk_pa C) (bk_ln C))) 4 (pc_S v 4 3 S1)) 36 _ [.ref (xw_ad v 4 0)]
      refine xj_getfield hk dX7_pivot_36 fl_X7_153 (xw_at xw_up_s rfl) rfl ?_
      refine xj.eqi (x' := pv_f B n i) (show sl_st S1 = pv_f B n i by rw [pv_f, hMe]; exact hag.2.2.2.2.2.2.2.2.1) ?_
      refine xj_istore (i := 4) (ls2 := [some (.ref (xw_ad v 0 0)), some (.int ((q_pv (pv_f B n) i).1)), some (.int ((q_pv (pv_f B n) i).2)), some (.int (nI i)), some (.int (pv_f B n i))]) hk dX7_pivot_39 (by decide) rfl rfl ?_
      refine xj_iload hk dX7_pivot_41 rfl ?_
      refine xj_iload_n (i := 2) hk dX7_pivot_43 rfl rfl ?_
      refine xj_icmp_le (tgt := 52) hk dX7_pivot_44 (by decide) (fun c44 => ?_) (fun c44 => ?_)
      · refine xj_iinc (i := 3) (x2 := nI (i + 1)) (ls2 := [some (.ref (xw_ad v 0 0)), some (.int ((q_pv (pv_f B n) i).1)), some (.int ((q_pv (pv_f B n) i).2)), some (.int (nI (i + 1))), some (.int (pv_f B n i))]) hk dX7_pivot_52 rfl (nI_1 i) (by decide) rfl rfl ?_
        refine xj_goto (tgt := 7) hk dX7_pivot_55 (by decide) ?_
        refine xj.le (ls' := [some (.ref (xw_ad v 0 0)), some (.int ((q_pv (pv_f B n) i).1)), some (.int ((q_pv (pv_f B n) i).2)), some (.int (nI (i + 1))), none]) (by simp [xl_le] <;> rfl) ?_
        refine xj.to (ls' := [some (.ref (xw_ad v 0 0)), some (.int ((q_pv (pv_f B n) (i + 1)).1)), some (.int ((q_pv (pv_f B n) (i + 1)).2)), some (.int (nI (i + 1))), none]) (by simp only [q_pv]; rw [if_pos c44]) ?_
        exact ih (i + 1) (bk_wbd C (bd_rmA (nI i) n (bk_bd C n))) S1 (by omega) (by omega) okQ1
      · refine xj_iload hk dX7_pivot_47 rfl ?_
        refine xj_istore_n (i := 2) (ls2 := [some (.ref (xw_ad v 0 0)), some (.int ((q_pv (pv_f B n) i).1)), some (.int (pv_f B n i)), some (.int (nI i)), some (.int (pv_f B n i))]) hk dX7_pivot_49 rfl (by decide) rfl rfl ?_
        refine xj_iload_n (i := 3) hk dX7_pivot_50 rfl rfl ?_
        refine xj_istore_n (i := 1) (ls2 := [some (.ref (xw_ad v 0 0)), some (.int (nI i)), some (.int (pv_f B n i)), some (.int (nI i)), some (.int (pv_f B n i))]) hk dX7_pivot_51 rfl (by decide) rfl rfl ?_
        refine xj_iinc (i := 3) (x2 := nI (i + 1)) (ls2 := [some (.ref (xw_ad v 0 0)), some (.int (nI i)), some (.int (pv_f B n i)), some (.int (nI (i + 1))), some (.int (pv_f B n i))]) hk dX7_pivot_52 rfl (nI_1 i) (by decide) rfl rfl ?_
        refine xj_goto (tgt := 7) hk dX7_pivot_55 (by decide) ?_
        refine xj.le (ls' := [some (.ref (xw_ad v 0 0)), some (.int (nI i)), some (.int (pv_f B n i)), some (.int (nI (i + 1))), none]) (by simp [xl_le] <;> rfl) ?_
        refine xj.to (ls' := [some (.ref (xw_ad v 0 0)), some (.int ((q_pv (pv_f B n) (i + 1)).1)), some (.int ((q_pv (pv_f B n) (i + 1)).2)), some (.int (nI (i + 1))), none]) (by simp only [q_pv]; rw [if_neg c44]) ?_
        exact ih (i + 1) (bk_wbd C (bd_rmA (nI i) n (bk_bd C n))) S1 (by omega) (by omega) okQ1

set_option maxHeartbeats 1000000 in
set_option maxRecDepth 10000 in
theorem c_X7_pivot {v : xw_V} {G : xw_G} {B : bk_T} {n r e a l : Nat} {K : Nat → bk_T} {t : tp_T} (hX : XB v G B n r e a K t l) : xk_Con v yX7_pivot cX7_pivot 5 (some .int) 6 137 [.ref (xw_ad v 0 0)] G (fun r9 G' => r9 = some (.int (q_pivot B n)) ∧ XB v G' B n r e a K t l ∧ XF G G') := by
  refine xk_of (ls0 := [some (.ref (xw_ad v 0 0)), none, none, none, none]) (by decide) rfl (Nat.le_of_ble_eq_true rfl) ?_
  intro κ z hk hz
  obtain ⟨okb, he12, ha12, hK0, hl700, htl, S, A, Q, rd, sw, okS, okQ, g0, g1, g2, g3, g4, g5, gK, g18, g19, g20⟩ := hX
  obtain ⟨hn, hn30, how, hhs, hr, hr8⟩ := id okb
  refine xj_iconst (x := 0) hk dX7_pivot_0 (by decide) ?_
  refine xj_istore_n (i := 1) (ls2 := [some (.ref (xw_ad v 0 0)), some (.int 0), none, none, none]) hk dX7_pivot_1 rfl (by decide) rfl rfl ?_
  refine xj_bipush (x := (-2)) hk dX7_pivot_2 (by decide) ?_
  refine xj_istore_n (i := 2) (ls2 := [some (.ref (xw_ad v 0 0)), some (.int 0), some (.int ((-2))), none, none]) hk dX7_pivot_4 rfl (by decide) rfl rfl ?_
  refine xj_iconst (x := 0) hk dX7_pivot_5 (by decide) ?_
  refine xj_istore_n (i := 3) (ls2 := [some (.ref (xw_ad v 0 0)), some (.int 0), some (.int ((-2))), some (.int 0), none]) hk dX7_pivot_6 rfl (by decide) rfl rfl ?_
  refine xj.to (ls' := [some (.ref (xw_ad v 0 0)), some (.int ((q_pv (pv_f B n) 0).1)), some (.int ((q_pv (pv_f B n) 0).2)), some (.int (nI 0)), none]) rfl ?_
  refine xj.eqG (G' := xw_up (xw_up G 3 (pc_B v 3 A)) 4 (pc_S v 4 3 Q)) (by rw [xw_up_same g3, xw_up_same g4]) ?_
  refine l_X7_pivot hk hz g0 hn30 how hhs g1 hn (fun A1 S1 okQ1 => ?_) 9 0 A Q (by omega) (by omega) okQ
  refine xj_iload_n (i := 1) hk dX7_pivot_58 rfl rfl ?_
  refine xj_ireturn hk hz dX7_pivot_59 ?_
  refine ⟨rfl, ⟨okb, he12, ha12, hK0, hl700, htl, S, A1, S1, rd, sw, okS, okQ1, (show (xw_up (xw_up G 3 (pc_B v 3 A1)) 4 (pc_S v 4 3 S1)) 0 = pc_X v from (show (xw_up (xw_up G 3 (pc_B v 3 A1)) 4 (pc_S v 4 3 S1)) 0 = pc_X v from by rw [xw_up_n (by decide), xw_up_n (by decide), g0])), (show (xw_up (xw_up G 3 (pc_B v 3 A1)) 4 (pc_S v 4 3 S1)) 1 = pc_B v 1 B from (show (xw_up (xw_up G 3 (pc_B v 3 A1)) 4 (pc_S v 4 3 S1)) 1 = pc_B v 1 B from by rw [xw_up_n (by decide), xw_up_n (by decide), g1])), (show (xw_up (xw_up G 3 (pc_B v 3 A1)) 4 (pc_S v 4 3 S1)) 2 = pc_S v 2 1 S from (show (xw_up (xw_up G 3 (pc_B v 3 A1)) 4 (pc_S v 4 3 S1)) 2 = pc_S v 2 1 S from by rw [xw_up_n (by decide), xw_up_n (by decide), g2])), (show (xw_up (xw_up G 3 (pc_B v 3 A1)) 4 (pc_S v 4 3 S1)) 3 = pc_B v 3 A1 from (show (xw_up (xw_up G 3 (pc_B v 3 A1)) 4 (pc_S v 4 3 S1)) 3 = pc_B v 3 A1 from by rw [xw_up_n (by decide), xw_up_s])), (show (xw_up (xw_up G 3 (pc_B v 3 A1)) 4 (pc_S v 4 3 S1)) 4 = pc_S v 4 3 S1 from xw_up_s), (show (xw_up (xw_up G 3 (pc_B v 3 A1)) 4 (pc_S v 4 3 S1)) 5 = pc_P v (nI e, nI a) from (show (xw_up (xw_up G 3 (pc_B v 3 A1)) 4 (pc_S v 4 3 S1)) 5 = pP v (nI e) (nI a) from by rw [xw_up_n (by decide), xw_up_n (by decide), g5])), (fun j9 h9 => by rw [xw_up_n (by omega), xw_up_n (by omega)]; exact gK j9 h9), (show (xw_up (xw_up G 3 (pc_B v 3 A1)) 4 (pc_S v 4 3 S1)) 18 = pc_T v t from (show (xw_up (xw_up G 3 (pc_B v 3 A1)) 4 (pc_S v 4 3 S1)) 18 = pc_T v t from by rw [xw_up_n (by decide), xw_up_n (by decide), g18])), (show (xw_up (xw_up G 3 (pc_B v 3 A1)) 4 (pc_S v 4 3 S1)) 19 = pc_R v rd from (show (xw_up (xw_up G 3 (pc_B v 3 A1)) 4 (pc_S v 4 3 S1)) 19 = pc_R v rd from by rw [xw_up_n (by decide), xw_up_n (by decide), g19])), (show (xw_up (xw_up G 3 (pc_B v 3 A1)) 4 (pc_S v 4 3 S1)) 20 = pc_W  sw from (show (xw_up (xw_up G 3 (pc_B v 3 A1)) 4 (pc_S v 4 3 S1)) 20 = pc_W  sw from by rw [xw_up_n (by decide), xw_up_n (by decide), g20]))⟩, (fun g h9 => by rw [xw_up_n (by omega), xw_up_n (by omega)])⟩


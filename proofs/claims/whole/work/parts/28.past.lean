theorem xj_aaloadR {v : xw_V} {κ : xk_K} {post : Option Value → xw_G → Prop} {z : Nat × Nat × Nat} {G : xw_G} {pc : Nat} {ls : List (Option Value)} {st : List Value} {y : MethodName} {cc : ByteArray} {nL : Nat} {ret : Option FieldType} {fr lo : Nat} (hk : xk_Ok v κ y cc nL ret fr lo) {g i k a : Nat} {j : Int32} {n9 : Nat} {f : Nat → Option Nat} (hd : decode cc pc = .ok (.aaload, 1)) (hc : (G g)[i]? = some (xw_eq v n9 f)) (hj : xi j k n9) (hx : f k = some a) (kk : xj v κ post z G (pc + 1) ls (.ref a :: st)) : xj v κ post z G pc ls (.int j :: .ref (xw_ad v g i) :: st) := by
  refine xj_aaload hk hd hc hj ?_
  rw [hx]
  exact kk
/-- another book with all that counts -/
def EQB (n : Nat) (B C : bk_T) : Prop := eqB n B C ∧ bk_bi C = nI n ∧ (∀ k, k < 8 → bk_st B k = bk_st C k ∧ bk_av B k = bk_av C k ∧ bk_so B k = bk_so C k ∧ bk_pa B k = bk_pa C k) ∧ bk_ln B = bk_ln C
theorem EQB_ok {n r : Nat} {B C : bk_T} (h : EQB n B C) (ok : okB B n r) : okB C n r := by
  obtain ⟨⟨h1, h2, h3⟩, h4, h5, h6⟩ := h
  obtain ⟨a1, a2, a3, a4, a5, a6⟩ := ok
  exact ⟨h4, a2, fun k hk => by rw [← (h2 k hk).2]; exact a3 k hk, fun b hb => by rw [← (h3 b hb).1]; exact a4 b hb, by rw [← h6]; exact a5, a6⟩
theorem c_X0_copyFromE {v : xw_V} {G : xw_G} {g q : Nat} {B A : bk_T} {n : Nat} (hB : G g = pc_B v g B) (hA : G q = pc_B v q A) (hgq : g ≠ q) (hn : bk_bi A = nI n) (hn30 : n ≤ 30) : xk_Con v yX0_copyFrom cX0_copyFrom 3 none 1 22 [.ref (xw_ad v g 0), .ref (xw_ad v q 0)] G (fun r G' => r = none ∧ ∃ C : bk_T, EQB n A C ∧ G' = xw_up G g (pc_B v g C)) := by
  refine xk_mono ?_ (c_X0_copyFrom hB hA hgq hn hn30)
  rintro _ _ ⟨rfl, rfl⟩
  refine ⟨rfl, (cpN 7 (bk_te A) (bk_te B), cpN 8 (bk_ho A) (bk_ho B), cpN 8 (bk_ow A) (bk_ow B), cpN n (bk_hs A) (bk_hs B), cpN n (bk_ra A) (bk_ra B), cpN n (bk_lo A) (bk_lo B), nI n, cpN 8 (bk_st A) (bk_st B), cpN 8 (bk_av A) (bk_av B), cpN 8 (bk_so A) (bk_so B), cpN 8 (bk_pa A) (bk_pa B), bk_ln A), ⟨⟨fun j hj => (if_pos hj).symm, fun j hj => ⟨(if_pos hj).symm, (if_pos hj).symm⟩, fun j hj => ⟨(if_pos hj).symm, (if_pos hj).symm, (if_pos hj).symm⟩⟩, rfl, fun j hj => ⟨(if_pos hj).symm, (if_pos hj).symm, (if_pos hj).symm, (if_pos hj).symm⟩, rfl⟩, rfl⟩
theorem rem12 : ∀ k, k < 24 → nI k - nI k / 12 * 12 = nI (k % 12) := by decide +kernel
theorem min12 : ∀ k, k < 14 → (if nI k < 12 then nI k else 12) = nI (min 12 k) := by decide +kernel
set_option maxHeartbeats 1000000 in
set_option maxRecDepth 10000 in
theorem c_X2_keep {v : xw_V} {G : xw_G} {B C0 : bk_T} {n e a : Nat} (g5 : G 5 = pP v (nI e) (nI a)) (gk : G (6 + e) = pc_B v (6 + e) C0) (g1 : G 1 = pc_B v 1 B) (hn : bk_bi B = nI n) (hn30 : n ≤ 30) (he : e < 12) (ha : a ≤ 12) : xk_Con v yX2_keep cX2_keep 3 none 2 44 [.ref (xw_ad v 5 0), .ref (xw_ad v 1 0)] G (fun r G' => r = none ∧ ∃ C : bk_T, EQB n B C ∧ G' = xw_up (xw_up G (6 + e) (pc_B v (6 + e) C)) 5 (pP v (nI ((e + 1) % 12)) (nI (min 12 (a + 1))))) := by
  refine xk_of (ls0 := [some (.ref (xw_ad v 5 0)), some (.ref (xw_ad v 1 0)), none]) (by decide) rfl (Nat.le_of_ble_eq_true rfl) ?_
  intro κ z hk hz
  refine xj_aload_n (i := 0) hk dX2_keep_0 rfl rfl ?_
  refine xj_getfield hk dX2_keep_1 fl_X2_11 (xw_at g5 rfl) rfl ?_
  refine xj_aload_n (i := 0) hk dX2_keep_4 rfl rfl ?_
  refine xj_getfield hk dX2_keep_5 fl_X2_17 (xw_at g5 rfl) rfl ?_
  refine xj_aaloadR (k := e) (a := xw_ad v ((6 + e)) 0) hk dX2_keep_8 (xw_at g5 rfl) (xi_n (by omega) (by decide)) (if_pos (by omega)) ?_
  refine xj_astore_n (i := 2) (ls2 := [some (.ref (xw_ad v 5 0)), some (.ref (xw_ad v 1 0)), some (.ref (xw_ad v ((6 + e)) 0))]) hk dX2_keep_9 rfl (by decide) rfl rfl ?_
  refine xj_aload_n (i := 2) hk dX2_keep_10 rfl rfl ?_
  refine xj_ifnonnull (tgt := 15) hk dX2_keep_11 (by decide) ?_
  refine xj_aload_n (i := 2) hk dX2_keep_15 rfl rfl ?_
  refine xj_aload_n (i := 1) hk dX2_keep_16 rfl rfl ?_
  refine xj_callVE hk hz (fr1 := 1) (lo1 := 22) (As := [.ref (xw_ad v 1 0)]) (st := []) ml_X2_25 (c_X0_copyFromE (n := n) (show G ((6 + e)) = pc_B v ((6 + e)) C0 from gk) (show G 1 = pc_B v 1 B from g1) (by omega) hn hn30) (xw_at gk rfl) rfl dX2_keep_17 ⟨Nat.le_of_ble_eq_true rfl, Nat.le_of_ble_eq_true rfl⟩ rfl (Nat.le_of_ble_eq_true rfl) rfl ?_
  rintro _ _ ⟨rfl, C, hC, rfl⟩
  show xj v κ _ z (xw_up G ((6 + e)) (pc_B v ((6 + e)) C)) 20 _ []
  refine xj_aload_n (i := 0) hk dX2_keep_20 rfl rfl ?_
  refine xj_aload_n (i := 0) hk dX2_keep_21 rfl rfl ?_
  refine xj_getfield hk dX2_keep_22 fl_X2_17 (xw_at (show (xw_up G ((6 + e)) (pc_B v ((6 + e)) C)) 5 = pP v (nI e) (nI a) from by rw [xw_up_n (by omega), g5]) rfl) rfl ?_
  refine xj_iconst (x := 1) hk dX2_keep_25 (by decide) ?_
  refine xj_iadd hk dX2_keep_26 ?_
  refine xj.eqi (x' := nI (e + 1)) (nI_1 e) ?_
  refine xj_bipush (x := 12) hk dX2_keep_27 (by decide) ?_
  refine xj_irem hk dX2_keep_29 (by decide) ?_
  refine xj.eqi (x' := nI ((e + 1) % 12)) (rem12 (e + 1) (by omega)) ?_
  refine xj_putfield (G2 := xw_up (xw_up G ((6 + e)) (pc_B v ((6 + e)) C)) 5 (pP v (nI ((e + 1) % 12)) (nI a))) hk dX2_keep_30 fl_X2_17 rfl rfl (xw_at (show (xw_up G ((6 + e)) (pc_B v ((6 + e)) C)) 5 = pP v (nI e) (nI a) from by rw [xw_up_n (by omega), g5]) rfl) (Nat.le_of_ble_eq_true rfl) (xw_wr (show (xw_up G ((6 + e)) (pc_B v ((6 + e)) C)) 5 = pP v (nI e) (nI a) from by rw [xw_up_n (by omega), g5]) rfl) ?_
  refine xj_aload_n (i := 0) hk dX2_keep_33 rfl rfl ?_
  refine xj_bipush (x := 12) hk dX2_keep_34 (by decide) ?_
  refine xj_aload_n (i := 0) hk dX2_keep_36 rfl rfl ?_
  refine xj_getfield hk dX2_keep_37 fl_X2_21 (xw_at xw_up_s rfl) rfl ?_
  refine xj_iconst (x := 1) hk dX2_keep_40 (by decide) ?_
  refine xj_iadd hk dX2_keep_41 ?_
  refine xj.eqi (x' := nI (a + 1)) (nI_1 a) ?_
  refine xj_min hk hz dX2_keep_42 mm_X2_29 (by decide) (Nat.le_of_ble_eq_true rfl) mm_min.1 mm_min.2.1 mm_min.2.2 ?_
  refine xj.eqi (x' := nI (min 12 (a + 1))) (min12 (a + 1) (by omega)) ?_
  refine xj_putfield (G2 := xw_up (xw_up G ((6 + e)) (pc_B v ((6 + e)) C)) 5 (pP v (nI ((e + 1) % 12)) (nI (min 12 (a + 1))))) hk dX2_keep_45 fl_X2_21 rfl rfl (xw_at xw_up_s rfl) (Nat.le_of_ble_eq_true rfl) (xw_wr2 rfl) ?_
  refine xj_return hk hz dX2_keep_48 ?_
  exact ⟨rfl, C, hC, rfl⟩

set_option maxHeartbeats 1000000 in
set_option maxRecDepth 10000 in
theorem c_X2_giveBack {v : xw_V} {G : xw_G} {B C0 : bk_T} {n e a : Nat} (g5 : G 5 = pP v (nI e) (nI a)) (gk : G (6 + (e + 11) % 12) = pc_B v (6 + (e + 11) % 12) C0) (g1 : G 1 = pc_B v 1 B) (hn : bk_bi C0 = nI n) (hn30 : n ≤ 30) (he : e < 12) (ha : a ≤ 12) (ha1 : 1 ≤ a) : xk_Con v yX2_giveBack cX2_giveBack 4 none 2 44 [.ref (xw_ad v 5 0), .ref (xw_ad v 1 0)] G (fun r G' => r = none ∧ ∃ C : bk_T, EQB n C0 C ∧ G' = xw_up (xw_up G 1 (pc_B v 1 C)) 5 (pP v (nI ((e + 11) % 12)) (nI (a - 1)))) := by
  refine xk_of (ls0 := [some (.ref (xw_ad v 5 0)), some (.ref (xw_ad v 1 0)), none, none]) (by decide) rfl (Nat.le_of_ble_eq_true rfl) ?_
  intro κ z hk hz
  refine xj_aload_n (i := 0) hk dX2_giveBack_0 rfl rfl ?_
  refine xj_getfield hk dX2_giveBack_1 fl_X2_17 (xw_at g5 rfl) rfl ?_
  refine xj_bipush (x := 12) hk dX2_giveBack_4 (by decide) ?_
  refine xj_iadd hk dX2_giveBack_6 ?_
  refine xj.eqi (x' := nI (e + 12)) (nI_add e 12) ?_
  refine xj_iconst (x := 1) hk dX2_giveBack_7 (by decide) ?_
  refine xj_isub hk dX2_giveBack_8 ?_
  refine xj.eqi (x' := nI (e + 11)) (nI_sub1 (k := e + 12) (by omega)) ?_
  refine xj_bipush (x := 12) hk dX2_giveBack_9 (by decide) ?_
  refine xj_irem hk dX2_giveBack_11 (by decide) ?_
  refine xj.eqi (x' := nI ((e + 11) % 12)) (rem12 (e + 11) (by omega)) ?_
  refine xj_istore_n (i := 2) (ls2 := [some (.ref (xw_ad v 5 0)), some (.ref (xw_ad v 1 0)), some (.int (nI ((e + 11) % 12))), none]) hk dX2_giveBack_12 rfl (by decide) rfl rfl ?_
  refine xj_aload_n (i := 0) hk dX2_giveBack_13 rfl rfl ?_
  refine xj_getfield hk dX2_giveBack_14 fl_X2_11 (xw_at g5 rfl) rfl ?_
  refine xj_iload_n (i := 2) hk dX2_giveBack_17 rfl rfl ?_
  refine xj_aaloadR (k := (e + 11) % 12) (a := xw_ad v ((6 + (e + 11) % 12)) 0) hk dX2_giveBack_18 (xw_at g5 rfl) (xi_n (by omega) (by decide)) (if_pos (by omega)) ?_
  refine xj_astore_n (i := 3) (ls2 := [some (.ref (xw_ad v 5 0)), some (.ref (xw_ad v 1 0)), some (.int (nI ((e + 11) % 12))), some (.ref (xw_ad v ((6 + (e + 11) % 12)) 0))]) hk dX2_giveBack_19 rfl (by decide) rfl rfl ?_
  refine xj_aload_n (i := 0) hk dX2_giveBack_20 rfl rfl ?_
  refine xj_getfield hk dX2_giveBack_21 fl_X2_21 (xw_at g5 rfl) rfl ?_
  refine xj_iconst (x := 1) hk dX2_giveBack_24 (by decide) ?_
  refine xj_icmp_lt (tgt := 32) hk dX2_giveBack_25 (by decide) (fun c25 => ?_) (fun c25 => ?_)
  · have c25 : a < 1 := (nI_ltI (a := a) (b := 1) (by omega) (by omega)).mp c25; exact absurd c25 (by omega)
  · have c25 : ¬ a < 1 := fun q => c25 ((nI_ltI (a := a) (b := 1) (by omega) (by omega)).mpr q)
    refine xj_aload_n (i := 3) hk dX2_giveBack_28 rfl rfl ?_
    refine xj_ifnonnull (tgt := 33) hk dX2_giveBack_29 (by decide) ?_
    refine xj_aload_n (i := 1) hk dX2_giveBack_33 rfl rfl ?_
    refine xj_aload_n (i := 3) hk dX2_giveBack_34 rfl rfl ?_
    refine xj_callVE hk hz (fr1 := 1) (lo1 := 22) (As := [.ref (xw_ad v ((6 + (e + 11) % 12)) 0)]) (st := []) ml_X2_25 (c_X0_copyFromE (n := n) (show G 1 = pc_B v 1 B from g1) (show G ((6 + (e + 11) % 12)) = pc_B v ((6 + (e + 11) % 12)) C0 from gk) (by omega) hn hn30) (xw_at g1 rfl) rfl dX2_giveBack_35 ⟨Nat.le_of_ble_eq_true rfl, Nat.le_of_ble_eq_true rfl⟩ rfl (Nat.le_of_ble_eq_true rfl) rfl ?_
    rintro _ _ ⟨rfl, C, hC, rfl⟩
    show xj v κ _ z (xw_up G 1 (pc_B v 1 C)) 38 _ []
    refine xj_aload_n (i := 0) hk dX2_giveBack_38 rfl rfl ?_
    refine xj_iload_n (i := 2) hk dX2_giveBack_39 rfl rfl ?_
    refine xj_putfield (G2 := xw_up (xw_up G 1 (pc_B v 1 C)) 5 (pP v (nI ((e + 11) % 12)) (nI a))) hk dX2_giveBack_40 fl_X2_17 rfl rfl (xw_at (show (xw_up G 1 (pc_B v 1 C)) 5 = pP v (nI e) (nI a) from by rw [xw_up_n (by decide), g5]) rfl) (Nat.le_of_ble_eq_true rfl) (xw_wr (show (xw_up G 1 (pc_B v 1 C)) 5 = pP v (nI e) (nI a) from by rw [xw_up_n (by decide), g5]) rfl) ?_
    refine xj_aload_n (i := 0) hk dX2_giveBack_43 rfl rfl ?_
    refine xj_dup hk dX2_giveBack_44 rfl ?_
    refine xj_getfield hk dX2_giveBack_45 fl_X2_21 (xw_at xw_up_s rfl) rfl ?_
    refine xj_iconst (x := 1) hk dX2_giveBack_48 (by decide) ?_
    refine xj_isub hk dX2_giveBack_49 ?_
    refine xj.eqi (x' := nI (a - 1)) (nI_sub1 (by omega)) ?_
    refine xj_putfield (G2 := xw_up (xw_up G 1 (pc_B v 1 C)) 5 (pP v (nI ((e + 11) % 12)) (nI (a - 1)))) hk dX2_giveBack_50 fl_X2_21 rfl rfl (xw_at xw_up_s rfl) (Nat.le_of_ble_eq_true rfl) (xw_wr2 rfl) ?_
    refine xj_return hk hz dX2_giveBack_53 ?_
    exact ⟨rfl, C, hC, rfl⟩

set_option maxHeartbeats 1000000 in
set_option maxRecDepth 10000 in
theorem c_X2_forget {v : xw_V} {G : xw_G} {e a : Nat} (g5 : G 5 = pP v (nI e) (nI a)) : xk_Con v yX2_forget cX2_forget 1 none 0 0 [.ref (xw_ad v 5 0)] G (xk_ret none (xw_up G 5 (pP v (nI e) 0))) := by
  refine xk_of (ls0 := [some (.ref (xw_ad v 5 0))]) (by decide) rfl (Nat.le_of_ble_eq_true rfl) ?_
  intro κ z hk hz
  refine xj_aload_n (i := 0) hk dX2_forget_0 rfl rfl ?_
  refine xj_iconst (x := 0) hk dX2_forget_1 (by decide) ?_
  refine xj_putfield (G2 := xw_up G 5 (pP v (nI e) 0)) hk dX2_forget_2 fl_X2_21 rfl rfl (xw_at g5 rfl) (Nat.le_of_ble_eq_true rfl) (xw_wr g5 rfl) ?_
  refine xj_return hk hz dX2_forget_5 ?_
  exact ⟨rfl, rfl⟩


theorem nI_decI (i : Nat) : nI i + Int32.ofInt (-1) = nI i - 1 := by rw [Int32.sub_eq_add_neg]; rfl
set_option maxHeartbeats 1000000 in
set_option maxRecDepth 10000 in
theorem l_X0_removeAllOf {v : xw_V} {κ : xk_K} {post : Option Value → xw_G → Prop} {z : Nat × Nat × Nat} {G : xw_G} {g : Nat} {B : bk_T} {F : bd_T} (hk : xk_Ok v κ yX0_removeAllOf cX0_removeAllOf 3 none 2 43) (hz : xk_zf κ = z) (hB : G g = pc_B v g B) (h : Int32) (kx : ∀ x9 : Int32, xj v κ post z (xw_up G g (pB v g (bk_te B) (bk_ho B) (bk_ow B) F.2.1 F.2.2.1 F.2.2.2 (nI F.1) (bk_st B) (bk_av B) (bk_so B) (bk_pa B) (bk_ln B))) 32 [some (.ref (xw_ad v g 0)), some (.int h), some (.int x9)] []) : ∀ (m : Nat) (i : Nat) (m1 : Nat) (hs : Nat → Int32) (ra : Nat → Int32) (lo : Nat → Int32), i < m → i ≤ m1 → m1 ≤ 30 → bd_rmA h i (m1, hs, ra, lo) = F → xj v κ post z (xw_up G g (pB v g (bk_te B) (bk_ho B) (bk_ow B) hs ra lo (nI m1) (bk_st B) (bk_av B) (bk_so B) (bk_pa B) (bk_ln B))) 7 [some (.ref (xw_ad v g 0)), some (.int h), some (.int (nI i - 1))] [] := by
  intro m
  induction m with
  | zero => intro i m1 hs ra lo h; exact absurd h (Nat.not_lt_zero _)
  | succ m ih =>
    intro i m1 hs ra lo hm hi hm30 heq
    refine xj_iload_n (i := 2) hk dX0_removeAllOf_7 rfl rfl ?_
    refine xj_if_lt (tgt := 32) hk dX0_removeAllOf_8 (by decide) (fun c8 => ?_) (fun c8 => ?_)
    · have c8 : i = 0 := (nI_neg (by omega)).mp c8
      subst c8
      simp only [bd_rmA] at heq
      subst heq
      exact kx _
    · have c8 : ¬ i = 0 := fun q => c8 ((nI_neg (by omega)).mpr q)
      obtain ⟨i, rfl⟩ : ∃ i9, i = i9 + 1 := ⟨i - 1, by omega⟩
      refine xj.to (ls' := [some (.ref (xw_ad v g 0)), some (.int h), some (.int (nI i))]) (by rw [nI_sub1 (k := i + 1) (by omega)]; rfl) ?_
      refine xj_aload_n (i := 0) hk dX0_removeAllOf_11 rfl rfl ?_
      refine xj_getfield hk dX0_removeAllOf_12 fl_X0_21 (xw_at xw_up_s rfl) rfl ?_
      refine xj_iload_n (i := 2) hk dX0_removeAllOf_15 rfl rfl ?_
      refine xj_iaload (k := i) hk dX0_removeAllOf_16 (xw_at xw_up_s rfl) (xi_n (by omega) (by decide)) ?_
      refine xj_iload_n (i := 1) hk dX0_removeAllOf_17 rfl rfl ?_
      refine xj_icmp_ne (tgt := 26) hk dX0_removeAllOf_18 (by decide) (fun c18 => ?_) (fun c18 => ?_)
      · refine xj_iinc (i := 2) (x2 := nI i - 1) (ls2 := [some (.ref (xw_ad v g 0)), some (.int h), some (.int (nI i - 1))]) hk dX0_removeAllOf_26 rfl (nI_decI i) (by decide) rfl rfl ?_
        refine xj_goto (tgt := 7) hk dX0_removeAllOf_29 (by decide) ?_
        exact ih i m1 _ _ _ (by omega) (by omega) (by omega) (by rw [← heq]; simp only [bd_rmA]; rw [if_neg c18])
      · refine xj_aload_n (i := 0) hk dX0_removeAllOf_21 rfl rfl ?_
        refine xj_iload_n (i := 2) hk dX0_removeAllOf_22 rfl rfl ?_
        refine xj_callV hk hz (fr1 := 1) (lo1 := 21) (r1 := none) (As := [.int (nI i)]) (st := []) (st2 := []) (G1 := xw_up G g (pB v g (bk_te B) (bk_ho B) (bk_ow B) (shD i (m1 - 1) (hs)) (shD i (m1 - 1) (ra)) (shD i (m1 - 1) (lo)) (nI (m1 - 1)) (bk_st B) (bk_av B) (bk_so B) (bk_pa B) (bk_ln B))) ml_X0_64 (xk_cg (by rw [xw_up_u] <;> rfl) (c_X0_remove (n := m1) (a := i) (show (xw_up G g (pB v g (bk_te B) (bk_ho B) (bk_ow B) hs ra lo (nI m1) (bk_st B) (bk_av B) (bk_so B) (bk_pa B) (bk_ln B))) g = pc_B v g (bk_te B, bk_ho B, bk_ow B, hs, ra, lo, nI m1, bk_st B, bk_av B, bk_so B, bk_pa B, bk_ln B) from xw_up_s) rfl (by omega) (by omega))) (xw_at xw_up_s rfl) rfl dX0_removeAllOf_23 ⟨Nat.le_of_ble_eq_true rfl, Nat.le_of_ble_eq_true rfl⟩ rfl (Nat.le_of_ble_eq_true rfl) rfl rfl ?_
        refine xj_iinc (i := 2) (x2 := nI i - 1) (ls2 := [some (.ref (xw_ad v g 0)), some (.int h), some (.int (nI i - 1))]) hk dX0_removeAllOf_26 rfl (nI_decI i) (by decide) rfl rfl ?_
        refine xj_goto (tgt := 7) hk dX0_removeAllOf_29 (by decide) ?_
        exact ih i (m1 - 1) _ _ _ (by omega) (by omega) (by omega) (by rw [← heq]; simp only [bd_rmA]; rw [if_pos c18]; rfl)

set_option maxHeartbeats 1000000 in
set_option maxRecDepth 10000 in
theorem c_X0_removeAllOf {v : xw_V} {G : xw_G} {g : Nat} {B : bk_T} {n : Nat} (hB : G g = pc_B v g B) (hn : bk_bi B = nI n) (hn30 : n ≤ 30) (h : Int32) : xk_Con v yX0_removeAllOf cX0_removeAllOf 3 none 2 43 [.ref (xw_ad v g 0), .int h] G (xk_ret none (xw_up G g (pB v g (bk_te B) (bk_ho B) (bk_ow B) ((bd_rmA h n (n, bk_hs B, bk_ra B, bk_lo B)).2.1) ((bd_rmA h n (n, bk_hs B, bk_ra B, bk_lo B)).2.2.1) ((bd_rmA h n (n, bk_hs B, bk_ra B, bk_lo B)).2.2.2) (nI ((bd_rmA h n (n, bk_hs B, bk_ra B, bk_lo B)).1)) (bk_st B) (bk_av B) (bk_so B) (bk_pa B) (bk_ln B)))) := by
  refine xk_of (ls0 := [some (.ref (xw_ad v g 0)), some (.int h), none]) (by decide) rfl (Nat.le_of_ble_eq_true rfl) ?_
  intro κ z hk hz
  refine xj_aload_n (i := 0) hk dX0_removeAllOf_0 rfl rfl ?_
  refine xj_getfield hk dX0_removeAllOf_1 fl_X0_37 (xw_at hB rfl) rfl ?_
  refine xj.eqi (x' := nI n) hn ?_
  refine xj_iconst (x := 1) hk dX0_removeAllOf_4 (by decide) ?_
  refine xj_isub hk dX0_removeAllOf_5 ?_
  refine xj.eqi (x' := nI n - 1) rfl ?_
  refine xj_istore_n (i := 2) (ls2 := [some (.ref (xw_ad v g 0)), some (.int h), some (.int (nI n - 1))]) hk dX0_removeAllOf_6 rfl (by decide) rfl rfl ?_
  refine xj.eqG (G' := xw_up G g (pB v g (bk_te B) (bk_ho B) (bk_ow B) (bk_hs B) (bk_ra B) (bk_lo B) (nI n) (bk_st B) (bk_av B) (bk_so B) (bk_pa B) (bk_ln B))) (by rw [← hn]; exact (xw_up_same hB).symm) ?_
  refine l_X0_removeAllOf hk hz hB h (fun x9 => ?_) (n + 1) n n _ _ _ (by omega) (by omega) hn30 rfl
  refine xj_return hk hz dX0_removeAllOf_32 ?_
  exact ⟨rfl, rfl⟩

set_option maxHeartbeats 1000000 in
set_option maxRecDepth 10000 in
theorem l_X0_join {v : xw_V} {κ : xk_K} {post : Option Value → xw_G → Prop} {z : Nat × Nat × Nat} {G : xw_G} {g : Nat} {B : bk_T} {F : bd_T} (hk : xk_Ok v κ yX0_join cX0_join 4 none 2 43) (hz : xk_zf κ = z) (hB : G g = pc_B v g B) (h : Int32) (kx : ∀ x9 : Int32, xj v κ post z (xw_up G g (pB v g (bk_te B) (bk_ho B) (bk_ow B) F.2.1 F.2.2.1 F.2.2.2 (nI F.1) (bk_st B) (bk_av B) (bk_so B) (bk_pa B) (bk_ln B))) 68 [some (.ref (xw_ad v g 0)), some (.int h), some (.int x9), none] []) : ∀ (m : Nat) (i : Nat) (m1 : Nat) (hs : Nat → Int32) (ra : Nat → Int32) (lo : Nat → Int32), i < m → i ≤ m1 → m1 ≤ 30 → bd_jn h i (m1, hs, ra, lo) = F → xj v κ post z (xw_up G g (pB v g (bk_te B) (bk_ho B) (bk_ow B) hs ra lo (nI m1) (bk_st B) (bk_av B) (bk_so B) (bk_pa B) (bk_ln B))) 7 [some (.ref (xw_ad v g 0)), some (.int h), some (.int (nI i - 1)), none] [] := by
  intro m
  induction m with
  | zero => intro i m1 hs ra lo h; exact absurd h (Nat.not_lt_zero _)
  | succ m ih =>
    intro i m1 hs ra lo hm hi hm30 heq
    refine xj_iload_n (i := 2) hk dX0_join_7 rfl rfl ?_
    refine xj_if_le (tgt := 68) hk dX0_join_8 (by decide) (fun c8 => ?_) (fun c8 => ?_)
    · have c8 : i ≤ 1 := (nI_le0 (by omega)).mp c8
      have e9 : bd_jn h i (m1, hs, ra, lo) = (m1, hs, ra, lo) := by rcases (show i = 0 ∨ i = 1 by omega) with q | q <;> subst q <;> rfl
      rw [e9] at heq
      subst heq
      exact kx _
    · have c8 : ¬ i ≤ 1 := fun q => c8 ((nI_le0 (by omega)).mpr q)
      obtain ⟨i, rfl⟩ : ∃ i9, i = i9 + 2 := ⟨i - 2, by omega⟩
      refine xj.to (ls' := [some (.ref (xw_ad v g 0)), some (.int h), some (.int (nI (i + 1))), none]) (by rw [nI_sub1 (k := i + 2) (by omega)]; rfl) ?_
      have hf := fnd_le (like hs ra (i + 1)) (i + 1)
      refine xj_aload_n (i := 0) hk dX0_join_11 rfl rfl ?_
      refine xj_iload_n (i := 2) hk dX0_join_12 rfl rfl ?_
      refine xj_callV hk hz (fr1 := 0) (lo1 := 0) (r1 := some (.int (nI (fnd (like (hs) (ra) (i + 1)) (i + 1))))) (As := [.int (nI (i + 1))]) (st := []) (st2 := [.int (nI (fnd (like (hs) (ra) (i + 1)) (i + 1)))]) (G1 := xw_up G g (pB v g (bk_te B) (bk_ho B) (bk_ow B) hs ra lo (nI m1) (bk_st B) (bk_av B) (bk_so B) (bk_pa B) (bk_ln B))) ml_X0_68 (c_X0_firstLike (b := i + 1) (show (xw_up G g (pB v g (bk_te B) (bk_ho B) (bk_ow B) hs ra lo (nI m1) (bk_st B) (bk_av B) (bk_so B) (bk_pa B) (bk_ln B))) g = pc_B v g (bk_te B, bk_ho B, bk_ow B, hs, ra, lo, nI m1, bk_st B, bk_av B, bk_so B, bk_pa B, bk_ln B) from xw_up_s) (by omega)) (xw_at xw_up_s rfl) rfl dX0_join_13 ⟨Nat.le_of_ble_eq_true rfl, Nat.le_of_ble_eq_true rfl⟩ rfl (Nat.le_of_ble_eq_true rfl) rfl rfl ?_
      refine xj_istore_n (i := 3) (ls2 := [some (.ref (xw_ad v g 0)), some (.int h), some (.int (nI (i + 1))), some (.int (nI (fnd (like (hs) (ra) (i + 1)) (i + 1))))]) hk dX0_join_16 rfl (by decide) rfl rfl ?_
      refine xj_aload_n (i := 0) hk dX0_join_17 rfl rfl ?_
      refine xj_getfield hk dX0_join_18 fl_X0_21 (xw_at xw_up_s rfl) rfl ?_
      refine xj_iload_n (i := 2) hk dX0_join_21 rfl rfl ?_
      refine xj_iaload (k := i + 1) hk dX0_join_22 (xw_at xw_up_s rfl) (xi_n (by omega) (by decide)) ?_
      refine xj_iload_n (i := 1) hk dX0_join_23 rfl rfl ?_
      refine xj_icmp_ne (tgt := 62) hk dX0_join_24 (by decide) (fun c24 => ?_) (fun c24 => ?_)
      · refine xj_iinc (i := 2) (x2 := nI (i + 1) - 1) (ls2 := [some (.ref (xw_ad v g 0)), some (.int h), some (.int (nI (i + 1) - 1)), some (.int (nI (fnd (like (hs) (ra) (i + 1)) (i + 1))))]) hk dX0_join_62 rfl (nI_decI (i + 1)) (by decide) rfl rfl ?_
        refine xj_goto (tgt := 7) hk dX0_join_65 (by decide) ?_
        refine xj.le (ls' := [some (.ref (xw_ad v g 0)), some (.int h), some (.int (nI (i + 1) - 1)), none]) (by simp [xl_le] <;> rfl) ?_
        exact ih (i + 1) m1 _ _ _ (by omega) (by omega) (by omega) (by rw [← heq]; simp only [bd_jn]; rw [if_neg (fun q => by first | exact c24 q.1 | (have := q.2; omega))])
      · refine xj_iload_n (i := 3) hk dX0_join_27 rfl rfl ?_
        refine xj_iload_n (i := 2) hk dX0_join_28 rfl rfl ?_
        refine xj_icmp_ge (tgt := 62) hk dX0_join_29 (by decide) (fun c29 => ?_) (fun c29 => ?_)
        · have c29 : i + 1 ≤ fnd (like (hs) (ra) (i + 1)) (i + 1) := (nI_leI (a := i + 1) (b := fnd (like (hs) (ra) (i + 1)) (i + 1)) (by omega) (by omega)).mp c29
          refine xj_iinc (i := 2) (x2 := nI (i + 1) - 1) (ls2 := [some (.ref (xw_ad v g 0)), some (.int h), some (.int (nI (i + 1) - 1)), some (.int (nI (fnd (like (hs) (ra) (i + 1)) (i + 1))))]) hk dX0_join_62 rfl (nI_decI (i + 1)) (by decide) rfl rfl ?_
          refine xj_goto (tgt := 7) hk dX0_join_65 (by decide) ?_
          refine xj.le (ls' := [some (.ref (xw_ad v g 0)), some (.int h), some (.int (nI (i + 1) - 1)), none]) (by simp [xl_le] <;> rfl) ?_
          exact ih (i + 1) m1 _ _ _ (by omega) (by omega) (by omega) (by rw [← heq]; simp only [bd_jn]; rw [if_neg (fun q => by first | exact c24 q.1 | (have := q.2; omega))])
        · have c29 : ¬ i + 1 ≤ fnd (like (hs) (ra) (i + 1)) (i + 1) := fun q => c29 ((nI_leI (a := i + 1) (b := fnd (like (hs) (ra) (i + 1)) (i + 1)) (by omega) (by omega)).mpr q)
          refine xj_aload_n (i := 0) hk dX0_join_32 rfl rfl ?_
          refine xj_getfield hk dX0_join_33 fl_X0_27 (xw_at xw_up_s rfl) rfl ?_
          refine xj_iload_n (i := 3) hk dX0_join_36 rfl rfl ?_
          refine xj_sipush (x := 1000) hk dX0_join_37 (by decide) ?_
          refine xj_aload_n (i := 0) hk dX0_join_40 rfl rfl ?_
          refine xj_getfield hk dX0_join_41 fl_X0_27 (xw_at xw_up_s rfl) rfl ?_
          refine xj_iload_n (i := 3) hk dX0_join_44 rfl rfl ?_
          refine xj_iaload (k := fnd (like (hs) (ra) (i + 1)) (i + 1)) hk dX0_join_45 (xw_at xw_up_s rfl) (xi_n (by omega) (by decide)) ?_
          refine xj_aload_n (i := 0) hk dX0_join_46 rfl rfl ?_
          refine xj_getfield hk dX0_join_47 fl_X0_27 (xw_at xw_up_s rfl) rfl ?_
          refine xj_iload_n (i := 2) hk dX0_join_50 rfl rfl ?_
          refine xj_iaload (k := i + 1) hk dX0_join_51 (xw_at xw_up_s rfl) (xi_n (by omega) (by decide)) ?_
          refine xj_iadd hk dX0_join_52 ?_
          refine xj_min hk hz dX0_join_53 mm_X0_72 (by decide) (Nat.le_of_ble_eq_true rfl) mm_min.1 mm_min.2.1 mm_min.2.2 ?_
          refine xj.eqi (x' := mn1 (lo (fnd (like hs ra (i + 1)) (i + 1)) + lo (i + 1))) rfl ?_
          refine xj_iastore (k := fnd (like (hs) (ra) (i + 1)) (i + 1)) (G2 := xw_up G g (pB v g (bk_te B) (bk_ho B) (bk_ow B) hs ra (xu lo (fnd (like (hs) (ra) (i + 1)) (i + 1)) (mn1 (lo (fnd (like hs ra (i + 1)) (i + 1)) + lo (i + 1)))) (nI m1) (bk_st B) (bk_av B) (bk_so B) (bk_pa B) (bk_ln B))) hk dX0_join_56 (xw_at xw_up_s rfl) (xi_n (by omega) (by decide)) (xw_wr2 rfl) ?_
          refine xj_aload_n (i := 0) hk dX0_join_57 rfl rfl ?_
          refine xj_iload_n (i := 2) hk dX0_join_58 rfl rfl ?_
          refine xj_callV hk hz (fr1 := 1) (lo1 := 21) (r1 := none) (As := [.int (nI (i + 1))]) (st := []) (st2 := []) (G1 := xw_up G g (pB v g (bk_te B) (bk_ho B) (bk_ow B) (shD (i + 1) (m1 - 1) (hs)) (shD (i + 1) (m1 - 1) (ra)) (shD (i + 1) (m1 - 1) (xu lo (fnd (like (hs) (ra) (i + 1)) (i + 1)) (mn1 (lo (fnd (like hs ra (i + 1)) (i + 1)) + lo (i + 1))))) (nI (m1 - 1)) (bk_st B) (bk_av B) (bk_so B) (bk_pa B) (bk_ln B))) ml_X0_64 (xk_cg (by rw [xw_up_u] <;> rfl) (c_X0_remove (n := m1) (a := i + 1) (show (xw_up G g (pB v g (bk_te B) (bk_ho B) (bk_ow B) hs ra (xu lo (fnd (like (hs) (ra) (i + 1)) (i + 1)) (mn1 (lo (fnd (like hs ra (i + 1)) (i + 1)) + lo (i + 1)))) (nI m1) (bk_st B) (bk_av B) (bk_so B) (bk_pa B) (bk_ln B))) g = pc_B v g (bk_te B, bk_ho B, bk_ow B, hs, ra, xu lo (fnd (like (hs) (ra) (i + 1)) (i + 1)) (mn1 (lo (fnd (like hs ra (i + 1)) (i + 1)) + lo (i + 1))), nI m1, bk_st B, bk_av B, bk_so B, bk_pa B, bk_ln B) from xw_up_s) rfl (by omega) (by omega))) (xw_at xw_up_s rfl) rfl dX0_join_59 ⟨Nat.le_of_ble_eq_true rfl, Nat.le_of_ble_eq_true rfl⟩ rfl (Nat.le_of_ble_eq_true rfl) rfl rfl ?_
          refine xj_iinc (i := 2) (x2 := nI (i + 1) - 1) (ls2 := [some (.ref (xw_ad v g 0)), some (.int h), some (.int (nI (i + 1) - 1)), some (.int (nI (fnd (like (hs) (ra) (i + 1)) (i + 1))))]) hk dX0_join_62 rfl (nI_decI (i + 1)) (by decide) rfl rfl ?_
          refine xj_goto (tgt := 7) hk dX0_join_65 (by decide) ?_
          refine xj.le (ls' := [some (.ref (xw_ad v g 0)), some (.int h), some (.int (nI (i + 1) - 1)), none]) (by simp [xl_le] <;> rfl) ?_
          exact ih (i + 1) (m1 - 1) _ _ _ (by omega) (by omega) (by omega) (by rw [← heq]; simp only [bd_jn]; rw [if_pos ⟨c24, by omega⟩]; rfl)

set_option maxHeartbeats 1000000 in
set_option maxRecDepth 10000 in
theorem c_X0_join {v : xw_V} {G : xw_G} {g : Nat} {B : bk_T} {n : Nat} (hB : G g = pc_B v g B) (hn : bk_bi B = nI n) (hn30 : n ≤ 30) (h : Int32) : xk_Con v yX0_join cX0_join 4 none 2 43 [.ref (xw_ad v g 0), .int h] G (xk_ret none (xw_up G g (pB v g (bk_te B) (bk_ho B) (bk_ow B) ((bd_jn h n (n, bk_hs B, bk_ra B, bk_lo B)).2.1) ((bd_jn h n (n, bk_hs B, bk_ra B, bk_lo B)).2.2.1) ((bd_jn h n (n, bk_hs B, bk_ra B, bk_lo B)).2.2.2) (nI ((bd_jn h n (n, bk_hs B, bk_ra B, bk_lo B)).1)) (bk_st B) (bk_av B) (bk_so B) (bk_pa B) (bk_ln B)))) := by
  refine xk_of (ls0 := [some (.ref (xw_ad v g 0)), some (.int h), none, none]) (by decide) rfl (Nat.le_of_ble_eq_true rfl) ?_
  intro κ z hk hz
  refine xj_aload_n (i := 0) hk dX0_join_0 rfl rfl ?_
  refine xj_getfield hk dX0_join_1 fl_X0_37 (xw_at hB rfl) rfl ?_
  refine xj.eqi (x' := nI n) hn ?_
  refine xj_iconst (x := 1) hk dX0_join_4 (by decide) ?_
  refine xj_isub hk dX0_join_5 ?_
  refine xj.eqi (x' := nI n - 1) rfl ?_
  refine xj_istore_n (i := 2) (ls2 := [some (.ref (xw_ad v g 0)), some (.int h), some (.int (nI n - 1)), none]) hk dX0_join_6 rfl (by decide) rfl rfl ?_
  refine xj.eqG (G' := xw_up G g (pB v g (bk_te B) (bk_ho B) (bk_ow B) (bk_hs B) (bk_ra B) (bk_lo B) (nI n) (bk_st B) (bk_av B) (bk_so B) (bk_pa B) (bk_ln B))) (by rw [← hn]; exact (xw_up_same hB).symm) ?_
  refine l_X0_join hk hz hB h (fun x9 => ?_) (n + 1) n n _ _ _ (by omega) (by omega) hn30 rfl
  refine xj_return hk hz dX0_join_68 ?_
  exact ⟨rfl, rfl⟩

def canCh (B : bk_T) (b w v : Int32) : Bool := hasB (bk_bi B) b && (if w = 0 then canChL B b v else if w = 1 then canChR B b v else false)
def bk_ch (B : bk_T) (b w v : Int32) : bk_T := if w = 0 then bk_w3 B (bk_hs B) (bk_ra B) (xu (bk_lo B) (xn b) v) (bk_bi B) else bk_w3 B (bk_hs B) (xu (bk_ra B) (xn b) v) (bk_lo B) (bk_bi B)
def chWas (B : bk_T) (b w : Int32) : Int32 := if w = 0 then bk_lo B (xn b) else bk_ra B (xn b)
set_option maxHeartbeats 1000000 in
set_option maxRecDepth 10000 in
theorem c_X7_change {v : xw_V} {G : xw_G} {B : bk_T} {n r e a l : Nat} {K : Nat → bk_T} {t : tp_T} (hX : XB v G B n r e a K t l) (b w1 v1 : Int32) : xk_Con v yX7_change cX7_change 4 (some .int) 4 89 [.ref (xw_ad v 0 0), .int b, .int w1, .int v1] G (fun r9 G' => (canCh B b w1 v1 = true ∧ ∃ C : bk_T, EQB n B C ∧ r9 = some (.int (chWas B b w1)) ∧ XB v G' (bk_ch B b w1 v1) (n) (r) ((e + 1) % 12) (min 12 (a + 1)) (xu K e C) t l ∧ XF G G') ∨ (canCh B b w1 v1 = false ∧ r9 = some (.int (-1)) ∧ XB v G' B n r e a K t l ∧ XF G G')) := by
  refine xk_of (ls0 := [some (.ref (xw_ad v 0 0)), some (.int b), some (.int w1), some (.int v1)]) (by decide) rfl (Nat.le_of_ble_eq_true rfl) ?_
  intro κ z hk hz
  have hX0 := hX
  obtain ⟨okb, he12, ha12, hK0, hl700, htl, S, A, Q, rd, sw, okS, okQ, g0, g1, g2, g3, g4, g5, gK, g18, g19, g20⟩ := hX
  obtain ⟨hn, hn30, how, hhs, hr, hr8⟩ := id okb
  refine xj_aload_n (i := 0) hk dX7_change_0 rfl rfl ?_
  refine xj_getfield hk dX7_change_1 fl_X7_10 (xw_at g0 rfl) rfl ?_
  refine xj_iload_n (i := 1) hk dX7_change_4 rfl rfl ?_
  refine xj_callV hk hz (fr1 := 0) (lo1 := 0) (r1 := some (.int (xb (hasB (bk_bi B) b)))) (As := [.int b]) (st := []) (st2 := [.int (xb (hasB (bk_bi B) b))]) (G1 := G) ml_X7_103 (c_X0_hasBid (show G 1 = pc_B v 1 B from g1) b) (xw_at g1 rfl) rfl dX7_change_5 ⟨Nat.le_of_ble_eq_true rfl, Nat.le_of_ble_eq_true rfl⟩ rfl (Nat.le_of_ble_eq_true rfl) rfl rfl ?_
  refine xj_ifb_ne (tgt := 13) hk dX7_change_8 (by decide) (fun c8 => ?_) (fun c8 => ?_)
  · obtain ⟨j, hj_j, rfl⟩ := hasB_of hn hn30 c8
    refine xj_iload_n (i := 2) hk dX7_change_13 rfl rfl ?_
    refine xj_if_ne (tgt := 24) hk dX7_change_14 (by decide) (fun c14 => ?_) (fun c14 => ?_)
    · refine xj_iload_n (i := 2) hk dX7_change_24 rfl rfl ?_
      refine xj_iconst (x := 1) hk dX7_change_25 (by decide) ?_
      refine xj_icmp_ne (tgt := 38) hk dX7_change_26 (by decide) (fun c26 => ?_) (fun c26 => ?_)
      · refine xj_iconst (x := (-1)) hk dX7_change_38 (by decide) ?_
        refine xj_ireturn hk hz dX7_change_39 ?_
        exact Or.inr ⟨by simp [canCh, c8, xn_nI (show j < 2 ^ 31 by omega), c14, c26], rfl, ⟨okb, he12, ha12, hK0, hl700, htl, S, A, Q, rd, sw, okS, okQ, (show G 0 = pc_X v from g0), (show G 1 = pc_B v 1 B from g1), (show G 2 = pc_S v 2 1 S from g2), (show G 3 = pc_B v 3 A from g3), (show G 4 = pc_S v 4 3 Q from g4), (show G 5 = pc_P v (nI e, nI a) from g5), gK, (show G 18 = pc_T v t from g18), (show G 19 = pc_R v rd from g19), (show G 20 = pc_W  sw from g20)⟩, (fun _ _ => rfl)⟩
      · refine xj_aload_n (i := 0) hk dX7_change_29 rfl rfl ?_
        refine xj_iload_n (i := 1) hk dX7_change_30 rfl rfl ?_
        refine xj_iload_n (i := 3) hk dX7_change_31 rfl rfl ?_
        refine xj_callVE hk hz (fr1 := 3) (lo1 := 66) (As := [.int (nI j), .int v1]) (st := []) ml_X7_113 (c_X7_changeRate hX0 v1 hj_j) (xw_at g0 rfl) rfl dX7_change_32 ⟨Nat.le_of_ble_eq_true rfl, Nat.le_of_ble_eq_true rfl⟩ rfl (Nat.le_of_ble_eq_true rfl) rfl ?_
        rintro r9 G9 h9
        obtain ⟨y9, rfl⟩ : ∃ y9 : Int32, r9 = some (.int y9) := by rcases h9 with ⟨_, _, _, h, _⟩ | ⟨_, h, _⟩ <;> exact ⟨_, h⟩
        show xj v κ _ z G9 35 _ [.int y9]
        refine xj_goto (tgt := 39) hk dX7_change_35 (by decide) ?_
        refine xj_ireturn hk hz dX7_change_39 ?_
        rcases h9 with ⟨q1, C, q2, q3, q4, q5⟩ | ⟨q1, q2, q3, q4⟩
        · refine Or.inl ⟨by simp [canCh, q1, hasB_nI hn hn30 hj_j, c14, c26], C, q2, ?_, ?_, q5⟩
          · simp only [chWas, xn_nI (show j < 2 ^ 31 by omega), c14, c26]; first | exact q3 | (simp [xn_nI (show j < 2 ^ 31 by omega), c14, c26]; simpa using q3)
          · simp only [bk_ch, xn_nI (show j < 2 ^ 31 by omega), c14, c26]; first | exact q4 | (simp [xn_nI (show j < 2 ^ 31 by omega), c14, c26]; simpa using q4)
        · exact Or.inr ⟨by simp [canCh, q1, c14, c26], q2, q3, q4⟩
    · refine xj_aload_n (i := 0) hk dX7_change_17 rfl rfl ?_
      refine xj_iload_n (i := 1) hk dX7_change_18 rfl rfl ?_
      refine xj_iload_n (i := 3) hk dX7_change_19 rfl rfl ?_
      refine xj_callVE hk hz (fr1 := 3) (lo1 := 66) (As := [.int (nI j), .int v1]) (st := []) ml_X7_109 (c_X7_changeLots hX0 v1 hj_j) (xw_at g0 rfl) rfl dX7_change_20 ⟨Nat.le_of_ble_eq_true rfl, Nat.le_of_ble_eq_true rfl⟩ rfl (Nat.le_of_ble_eq_true rfl) rfl ?_
      rintro r9 G9 h9
      obtain ⟨y9, rfl⟩ : ∃ y9 : Int32, r9 = some (.int y9) := by rcases h9 with ⟨_, _, _, h, _⟩ | ⟨_, h, _⟩ <;> exact ⟨_, h⟩
      show xj v κ _ z G9 23 _ [.int y9]
      refine xj_ireturn hk hz dX7_change_23 ?_
      rcases h9 with ⟨q1, C, q2, q3, q4, q5⟩ | ⟨q1, q2, q3, q4⟩
      · refine Or.inl ⟨by simp [canCh, q1, hasB_nI hn hn30 hj_j, c14], C, q2, ?_, ?_, q5⟩
        · simp only [chWas, xn_nI (show j < 2 ^ 31 by omega), c14]; first | exact q3 | (simp [xn_nI (show j < 2 ^ 31 by omega), c14]; simpa using q3)
        · simp only [bk_ch, xn_nI (show j < 2 ^ 31 by omega), c14]; first | exact q4 | (simp [xn_nI (show j < 2 ^ 31 by omega), c14]; simpa using q4)
      · exact Or.inr ⟨by simp [canCh, q1, c14], q2, q3, q4⟩
  · refine xj_iconst (x := (-1)) hk dX7_change_11 (by decide) ?_
    refine xj_ireturn hk hz dX7_change_12 ?_
    exact Or.inr ⟨by simp [canCh, c8], rfl, ⟨okb, he12, ha12, hK0, hl700, htl, S, A, Q, rd, sw, okS, okQ, (show G 0 = pc_X v from g0), (show G 1 = pc_B v 1 B from g1), (show G 2 = pc_S v 2 1 S from g2), (show G 3 = pc_B v 3 A from g3), (show G 4 = pc_S v 4 3 Q from g4), (show G 5 = pc_P v (nI e, nI a) from g5), gK, (show G 18 = pc_T v t from g18), (show G 19 = pc_R v rd from g19), (show G 20 = pc_W  sw from g20)⟩, (fun _ _ => rfl)⟩

set_option maxHeartbeats 1000000 in
set_option maxRecDepth 10000 in
theorem c_X7_undo {v : xw_V} {G : xw_G} {B : bk_T} {n r e a l : Nat} {K : Nat → bk_T} {t : tp_T} (hX : XB v G B n r e a K t l) : xk_Con v yX7_undo cX7_undo 1 (some .int) 3 67 [.ref (xw_ad v 0 0)] G (fun r9 G' => (1 ≤ a ∧ r9 = some (.int (nI (a - 1))) ∧ ∃ (n1 r1 : Nat) (C : bk_T), okB (K ((e + 11) % 12)) n1 r1 ∧ EQB n1 (K ((e + 11) % 12)) C ∧ XB v G' C n1 r1 ((e + 11) % 12) (a - 1) K t l ∧ XF G G') ∨ (a = 0 ∧ r9 = some (.int (-1)) ∧ XB v G' B n r e a K t l ∧ XF G G')) := by
  refine xk_of (ls0 := [some (.ref (xw_ad v 0 0))]) (by decide) rfl (Nat.le_of_ble_eq_true rfl) ?_
  intro κ z hk hz
  obtain ⟨okb, he12, ha12, hK0, hl700, htl, S, A, Q, rd, sw, okS, okQ, g0, g1, g2, g3, g4, g5, gK, g18, g19, g20⟩ := hX
  obtain ⟨hn, hn30, how, hhs, hr, hr8⟩ := id okb
  refine xj_aload_n (i := 0) hk dX7_undo_0 rfl rfl ?_
  refine xj_getfield hk dX7_undo_1 fl_X7_34 (xw_at g0 rfl) rfl ?_
  refine xj_getfield hk dX7_undo_4 fl_X7_178 (xw_at g5 rfl) rfl ?_
  refine xj_if_ne (tgt := 12) hk dX7_undo_7 (by decide) (fun c7 => ?_) (fun c7 => ?_)
  · have c7 : ¬ a = 0 := fun q => c7 ((nI_eq (a := a) (b := 0) (by omega) (by omega)).mpr q)
    obtain ⟨n1, r1, ok1⟩ := hK0 ((e + 11) % 12) (Nat.mod_lt _ (by omega))
    refine xj_aload_n (i := 0) hk dX7_undo_12 rfl rfl ?_
    refine xj_getfield hk dX7_undo_13 fl_X7_34 (xw_at g0 rfl) rfl ?_
    refine xj_aload_n (i := 0) hk dX7_undo_16 rfl rfl ?_
    refine xj_getfield hk dX7_undo_17 fl_X7_10 (xw_at g0 rfl) rfl ?_
    refine xj_callVE hk hz (fr1 := 2) (lo1 := 44) (As := [.ref (xw_ad v 1 0)]) (st := []) ml_X7_181 (c_X2_giveBack (n := n1) (show G 5 = pP v (nI e) (nI a) from g5) (show G ((6 + (e + 11) % 12)) = pc_B v ((6 + (e + 11) % 12)) ((K ((e + 11) % 12))) from (gK ((e + 11) % 12) (Nat.mod_lt _ (by omega)))) (show G 1 = pc_B v 1 B from g1) ok1.1 ok1.2.1 he12 ha12 (by omega)) (xw_at g5 rfl) rfl dX7_undo_20 ⟨Nat.le_of_ble_eq_true rfl, Nat.le_of_ble_eq_true rfl⟩ rfl (Nat.le_of_ble_eq_true rfl) rfl ?_
    rintro _ _ ⟨rfl, C, hC, rfl⟩
    show xj v κ _ z (xw_up (xw_up G 1 (pc_B v 1 C)) 5 (pP v (nI ((e + 11) % 12)) (nI (a - 1)))) 23 _ []
    refine xj_aload_n (i := 0) hk dX7_undo_23 rfl rfl ?_
    refine xj_getfield hk dX7_undo_24 fl_X7_34 (xw_at (show (xw_up (xw_up G 1 (pc_B v 1 C)) 5 (pP v (nI ((e + 11) % 12)) (nI (a - 1)))) 0 = pc_X v from by rw [xw_up_n (by decide), xw_up_n (by decide), g0]) rfl) rfl ?_
    refine xj_getfield hk dX7_undo_27 fl_X7_178 (xw_at xw_up_s rfl) rfl ?_
    refine xj_ireturn hk hz dX7_undo_30 ?_
    exact Or.inl ⟨by omega, rfl, n1, r1, C, ok1, hC, ⟨(EQB_ok hC ok1), (Nat.mod_lt _ (by omega)), (by omega), hK0, hl700, htl, S, A, Q, rd, sw, okS, okQ, (show (xw_up (xw_up G 1 (pc_B v 1 C)) 5 (pP v (nI ((e + 11) % 12)) (nI (a - 1)))) 0 = pc_X v from (show (xw_up (xw_up G 1 (pc_B v 1 C)) 5 (pP v (nI ((e + 11) % 12)) (nI (a - 1)))) 0 = pc_X v from by rw [xw_up_n (by decide), xw_up_n (by decide), g0])), (show (xw_up (xw_up G 1 (pc_B v 1 C)) 5 (pP v (nI ((e + 11) % 12)) (nI (a - 1)))) 1 = pc_B v 1 C from (show (xw_up (xw_up G 1 (pc_B v 1 C)) 5 (pP v (nI ((e + 11) % 12)) (nI (a - 1)))) 1 = pc_B v 1 C from by rw [xw_up_n (by decide), xw_up_s])), (show (xw_up (xw_up G 1 (pc_B v 1 C)) 5 (pP v (nI ((e + 11) % 12)) (nI (a - 1)))) 2 = pc_S v 2 1 S from (show (xw_up (xw_up G 1 (pc_B v 1 C)) 5 (pP v (nI ((e + 11) % 12)) (nI (a - 1)))) 2 = pc_S v 2 1 S from by rw [xw_up_n (by decide), xw_up_n (by decide), g2])), (show (xw_up (xw_up G 1 (pc_B v 1 C)) 5 (pP v (nI ((e + 11) % 12)) (nI (a - 1)))) 3 = pc_B v 3 A from (show (xw_up (xw_up G 1 (pc_B v 1 C)) 5 (pP v (nI ((e + 11) % 12)) (nI (a - 1)))) 3 = pc_B v 3 A from by rw [xw_up_n (by decide), xw_up_n (by decide), g3])), (show (xw_up (xw_up G 1 (pc_B v 1 C)) 5 (pP v (nI ((e + 11) % 12)) (nI (a - 1)))) 4 = pc_S v 4 3 Q from (show (xw_up (xw_up G 1 (pc_B v 1 C)) 5 (pP v (nI ((e + 11) % 12)) (nI (a - 1)))) 4 = pc_S v 4 3 Q from by rw [xw_up_n (by decide), xw_up_n (by decide), g4])), (show (xw_up (xw_up G 1 (pc_B v 1 C)) 5 (pP v (nI ((e + 11) % 12)) (nI (a - 1)))) 5 = pc_P v (nI ((e + 11) % 12), nI (a - 1)) from xw_up_s), (fun j9 h9 => by rw [xw_up_n (by omega), xw_up_n (by omega)]; exact gK j9 h9), (show (xw_up (xw_up G 1 (pc_B v 1 C)) 5 (pP v (nI ((e + 11) % 12)) (nI (a - 1)))) 18 = pc_T v t from (show (xw_up (xw_up G 1 (pc_B v 1 C)) 5 (pP v (nI ((e + 11) % 12)) (nI (a - 1)))) 18 = pc_T v t from by rw [xw_up_n (by decide), xw_up_n (by decide), g18])), (show (xw_up (xw_up G 1 (pc_B v 1 C)) 5 (pP v (nI ((e + 11) % 12)) (nI (a - 1)))) 19 = pc_R v rd from (show (xw_up (xw_up G 1 (pc_B v 1 C)) 5 (pP v (nI ((e + 11) % 12)) (nI (a - 1)))) 19 = pc_R v rd from by rw [xw_up_n (by decide), xw_up_n (by decide), g19])), (show (xw_up (xw_up G 1 (pc_B v 1 C)) 5 (pP v (nI ((e + 11) % 12)) (nI (a - 1)))) 20 = pc_W  sw from (show (xw_up (xw_up G 1 (pc_B v 1 C)) 5 (pP v (nI ((e + 11) % 12)) (nI (a - 1)))) 20 = pc_W  sw from by rw [xw_up_n (by decide), xw_up_n (by decide), g20]))⟩, (fun g h9 => by rw [xw_up_n (by omega), xw_up_n (by omega)])⟩
  · have c7 : a = 0 := (nI_eq (a := a) (b := 0) (by omega) (by omega)).mp c7
    refine xj_iconst (x := (-1)) hk dX7_undo_10 (by decide) ?_
    refine xj_ireturn hk hz dX7_undo_11 ?_
    exact Or.inr ⟨c7, rfl, ⟨okb, he12, ha12, hK0, hl700, htl, S, A, Q, rd, sw, okS, okQ, (show G 0 = pc_X v from g0), (show G 1 = pc_B v 1 B from g1), (show G 2 = pc_S v 2 1 S from g2), (show G 3 = pc_B v 3 A from g3), (show G 4 = pc_S v 4 3 Q from g4), (show G 5 = pc_P v (nI e, nI a) from g5), gK, (show G 18 = pc_T v t from g18), (show G 19 = pc_R v rd from g19), (show G 20 = pc_W  sw from g20)⟩, (fun _ _ => rfl)⟩

set_option maxHeartbeats 1000000 in
set_option maxRecDepth 10000 in
theorem c_X6_hasRoomForFive {v : xw_V} {G : xw_G} {t : tp_T} {l : Nat} (g18 : G 18 = pc_T v t) (hl : tp_le t = nI l) (hl7 : l ≤ 700) : xk_Con v yX6_hasRoomForFive cX6_hasRoomForFive 1 (some .boolean) 0 0 [.ref (xw_ad v 18 0)] G (xk_ret (some (.int (xb (decide (l + 20 ≤ 700))))) G) := by
  refine xk_of (ls0 := [some (.ref (xw_ad v 18 0))]) (by decide) rfl (Nat.le_of_ble_eq_true rfl) ?_
  intro κ z hk hz
  refine xj_aload_n (i := 0) hk dX6_hasRoomForFive_0 rfl rfl ?_
  refine xj_getfield hk dX6_hasRoomForFive_1 fl_X6_15 (xw_at g18 rfl) rfl ?_
  refine xj.eqi (x' := nI l) hl ?_
  refine xj_bipush (x := 20) hk dX6_hasRoomForFive_4 (by decide) ?_
  refine xj_iadd hk dX6_hasRoomForFive_6 ?_
  refine xj.eqi (x' := nI (l + 20)) (nI_add l 20) ?_
  refine xj_sipush (x := 700) hk dX6_hasRoomForFive_7 (by decide) ?_
  refine xj_icmp_gt (tgt := 17) hk dX6_hasRoomForFive_10 (by decide) (fun c10 => ?_) (fun c10 => ?_)
  · have c10 : 700 < l + 20 := (nI_ltI (a := 700) (b := l + 20) (by omega) (by omega)).mp c10
    refine xj_iconst (x := 0) hk dX6_hasRoomForFive_17 (by decide) ?_
    refine xj_zreturn hk hz dX6_hasRoomForFive_18 (by decide) ?_
    exact ⟨by first | (rw [show decide (l + 20 ≤ 700) = false from decide_eq_false (by omega)]; rfl) | (rw [show decide (l + 20 ≤ 700) = true from decide_eq_true (by omega)]; rfl), rfl⟩
  · have c10 : ¬ 700 < l + 20 := fun q => c10 ((nI_ltI (a := 700) (b := l + 20) (by omega) (by omega)).mpr q)
    refine xj_iconst (x := 1) hk dX6_hasRoomForFive_13 (by decide) ?_
    refine xj_goto (tgt := 18) hk dX6_hasRoomForFive_14 (by decide) ?_
    refine xj_zreturn hk hz dX6_hasRoomForFive_18 (by decide) ?_
    exact ⟨by first | (rw [show decide (l + 20 ≤ 700) = false from decide_eq_false (by omega)]; rfl) | (rw [show decide (l + 20 ≤ 700) = true from decide_eq_true (by omega)]; rfl), rfl⟩

def ush (x y : Int32) : Int32 := (x.toUInt32 >>> (Int32.toUInt32 y &&& Int32.toUInt32 31)).toInt32 &&& 255
def ad4 (f : Nat → Int32) (l : Nat) (x : Int32) : Nat → Int32 := xu (xu (xu (xu f l (ush x 24)) (l + 1) (ush x 16)) (l + 1 + 1) (ush x 8)) (l + 1 + 1 + 1) (ush x 0)
set_option maxHeartbeats 1000000 in
set_option maxRecDepth 10000 in
theorem c_X6_addFour {v : xw_V} {G : xw_G} {t : tp_T} {l : Nat} (g18 : G 18 = pc_T v t) (hl : tp_le t = nI l) (hl7 : l + 4 ≤ 700) (x : Int32) : xk_Con v yX6_addFour cX6_addFour 3 none 0 0 [.ref (xw_ad v 18 0), .int x] G (xk_ret none (xw_up G 18 (pT v (ad4 (tp_by t) l x) (nI (l + 1 + 1 + 1 + 1))))) := by
  refine xk_of (ls0 := [some (.ref (xw_ad v 18 0)), some (.int x), none]) (by decide) rfl (Nat.le_of_ble_eq_true rfl) ?_
  intro κ z hk hz
  refine xj_bipush (x := 24) hk dX6_addFour_0 (by decide) ?_
  refine xj_istore_n (i := 2) (ls2 := [some (.ref (xw_ad v 18 0)), some (.int x), some (.int 24)]) hk dX6_addFour_2 rfl (by decide) rfl rfl ?_
  refine xj_iload_n (i := 2) hk dX6_addFour_3 rfl rfl ?_
  refine xj_if_lt (tgt := 49) hk dX6_addFour_4 (by decide) (fun c4 => ?_) (fun c4 => ?_)
  · exact absurd c4 (by decide)
  · refine xj_aload_n (i := 0) hk dX6_addFour_7 rfl rfl ?_
    refine xj_getfield hk dX6_addFour_8 fl_X6_15 (xw_at g18 rfl) rfl ?_
    refine xj.eqi (x' := nI l) hl ?_
    refine xj_sipush (x := 700) hk dX6_addFour_11 (by decide) ?_
    refine xj_icmp_ge (tgt := 43) hk dX6_addFour_14 (by decide) (fun c14 => ?_) (fun c14 => ?_)
    · have c14 : 700 ≤ l := (nI_leI (a := 700) (b := l) (by omega) (by omega)).mp c14; exact absurd c14 (by omega)
    · have c14 : ¬ 700 ≤ l := fun q => c14 ((nI_leI (a := 700) (b := l) (by omega) (by omega)).mpr q)
      refine xj_aload_n (i := 0) hk dX6_addFour_17 rfl rfl ?_
      refine xj_getfield hk dX6_addFour_18 fl_X6_9 (xw_at g18 rfl) rfl ?_
      refine xj_aload_n (i := 0) hk dX6_addFour_21 rfl rfl ?_
      refine xj_getfield hk dX6_addFour_22 fl_X6_15 (xw_at g18 rfl) rfl ?_
      refine xj.eqi (x' := nI l) hl ?_
      refine xj_iload_n (i := 1) hk dX6_addFour_25 rfl rfl ?_
      refine xj_iload_n (i := 2) hk dX6_addFour_26 rfl rfl ?_
      refine xj_iushr (x := (x.toUInt32 >>> (Int32.toUInt32 24 &&& Int32.toUInt32 31)).toInt32) hk dX6_addFour_27 rfl ?_
      refine xj_sipush (x := 255) hk dX6_addFour_28 (by decide) ?_
      refine xj_iand hk dX6_addFour_31 ?_
      refine xj_iastore (k := l) (G2 := xw_up G 18 (pT v (xu (tp_by t) l (((x.toUInt32 >>> (Int32.toUInt32 24 &&& Int32.toUInt32 31)).toInt32) &&& 255)) (tp_le t))) hk dX6_addFour_32 (xw_at g18 rfl) (xi_n (by omega) (by decide)) (xw_wr g18 rfl) ?_
      refine xj_aload_n (i := 0) hk dX6_addFour_33 rfl rfl ?_
      refine xj_dup hk dX6_addFour_34 rfl ?_
      refine xj_getfield hk dX6_addFour_35 fl_X6_15 (xw_at xw_up_s rfl) rfl ?_
      refine xj.eqi (x' := nI l) hl ?_
      refine xj_iconst (x := 1) hk dX6_addFour_38 (by decide) ?_
      refine xj_iadd hk dX6_addFour_39 ?_
      refine xj.eqi (x' := nI (l + 1)) (nI_1 l) ?_
      refine xj_putfield (G2 := xw_up G 18 (pT v (xu (tp_by t) l (((x.toUInt32 >>> (Int32.toUInt32 24 &&& Int32.toUInt32 31)).toInt32) &&& 255)) (nI (l + 1)))) hk dX6_addFour_40 fl_X6_15 rfl rfl (xw_at xw_up_s rfl) (Nat.le_of_ble_eq_true rfl) (xw_wr2 rfl) ?_
      refine xj_iinc (i := 2) (x2 := 16) (ls2 := [some (.ref (xw_ad v 18 0)), some (.int x), some (.int 16)]) hk dX6_addFour_43 rfl (by decide) (by decide) rfl rfl ?_
      refine xj_goto (tgt := 3) hk dX6_addFour_46 (by decide) ?_
      refine xj_iload_n (i := 2) hk dX6_addFour_3 rfl rfl ?_
      refine xj_if_lt (tgt := 49) hk dX6_addFour_4 (by decide) (fun c4 => ?_) (fun c4 => ?_)
      · exact absurd c4 (by decide)
      · refine xj_aload_n (i := 0) hk dX6_addFour_7 rfl rfl ?_
        refine xj_getfield hk dX6_addFour_8 fl_X6_15 (xw_at xw_up_s rfl) rfl ?_
        refine xj_sipush (x := 700) hk dX6_addFour_11 (by decide) ?_
        refine xj_icmp_ge (tgt := 43) hk dX6_addFour_14 (by decide) (fun c14 => ?_) (fun c14 => ?_)
        · have c14 : 700 ≤ l + 1 := (nI_leI (a := 700) (b := l + 1) (by omega) (by omega)).mp c14; exact absurd c14 (by omega)
        · have c14 : ¬ 700 ≤ l + 1 := fun q => c14 ((nI_leI (a := 700) (b := l + 1) (by omega) (by omega)).mpr q)
          refine xj_aload_n (i := 0) hk dX6_addFour_17 rfl rfl ?_
          refine xj_getfield hk dX6_addFour_18 fl_X6_9 (xw_at xw_up_s rfl) rfl ?_
          refine xj_aload_n (i := 0) hk dX6_addFour_21 rfl rfl ?_
          refine xj_getfield hk dX6_addFour_22 fl_X6_15 (xw_at xw_up_s rfl) rfl ?_
          refine xj_iload_n (i := 1) hk dX6_addFour_25 rfl rfl ?_
          refine xj_iload_n (i := 2) hk dX6_addFour_26 rfl rfl ?_
          refine xj_iushr (x := (x.toUInt32 >>> (Int32.toUInt32 16 &&& Int32.toUInt32 31)).toInt32) hk dX6_addFour_27 rfl ?_
          refine xj_sipush (x := 255) hk dX6_addFour_28 (by decide) ?_
          refine xj_iand hk dX6_addFour_31 ?_
          refine xj_iastore (k := l + 1) (G2 := xw_up G 18 (pT v (xu (xu (tp_by t) l (((x.toUInt32 >>> (Int32.toUInt32 24 &&& Int32.toUInt32 31)).toInt32) &&& 255)) (l + 1) (((x.toUInt32 >>> (Int32.toUInt32 16 &&& Int32.toUInt32 31)).toInt32) &&& 255)) (nI (l + 1)))) hk dX6_addFour_32 (xw_at xw_up_s rfl) (xi_n (by omega) (by decide)) (xw_wr2 rfl) ?_
          refine xj_aload_n (i := 0) hk dX6_addFour_33 rfl rfl ?_
          refine xj_dup hk dX6_addFour_34 rfl ?_
          refine xj_getfield hk dX6_addFour_35 fl_X6_15 (xw_at xw_up_s rfl) rfl ?_
          refine xj_iconst (x := 1) hk dX6_addFour_38 (by decide) ?_
          refine xj_iadd hk dX6_addFour_39 ?_
          refine xj.eqi (x' := nI (l + 1 + 1)) (nI_1 (l + 1)) ?_
          refine xj_putfield (G2 := xw_up G 18 (pT v (xu (xu (tp_by t) l (((x.toUInt32 >>> (Int32.toUInt32 24 &&& Int32.toUInt32 31)).toInt32) &&& 255)) (l + 1) (((x.toUInt32 >>> (Int32.toUInt32 16 &&& Int32.toUInt32 31)).toInt32) &&& 255)) (nI (l + 1 + 1)))) hk dX6_addFour_40 fl_X6_15 rfl rfl (xw_at xw_up_s rfl) (Nat.le_of_ble_eq_true rfl) (xw_wr2 rfl) ?_
          refine xj_iinc (i := 2) (x2 := 8) (ls2 := [some (.ref (xw_ad v 18 0)), some (.int x), some (.int 8)]) hk dX6_addFour_43 rfl (by decide) (by decide) rfl rfl ?_
          refine xj_goto (tgt := 3) hk dX6_addFour_46 (by decide) ?_
          refine xj_iload_n (i := 2) hk dX6_addFour_3 rfl rfl ?_
          refine xj_if_lt (tgt := 49) hk dX6_addFour_4 (by decide) (fun c4 => ?_) (fun c4 => ?_)
          · exact absurd c4 (by decide)
          · refine xj_aload_n (i := 0) hk dX6_addFour_7 rfl rfl ?_
            refine xj_getfield hk dX6_addFour_8 fl_X6_15 (xw_at xw_up_s rfl) rfl ?_
            refine xj_sipush (x := 700) hk dX6_addFour_11 (by decide) ?_
            refine xj_icmp_ge (tgt := 43) hk dX6_addFour_14 (by decide) (fun c14 => ?_) (fun c14 => ?_)
            · have c14 : 700 ≤ l + 1 + 1 := (nI_leI (a := 700) (b := l + 1 + 1) (by omega) (by omega)).mp c14; exact absurd c14 (by omega)
            · have c14 : ¬ 700 ≤ l + 1 + 1 := fun q => c14 ((nI_leI (a := 700) (b := l + 1 + 1) (by omega) (by omega)).mpr q)
              refine xj_aload_n (i := 0) hk dX6_addFour_17 rfl rfl ?_
              refine xj_getfield hk dX6_addFour_18 fl_X6_9 (xw_at xw_up_s rfl) rfl ?_
              refine xj_aload_n (i := 0) hk dX6_addFour_21 rfl rfl ?_
              refine xj_getfield hk dX6_addFour_22 fl_X6_15 (xw_at xw_up_s rfl) rfl ?_
              refine xj_iload_n (i := 1) hk dX6_addFour_25 rfl rfl ?_
              refine xj_iload_n (i := 2) hk dX6_addFour_26 rfl rfl ?_
              refine xj_iushr (x := (x.toUInt32 >>> (Int32.toUInt32 8 &&& Int32.toUInt32 31)).toInt32) hk dX6_addFour_27 rfl ?_
              refine xj_sipush (x := 255) hk dX6_addFour_28 (by decide) ?_
              refine xj_iand hk dX6_addFour_31 ?_
              refine xj_iastore (k := l + 1 + 1) (G2 := xw_up G 18 (pT v (xu (xu (xu (tp_by t) l (((x.toUInt32 >>> (Int32.toUInt32 24 &&& Int32.toUInt32 31)).toInt32) &&& 255)) (l + 1) (((x.toUInt32 >>> (Int32.toUInt32 16 &&& Int32.toUInt32 31)).toInt32) &&& 255)) (l + 1 + 1) (((x.toUInt32 >>> (Int32.toUInt32 8 &&& Int32.toUInt32 31)).toInt32) &&& 255)) (nI (l + 1 + 1)))) hk dX6_addFour_32 (xw_at xw_up_s rfl) (xi_n (by omega) (by decide)) (xw_wr2 rfl) ?_
              refine xj_aload_n (i := 0) hk dX6_addFour_33 rfl rfl ?_
              refine xj_dup hk dX6_addFour_34 rfl ?_
              refine xj_getfield hk dX6_addFour_35 fl_X6_15 (xw_at xw_up_s rfl) rfl ?_
              refine xj_iconst (x := 1) hk dX6_addFour_38 (by decide) ?_
              refine xj_iadd hk dX6_addFour_39 ?_
              refine xj.eqi (x' := nI (l + 1 + 1 + 1)) (nI_1 (l + 1 + 1)) ?_
              refine xj_putfield (G2 := xw_up G 18 (pT v (xu (xu (xu (tp_by t) l (((x.toUInt32 >>> (Int32.toUInt32 24 &&& Int32.toUInt32 31)).toInt32) &&& 255)) (l + 1) (((x.toUInt32 >>> (Int32.toUInt32 16 &&& Int32.toUInt32 31)).toInt32) &&& 255)) (l + 1 + 1) (((x.toUInt32 >>> (Int32.toUInt32 8 &&& Int32.toUInt32 31)).toInt32) &&& 255)) (nI (l + 1 + 1 + 1)))) hk dX6_addFour_40 fl_X6_15 rfl rfl (xw_at xw_up_s rfl) (Nat.le_of_ble_eq_true rfl) (xw_wr2 rfl) ?_
              refine xj_iinc (i := 2) (x2 := 0) (ls2 := [some (.ref (xw_ad v 18 0)), some (.int x), some (.int 0)]) hk dX6_addFour_43 rfl (by decide) (by decide) rfl rfl ?_
              refine xj_goto (tgt := 3) hk dX6_addFour_46 (by decide) ?_
              refine xj_iload_n (i := 2) hk dX6_addFour_3 rfl rfl ?_
              refine xj_if_lt (tgt := 49) hk dX6_addFour_4 (by decide) (fun c4 => ?_) (fun c4 => ?_)
              · exact absurd c4 (by decide)
              · refine xj_aload_n (i := 0) hk dX6_addFour_7 rfl rfl ?_
                refine xj_getfield hk dX6_addFour_8 fl_X6_15 (xw_at xw_up_s rfl) rfl ?_
                refine xj_sipush (x := 700) hk dX6_addFour_11 (by decide) ?_
                refine xj_icmp_ge (tgt := 43) hk dX6_addFour_14 (by decide) (fun c14 => ?_) (fun c14 => ?_)
                · have c14 : 700 ≤ l + 1 + 1 + 1 := (nI_leI (a := 700) (b := l + 1 + 1 + 1) (by omega) (by omega)).mp c14; exact absurd c14 (by omega)
                · have c14 : ¬ 700 ≤ l + 1 + 1 + 1 := fun q => c14 ((nI_leI (a := 700) (b := l + 1 + 1 + 1) (by omega) (by omega)).mpr q)
                  refine xj_aload_n (i := 0) hk dX6_addFour_17 rfl rfl ?_
                  refine xj_getfield hk dX6_addFour_18 fl_X6_9 (xw_at xw_up_s rfl) rfl ?_
                  refine xj_aload_n (i := 0) hk dX6_addFour_21 rfl rfl ?_
                  refine xj_getfield hk dX6_addFour_22 fl_X6_15 (xw_at xw_up_s rfl) rfl ?_
                  refine xj_iload_n (i := 1) hk dX6_addFour_25 rfl rfl ?_
                  refine xj_iload_n (i := 2) hk dX6_addFour_26 rfl rfl ?_
                  refine xj_iushr (x := (x.toUInt32 >>> (Int32.toUInt32 0 &&& Int32.toUInt32 31)).toInt32) hk dX6_addFour_27 rfl ?_
                  refine xj_sipush (x := 255) hk dX6_addFour_28 (by decide) ?_
                  refine xj_iand hk dX6_addFour_31 ?_
                  refine xj_iastore (k := l + 1 + 1 + 1) (G2 := xw_up G 18 (pT v (xu (xu (xu (xu (tp_by t) l (((x.toUInt32 >>> (Int32.toUInt32 24 &&& Int32.toUInt32 31)).toInt32) &&& 255)) (l + 1) (((x.toUInt32 >>> (Int32.toUInt32 16 &&& Int32.toUInt32 31)).toInt32) &&& 255)) (l + 1 + 1) (((x.toUInt32 >>> (Int32.toUInt32 8 &&& Int32.toUInt32 31)).toInt32) &&& 255)) (l + 1 + 1 + 1) (((x.toUInt32 >>> (Int32.toUInt32 0 &&& Int32.toUInt32 31)).toInt32) &&& 255)) (nI (l + 1 + 1 + 1)))) hk dX6_addFour_32 (xw_at xw_up_s rfl) (xi_n (by omega) (by decide)) (xw_wr2 rfl) ?_
                  refine xj_aload_n (i := 0) hk dX6_addFour_33 rfl rfl ?_
                  refine xj_dup hk dX6_addFour_34 rfl ?_
                  refine xj_getfield hk dX6_addFour_35 fl_X6_15 (xw_at xw_up_s rfl) rfl ?_
                  refine xj_iconst (x := 1) hk dX6_addFour_38 (by decide) ?_
                  refine xj_iadd hk dX6_addFour_39 ?_
                  refine xj.eqi (x' := nI (l + 1 + 1 + 1 + 1)) (nI_1 (l + 1 + 1 + 1)) ?_
                  refine xj_putfield (G2 := xw_up G 18 (pT v (xu (xu (xu (xu (tp_by t) l (((x.toUInt32 >>> (Int32.toUInt32 24 &&& Int32.toUInt32 31)).toInt32) &&& 255)) (l + 1) (((x.toUInt32 >>> (Int32.toUInt32 16 &&& Int32.toUInt32 31)).toInt32) &&& 255)) (l + 1 + 1) (((x.toUInt32 >>> (Int32.toUInt32 8 &&& Int32.toUInt32 31)).toInt32) &&& 255)) (l + 1 + 1 + 1) (((x.toUInt32 >>> (Int32.toUInt32 0 &&& Int32.toUInt32 31)).toInt32) &&& 255)) (nI (l + 1 + 1 + 1 + 1)))) hk dX6_addFour_40 fl_X6_15 rfl rfl (xw_at xw_up_s rfl) (Nat.le_of_ble_eq_true rfl) (xw_wr2 rfl) ?_
                  refine xj_iinc (i := 2) (x2 := (-8)) (ls2 := [some (.ref (xw_ad v 18 0)), some (.int x), some (.int ((-8)))]) hk dX6_addFour_43 rfl (by decide) (by decide) rfl rfl ?_
                  refine xj_goto (tgt := 3) hk dX6_addFour_46 (by decide) ?_
                  refine xj_iload_n (i := 2) hk dX6_addFour_3 rfl rfl ?_
                  refine xj_if_lt (tgt := 49) hk dX6_addFour_4 (by decide) (fun c4 => ?_) (fun c4 => ?_)
                  · refine xj_return hk hz dX6_addFour_49 ?_
                    exact ⟨rfl, rfl⟩
                  · exact absurd c4 (by decide)

set_option maxHeartbeats 1000000 in
set_option maxRecDepth 10000 in
theorem c_X7_feed {v : xw_V} {G : xw_G} {B : bk_T} {n r e a l : Nat} {K : Nat → bk_T} {t : tp_T} (hX : XB v G B n r e a K t l) (x1 x2 x3 x4 x5 : Int32) : xk_Con v yX7_feed cX7_feed 6 (some .int) 1 22 [.ref (xw_ad v 0 0), .int x1, .int x2, .int x3, .int x4, .int x5] G (fun r9 G' => (l + 20 ≤ 700 ∧ r9 = some (.int (nI (l + 20))) ∧ XB v G' B n r e a K (ad4 (ad4 (ad4 (ad4 (ad4 (tp_by t) l x1) (l + 4) x2) (l + 4 + 4) x3) (l + 4 + 4 + 4) x4) (l + 4 + 4 + 4 + 4) x5, nI (l + 20)) (l + 20) ∧ XF G G') ∨ (¬ l + 20 ≤ 700 ∧ r9 = some (.int (-1)) ∧ XB v G' B n r e a K t l ∧ XF G G')) := by
  refine xk_of (ls0 := [some (.ref (xw_ad v 0 0)), some (.int x1), some (.int x2), some (.int x3), some (.int x4), some (.int x5)]) (by decide) rfl (Nat.le_of_ble_eq_true rfl) ?_
  intro κ z hk hz
  obtain ⟨okb, he12, ha12, hK0, hl700, htl, S, A, Q, rd, sw, okS, okQ, g0, g1, g2, g3, g4, g5, gK, g18, g19, g20⟩ := hX
  obtain ⟨hn, hn30, how, hhs, hr, hr8⟩ := id okb
  refine xj_aload_n (i := 0) hk dX7_feed_0 rfl rfl ?_
  refine xj_getfield hk dX7_feed_1 fl_X7_41 (xw_at g0 rfl) rfl ?_
  refine xj_callV hk hz (fr1 := 0) (lo1 := 0) (r1 := some (.int (xb (decide (l + 20 ≤ 700))))) (As := []) (st := []) (st2 := [.int (xb (decide (l + 20 ≤ 700)))]) (G1 := G) ml_X7_61 (c_X6_hasRoomForFive (show G 18 = pc_T v t from g18) htl hl700) (xw_at g18 rfl) rfl dX7_feed_4 ⟨Nat.le_of_ble_eq_true rfl, Nat.le_of_ble_eq_true rfl⟩ rfl (Nat.le_of_ble_eq_true rfl) rfl rfl ?_
  refine xj_ifb_ne (tgt := 12) hk dX7_feed_7 (by decide) (fun c7 => ?_) (fun c7 => ?_)
  · have c7 : l + 20 ≤ 700 := by simpa using c7
    refine xj_aload_n (i := 0) hk dX7_feed_12 rfl rfl ?_
    refine xj_getfield hk dX7_feed_13 fl_X7_41 (xw_at g0 rfl) rfl ?_
    refine xj_iload_n (i := 1) hk dX7_feed_16 rfl rfl ?_
    refine xj_callV hk hz (fr1 := 0) (lo1 := 0) (r1 := none) (As := [.int x1]) (st := []) (st2 := []) (G1 := xw_up G 18 (pT v (ad4 (tp_by t) (l) x1) (nI (l + 1 + 1 + 1 + 1)))) ml_X7_65 (c_X6_addFour (l := l) (show G 18 = pc_T v t from g18) htl (by omega) x1) (xw_at g18 rfl) rfl dX7_feed_17 ⟨Nat.le_of_ble_eq_true rfl, Nat.le_of_ble_eq_true rfl⟩ rfl (Nat.le_of_ble_eq_true rfl) rfl rfl ?_
    refine xj_aload_n (i := 0) hk dX7_feed_20 rfl rfl ?_
    refine xj_getfield hk dX7_feed_21 fl_X7_41 (xw_at (show (xw_up G 18 (pT v (ad4 (tp_by t) (l) x1) (nI (l + 1 + 1 + 1 + 1)))) 0 = pc_X v from by rw [xw_up_n (by decide), g0]) rfl) rfl ?_
    refine xj_iload_n (i := 2) hk dX7_feed_24 rfl rfl ?_
    refine xj_callV hk hz (fr1 := 0) (lo1 := 0) (r1 := none) (As := [.int x2]) (st := []) (st2 := []) (G1 := xw_up G 18 (pT v (ad4 (ad4 (tp_by t) (l) x1) (l + 4) x2) (nI (l + 4 + 1 + 1 + 1 + 1)))) ml_X7_65 (xk_cg (by rw [xw_up_u] <;> rfl) (c_X6_addFour (l := l + 4) (show (xw_up G 18 (pT v (ad4 (tp_by t) (l) x1) (nI (l + 1 + 1 + 1 + 1)))) 18 = pc_T v (ad4 (tp_by t) (l) x1, nI (l + 1 + 1 + 1 + 1)) from xw_up_s) rfl (by omega) x2)) (xw_at xw_up_s rfl) rfl dX7_feed_25 ⟨Nat.le_of_ble_eq_true rfl, Nat.le_of_ble_eq_true rfl⟩ rfl (Nat.le_of_ble_eq_true rfl) rfl rfl ?_
    refine xj_aload_n (i := 0) hk dX7_feed_28 rfl rfl ?_
    refine xj_getfield hk dX7_feed_29 fl_X7_41 (xw_at (show (xw_up G 18 (pT v (ad4 (ad4 (tp_by t) (l) x1) (l + 4) x2) (nI (l + 4 + 1 + 1 + 1 + 1)))) 0 = pc_X v from by rw [xw_up_n (by decide), g0]) rfl) rfl ?_
    refine xj_iload_n (i := 3) hk dX7_feed_32 rfl rfl ?_
    refine xj_callV hk hz (fr1 := 0) (lo1 := 0) (r1 := none) (As := [.int x3]) (st := []) (st2 := []) (G1 := xw_up G 18 (pT v (ad4 (ad4 (ad4 (tp_by t) (l) x1) (l + 4) x2) (l + 4 + 4) x3) (nI (l + 4 + 4 + 1 + 1 + 1 + 1)))) ml_X7_65 (xk_cg (by rw [xw_up_u] <;> rfl) (c_X6_addFour (l := l + 4 + 4) (show (xw_up G 18 (pT v (ad4 (ad4 (tp_by t) (l) x1) (l + 4) x2) (nI (l + 4 + 1 + 1 + 1 + 1)))) 18 = pc_T v (ad4 (ad4 (tp_by t) (l) x1) (l + 4) x2, nI (l + 4 + 1 + 1 + 1 + 1)) from xw_up_s) rfl (by omega) x3)) (xw_at xw_up_s rfl) rfl dX7_feed_33 ⟨Nat.le_of_ble_eq_true rfl, Nat.le_of_ble_eq_true rfl⟩ rfl (Nat.le_of_ble_eq_true rfl) rfl rfl ?_
    refine xj_aload_n (i := 0) hk dX7_feed_36 rfl rfl ?_
    refine xj_getfield hk dX7_feed_37 fl_X7_41 (xw_at (show (xw_up G 18 (pT v (ad4 (ad4 (ad4 (tp_by t) (l) x1) (l + 4) x2) (l + 4 + 4) x3) (nI (l + 4 + 4 + 1 + 1 + 1 + 1)))) 0 = pc_X v from by rw [xw_up_n (by decide), g0]) rfl) rfl ?_
    refine xj_iload hk dX7_feed_40 rfl ?_
    refine xj_callV hk hz (fr1 := 0) (lo1 := 0) (r1 := none) (As := [.int x4]) (st := []) (st2 := []) (G1 := xw_up G 18 (pT v (ad4 (ad4 (ad4 (ad4 (tp_by t) (l) x1) (l + 4) x2) (l + 4 + 4) x3) (l + 4 + 4 + 4) x4) (nI (l + 4 + 4 + 4 + 1 + 1 + 1 + 1)))) ml_X7_65 (xk_cg (by rw [xw_up_u] <;> rfl) (c_X6_addFour (l := l + 4 + 4 + 4) (show (xw_up G 18 (pT v (ad4 (ad4 (ad4 (tp_by t) (l) x1) (l + 4) x2) (l + 4 + 4) x3) (nI (l + 4 + 4 + 1 + 1 + 1 + 1)))) 18 = pc_T v (ad4 (ad4 (ad4 (tp_by t) (l) x1) (l + 4) x2) (l + 4 + 4) x3, nI (l + 4 + 4 + 1 + 1 + 1 + 1)) from xw_up_s) rfl (by omega) x4)) (xw_at xw_up_s rfl) rfl dX7_feed_42 ⟨Nat.le_of_ble_eq_true rfl, Nat.le_of_ble_eq_true rfl⟩ rfl (Nat.le_of_ble_eq_true rfl) rfl rfl ?_
    refine xj_aload_n (i := 0) hk dX7_feed_45 rfl rfl ?_
    refine xj_getfield hk dX7_feed_46 fl_X7_41 (xw_at (show (xw_up G 18 (pT v (ad4 (ad4 (ad4 (ad4 (tp_by t) (l) x1) (l + 4) x2) (l + 4 + 4) x3) (l + 4 + 4 + 4) x4) (nI (l + 4 + 4 + 4 + 1 + 1 + 1 + 1)))) 0 = pc_X v from by rw [xw_up_n (by decide), g0]) rfl) rfl ?_
    refine xj_iload hk dX7_feed_49 rfl ?_
    refine xj_callV hk hz (fr1 := 0) (lo1 := 0) (r1 := none) (As := [.int x5]) (st := []) (st2 := []) (G1 := xw_up G 18 (pT v (ad4 (ad4 (ad4 (ad4 (ad4 (tp_by t) (l) x1) (l + 4) x2) (l + 4 + 4) x3) (l + 4 + 4 + 4) x4) (l + 4 + 4 + 4 + 4) x5) (nI (l + 4 + 4 + 4 + 4 + 1 + 1 + 1 + 1)))) ml_X7_65 (xk_cg (by rw [xw_up_u] <;> rfl) (c_X6_addFour (l := l + 4 + 4 + 4 + 4) (show (xw_up G 18 (pT v (ad4 (ad4 (ad4 (ad4 (tp_by t) (l) x1) (l + 4) x2) (l + 4 + 4) x3) (l + 4 + 4 + 4) x4) (nI (l + 4 + 4 + 4 + 1 + 1 + 1 + 1)))) 18 = pc_T v (ad4 (ad4 (ad4 (ad4 (tp_by t) (l) x1) (l + 4) x2) (l + 4 + 4) x3) (l + 4 + 4 + 4) x4, nI (l + 4 + 4 + 4 + 1 + 1 + 1 + 1)) from xw_up_s) rfl (by omega) x5)) (xw_at xw_up_s rfl) rfl dX7_feed_51 ⟨Nat.le_of_ble_eq_true rfl, Nat.le_of_ble_eq_true rfl⟩ rfl (Nat.le_of_ble_eq_true rfl) rfl rfl ?_
    refine xj_aload_n (i := 0) hk dX7_feed_54 rfl rfl ?_
    refine xj_getfield hk dX7_feed_55 fl_X7_41 (xw_at (show (xw_up G 18 (pT v (ad4 (ad4 (ad4 (ad4 (ad4 (tp_by t) (l) x1) (l + 4) x2) (l + 4 + 4) x3) (l + 4 + 4 + 4) x4) (l + 4 + 4 + 4 + 4) x5) (nI (l + 4 + 4 + 4 + 4 + 1 + 1 + 1 + 1)))) 0 = pc_X v from by rw [xw_up_n (by decide), g0]) rfl) rfl ?_
    refine xj_getfield hk dX7_feed_58 fl_X7_69 (xw_at xw_up_s rfl) rfl ?_
    refine xj_ireturn hk hz dX7_feed_61 ?_
    exact Or.inl ⟨by omega, rfl, ⟨okb, he12, ha12, hK0, (by omega), rfl, S, A, Q, rd, sw, okS, okQ, (show (xw_up G 18 (pT v (ad4 (ad4 (ad4 (ad4 (ad4 (tp_by t) (l) x1) (l + 4) x2) (l + 4 + 4) x3) (l + 4 + 4 + 4) x4) (l + 4 + 4 + 4 + 4) x5) (nI (l + 4 + 4 + 4 + 4 + 1 + 1 + 1 + 1)))) 0 = pc_X v from (show (xw_up G 18 (pT v (ad4 (ad4 (ad4 (ad4 (ad4 (tp_by t) (l) x1) (l + 4) x2) (l + 4 + 4) x3) (l + 4 + 4 + 4) x4) (l + 4 + 4 + 4 + 4) x5) (nI (l + 4 + 4 + 4 + 4 + 1 + 1 + 1 + 1)))) 0 = pc_X v from by rw [xw_up_n (by decide), g0])), (show (xw_up G 18 (pT v (ad4 (ad4 (ad4 (ad4 (ad4 (tp_by t) (l) x1) (l + 4) x2) (l + 4 + 4) x3) (l + 4 + 4 + 4) x4) (l + 4 + 4 + 4 + 4) x5) (nI (l + 4 + 4 + 4 + 4 + 1 + 1 + 1 + 1)))) 1 = pc_B v 1 B from (show (xw_up G 18 (pT v (ad4 (ad4 (ad4 (ad4 (ad4 (tp_by t) (l) x1) (l + 4) x2) (l + 4 + 4) x3) (l + 4 + 4 + 4) x4) (l + 4 + 4 + 4 + 4) x5) (nI (l + 4 + 4 + 4 + 4 + 1 + 1 + 1 + 1)))) 1 = pc_B v 1 B from by rw [xw_up_n (by decide), g1])), (show (xw_up G 18 (pT v (ad4 (ad4 (ad4 (ad4 (ad4 (tp_by t) (l) x1) (l + 4) x2) (l + 4 + 4) x3) (l + 4 + 4 + 4) x4) (l + 4 + 4 + 4 + 4) x5) (nI (l + 4 + 4 + 4 + 4 + 1 + 1 + 1 + 1)))) 2 = pc_S v 2 1 S from (show (xw_up G 18 (pT v (ad4 (ad4 (ad4 (ad4 (ad4 (tp_by t) (l) x1) (l + 4) x2) (l + 4 + 4) x3) (l + 4 + 4 + 4) x4) (l + 4 + 4 + 4 + 4) x5) (nI (l + 4 + 4 + 4 + 4 + 1 + 1 + 1 + 1)))) 2 = pc_S v 2 1 S from by rw [xw_up_n (by decide), g2])), (show (xw_up G 18 (pT v (ad4 (ad4 (ad4 (ad4 (ad4 (tp_by t) (l) x1) (l + 4) x2) (l + 4 + 4) x3) (l + 4 + 4 + 4) x4) (l + 4 + 4 + 4 + 4) x5) (nI (l + 4 + 4 + 4 + 4 + 1 + 1 + 1 + 1)))) 3 = pc_B v 3 A from (show (xw_up G 18 (pT v (ad4 (ad4 (ad4 (ad4 (ad4 (tp_by t) (l) x1) (l + 4) x2) (l + 4 + 4) x3) (l + 4 + 4 + 4) x4) (l + 4 + 4 + 4 + 4) x5) (nI (l + 4 + 4 + 4 + 4 + 1 + 1 + 1 + 1)))) 3 = pc_B v 3 A from by rw [xw_up_n (by decide), g3])), (show (xw_up G 18 (pT v (ad4 (ad4 (ad4 (ad4 (ad4 (tp_by t) (l) x1) (l + 4) x2) (l + 4 + 4) x3) (l + 4 + 4 + 4) x4) (l + 4 + 4 + 4 + 4) x5) (nI (l + 4 + 4 + 4 + 4 + 1 + 1 + 1 + 1)))) 4 = pc_S v 4 3 Q from (show (xw_up G 18 (pT v (ad4 (ad4 (ad4 (ad4 (ad4 (tp_by t) (l) x1) (l + 4) x2) (l + 4 + 4) x3) (l + 4 + 4 + 4) x4) (l + 4 + 4 + 4 + 4) x5) (nI (l + 4 + 4 + 4 + 4 + 1 + 1 + 1 + 1)))) 4 = pc_S v 4 3 Q from by rw [xw_up_n (by decide), g4])), (show (xw_up G 18 (pT v (ad4 (ad4 (ad4 (ad4 (ad4 (tp_by t) (l) x1) (l + 4) x2) (l + 4 + 4) x3) (l + 4 + 4 + 4) x4) (l + 4 + 4 + 4 + 4) x5) (nI (l + 4 + 4 + 4 + 4 + 1 + 1 + 1 + 1)))) 5 = pc_P v (nI e, nI a) from (show (xw_up G 18 (pT v (ad4 (ad4 (ad4 (ad4 (ad4 (tp_by t) (l) x1) (l + 4) x2) (l + 4 + 4) x3) (l + 4 + 4 + 4) x4) (l + 4 + 4 + 4 + 4) x5) (nI (l + 4 + 4 + 4 + 4 + 1 + 1 + 1 + 1)))) 5 = pP v (nI e) (nI a) from by rw [xw_up_n (by decide), g5])), (fun j9 h9 => by rw [xw_up_n (by omega)]; exact gK j9 h9), (show (xw_up G 18 (pT v (ad4 (ad4 (ad4 (ad4 (ad4 (tp_by t) (l) x1) (l + 4) x2) (l + 4 + 4) x3) (l + 4 + 4 + 4) x4) (l + 4 + 4 + 4 + 4) x5) (nI (l + 4 + 4 + 4 + 4 + 1 + 1 + 1 + 1)))) 18 = pc_T v (ad4 (ad4 (ad4 (ad4 (ad4 (tp_by t) (l) x1) (l + 4) x2) (l + 4 + 4) x3) (l + 4 + 4 + 4) x4) (l + 4 + 4 + 4 + 4) x5, nI (l + 4 + 4 + 4 + 4 + 1 + 1 + 1 + 1)) from xw_up_s), (show (xw_up G 18 (pT v (ad4 (ad4 (ad4 (ad4 (ad4 (tp_by t) (l) x1) (l + 4) x2) (l + 4 + 4) x3) (l + 4 + 4 + 4) x4) (l + 4 + 4 + 4 + 4) x5) (nI (l + 4 + 4 + 4 + 4 + 1 + 1 + 1 + 1)))) 19 = pc_R v rd from (show (xw_up G 18 (pT v (ad4 (ad4 (ad4 (ad4 (ad4 (tp_by t) (l) x1) (l + 4) x2) (l + 4 + 4) x3) (l + 4 + 4 + 4) x4) (l + 4 + 4 + 4 + 4) x5) (nI (l + 4 + 4 + 4 + 4 + 1 + 1 + 1 + 1)))) 19 = pc_R v rd from by rw [xw_up_n (by decide), g19])), (show (xw_up G 18 (pT v (ad4 (ad4 (ad4 (ad4 (ad4 (tp_by t) (l) x1) (l + 4) x2) (l + 4 + 4) x3) (l + 4 + 4 + 4) x4) (l + 4 + 4 + 4 + 4) x5) (nI (l + 4 + 4 + 4 + 4 + 1 + 1 + 1 + 1)))) 20 = pc_W  sw from (show (xw_up G 18 (pT v (ad4 (ad4 (ad4 (ad4 (ad4 (tp_by t) (l) x1) (l + 4) x2) (l + 4 + 4) x3) (l + 4 + 4 + 4) x4) (l + 4 + 4 + 4 + 4) x5) (nI (l + 4 + 4 + 4 + 4 + 1 + 1 + 1 + 1)))) 20 = pc_W  sw from by rw [xw_up_n (by decide), g20]))⟩, (fun g h9 => by rw [xw_up_n (by omega)])⟩
  · refine xj_iconst (x := (-1)) hk dX7_feed_10 (by decide) ?_
    refine xj_ireturn hk hz dX7_feed_11 ?_
    exact Or.inr ⟨by simpa using c7, rfl, ⟨okb, he12, ha12, hK0, hl700, htl, S, A, Q, rd, sw, okS, okQ, (show G 0 = pc_X v from g0), (show G 1 = pc_B v 1 B from g1), (show G 2 = pc_S v 2 1 S from g2), (show G 3 = pc_B v 3 A from g3), (show G 4 = pc_S v 4 3 Q from g4), (show G 5 = pc_P v (nI e, nI a) from g5), gK, (show G 18 = pc_T v t from g18), (show G 19 = pc_R v rd from g19), (show G 20 = pc_W  sw from g20)⟩, (fun _ _ => rfl)⟩

def canBack (l : Nat) (x : Int32) : Bool := !(decide (x < 0)) && decide (x ≤ nI l)
theorem bck_of {l : Nat} {x : Int32} (hl : l ≤ 700) (h1 : ¬ x < 0) (h2 : x ≤ nI l) : ∃ j, j ≤ l ∧ x = nI j := by
  obtain ⟨j, hj, rfl⟩ := nI_of h1
  exact ⟨j, (nI_leI hj (by omega)).mp h2, rfl⟩
theorem nI_sub {a b : Nat} (h : b ≤ a) : nI a - nI b = nI (a - b) := by
  have e : nI a = nI (a - b) + nI b := by rw [nI_add]; congr 1; omega
  rw [e]; exact Int32.add_sub_cancel ..
set_option maxHeartbeats 1000000 in
set_option maxRecDepth 10000 in
theorem c_X7_back {v : xw_V} {G : xw_G} {B : bk_T} {n r e a l : Nat} {K : Nat → bk_T} {t : tp_T} (hX : XB v G B n r e a K t l) (x : Int32) : xk_Con v yX7_back cX7_back 2 (some .int) 0 0 [.ref (xw_ad v 0 0), .int x] G (fun r9 G' => (canBack l x = true ∧ r9 = some (.int (nI (l - xn x))) ∧ XB v G' B n r e a K (tp_by t, nI (l - xn x)) (l - xn x) ∧ XF G G') ∨ (canBack l x = false ∧ r9 = some (.int (-1)) ∧ XB v G' B n r e a K t l ∧ XF G G')) := by
  refine xk_of (ls0 := [some (.ref (xw_ad v 0 0)), some (.int x)]) (by decide) rfl (Nat.le_of_ble_eq_true rfl) ?_
  intro κ z hk hz
  obtain ⟨okb, he12, ha12, hK0, hl700, htl, S, A, Q, rd, sw, okS, okQ, g0, g1, g2, g3, g4, g5, gK, g18, g19, g20⟩ := hX
  obtain ⟨hn, hn30, how, hhs, hr, hr8⟩ := id okb
  refine xj_iload_n (i := 1) hk dX7_back_0 rfl rfl ?_
  refine xj_if_lt (tgt := 15) hk dX7_back_1 (by decide) (fun c1 => ?_) (fun c1 => ?_)
  · refine xj_iconst (x := (-1)) hk dX7_back_15 (by decide) ?_
    refine xj_ireturn hk hz dX7_back_16 ?_
    exact Or.inr ⟨by simp [canBack, c1], rfl, ⟨okb, he12, ha12, hK0, hl700, htl, S, A, Q, rd, sw, okS, okQ, (show G 0 = pc_X v from g0), (show G 1 = pc_B v 1 B from g1), (show G 2 = pc_S v 2 1 S from g2), (show G 3 = pc_B v 3 A from g3), (show G 4 = pc_S v 4 3 Q from g4), (show G 5 = pc_P v (nI e, nI a) from g5), gK, (show G 18 = pc_T v t from g18), (show G 19 = pc_R v rd from g19), (show G 20 = pc_W  sw from g20)⟩, (fun _ _ => rfl)⟩
  · refine xj_iload_n (i := 1) hk dX7_back_4 rfl rfl ?_
    refine xj_aload_n (i := 0) hk dX7_back_5 rfl rfl ?_
    refine xj_getfield hk dX7_back_6 fl_X7_41 (xw_at g0 rfl) rfl ?_
    refine xj_getfield hk dX7_back_9 fl_X7_69 (xw_at g18 rfl) rfl ?_
    refine xj.eqi (x' := nI l) htl ?_
    refine xj_icmp_le (tgt := 17) hk dX7_back_12 (by decide) (fun c12 => ?_) (fun c12 => ?_)
    · obtain ⟨j, hj, rfl⟩ := bck_of hl700 c1 c12
      refine xj_aload_n (i := 0) hk dX7_back_17 rfl rfl ?_
      refine xj_getfield hk dX7_back_18 fl_X7_41 (xw_at g0 rfl) rfl ?_
      refine xj_dup hk dX7_back_21 rfl ?_
      refine xj_getfield hk dX7_back_22 fl_X7_69 (xw_at g18 rfl) rfl ?_
      refine xj.eqi (x' := nI l) htl ?_
      refine xj_iload_n (i := 1) hk dX7_back_25 rfl rfl ?_
      refine xj_isub hk dX7_back_26 ?_
      refine xj.eqi (x' := nI (l - j)) (nI_sub hj) ?_
      refine xj_putfield (G2 := xw_up G 18 (pT v (tp_by t) (nI (l - j)))) hk dX7_back_27 fl_X7_69 rfl rfl (xw_at g18 rfl) (Nat.le_of_ble_eq_true rfl) (xw_wr g18 rfl) ?_
      refine xj_aload_n (i := 0) hk dX7_back_30 rfl rfl ?_
      refine xj_getfield hk dX7_back_31 fl_X7_41 (xw_at (show (xw_up G 18 (pT v (tp_by t) (nI (l - j)))) 0 = pc_X v from by rw [xw_up_n (by decide), g0]) rfl) rfl ?_
      refine xj_getfield hk dX7_back_34 fl_X7_69 (xw_at xw_up_s rfl) rfl ?_
      refine xj_ireturn hk hz dX7_back_37 ?_
      refine Or.inl ⟨?_, ?_, ?_, (fun g h9 => by rw [xw_up_n (by omega)])⟩
      · simp [canBack, c1, c12]
      · rw [xn_nI (by omega)]
      · rw [xn_nI (by omega)]; exact ⟨okb, he12, ha12, hK0, (by omega), rfl, S, A, Q, rd, sw, okS, okQ, (show (xw_up G 18 (pT v (tp_by t) (nI (l - j)))) 0 = pc_X v from (show (xw_up G 18 (pT v (tp_by t) (nI (l - j)))) 0 = pc_X v from by rw [xw_up_n (by decide), g0])), (show (xw_up G 18 (pT v (tp_by t) (nI (l - j)))) 1 = pc_B v 1 B from (show (xw_up G 18 (pT v (tp_by t) (nI (l - j)))) 1 = pc_B v 1 B from by rw [xw_up_n (by decide), g1])), (show (xw_up G 18 (pT v (tp_by t) (nI (l - j)))) 2 = pc_S v 2 1 S from (show (xw_up G 18 (pT v (tp_by t) (nI (l - j)))) 2 = pc_S v 2 1 S from by rw [xw_up_n (by decide), g2])), (show (xw_up G 18 (pT v (tp_by t) (nI (l - j)))) 3 = pc_B v 3 A from (show (xw_up G 18 (pT v (tp_by t) (nI (l - j)))) 3 = pc_B v 3 A from by rw [xw_up_n (by decide), g3])), (show (xw_up G 18 (pT v (tp_by t) (nI (l - j)))) 4 = pc_S v 4 3 Q from (show (xw_up G 18 (pT v (tp_by t) (nI (l - j)))) 4 = pc_S v 4 3 Q from by rw [xw_up_n (by decide), g4])), (show (xw_up G 18 (pT v (tp_by t) (nI (l - j)))) 5 = pc_P v (nI e, nI a) from (show (xw_up G 18 (pT v (tp_by t) (nI (l - j)))) 5 = pP v (nI e) (nI a) from by rw [xw_up_n (by decide), g5])), (fun j9 h9 => by rw [xw_up_n (by omega)]; exact gK j9 h9), (show (xw_up G 18 (pT v (tp_by t) (nI (l - j)))) 18 = pc_T v (tp_by t, nI (l - j)) from xw_up_s), (show (xw_up G 18 (pT v (tp_by t) (nI (l - j)))) 19 = pc_R v rd from (show (xw_up G 18 (pT v (tp_by t) (nI (l - j)))) 19 = pc_R v rd from by rw [xw_up_n (by decide), g19])), (show (xw_up G 18 (pT v (tp_by t) (nI (l - j)))) 20 = pc_W  sw from (show (xw_up G 18 (pT v (tp_by t) (nI (l - j)))) 20 = pc_W  sw from by rw [xw_up_n (by decide), g20]))⟩
    · refine xj_iconst (x := (-1)) hk dX7_back_15 (by decide) ?_
      refine xj_ireturn hk hz dX7_back_16 ?_
      exact Or.inr ⟨by simp [canBack, c1, c12], rfl, ⟨okb, he12, ha12, hK0, hl700, htl, S, A, Q, rd, sw, okS, okQ, (show G 0 = pc_X v from g0), (show G 1 = pc_B v 1 B from g1), (show G 2 = pc_S v 2 1 S from g2), (show G 3 = pc_B v 3 A from g3), (show G 4 = pc_S v 4 3 Q from g4), (show G 5 = pc_P v (nI e, nI a) from g5), gK, (show G 18 = pc_T v t from g18), (show G 19 = pc_R v rd from g19), (show G 20 = pc_W  sw from g20)⟩, (fun _ _ => rfl)⟩


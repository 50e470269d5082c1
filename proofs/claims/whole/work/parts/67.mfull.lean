theorem sm_s {f : Nat → Int32} {k : Nat} : sm f (k + 1) = sm f k + f k := rfl
theorem sm_one {a : Nat} {y : Int32} : ∀ {m : Nat}, a < m → sm (fun h => if h = a then y else 0) m = y := by
  intro m
  induction m with
  | zero => intro h; omega
  | succ m ih =>
    intro h
    simp only [sm]
    by_cases c : m = a
    · subst c
      rw [sm_congr (g := fun _ => 0) (fun j hj => if_neg (by omega)), sm_z, if_pos rfl, Int32.zero_add]
    · rw [ih (by omega), if_neg c, Int32.add_zero]
theorem und_swap {ow hs so : Nat → Int32} {x : Int32} : ∀ {n : Nat}, okHs hs n → sm (fun h => if ow h = x then sm (sel hs (nI h) so) n else 0) 8 = sm (fun j => if ow (xn (hs j)) = x then so j else 0) n := by
  intro n
  induction n with
  | zero => intro _; rw [sm_congr (g := fun _ => 0) (fun j hj => by simp only [sm, ite_self])]; exact sm_z 8
  | succ n ih =>
    intro ok
    have h1 := ih (fun b hb => ok b (by omega))
    have h2 := ok n (by omega)
    rw [show sm (fun j => if ow (xn (hs j)) = x then so j else 0) (n + 1) = sm (fun j => if ow (xn (hs j)) = x then so j else 0) n + (if ow (xn (hs n)) = x then so n else 0) from rfl, ← h1]
    have e : sm (fun h => if h = xn (hs n) then (if ow (xn (hs n)) = x then so n else 0) else 0) 8 = (if ow (xn (hs n)) = x then so n else 0) := sm_one h2.2.2
    rw [← e, ← sm_add]
    refine sm_congr (fun h hh => ?_)
    simp only [sm, sel]
    by_cases c : h = xn (hs n)
    · subst c
      rw [if_pos (show hs n = nI (xn (hs n)) from xi_of h2), if_pos rfl]
      split
      · rfl
      · rw [Int32.add_zero]
    · rw [if_neg c, if_neg (show ¬ hs n = nI h from fun q => c (by rw [q, xn_nI (by omega)])), Int32.add_zero, Int32.add_zero]
theorem full_eq {B : bk_T} {n : Nat} {K : sl_T} (h : kF B n K) (okw : okOw (bk_ow B)) (okh : okHs (bk_hs B) n) {o : Nat} (ho : o < 8) : (if sUnd B K n (nI o) ≤ 0 then (0 : Int32) else if sUnd B K n (nI o) = rm8 (bk_te B) (bk_ho B) (bk_ow B) o then 1 else 0) = (if sUnd B K n (nI o) ≤ 0 then 0 else if sUnd B K n (nI o) < sl_ro K o then 0 else 1) := by
  obtain ⟨l, m, e1, e2, e3, e4⟩ := kF_own h o ho
  have e5 : sUnd B K n (nI o) = nI l := by
    rw [← e1]
    refine sm_congr (fun j hj => ?_)
    have hw := okw _ (okh j hj).2.2
    by_cases c : bk_ow B (xn (bk_hs B j)) = nI o
    · rw [if_pos c, if_pos (show own (bk_ow B) (bk_hs B) j = o by unfold own; rw [c, xn_nI (by omega)])]
    · rw [if_neg c, if_neg (show ¬ own (bk_ow B) (bk_hs B) j = o from fun q => c (by unfold own at q; rw [xi_of hw, q]))]
  rw [← kF_ro h o ho, e5, e2]
  by_cases c : nI l ≤ 0
  · rw [if_pos c, if_pos c]
  · rw [if_neg c, if_neg c]
    by_cases d : l = m
    · subst d; rw [if_pos rfl, if_neg (Int32.lt_irrefl)]
    · rw [if_neg (fun q => d ((nI_eq (by omega) e4).mp q)), if_pos ((nI_ltI (by omega) e4).mpr (by omega))]
set_option maxHeartbeats 1000000 in
set_option maxRecDepth 10000 in
theorem l_X8_full_19 {v : xw_V} {κ : xk_K} {post : Option Value → xw_G → Prop} {z : Nat × Nat × Nat} {G : xw_G} {M : md_T} {te ho ow hs ra lo st av so : Nat → Int32} {ln : Int32} {n : Nat} (hk : xk_Ok v κ yX8_full cX8_full 5 (some .int) 4 89) (hz : xk_zf κ = z) (hM : G 21 = pM v (md_th M) (nR te ho ow hs ra lo (nI n) st av so ln) (md_pt M) (md_re M) (md_sd M) (md_be M) (md_pb M) (md_ac M) (md_od M) (md_ad M) (md_wy M) (md_so M) (md_rl M) (md_io M) (md_po M) (md_sp M) (md_rs M) (md_st M) (md_av M) (md_ip M) (md_tx M) (md_tm M) (md_ta M) (md_td M) (md_wo M) (md_sq M) (md_tk M) (md_bg M) (md_nu M) (md_wr M)) (hn30 : n ≤ 30) (y : Int32) {o : Nat} (kx : xj v κ post z G 55 [some (.ref (xw_ad v 21 0)), some (.int y), some (.int (nI o)), some (.int (sm (fun h => if ow h = nI o then sm (sel hs (nI h) (md_so M)) n else 0) 8)), some (.int (nI 8))] []) : ∀ (m : Nat) (k : Nat), 8 - k < m → k ≤ 8 → xj v κ post z G 19 [some (.ref (xw_ad v 21 0)), some (.int y), some (.int (nI o)), some (.int (sm (fun h => if ow h = nI o then sm (sel hs (nI h) (md_so M)) n else 0) k)), some (.int (nI k))] [] := by
  intro m
  induction m with
  | zero => intro k h; exact absurd h (Nat.not_lt_zero _)
  | succ m ih =>
    intro k hm hi
    refine xj_iload hk dX8_full_19 rfl ?_
    refine xj_bipush (x := 8) hk dX8_full_21 (by decide) ?_
    refine xj_icmp_ge (tgt := 55) hk dX8_full_23 (by decide) (fun c23 => ?_) (fun c23 => ?_)
    · have c23 : 8 ≤ k := (nI_leI (a := 8) (b := k) (by omega) (by omega)).mp c23
      have e9 : k = 8 := by omega
      subst e9
      exact kx
    · have c23 : ¬ 8 ≤ k := fun q => c23 ((nI_leI (a := 8) (b := k) (by omega) (by omega)).mpr q)
      refine xj_aload_n (i := 0) hk dX8_full_26 rfl rfl ?_
      refine xj_getfield hk dX8_full_27 fl_X8_13 (xw_at hM rfl) rfl ?_
      refine xj_bipush (x := 15) hk dX8_full_30 (by decide) ?_
      refine xj_iload hk dX8_full_32 rfl ?_
      refine xj_iadd hk dX8_full_34 ?_
      refine xj.eqi (x' := nI (15 + k)) (nI_add 15 k) ?_
      refine xj_iaload (k := 15 + k) hk dX8_full_35 (xw_at hM rfl) (xi_n (by omega) (by decide)) ?_
      refine xj.eqi (x' := ow k) (rR_ow (k := k) (by omega)) ?_
      refine xj_iload_n (i := 2) hk dX8_full_36 rfl rfl ?_
      refine xj_icmp_ne (tgt := 49) hk dX8_full_37 (by decide) (fun c37 => ?_) (fun c37 => ?_)
      · refine xj_iinc (i := 4) (x2 := nI (k + 1)) (ls2 := [some (.ref (xw_ad v 21 0)), some (.int y), some (.int (nI o)), some (.int (sm (fun h => if ow h = nI o then sm (sel hs (nI h) (md_so M)) n else 0) k)), some (.int (nI (k + 1)))]) hk dX8_full_49 rfl (nI_1 k) (by decide) rfl rfl ?_
        refine xj_goto (tgt := 19) hk dX8_full_52 (by decide) ?_
        refine xj.to (ls' := [some (.ref (xw_ad v 21 0)), some (.int y), some (.int (nI o)), some (.int (sm (fun h => if ow h = nI o then sm (sel hs (nI h) (md_so M)) n else 0) ((k + 1)))), some (.int (nI ((k + 1))))]) (by simp [sm, *]) (ih (k + 1) (by omega) (by omega))
      · refine xj_iload_n (i := 3) hk dX8_full_40 rfl rfl ?_
        refine xj_aload_n (i := 0) hk dX8_full_41 rfl rfl ?_
        refine xj_iload hk dX8_full_42 rfl ?_
        refine xj_callV hk hz (fr1 := 1) (lo1 := 21) (r1 := some (.int (sm (sel hs (nI k) (md_so M)) n))) (As := [.int (nI k)]) (st := [.int (sm (fun h => if ow h = nI o then sm (sel hs (nI h) (md_so M)) n else 0) k)]) (st2 := [.int (sm (sel hs (nI k) (md_so M)) n), .int (sm (fun h => if ow h = nI o then sm (sel hs (nI h) (md_so M)) n else 0) k)]) (G1 := G) ml_X8_184 (c_X8_soldOf (n := n) (M := M) (show G 21 = pM v (md_th M) (nR te ho ow hs ra lo (nI n) st av so ln) (md_pt M) (md_re M) (md_sd M) (md_be M) (md_pb M) (md_ac M) (md_od M) (md_ad M) (md_wy M) (md_so M) (md_rl M) (md_io M) (md_po M) (md_sp M) (md_rs M) (md_st M) (md_av M) (md_ip M) (md_tx M) (md_tm M) (md_ta M) (md_td M) (md_wo M) (md_sq M) (md_tk M) (md_bg M) (md_nu M) (md_wr M) from hM) hn30 (nI k)) (xw_at hM rfl) rfl dX8_full_44 ⟨Nat.le_of_ble_eq_true rfl, Nat.le_of_ble_eq_true rfl⟩ rfl (Nat.le_of_ble_eq_true rfl) rfl rfl ?_
        refine xj_iadd hk dX8_full_47 ?_
        refine xj_istore_n (i := 3) (ls2 := [some (.ref (xw_ad v 21 0)), some (.int y), some (.int (nI o)), some (.int ((sm (fun h => if ow h = nI o then sm (sel hs (nI h) (md_so M)) n else 0) k) + (sm (sel hs (nI k) (md_so M)) n))), some (.int (nI k))]) hk dX8_full_48 rfl (by decide) rfl rfl ?_
        refine xj_iinc (i := 4) (x2 := nI (k + 1)) (ls2 := [some (.ref (xw_ad v 21 0)), some (.int y), some (.int (nI o)), some (.int ((sm (fun h => if ow h = nI o then sm (sel hs (nI h) (md_so M)) n else 0) k) + (sm (sel hs (nI k) (md_so M)) n))), some (.int (nI (k + 1)))]) hk dX8_full_49 rfl (nI_1 k) (by decide) rfl rfl ?_
        refine xj_goto (tgt := 19) hk dX8_full_52 (by decide) ?_
        refine xj.to (ls' := [some (.ref (xw_ad v 21 0)), some (.int y), some (.int (nI o)), some (.int (sm (fun h => if ow h = nI o then sm (sel hs (nI h) (md_so M)) n else 0) ((k + 1)))), some (.int (nI ((k + 1))))]) (by simp [sm, *]) (ih (k + 1) (by omega) (by omega))

set_option maxHeartbeats 1000000 in
set_option maxRecDepth 10000 in
theorem l_X8_full_8 {v : xw_V} {κ : xk_K} {post : Option Value → xw_G → Prop} {z : Nat × Nat × Nat} {G : xw_G} {M : md_T} {te ho ow hs ra lo st av so : Nat → Int32} {ln : Int32} {n : Nat} (hk : xk_Ok v κ yX8_full cX8_full 5 (some .int) 4 89) (hz : xk_zf κ = z) (hM : G 21 = pM v (md_th M) (nR te ho ow hs ra lo (nI n) st av so ln) (md_pt M) (md_re M) (md_sd M) (md_be M) (md_pb M) (md_ac M) (md_od M) (md_ad M) (md_wy M) (md_so M) (md_rl M) (md_io M) (md_po M) (md_sp M) (md_rs M) (md_st M) (md_av M) (md_ip M) (md_tx M) (md_tm M) (md_ta M) (md_td M) (md_wo M) (md_sq M) (md_tk M) (md_bg M) (md_nu M) (md_wr M)) (hn30 : n ≤ 30) (how : okOw ow) (kx : xj v κ post z G 77 [some (.ref (xw_ad v 21 0)), some (.int (sm (fun o => if sm (fun h => if ow h = nI o then sm (sel hs (nI h) (md_so M)) n else 0) 8 ≤ 0 then (0 : Int32) else if sm (fun h => if ow h = nI o then sm (sel hs (nI h) (md_so M)) n else 0) 8 = rm8 te ho ow o then 1 else 0) 8)), some (.int (nI 8)), none, none] []) : ∀ (m : Nat) (k : Nat), 8 - k < m → k ≤ 8 → xj v κ post z G 8 [some (.ref (xw_ad v 21 0)), some (.int (sm (fun o => if sm (fun h => if ow h = nI o then sm (sel hs (nI h) (md_so M)) n else 0) 8 ≤ 0 then (0 : Int32) else if sm (fun h => if ow h = nI o then sm (sel hs (nI h) (md_so M)) n else 0) 8 = rm8 te ho ow o then 1 else 0) k)), some (.int (nI k)), none, none] [] := by
  intro m
  induction m with
  | zero => intro k h; exact absurd h (Nat.not_lt_zero _)
  | succ m ih =>
    intro k hm hi
    refine xj_iload_n (i := 2) hk dX8_full_8 rfl rfl ?_
    refine xj_bipush (x := 8) hk dX8_full_9 (by decide) ?_
    refine xj_icmp_ge (tgt := 77) hk dX8_full_11 (by decide) (fun c11 => ?_) (fun c11 => ?_)
    · have c11 : 8 ≤ k := (nI_leI (a := 8) (b := k) (by omega) (by omega)).mp c11
      have e9 : k = 8 := by omega
      subst e9
      exact kx
    · have c11 : ¬ 8 ≤ k := fun q => c11 ((nI_leI (a := 8) (b := k) (by omega) (by omega)).mpr q)
      refine xj_iconst (x := 0) hk dX8_full_14 (by decide) ?_
      refine xj_istore_n (i := 3) (ls2 := [some (.ref (xw_ad v 21 0)), some (.int (sm (fun o => if sm (fun h => if ow h = nI o then sm (sel hs (nI h) (md_so M)) n else 0) 8 ≤ 0 then (0 : Int32) else if sm (fun h => if ow h = nI o then sm (sel hs (nI h) (md_so M)) n else 0) 8 = rm8 te ho ow o then 1 else 0) k)), some (.int (nI k)), some (.int 0), none]) hk dX8_full_15 rfl (by decide) rfl rfl ?_
      refine xj_iconst (x := 0) hk dX8_full_16 (by decide) ?_
      refine xj_istore (i := 4) (ls2 := [some (.ref (xw_ad v 21 0)), some (.int (sm (fun o => if sm (fun h => if ow h = nI o then sm (sel hs (nI h) (md_so M)) n else 0) 8 ≤ 0 then (0 : Int32) else if sm (fun h => if ow h = nI o then sm (sel hs (nI h) (md_so M)) n else 0) 8 = rm8 te ho ow o then 1 else 0) k)), some (.int (nI k)), some (.int 0), some (.int 0)]) hk dX8_full_17 (by decide) rfl rfl ?_
      refine xj.to (ls' := [some (.ref (xw_ad v 21 0)), some (.int (sm (fun o => if sm (fun h => if ow h = nI o then sm (sel hs (nI h) (md_so M)) n else 0) 8 ≤ 0 then (0 : Int32) else if sm (fun h => if ow h = nI o then sm (sel hs (nI h) (md_so M)) n else 0) 8 = rm8 te ho ow o then 1 else 0) k)), some (.int (nI k)), some (.int (sm (fun h => if ow h = nI k then sm (sel hs (nI h) (md_so M)) n else 0) 0)), some (.int (nI 0))]) (by first | rfl | simp [sm]) ?_
      refine l_X8_full_19 hk hz hM hn30 _ ?_ (8 + 1) 0 (by omega) (by omega)
      refine xj_iload_n (i := 3) hk dX8_full_55 rfl rfl ?_
      refine xj_if_le (tgt := 71) hk dX8_full_56 (by decide) (fun c56 => ?_) (fun c56 => ?_)
      · refine xj_iinc (i := 2) (x2 := nI (k + 1)) (ls2 := [some (.ref (xw_ad v 21 0)), some (.int (sm (fun o => if sm (fun h => if ow h = nI o then sm (sel hs (nI h) (md_so M)) n else 0) 8 ≤ 0 then (0 : Int32) else if sm (fun h => if ow h = nI o then sm (sel hs (nI h) (md_so M)) n else 0) 8 = rm8 te ho ow o then 1 else 0) k)), some (.int (nI (k + 1))), some (.int (sm (fun h => if ow h = nI k then sm (sel hs (nI h) (md_so M)) n else 0) 8)), some (.int (nI 8))]) hk dX8_full_71 rfl (nI_1 k) (by decide) rfl rfl ?_
        refine xj_goto (tgt := 8) hk dX8_full_74 (by decide) ?_
        refine xj.le (ls' := [some (.ref (xw_ad v 21 0)), some (.int (sm (fun o => if sm (fun h => if ow h = nI o then sm (sel hs (nI h) (md_so M)) n else 0) 8 ≤ 0 then (0 : Int32) else if sm (fun h => if ow h = nI o then sm (sel hs (nI h) (md_so M)) n else 0) 8 = rm8 te ho ow o then 1 else 0) k)), some (.int (nI (k + 1))), none, none]) (by simp [xl_le] <;> rfl) ?_
        refine xj.to (ls' := [some (.ref (xw_ad v 21 0)), some (.int (sm (fun o => if sm (fun h => if ow h = nI o then sm (sel hs (nI h) (md_so M)) n else 0) 8 ≤ 0 then (0 : Int32) else if sm (fun h => if ow h = nI o then sm (sel hs (nI h) (md_so M)) n else 0) 8 = rm8 te ho ow o then 1 else 0) (k + 1))), some (.int (nI (k + 1))), none, none]) (by rw [sm_s (k := k)]; first | (rw [if_pos c56, Int32.add_zero]) | (rw [if_neg c56, if_pos c65]) | (rw [if_neg c56, if_neg c65, Int32.add_zero])) (ih (k + 1) (by omega) (by omega))
      · refine xj_iload_n (i := 3) hk dX8_full_59 rfl rfl ?_
        refine xj_aload_n (i := 0) hk dX8_full_60 rfl rfl ?_
        refine xj_iload_n (i := 2) hk dX8_full_61 rfl rfl ?_
        refine xj_callV hk hz (fr1 := 0) (lo1 := 0) (r1 := some (.int (rm8 te ho ow k))) (As := [.int (nI k)]) (st := [.int (sm (fun h => if ow h = nI k then sm (sel hs (nI h) (md_so M)) n else 0) 8)]) (st2 := [.int (rm8 te ho ow k), .int (sm (fun h => if ow h = nI k then sm (sel hs (nI h) (md_so M)) n else 0) 8)]) (G1 := G) ml_X8_132 (c_X8_roomOf (o := k) (M := M) (show G 21 = pM v (md_th M) (nR te ho ow hs ra lo (nI n) st av so ln) (md_pt M) (md_re M) (md_sd M) (md_be M) (md_pb M) (md_ac M) (md_od M) (md_ad M) (md_wy M) (md_so M) (md_rl M) (md_io M) (md_po M) (md_sp M) (md_rs M) (md_st M) (md_av M) (md_ip M) (md_tx M) (md_tm M) (md_ta M) (md_td M) (md_wo M) (md_sq M) (md_tk M) (md_bg M) (md_nu M) (md_wr M) from hM) how (by omega)) (xw_at hM rfl) rfl dX8_full_62 ⟨Nat.le_of_ble_eq_true rfl, Nat.le_of_ble_eq_true rfl⟩ rfl (Nat.le_of_ble_eq_true rfl) rfl rfl ?_
        refine xj_icmp_ne (tgt := 71) hk dX8_full_65 (by decide) (fun c65 => ?_) (fun c65 => ?_)
        · refine xj_iinc (i := 2) (x2 := nI (k + 1)) (ls2 := [some (.ref (xw_ad v 21 0)), some (.int (sm (fun o => if sm (fun h => if ow h = nI o then sm (sel hs (nI h) (md_so M)) n else 0) 8 ≤ 0 then (0 : Int32) else if sm (fun h => if ow h = nI o then sm (sel hs (nI h) (md_so M)) n else 0) 8 = rm8 te ho ow o then 1 else 0) k)), some (.int (nI (k + 1))), some (.int (sm (fun h => if ow h = nI k then sm (sel hs (nI h) (md_so M)) n else 0) 8)), some (.int (nI 8))]) hk dX8_full_71 rfl (nI_1 k) (by decide) rfl rfl ?_
          refine xj_goto (tgt := 8) hk dX8_full_74 (by decide) ?_
          refine xj.le (ls' := [some (.ref (xw_ad v 21 0)), some (.int (sm (fun o => if sm (fun h => if ow h = nI o then sm (sel hs (nI h) (md_so M)) n else 0) 8 ≤ 0 then (0 : Int32) else if sm (fun h => if ow h = nI o then sm (sel hs (nI h) (md_so M)) n else 0) 8 = rm8 te ho ow o then 1 else 0) k)), some (.int (nI (k + 1))), none, none]) (by simp [xl_le] <;> rfl) ?_
          refine xj.to (ls' := [some (.ref (xw_ad v 21 0)), some (.int (sm (fun o => if sm (fun h => if ow h = nI o then sm (sel hs (nI h) (md_so M)) n else 0) 8 ≤ 0 then (0 : Int32) else if sm (fun h => if ow h = nI o then sm (sel hs (nI h) (md_so M)) n else 0) 8 = rm8 te ho ow o then 1 else 0) (k + 1))), some (.int (nI (k + 1))), none, none]) (by rw [sm_s (k := k)]; first | (rw [if_pos c56, Int32.add_zero]) | (rw [if_neg c56, if_pos c65]) | (rw [if_neg c56, if_neg c65, Int32.add_zero])) (ih (k + 1) (by omega) (by omega))
        · refine xj_iinc (i := 1) (x2 := (sm (fun o => if sm (fun h => if ow h = nI o then sm (sel hs (nI h) (md_so M)) n else 0) 8 ≤ 0 then (0 : Int32) else if sm (fun h => if ow h = nI o then sm (sel hs (nI h) (md_so M)) n else 0) 8 = rm8 te ho ow o then 1 else 0) k) + 1) (ls2 := [some (.ref (xw_ad v 21 0)), some (.int ((sm (fun o => if sm (fun h => if ow h = nI o then sm (sel hs (nI h) (md_so M)) n else 0) 8 ≤ 0 then (0 : Int32) else if sm (fun h => if ow h = nI o then sm (sel hs (nI h) (md_so M)) n else 0) 8 = rm8 te ho ow o then 1 else 0) k) + 1)), some (.int (nI k)), some (.int (sm (fun h => if ow h = nI k then sm (sel hs (nI h) (md_so M)) n else 0) 8)), some (.int (nI 8))]) hk dX8_full_68 rfl rfl (by decide) rfl rfl ?_
          refine xj_iinc (i := 2) (x2 := nI (k + 1)) (ls2 := [some (.ref (xw_ad v 21 0)), some (.int ((sm (fun o => if sm (fun h => if ow h = nI o then sm (sel hs (nI h) (md_so M)) n else 0) 8 ≤ 0 then (0 : Int32) else if sm (fun h => if ow h = nI o then sm (sel hs (nI h) (md_so M)) n else 0) 8 = rm8 te ho ow o then 1 else 0) k) + 1)), some (.int (nI (k + 1))), some (.int (sm (fun h => if ow h = nI k then sm (sel hs (nI h) (md_so M)) n else 0) 8)), some (.int (nI 8))]) hk dX8_full_71 rfl (nI_1 k) (by decide) rfl rfl ?_
          refine xj_goto (tgt := 8) hk dX8_full_74 (by decide) ?_
          refine xj.le (ls' := [some (.ref (xw_ad v 21 0)), some (.int ((sm (fun o => if sm (fun h => if ow h = nI o then sm (sel hs (nI h) (md_so M)) n else 0) 8 ≤ 0 then (0 : Int32) else if sm (fun h => if ow h = nI o then sm (sel hs (nI h) (md_so M)) n else 0) 8 = rm8 te ho ow o then 1 else 0) k) + 1)), some (.int (nI (k + 1))), none, none]) (by simp [xl_le] <;> rfl) ?_
          refine xj.to (ls' := [some (.ref (xw_ad v 21 0)), some (.int (sm (fun o => if sm (fun h => if ow h = nI o then sm (sel hs (nI h) (md_so M)) n else 0) 8 ≤ 0 then (0 : Int32) else if sm (fun h => if ow h = nI o then sm (sel hs (nI h) (md_so M)) n else 0) 8 = rm8 te ho ow o then 1 else 0) (k + 1))), some (.int (nI (k + 1))), none, none]) (by rw [sm_s (k := k)]; first | (rw [if_pos c56, Int32.add_zero]) | (rw [if_neg c56, if_pos c65]) | (rw [if_neg c56, if_neg c65, Int32.add_zero])) (ih (k + 1) (by omega) (by omega))

set_option maxHeartbeats 1000000 in
set_option maxRecDepth 10000 in
theorem c_X8_full {v : xw_V} {G : xw_G} {M : md_T} {te ho ow hs ra lo st av so : Nat → Int32} {ln : Int32} {n : Nat} (hM : G 21 = pM v (md_th M) (nR te ho ow hs ra lo (nI n) st av so ln) (md_pt M) (md_re M) (md_sd M) (md_be M) (md_pb M) (md_ac M) (md_od M) (md_ad M) (md_wy M) (md_so M) (md_rl M) (md_io M) (md_po M) (md_sp M) (md_rs M) (md_st M) (md_av M) (md_ip M) (md_tx M) (md_tm M) (md_ta M) (md_td M) (md_wo M) (md_sq M) (md_tk M) (md_bg M) (md_nu M) (md_wr M)) (hq : MV te ow hs ra lo n) : xk_Con v yX8_full cX8_full 5 (some .int) 4 89 [.ref (xw_ad v 21 0)] G (fun r9 G' => r9 = some (.int (q_full (mB te ho ow hs ra lo n) (kM te ho ow hs ra lo n) n)) ∧ mQ v G G' (nR te ho ow hs ra lo (nI n) st av so ln) M) := by
  refine xk_of (ls0 := [some (.ref (xw_ad v 21 0)), none, none, none, none]) (by decide) rfl (Nat.le_of_ble_eq_true rfl) ?_
  intro κ z hk hz
  have hn30 : n ≤ 30 := hq.1
  refine xj_aload_n (i := 0) hk dX8_full_0 rfl rfl ?_
  refine xj_callVE hk hz (fr1 := 3) (lo1 := 65) (As := []) (st := []) ml_X8_174 (c_sellsK (n := n) (M := M) (show G 21 = pM v (md_th M) (nR te ho ow hs ra lo (nI n) st av so ln) (md_pt M) (md_re M) (md_sd M) (md_be M) (md_pb M) (md_ac M) (md_od M) (md_ad M) (md_wy M) (md_so M) (md_rl M) (md_io M) (md_po M) (md_sp M) (md_rs M) (md_st M) (md_av M) (md_ip M) (md_tx M) (md_tm M) (md_ta M) (md_td M) (md_wo M) (md_sq M) (md_tk M) (md_bg M) (md_nu M) (md_wr M) from hM) hq) (xw_at hM rfl) rfl dX8_full_1 ⟨Nat.le_of_ble_eq_true rfl, Nat.le_of_ble_eq_true rfl⟩ rfl (Nat.le_of_ble_eq_true rfl) rfl ?_
  rintro _ _ ⟨rfl, od, ad, wy, rl, so3, io3, hag, rfl⟩
  have hag : agS n (sl_w (kM te ho ow hs ra lo n) od ad wy so3) (kM te ho ow hs ra lo n) := hag
  show xj v κ _ z (xw_up G 21 (pM v (md_th M) (nR te ho ow hs ra lo (nI n) st av so ln) (md_pt M) (md_re M) (md_sd M) (md_be M) (md_pb M) (md_ac M) od ad wy so3 rl io3 (sl_po (kM te ho ow hs ra lo n)) (sl_sp (kM te ho ow hs ra lo n)) (sl_rs (kM te ho ow hs ra lo n)) (sl_st (kM te ho ow hs ra lo n)) (sl_av (kM te ho ow hs ra lo n)) (sl_pt (kM te ho ow hs ra lo n)) (md_tx M) (md_tm M) (md_ta M) (md_td M) (md_wo M) (md_sq M) (md_tk M) (md_bg M) (md_nu M) (md_wr M))) 4 _ []
  refine xj_iconst (x := 0) hk dX8_full_4 (by decide) ?_
  refine xj_istore_n (i := 1) (ls2 := [some (.ref (xw_ad v 21 0)), some (.int 0), none, none, none]) hk dX8_full_5 rfl (by decide) rfl rfl ?_
  refine xj_iconst (x := 0) hk dX8_full_6 (by decide) ?_
  refine xj_istore_n (i := 2) (ls2 := [some (.ref (xw_ad v 21 0)), some (.int 0), some (.int 0), none, none]) hk dX8_full_7 rfl (by decide) rfl rfl ?_
  refine xj.to (ls' := [some (.ref (xw_ad v 21 0)), some (.int (sm (fun o => if sm (fun h => if ow h = nI o then sm (sel hs (nI h) so3) n else 0) 8 ≤ 0 then (0 : Int32) else if sm (fun h => if ow h = nI o then sm (sel hs (nI h) so3) n else 0) 8 = rm8 te ho ow o then 1 else 0) 0)), some (.int (nI 0)), none, none]) (by first | rfl | simp [sm]) ?_
  refine l_X8_full_8 (M := (md_th M, nR te ho ow hs ra lo (nI n) st av so ln, md_pt M, md_re M, md_sd M, md_be M, md_pb M, md_ac M, od, ad, wy, so3, rl, io3, sl_po (kM te ho ow hs ra lo n), sl_sp (kM te ho ow hs ra lo n), sl_rs (kM te ho ow hs ra lo n), sl_st (kM te ho ow hs ra lo n), sl_av (kM te ho ow hs ra lo n), sl_pt (kM te ho ow hs ra lo n), md_tx M, md_tm M, md_ta M, md_td M, md_wo M, md_sq M, md_tk M, md_bg M, md_nu M, md_wr M)) hk hz (show (xw_up G 21 (pM v (md_th M) (nR te ho ow hs ra lo (nI n) st av so ln) (md_pt M) (md_re M) (md_sd M) (md_be M) (md_pb M) (md_ac M) od ad wy so3 rl io3 (sl_po (kM te ho ow hs ra lo n)) (sl_sp (kM te ho ow hs ra lo n)) (sl_rs (kM te ho ow hs ra lo n)) (sl_st (kM te ho ow hs ra lo n)) (sl_av (kM te ho ow hs ra lo n)) (sl_pt (kM te ho ow hs ra lo n)) (md_tx M) (md_tm M) (md_ta M) (md_td M) (md_wo M) (md_sq M) (md_tk M) (md_bg M) (md_nu M) (md_wr M))) 21 = pM v (md_th M) (nR te ho ow hs ra lo (nI n) st av so ln) (md_pt M) (md_re M) (md_sd M) (md_be M) (md_pb M) (md_ac M) od ad wy so3 rl io3 (sl_po (kM te ho ow hs ra lo n)) (sl_sp (kM te ho ow hs ra lo n)) (sl_rs (kM te ho ow hs ra lo n)) (sl_st (kM te ho ow hs ra lo n)) (sl_av (kM te ho ow hs ra lo n)) (sl_pt (kM te ho ow hs ra lo n)) (md_tx M) (md_tm M) (md_ta M) (md_td M) (md_wo M) (md_sq M) (md_tk M) (md_bg M) (md_nu M) (md_wr M) from xw_up_s) hn30 hq.2.1 ?_ (8 + 1) 0 (by omega) (by omega)
  refine xj.to (ls' := [some (.ref (xw_ad v 21 0)), some (.int (sm (fun o => if sm (fun h => if ow h = nI o then sm (sel hs (nI h) so3) n else 0) 8 ≤ 0 then (0 : Int32) else if sm (fun h => if ow h = nI o then sm (sel hs (nI h) so3) n else 0) 8 = rm8 te ho ow o then 1 else 0) 8)), some (.int (nI 8)), none, none]) rfl ?_
  refine xj_iload_n (i := 1) hk dX8_full_77 rfl rfl ?_
  refine xj_ireturn hk hz dX8_full_78 ?_
  refine ⟨?_, ⟨⟨(md_th M, nR te ho ow hs ra lo (nI n) st av so ln, md_pt M, md_re M, md_sd M, md_be M, md_pb M, md_ac M, od, ad, wy, so3, rl, io3, sl_po (kM te ho ow hs ra lo n), sl_sp (kM te ho ow hs ra lo n), sl_rs (kM te ho ow hs ra lo n), sl_st (kM te ho ow hs ra lo n), sl_av (kM te ho ow hs ra lo n), sl_pt (kM te ho ow hs ra lo n), md_tx M, md_tm M, md_ta M, md_td M, md_wo M, md_sq M, md_tk M, md_bg M, md_nu M, md_wr M), xw_up_s, rfl, rfl, rfl, rfl, rfl, rfl, rfl⟩, fun g h => xw_up_n h⟩⟩
  · simp only [q_full]
    refine congrArg (fun q => some (Value.int q)) (sm_congr (fun o ho8 => ?_))
    rw [← full_eq (kMF (ho := ho) hq) hq.2.1 hq.2.2.1 ho8, show sm (fun h => if ow h = nI o then sm (sel hs (nI h) so3) n else 0) 8 = sUnd (mB te ho ow hs ra lo n) (kM te ho ow hs ra lo n) n (nI o) from (und_swap (so := so3) hq.2.2.1).trans (und_ag (B := (mB te ho ow hs ra lo n)) (x := nI o) hag)]
    rfl


set_option maxHeartbeats 1000000 in
set_option maxRecDepth 10000 in
theorem l_X8_admittedTo_4 {v : xw_V} {κ : xk_K} {post : Option Value → xw_G → Prop} {z : Nat × Nat × Nat} {G : xw_G} {M : md_T} {te ho ow hs ra lo st av so : Nat → Int32} {ln : Int32} {n : Nat} (hk : xk_Ok v κ yX8_admittedTo cX8_admittedTo 4 (some .int) 2 42) (hz : xk_zf κ = z) (hM : G 21 = pM v (md_th M) (nR te ho ow hs ra lo (nI n) st av so ln) (md_pt M) (md_re M) (md_sd M) (md_be M) (md_pb M) (md_ac M) (md_od M) (md_ad M) (md_wy M) (md_so M) (md_rl M) (md_io M) (md_po M) (md_sp M) (md_rs M) (md_st M) (md_av M) (md_ip M) (md_tx M) (md_tm M) (md_ta M) (md_td M) (md_wo M) (md_sq M) (md_tk M) (md_bg M) (md_nu M) (md_wr M)) (hn30 : n ≤ 30) (x : Int32) (kx : xj v κ post z G 44 [some (.ref (xw_ad v 21 0)), some (.int x), some (.int (sm (fun j => if ra j = -1 then 0 else if x < ra j then 0 else md_ad M j) n)), some (.int (nI n))] []) : ∀ (m : Nat) (k : Nat), n - k < m → k ≤ n → xj v κ post z G 4 [some (.ref (xw_ad v 21 0)), some (.int x), some (.int (sm (fun j => if ra j = -1 then 0 else if x < ra j then 0 else md_ad M j) k)), some (.int (nI k))] [] := by
  intro m
  induction m with
  | zero => intro k h; exact absurd h (Nat.not_lt_zero _)
  | succ m ih =>
    intro k hm hi
    refine xj_iload_n (i := 3) hk dX8_admittedTo_4 rfl rfl ?_
    refine xj_aload_n (i := 0) hk dX8_admittedTo_5 rfl rfl ?_
    refine xj_callV hk hz (fr1 := 0) (lo1 := 0) (r1 := some (.int (nI n))) (As := []) (st := [.int (nI k)]) (st2 := [.int (nI n), .int (nI k)]) (G1 := G) ml_X8_73 (c_X8_many (M := M) (show G 21 = pM v (md_th M) (nR te ho ow hs ra lo (nI n) st av so ln) (md_pt M) (md_re M) (md_sd M) (md_be M) (md_pb M) (md_ac M) (md_od M) (md_ad M) (md_wy M) (md_so M) (md_rl M) (md_io M) (md_po M) (md_sp M) (md_rs M) (md_st M) (md_av M) (md_ip M) (md_tx M) (md_tm M) (md_ta M) (md_td M) (md_wo M) (md_sq M) (md_tk M) (md_bg M) (md_nu M) (md_wr M) from hM)) (xw_at hM rfl) rfl dX8_admittedTo_6 ⟨Nat.le_of_ble_eq_true rfl, Nat.le_of_ble_eq_true rfl⟩ rfl (Nat.le_of_ble_eq_true rfl) rfl rfl ?_
    refine xj_icmp_ge (tgt := 44) hk dX8_admittedTo_9 (by decide) (fun c9 => ?_) (fun c9 => ?_)
    · have c9 : n ≤ k := (nI_leI (a := n) (b := k) (by omega) (by omega)).mp c9
      have e9 : k = n := by omega
      subst e9
      exact kx
    · have c9 : ¬ n ≤ k := fun q => c9 ((nI_leI (a := n) (b := k) (by omega) (by omega)).mpr q)
      refine xj_aload_n (i := 0) hk dX8_admittedTo_12 rfl rfl ?_
      refine xj_iload_n (i := 3) hk dX8_admittedTo_13 rfl rfl ?_
      refine xj_callV hk hz (fr1 := 1) (lo1 := 21) (r1 := some (.int (xb (decide (ra k = -1))))) (As := [.int (nI k)]) (st := []) (st2 := [.int (xb (decide (ra k = -1)))]) (G1 := G) ml_X8_115 (c_X8_isPlain (b := k) (M := M) (show G 21 = pM v (md_th M) (nR te ho ow hs ra lo (nI n) st av so ln) (md_pt M) (md_re M) (md_sd M) (md_be M) (md_pb M) (md_ac M) (md_od M) (md_ad M) (md_wy M) (md_so M) (md_rl M) (md_io M) (md_po M) (md_sp M) (md_rs M) (md_st M) (md_av M) (md_ip M) (md_tx M) (md_tm M) (md_ta M) (md_td M) (md_wo M) (md_sq M) (md_tk M) (md_bg M) (md_nu M) (md_wr M) from hM) (by omega)) (xw_at hM rfl) rfl dX8_admittedTo_14 ⟨Nat.le_of_ble_eq_true rfl, Nat.le_of_ble_eq_true rfl⟩ rfl (Nat.le_of_ble_eq_true rfl) rfl rfl ?_
      refine xj_ifb_ne (tgt := 38) hk dX8_admittedTo_17 (by decide) (fun c17 => ?_) (fun c17 => ?_)
      · refine xj_iinc (i := 3) (x2 := nI (k + 1)) (ls2 := [some (.ref (xw_ad v 21 0)), some (.int x), some (.int (sm (fun j => if ra j = -1 then 0 else if x < ra j then 0 else md_ad M j) k)), some (.int (nI (k + 1)))]) hk dX8_admittedTo_38 rfl (nI_1 k) (by decide) rfl rfl ?_
        refine xj_goto (tgt := 4) hk dX8_admittedTo_41 (by decide) ?_
        refine xj.to (ls' := [some (.ref (xw_ad v 21 0)), some (.int x), some (.int (sm (fun j => if ra j = -1 then 0 else if x < ra j then 0 else md_ad M j) ((k + 1)))), some (.int (nI ((k + 1))))]) (by (try simp only [decide_eq_true_eq, decide_eq_false_iff_not] at c17); simp [sm, *]) (ih (k + 1) (by omega) (by omega))
      · refine xj_aload_n (i := 0) hk dX8_admittedTo_20 rfl rfl ?_
        refine xj_iload_n (i := 3) hk dX8_admittedTo_21 rfl rfl ?_
        refine xj_callV hk hz (fr1 := 0) (lo1 := 0) (r1 := some (.int (ra k))) (As := [.int (nI k)]) (st := []) (st2 := [.int (ra k)]) (G1 := G) ml_X8_77 (c_X8_rateOf (b := k) (M := M) (show G 21 = pM v (md_th M) (nR te ho ow hs ra lo (nI n) st av so ln) (md_pt M) (md_re M) (md_sd M) (md_be M) (md_pb M) (md_ac M) (md_od M) (md_ad M) (md_wy M) (md_so M) (md_rl M) (md_io M) (md_po M) (md_sp M) (md_rs M) (md_st M) (md_av M) (md_ip M) (md_tx M) (md_tm M) (md_ta M) (md_td M) (md_wo M) (md_sq M) (md_tk M) (md_bg M) (md_nu M) (md_wr M) from hM) (by omega)) (xw_at hM rfl) rfl dX8_admittedTo_22 ⟨Nat.le_of_ble_eq_true rfl, Nat.le_of_ble_eq_true rfl⟩ rfl (Nat.le_of_ble_eq_true rfl) rfl rfl ?_
        refine xj_iload_n (i := 1) hk dX8_admittedTo_25 rfl rfl ?_
        refine xj_icmp_gt (tgt := 38) hk dX8_admittedTo_26 (by decide) (fun c26 => ?_) (fun c26 => ?_)
        · refine xj_iinc (i := 3) (x2 := nI (k + 1)) (ls2 := [some (.ref (xw_ad v 21 0)), some (.int x), some (.int (sm (fun j => if ra j = -1 then 0 else if x < ra j then 0 else md_ad M j) k)), some (.int (nI (k + 1)))]) hk dX8_admittedTo_38 rfl (nI_1 k) (by decide) rfl rfl ?_
          refine xj_goto (tgt := 4) hk dX8_admittedTo_41 (by decide) ?_
          refine xj.to (ls' := [some (.ref (xw_ad v 21 0)), some (.int x), some (.int (sm (fun j => if ra j = -1 then 0 else if x < ra j then 0 else md_ad M j) ((k + 1)))), some (.int (nI ((k + 1))))]) (by (try simp only [decide_eq_true_eq, decide_eq_false_iff_not] at c17); simp [sm, *]) (ih (k + 1) (by omega) (by omega))
        · refine xj_iload_n (i := 2) hk dX8_admittedTo_29 rfl rfl ?_
          refine xj_aload_n (i := 0) hk dX8_admittedTo_30 rfl rfl ?_
          refine xj_getfield hk dX8_admittedTo_31 fl_X8_36 (xw_at hM rfl) rfl ?_
          refine xj_iload_n (i := 3) hk dX8_admittedTo_34 rfl rfl ?_
          refine xj_iaload (k := k) hk dX8_admittedTo_35 (xw_at hM rfl) (xi_n (by omega) (by decide)) ?_
          refine xj_iadd hk dX8_admittedTo_36 ?_
          refine xj_istore_n (i := 2) (ls2 := [some (.ref (xw_ad v 21 0)), some (.int x), some (.int ((sm (fun j => if ra j = -1 then 0 else if x < ra j then 0 else md_ad M j) k) + (md_ad M k))), some (.int (nI k))]) hk dX8_admittedTo_37 rfl (by decide) rfl rfl ?_
          refine xj_iinc (i := 3) (x2 := nI (k + 1)) (ls2 := [some (.ref (xw_ad v 21 0)), some (.int x), some (.int ((sm (fun j => if ra j = -1 then 0 else if x < ra j then 0 else md_ad M j) k) + (md_ad M k))), some (.int (nI (k + 1)))]) hk dX8_admittedTo_38 rfl (nI_1 k) (by decide) rfl rfl ?_
          refine xj_goto (tgt := 4) hk dX8_admittedTo_41 (by decide) ?_
          refine xj.to (ls' := [some (.ref (xw_ad v 21 0)), some (.int x), some (.int (sm (fun j => if ra j = -1 then 0 else if x < ra j then 0 else md_ad M j) ((k + 1)))), some (.int (nI ((k + 1))))]) (by (try simp only [decide_eq_true_eq, decide_eq_false_iff_not] at c17); simp [sm, *]) (ih (k + 1) (by omega) (by omega))

set_option maxHeartbeats 1000000 in
set_option maxRecDepth 10000 in
theorem c_X8_admittedTo {v : xw_V} {G : xw_G} {M : md_T} {te ho ow hs ra lo st av so : Nat → Int32} {ln : Int32} {n : Nat} (hM : G 21 = pM v (md_th M) (nR te ho ow hs ra lo (nI n) st av so ln) (md_pt M) (md_re M) (md_sd M) (md_be M) (md_pb M) (md_ac M) (md_od M) (md_ad M) (md_wy M) (md_so M) (md_rl M) (md_io M) (md_po M) (md_sp M) (md_rs M) (md_st M) (md_av M) (md_ip M) (md_tx M) (md_tm M) (md_ta M) (md_td M) (md_wo M) (md_sq M) (md_tk M) (md_bg M) (md_nu M) (md_wr M)) (hn30 : n ≤ 30) (x : Int32) : xk_Con v yX8_admittedTo cX8_admittedTo 4 (some .int) 2 42 [.ref (xw_ad v 21 0), .int x] G (xk_ret (some (.int (sm (fun j => if ra j = -1 then 0 else if x < ra j then 0 else md_ad M j) n))) G) := by
  refine xk_of (ls0 := [some (.ref (xw_ad v 21 0)), some (.int x), none, none]) (by decide) rfl (Nat.le_of_ble_eq_true rfl) ?_
  intro κ z hk hz
  refine xj_iconst (x := 0) hk dX8_admittedTo_0 (by decide) ?_
  refine xj_istore_n (i := 2) (ls2 := [some (.ref (xw_ad v 21 0)), some (.int x), some (.int 0), none]) hk dX8_admittedTo_1 rfl (by decide) rfl rfl ?_
  refine xj_iconst (x := 0) hk dX8_admittedTo_2 (by decide) ?_
  refine xj_istore_n (i := 3) (ls2 := [some (.ref (xw_ad v 21 0)), some (.int x), some (.int 0), some (.int 0)]) hk dX8_admittedTo_3 rfl (by decide) rfl rfl ?_
  refine l_X8_admittedTo_4 hk hz hM hn30 x ?_ (n + 1) 0 (by omega) (by omega)
  refine xj_iload_n (i := 2) hk dX8_admittedTo_44 rfl rfl ?_
  refine xj_ireturn hk hz dX8_admittedTo_45 ?_
  exact ⟨rfl, rfl⟩

/-- the first of the greatest rests among those that count -/
def mG (f : Nat → Bool) (rm : Nat → Int32) : Nat → Option Nat
  | 0 => none
  | k + 1 => if f k = true then (match mG f rm k with
    | none => some k
    | some b => if rm k ≤ rm b then some b else some k) else mG f rm k
theorem mG_lt {f : Nat → Bool} {rm : Nat → Int32} : ∀ {k b : Nat}, mG f rm k = some b → b < k := by
  intro k
  induction k with
  | zero => intro b h; simp [mG] at h
  | succ k ih =>
    intro b h
    simp only [mG] at h
    split at h
    · split at h
      · cases h; omega
      · rename_i c hc
        split at h
        · cases h; have := ih hc; omega
        · cases h; omega
    · have := ih h; omega
theorem mG_no {f : Nat → Bool} {rm : Nat → Int32} {k : Nat} (h : f k = false) : mG f rm (k + 1) = mG f rm k := by simp [mG, h]
theorem mG_n {f : Nat → Bool} {rm : Nat → Int32} {k : Nat} (h : f k = true) (q : mG f rm k = none) : mG f rm (k + 1) = some k := by simp [mG, h, q]
theorem mG_l {f : Nat → Bool} {rm : Nat → Int32} {k b : Nat} (h : f k = true) (q : mG f rm k = some b) (c : rm k ≤ rm b) : mG f rm (k + 1) = some b := by simp [mG, h, q, c]
theorem mG_g {f : Nat → Bool} {rm : Nat → Int32} {k b : Nat} (h : f k = true) (q : mG f rm k = some b) (c : ¬ rm k ≤ rm b) : mG f rm (k + 1) = some k := by
  simp only [mG]; rw [if_pos h, q]; simp only []; rw [if_neg c]
theorem oI_no {f : Nat → Bool} {rm : Nat → Int32} {k : Nat} (hk : k ≤ 30) (h : oI (mG f rm k) = -1) : mG f rm k = none := by
  cases q : mG f rm k with
  | none => rfl
  | some b =>
    rw [q] at h
    have hb := mG_lt q
    exact absurd (show nI b < 0 by rw [show nI b = -1 from h]; decide) (nI_pos (by omega))
theorem oI_yes {f : Nat → Bool} {rm : Nat → Int32} {k : Nat} (h : ¬ oI (mG f rm k) = -1) : ∃ b, mG f rm k = some b := by
  cases q : mG f rm k with
  | none => rw [q] at h; exact absurd rfl h
  | some b => exact ⟨b, rfl⟩
/-- l times: one more for the first of the greatest rests -/
def gS (rm : Nat → Int32) (n : Nat) : Nat → (Nat → Bool) → (Nat → Int32) → (Nat → Int32)
  | 0, _, so => so
  | l + 1, f, so => match mG f rm n with
    | none => so
    | some b => gS rm n l (xu f b false) (xu so b (so b + 1))
def gN (rm : Nat → Int32) (n : Nat) : Nat → (Nat → Bool) → Prop
  | 0, _ => True
  | l + 1, f => ∃ b, mG f rm n = some b ∧ gN rm n l (xu f b false)
theorem gS_s {rm : Nat → Int32} {n l b : Nat} {f : Nat → Bool} {so : Nat → Int32} (h : mG f rm n = some b) : gS rm n (l + 1) f so = gS rm n l (xu f b false) (xu so b (so b + 1)) := by simp only [gS, h]
def gT (f : Nat → Bool) (ad : Nat → Int32) : Nat → Int32 := fun j => if f j = true then ad j else 0
/-- what stays of x behind the first k shares -/
def gL (f : Nat → Bool) (sh : Nat → Int32) (x : Int32) : Nat → Int32
  | 0 => x
  | k + 1 => if f k = true then gL f sh x k - sh k else gL f sh x k
def gF (f : Nat → Bool) (sh so : Nat → Int32) : Nat → Int32 := fun j => if f j = true then sh j else so j
theorem io_x {f : Nat → Bool} {io : Nat → Int32} {n b : Nat} (h : ∀ j, j < n → io j = xb (f j)) : ∀ j, j < n → xu io b 0 j = xb (xu f b false j) := by
  intro j hj
  by_cases q : j = b
  · subst q; rw [xu_s, xu_s]; rfl
  · rw [xu_n q, xu_n q]; exact h j hj
set_option maxHeartbeats 1000000 in
set_option maxRecDepth 10000 in
theorem l_X8_gives_129 {v : xw_V} {κ : xk_K} {post : Option Value → xw_G → Prop} {z : Nat × Nat × Nat} {G : xw_G} {M : md_T} {te ho ow hs ra lo st av so : Nat → Int32} {ln : Int32} {n : Nat} {f : Nat → Bool} {io so1 : Nat → Int32} (hk : xk_Ok v κ yX8_gives cX8_gives 6 (some .boolean) 1 20) (hz : xk_zf κ = z) (hM : G 21 = pM v (md_th M) (nR te ho ow hs ra lo (nI n) st av so ln) (md_pt M) (md_re M) (md_sd M) (md_be M) (md_pb M) (md_ac M) (md_od M) (md_ad M) (md_wy M) (md_so M) (md_rl M) (md_io M) (md_po M) (md_sp M) (md_rs M) (md_st M) (md_av M) (md_ip M) (md_tx M) (md_tm M) (md_ta M) (md_td M) (md_wo M) (md_sq M) (md_tk M) (md_bg M) (md_nu M) (md_wr M)) (hn30 : n ≤ 30) (x to lf : Int32) (hd0 : ¬ to = 0) (hio : ∀ j, j < n → io j = xb (f j)) (kx : xj v κ post z (xw_up G 21 (pM v (md_th M) (nR te ho ow hs ra lo (nI n) st av so ln) (md_pt M) (md_re M) (md_sd M) (md_be M) (md_pb M) (md_ac M) (md_od M) (md_ad M) (md_wy M) so1 (md_rl M) io (md_po M) (md_sp M) (md_rs M) (md_st M) (md_av M) (md_ip M) (md_tx M) (md_tm M) (md_ta M) (md_td M) (md_wo M) (md_sq M) (md_tk M) (md_bg M) (md_nu M) (md_wr M))) 189 [some (.ref (xw_ad v 21 0)), some (.int x), some (.int to), some (.int lf), some (.int (oI (mG f (pM_ (md_ad M) x to) n))), some (.int (nI n))] []) : ∀ (m : Nat) (k : Nat), n - k < m → k ≤ n → xj v κ post z (xw_up G 21 (pM v (md_th M) (nR te ho ow hs ra lo (nI n) st av so ln) (md_pt M) (md_re M) (md_sd M) (md_be M) (md_pb M) (md_ac M) (md_od M) (md_ad M) (md_wy M) so1 (md_rl M) io (md_po M) (md_sp M) (md_rs M) (md_st M) (md_av M) (md_ip M) (md_tx M) (md_tm M) (md_ta M) (md_td M) (md_wo M) (md_sq M) (md_tk M) (md_bg M) (md_nu M) (md_wr M))) 129 [some (.ref (xw_ad v 21 0)), some (.int x), some (.int to), some (.int lf), some (.int (oI (mG f (pM_ (md_ad M) x to) k))), some (.int (nI k))] [] := by
  intro m
  induction m with
  | zero => intro k h; exact absurd h (Nat.not_lt_zero _)
  | succ m ih =>
    intro k hm hkn
    refine xj_iload hk dX8_gives_129 rfl ?_
    refine xj_aload_n (i := 0) hk dX8_gives_131 rfl rfl ?_
    refine xj_callV hk hz (fr1 := 0) (lo1 := 0) (r1 := some (.int (nI n))) (As := []) (st := [.int (nI k)]) (st2 := [.int (nI n), .int (nI k)]) (G1 := xw_up G 21 (pM v (md_th M) (nR te ho ow hs ra lo (nI n) st av so ln) (md_pt M) (md_re M) (md_sd M) (md_be M) (md_pb M) (md_ac M) (md_od M) (md_ad M) (md_wy M) so1 (md_rl M) io (md_po M) (md_sp M) (md_rs M) (md_st M) (md_av M) (md_ip M) (md_tx M) (md_tm M) (md_ta M) (md_td M) (md_wo M) (md_sq M) (md_tk M) (md_bg M) (md_nu M) (md_wr M))) ml_X8_73 (c_X8_many (M := (md_th M, nR te ho ow hs ra lo (nI n) st av so ln, md_pt M, md_re M, md_sd M, md_be M, md_pb M, md_ac M, md_od M, md_ad M, md_wy M, so1, md_rl M, io, md_po M, md_sp M, md_rs M, md_st M, md_av M, md_ip M, md_tx M, md_tm M, md_ta M, md_td M, md_wo M, md_sq M, md_tk M, md_bg M, md_nu M, md_wr M)) (show (xw_up G 21 (pM v (md_th M) (nR te ho ow hs ra lo (nI n) st av so ln) (md_pt M) (md_re M) (md_sd M) (md_be M) (md_pb M) (md_ac M) (md_od M) (md_ad M) (md_wy M) so1 (md_rl M) io (md_po M) (md_sp M) (md_rs M) (md_st M) (md_av M) (md_ip M) (md_tx M) (md_tm M) (md_ta M) (md_td M) (md_wo M) (md_sq M) (md_tk M) (md_bg M) (md_nu M) (md_wr M))) 21 = pM v (md_th M) (nR te ho ow hs ra lo (nI n) st av so ln) (md_pt M) (md_re M) (md_sd M) (md_be M) (md_pb M) (md_ac M) (md_od M) (md_ad M) (md_wy M) so1 (md_rl M) io (md_po M) (md_sp M) (md_rs M) (md_st M) (md_av M) (md_ip M) (md_tx M) (md_tm M) (md_ta M) (md_td M) (md_wo M) (md_sq M) (md_tk M) (md_bg M) (md_nu M) (md_wr M) from xw_up_s)) (xw_at xw_up_s rfl) rfl dX8_gives_132 ⟨Nat.le_of_ble_eq_true rfl, Nat.le_of_ble_eq_true rfl⟩ rfl (Nat.le_of_ble_eq_true rfl) rfl rfl ?_
    refine xj_icmp_ge (tgt := 189) hk dX8_gives_135 (by decide) (fun c135 => ?_) (fun c135 => ?_)
    · have c135 : n ≤ k := (nI_leI (a := n) (b := k) (by omega) (by omega)).mp c135
      have e9 : k = n := by omega
      subst e9
      exact kx
    · have c135 : ¬ n ≤ k := fun q => c135 ((nI_leI (a := n) (b := k) (by omega) (by omega)).mpr q)
      refine xj_aload_n (i := 0) hk dX8_gives_138 rfl rfl ?_
      refine xj_getfield hk dX8_gives_139 fl_X8_48 (xw_at xw_up_s rfl) rfl ?_
      refine xj_iload hk dX8_gives_142 rfl ?_
      refine xj_zaload (k := k) hk dX8_gives_144 (xw_at xw_up_s rfl) (xi_n (by omega) (by decide)) ?_
      refine xj.eqi (x' := xb (f k)) (hio k (by omega)) ?_
      refine xj_ifb_eq (tgt := 183) hk dX8_gives_145 (by decide) (fun c145 => ?_) (fun c145 => ?_)
      · refine xj_iinc (i := 5) (x2 := nI (k + 1)) (ls2 := [some (.ref (xw_ad v 21 0)), some (.int x), some (.int to), some (.int lf), some (.int (oI (mG f (pM_ (md_ad M) x to) k))), some (.int (nI (k + 1)))]) hk dX8_gives_183 rfl (nI_1 k) (by decide) rfl rfl ?_
        refine xj_goto (tgt := 129) hk dX8_gives_186 (by decide) ?_
        refine xj.to (ls' := [some (.ref (xw_ad v 21 0)), some (.int x), some (.int to), some (.int lf), some (.int (oI (mG f (pM_ (md_ad M) x to) (k + 1)))), some (.int (nI (k + 1)))]) (by rw [mG_no c145]) ?_
        exact ih (k + 1) (by omega) (by omega)
      · refine xj_iload hk dX8_gives_148 rfl ?_
        refine xj_iconst (x := (-1)) hk dX8_gives_150 (by decide) ?_
        refine xj_icmp_eq (tgt := 179) hk dX8_gives_151 (by decide) (fun c151 => ?_) (fun c151 => ?_)
        · refine xj_iload hk dX8_gives_179 rfl ?_
          refine xj_istore (i := 4) (ls2 := [some (.ref (xw_ad v 21 0)), some (.int x), some (.int to), some (.int lf), some (.int (nI k)), some (.int (nI k))]) hk dX8_gives_181 (by decide) rfl rfl ?_
          refine xj_iinc (i := 5) (x2 := nI (k + 1)) (ls2 := [some (.ref (xw_ad v 21 0)), some (.int x), some (.int to), some (.int lf), some (.int (nI k)), some (.int (nI (k + 1)))]) hk dX8_gives_183 rfl (nI_1 k) (by decide) rfl rfl ?_
          refine xj_goto (tgt := 129) hk dX8_gives_186 (by decide) ?_
          refine xj.to (ls' := [some (.ref (xw_ad v 21 0)), some (.int x), some (.int to), some (.int lf), some (.int (oI (mG f (pM_ (md_ad M) x to) (k + 1)))), some (.int (nI (k + 1)))]) (by rw [mG_n c145 (oI_no (by omega) c151)]; rfl) ?_
          exact ih (k + 1) (by omega) (by omega)
        · obtain ⟨b, hb⟩ := oI_yes c151
          have hbk := mG_lt hb
          refine xj.to (ls' := [some (.ref (xw_ad v 21 0)), some (.int x), some (.int to), some (.int lf), some (.int (nI b)), some (.int (nI k))]) (by rw [hb]; rfl) ?_
          refine xj_aload_n (i := 0) hk dX8_gives_154 rfl rfl ?_
          refine xj_getfield hk dX8_gives_155 fl_X8_36 (xw_at xw_up_s rfl) rfl ?_
          refine xj_iload hk dX8_gives_158 rfl ?_
          refine xj_iaload (k := k) hk dX8_gives_160 (xw_at xw_up_s rfl) (xi_n (by omega) (by decide)) ?_
          refine xj_iload_n (i := 1) hk dX8_gives_161 rfl rfl ?_
          refine xj_imul hk dX8_gives_162 ?_
          refine xj_iload_n (i := 2) hk dX8_gives_163 rfl rfl ?_
          refine xj_irem hk dX8_gives_164 hd0 ?_
          refine xj_aload_n (i := 0) hk dX8_gives_165 rfl rfl ?_
          refine xj_getfield hk dX8_gives_166 fl_X8_36 (xw_at xw_up_s rfl) rfl ?_
          refine xj_iload hk dX8_gives_169 rfl ?_
          refine xj_iaload (k := b) hk dX8_gives_171 (xw_at xw_up_s rfl) (xi_n (by omega) (by decide)) ?_
          refine xj_iload_n (i := 1) hk dX8_gives_172 rfl rfl ?_
          refine xj_imul hk dX8_gives_173 ?_
          refine xj_iload_n (i := 2) hk dX8_gives_174 rfl rfl ?_
          refine xj_irem hk dX8_gives_175 hd0 ?_
          refine xj_icmp_le (tgt := 183) hk dX8_gives_176 (by decide) (fun c176 => ?_) (fun c176 => ?_)
          · refine xj_iinc (i := 5) (x2 := nI (k + 1)) (ls2 := [some (.ref (xw_ad v 21 0)), some (.int x), some (.int to), some (.int lf), some (.int (nI b)), some (.int (nI (k + 1)))]) hk dX8_gives_183 rfl (nI_1 k) (by decide) rfl rfl ?_
            refine xj_goto (tgt := 129) hk dX8_gives_186 (by decide) ?_
            refine xj.to (ls' := [some (.ref (xw_ad v 21 0)), some (.int x), some (.int to), some (.int lf), some (.int (oI (mG f (pM_ (md_ad M) x to) (k + 1)))), some (.int (nI (k + 1)))]) (by rw [mG_l c145 hb c176]; rfl) ?_
            exact ih (k + 1) (by omega) (by omega)
          · refine xj_iload hk dX8_gives_179 rfl ?_
            refine xj_istore (i := 4) (ls2 := [some (.ref (xw_ad v 21 0)), some (.int x), some (.int to), some (.int lf), some (.int (nI k)), some (.int (nI k))]) hk dX8_gives_181 (by decide) rfl rfl ?_
            refine xj_iinc (i := 5) (x2 := nI (k + 1)) (ls2 := [some (.ref (xw_ad v 21 0)), some (.int x), some (.int to), some (.int lf), some (.int (nI k)), some (.int (nI (k + 1)))]) hk dX8_gives_183 rfl (nI_1 k) (by decide) rfl rfl ?_
            refine xj_goto (tgt := 129) hk dX8_gives_186 (by decide) ?_
            refine xj.to (ls' := [some (.ref (xw_ad v 21 0)), some (.int x), some (.int to), some (.int lf), some (.int (oI (mG f (pM_ (md_ad M) x to) (k + 1)))), some (.int (nI (k + 1)))]) (by rw [mG_g c145 hb c176]; rfl) ?_
            exact ih (k + 1) (by omega) (by omega)

set_option maxHeartbeats 1000000 in
set_option maxRecDepth 10000 in
theorem l_X8_gives_119 {v : xw_V} {κ : xk_K} {post : Option Value → xw_G → Prop} {z : Nat × Nat × Nat} {G : xw_G} {M : md_T} {te ho ow hs ra lo st av so : Nat → Int32} {ln : Int32} {n : Nat} {SF : Nat → Int32} (hk : xk_Ok v κ yX8_gives cX8_gives 6 (some .boolean) 1 20) (hz : xk_zf κ = z) (hM : G 21 = pM v (md_th M) (nR te ho ow hs ra lo (nI n) st av so ln) (md_pt M) (md_re M) (md_sd M) (md_be M) (md_pb M) (md_ac M) (md_od M) (md_ad M) (md_wy M) (md_so M) (md_rl M) (md_io M) (md_po M) (md_sp M) (md_rs M) (md_st M) (md_av M) (md_ip M) (md_tx M) (md_tm M) (md_ta M) (md_td M) (md_wo M) (md_sq M) (md_tk M) (md_bg M) (md_nu M) (md_wr M)) (hn30 : n ≤ 30) (x to : Int32) (hd0 : ¬ to = 0) (kx : ∀ io : Nat → Int32, xj v κ post z (xw_up G 21 (pM v (md_th M) (nR te ho ow hs ra lo (nI n) st av so ln) (md_pt M) (md_re M) (md_sd M) (md_be M) (md_pb M) (md_ac M) (md_od M) (md_ad M) (md_wy M) SF (md_rl M) io (md_po M) (md_sp M) (md_rs M) (md_st M) (md_av M) (md_ip M) (md_tx M) (md_tm M) (md_ta M) (md_td M) (md_wo M) (md_sq M) (md_tk M) (md_bg M) (md_nu M) (md_wr M))) 214 [some (.ref (xw_ad v 21 0)), some (.int x), some (.int to), some (.int (nI 0)), none, none] []) : ∀ (m : Nat) (l : Nat) (f : Nat → Bool) (io : Nat → Int32) (so1 : Nat → Int32), l < m → l < 2 ^ 31 → (∀ j, j < n → io j = xb (f j)) → gN (pM_ (md_ad M) x to) n l f → gS (pM_ (md_ad M) x to) n l f so1 = SF → xj v κ post z (xw_up G 21 (pM v (md_th M) (nR te ho ow hs ra lo (nI n) st av so ln) (md_pt M) (md_re M) (md_sd M) (md_be M) (md_pb M) (md_ac M) (md_od M) (md_ad M) (md_wy M) so1 (md_rl M) io (md_po M) (md_sp M) (md_rs M) (md_st M) (md_av M) (md_ip M) (md_tx M) (md_tm M) (md_ta M) (md_td M) (md_wo M) (md_sq M) (md_tk M) (md_bg M) (md_nu M) (md_wr M))) 119 [some (.ref (xw_ad v 21 0)), some (.int x), some (.int to), some (.int (nI l)), none, none] [] := by
  intro m
  induction m with
  | zero => intro l f io so1 h; exact absurd h (Nat.not_lt_zero _)
  | succ m ih =>
    intro l f io so1 hm hl31 hio hgN hSF
    refine xj_iload_n (i := 3) hk dX8_gives_119 rfl rfl ?_
    refine xj_if_le (tgt := 214) hk dX8_gives_120 (by decide) (fun c120 => ?_) (fun c120 => ?_)
    · have c120 : l ≤ 0 := (nI_leI (a := l) (b := 0) (by omega) (by omega)).mp c120
      have e9 : l = 0 := by omega
      subst e9
      simp only [gS] at hSF
      subst hSF
      exact kx _
    · have c120 : ¬ l ≤ 0 := fun q => c120 ((nI_leI (a := l) (b := 0) (by omega) (by omega)).mpr q)
      obtain ⟨l, rfl⟩ : ∃ l9, l = l9 + 1 := ⟨l - 1, by omega⟩
      obtain ⟨b, hb, hg⟩ := hgN
      have hbn := mG_lt hb
      refine xj_iconst (x := (-1)) hk dX8_gives_123 (by decide) ?_
      refine xj_istore (i := 4) (ls2 := [some (.ref (xw_ad v 21 0)), some (.int x), some (.int to), some (.int (nI (l + 1))), some (.int ((-1))), none]) hk dX8_gives_124 (by decide) rfl rfl ?_
      refine xj_iconst (x := 0) hk dX8_gives_126 (by decide) ?_
      refine xj_istore (i := 5) (ls2 := [some (.ref (xw_ad v 21 0)), some (.int x), some (.int to), some (.int (nI (l + 1))), some (.int ((-1))), some (.int 0)]) hk dX8_gives_127 (by decide) rfl rfl ?_
      refine xj.to (ls' := [some (.ref (xw_ad v 21 0)), some (.int x), some (.int to), some (.int (nI (l + 1))), some (.int (oI (mG f (pM_ (md_ad M) x to) 0))), some (.int (nI 0))]) rfl ?_
      refine l_X8_gives_129 (f := f) (io := io) hk hz hM hn30 x to (nI (l + 1)) hd0 hio ?_ (n + 1) 0 (by omega) (by omega)
      refine xj.to (ls' := [some (.ref (xw_ad v 21 0)), some (.int x), some (.int to), some (.int (nI (l + 1))), some (.int (nI b)), some (.int (nI n))]) (by rw [hb]; rfl) ?_
      refine xj_aload_n (i := 0) hk dX8_gives_189 rfl rfl ?_
      refine xj_getfield hk dX8_gives_190 fl_X8_42 (xw_at xw_up_s rfl) rfl ?_
      refine xj_iload hk dX8_gives_193 rfl ?_
      refine xj_dup2 hk dX8_gives_195 rfl rfl ?_
      refine xj_iaload (k := b) hk dX8_gives_196 (xw_at xw_up_s rfl) (xi_n (by omega) (by decide)) ?_
      refine xj_iconst (x := 1) hk dX8_gives_197 (by decide) ?_
      refine xj_iadd hk dX8_gives_198 ?_
      refine xj_iastore (k := b) (G2 := xw_up G 21 (pM v (md_th M) (nR te ho ow hs ra lo (nI n) st av so ln) (md_pt M) (md_re M) (md_sd M) (md_be M) (md_pb M) (md_ac M) (md_od M) (md_ad M) (md_wy M) (xu so1 b ((so1 b) + 1)) (md_rl M) io (md_po M) (md_sp M) (md_rs M) (md_st M) (md_av M) (md_ip M) (md_tx M) (md_tm M) (md_ta M) (md_td M) (md_wo M) (md_sq M) (md_tk M) (md_bg M) (md_nu M) (md_wr M))) hk dX8_gives_199 (xw_at xw_up_s rfl) (xi_n (by omega) (by decide)) (xw_wr2 rfl) ?_
      refine xj_aload_n (i := 0) hk dX8_gives_200 rfl rfl ?_
      refine xj_getfield hk dX8_gives_201 fl_X8_48 (xw_at xw_up_s rfl) rfl ?_
      refine xj_iload hk dX8_gives_204 rfl ?_
      refine xj_iconst (x := 0) hk dX8_gives_206 (by decide) ?_
      refine xj_zastore (k := b) (G2 := xw_up G 21 (pM v (md_th M) (nR te ho ow hs ra lo (nI n) st av so ln) (md_pt M) (md_re M) (md_sd M) (md_be M) (md_pb M) (md_ac M) (md_od M) (md_ad M) (md_wy M) (xu so1 b ((so1 b) + 1)) (md_rl M) (xu io b 0) (md_po M) (md_sp M) (md_rs M) (md_st M) (md_av M) (md_ip M) (md_tx M) (md_tm M) (md_ta M) (md_td M) (md_wo M) (md_sq M) (md_tk M) (md_bg M) (md_nu M) (md_wr M))) hk dX8_gives_207 (xw_at xw_up_s rfl) (xi_n (by omega) (by decide)) (by decide) (xw_wr2 rfl) ?_
      refine xj_iinc (i := 3) (x2 := nI (l + 1 - 1)) (ls2 := [some (.ref (xw_ad v 21 0)), some (.int x), some (.int to), some (.int (nI (l + 1 - 1))), some (.int (nI b)), some (.int (nI n))]) hk dX8_gives_208 rfl (nI_dec (by omega)) (by decide) rfl rfl ?_
      refine xj_goto (tgt := 119) hk dX8_gives_211 (by decide) ?_
      refine xj.le (ls' := [some (.ref (xw_ad v 21 0)), some (.int x), some (.int to), some (.int (nI (l + 1 - 1))), none, none]) (by simp [xl_le] <;> rfl) ?_
      exact ih l (xu f b false) _ _ (by omega) (by omega) (io_x hio) hg (by rw [← hSF, gS_s hb])

def gSh (ad : Nat → Int32) (x to : Int32) : Nat → Int32 := fun j => if x < to then pQ ad x to j else ad j
theorem gSh_p {ad : Nat → Int32} {x to : Int32} {j : Nat} (h : x < to) : gSh ad x to j = ad j * x / to := by simp only [gSh]; rw [if_pos h]; rfl
theorem gSh_n {ad : Nat → Int32} {x to : Int32} {j : Nat} (h : ¬ x < to) : gSh ad x to j = ad j := by simp only [gSh]; rw [if_neg h]
theorem gF_y {f : Nat → Bool} {sh so : Nat → Int32} {j : Nat} (h : f j = true) : gF f sh so j = sh j := by simp [gF, h]
theorem gF_n {f : Nat → Bool} {sh so : Nat → Int32} {j : Nat} (h : f j = false) : gF f sh so j = so j := by simp [gF, h]
theorem div0 {x to : Int32} (h : 0 ≤ x) (c : x < to) : ¬ to = 0 := fun q => by subst q; exact absurd c (Int32.not_lt.mpr h)
set_option maxHeartbeats 1000000 in
set_option maxRecDepth 10000 in
theorem l_X8_gives_4 {v : xw_V} {κ : xk_K} {post : Option Value → xw_G → Prop} {z : Nat × Nat × Nat} {G : xw_G} {M : md_T} {te ho ow hs ra lo st av so : Nat → Int32} {ln : Int32} {n : Nat} {f : Nat → Bool} (hk : xk_Ok v κ yX8_gives cX8_gives 6 (some .boolean) 1 20) (hz : xk_zf κ = z) (hM : G 21 = pM v (md_th M) (nR te ho ow hs ra lo (nI n) st av so ln) (md_pt M) (md_re M) (md_sd M) (md_be M) (md_pb M) (md_ac M) (md_od M) (md_ad M) (md_wy M) (md_so M) (md_rl M) (md_io M) (md_po M) (md_sp M) (md_rs M) (md_st M) (md_av M) (md_ip M) (md_tx M) (md_tm M) (md_ta M) (md_td M) (md_wo M) (md_sq M) (md_tk M) (md_bg M) (md_nu M) (md_wr M)) (hn30 : n ≤ 30) (x : Int32) (hf : ∀ j, j < n → md_io M j = xb (f j)) (kx : xj v κ post z G 36 [some (.ref (xw_ad v 21 0)), some (.int x), some (.int (sm (gT f (md_ad M)) n)), some (.int (nI n)), none, none] []) : ∀ (m : Nat) (k : Nat), n - k < m → k ≤ n → xj v κ post z G 4 [some (.ref (xw_ad v 21 0)), some (.int x), some (.int (sm (gT f (md_ad M)) k)), some (.int (nI k)), none, none] [] := by
  intro m
  induction m with
  | zero => intro k h; exact absurd h (Nat.not_lt_zero _)
  | succ m ih =>
    intro k hm hi
    refine xj_iload_n (i := 3) hk dX8_gives_4 rfl rfl ?_
    refine xj_aload_n (i := 0) hk dX8_gives_5 rfl rfl ?_
    refine xj_callV hk hz (fr1 := 0) (lo1 := 0) (r1 := some (.int (nI n))) (As := []) (st := [.int (nI k)]) (st2 := [.int (nI n), .int (nI k)]) (G1 := G) ml_X8_73 (c_X8_many (M := M) (show G 21 = pM v (md_th M) (nR te ho ow hs ra lo (nI n) st av so ln) (md_pt M) (md_re M) (md_sd M) (md_be M) (md_pb M) (md_ac M) (md_od M) (md_ad M) (md_wy M) (md_so M) (md_rl M) (md_io M) (md_po M) (md_sp M) (md_rs M) (md_st M) (md_av M) (md_ip M) (md_tx M) (md_tm M) (md_ta M) (md_td M) (md_wo M) (md_sq M) (md_tk M) (md_bg M) (md_nu M) (md_wr M) from hM)) (xw_at hM rfl) rfl dX8_gives_6 ⟨Nat.le_of_ble_eq_true rfl, Nat.le_of_ble_eq_true rfl⟩ rfl (Nat.le_of_ble_eq_true rfl) rfl rfl ?_
    refine xj_icmp_ge (tgt := 36) hk dX8_gives_9 (by decide) (fun c9 => ?_) (fun c9 => ?_)
    · have c9 : n ≤ k := (nI_leI (a := n) (b := k) (by omega) (by omega)).mp c9
      have e9 : k = n := by omega
      subst e9
      exact kx
    · have c9 : ¬ n ≤ k := fun q => c9 ((nI_leI (a := n) (b := k) (by omega) (by omega)).mpr q)
      refine xj_aload_n (i := 0) hk dX8_gives_12 rfl rfl ?_
      refine xj_getfield hk dX8_gives_13 fl_X8_48 (xw_at hM rfl) rfl ?_
      refine xj_iload_n (i := 3) hk dX8_gives_16 rfl rfl ?_
      refine xj_zaload (k := k) hk dX8_gives_17 (xw_at hM rfl) (xi_n (by omega) (by decide)) ?_
      refine xj.eqi (x' := xb (f k)) (hf k (by omega)) ?_
      refine xj_ifb_eq (tgt := 30) hk dX8_gives_18 (by decide) (fun c18 => ?_) (fun c18 => ?_)
      · refine xj_iinc (i := 3) (x2 := nI (k + 1)) (ls2 := [some (.ref (xw_ad v 21 0)), some (.int x), some (.int (sm (gT f (md_ad M)) k)), some (.int (nI (k + 1))), none, none]) hk dX8_gives_30 rfl (nI_1 k) (by decide) rfl rfl ?_
        refine xj_goto (tgt := 4) hk dX8_gives_33 (by decide) ?_
        refine xj.to (ls' := [some (.ref (xw_ad v 21 0)), some (.int x), some (.int (sm (gT f (md_ad M)) ((k + 1)))), some (.int (nI ((k + 1)))), none, none]) (by simp [sm, gT, *]) (ih (k + 1) (by omega) (by omega))
      · refine xj_iload_n (i := 2) hk dX8_gives_21 rfl rfl ?_
        refine xj_aload_n (i := 0) hk dX8_gives_22 rfl rfl ?_
        refine xj_getfield hk dX8_gives_23 fl_X8_36 (xw_at hM rfl) rfl ?_
        refine xj_iload_n (i := 3) hk dX8_gives_26 rfl rfl ?_
        refine xj_iaload (k := k) hk dX8_gives_27 (xw_at hM rfl) (xi_n (by omega) (by decide)) ?_
        refine xj_iadd hk dX8_gives_28 ?_
        refine xj_istore_n (i := 2) (ls2 := [some (.ref (xw_ad v 21 0)), some (.int x), some (.int ((sm (gT f (md_ad M)) k) + (md_ad M k))), some (.int (nI k)), none, none]) hk dX8_gives_29 rfl (by decide) rfl rfl ?_
        refine xj_iinc (i := 3) (x2 := nI (k + 1)) (ls2 := [some (.ref (xw_ad v 21 0)), some (.int x), some (.int ((sm (gT f (md_ad M)) k) + (md_ad M k))), some (.int (nI (k + 1))), none, none]) hk dX8_gives_30 rfl (nI_1 k) (by decide) rfl rfl ?_
        refine xj_goto (tgt := 4) hk dX8_gives_33 (by decide) ?_
        refine xj.to (ls' := [some (.ref (xw_ad v 21 0)), some (.int x), some (.int (sm (gT f (md_ad M)) ((k + 1)))), some (.int (nI ((k + 1)))), none, none]) (by simp [sm, gT, *]) (ih (k + 1) (by omega) (by omega))

set_option maxHeartbeats 1000000 in
set_option maxRecDepth 10000 in
theorem l_X8_gives_41 {v : xw_V} {κ : xk_K} {post : Option Value → xw_G → Prop} {z : Nat × Nat × Nat} {G : xw_G} {M : md_T} {te ho ow hs ra lo st av so : Nat → Int32} {ln : Int32} {n : Nat} {f : Nat → Bool} (hk : xk_Ok v κ yX8_gives cX8_gives 6 (some .boolean) 1 20) (hz : xk_zf κ = z) (hM : G 21 = pM v (md_th M) (nR te ho ow hs ra lo (nI n) st av so ln) (md_pt M) (md_re M) (md_sd M) (md_be M) (md_pb M) (md_ac M) (md_od M) (md_ad M) (md_wy M) (md_so M) (md_rl M) (md_io M) (md_po M) (md_sp M) (md_rs M) (md_st M) (md_av M) (md_ip M) (md_tx M) (md_tm M) (md_ta M) (md_td M) (md_wo M) (md_sq M) (md_tk M) (md_bg M) (md_nu M) (md_wr M)) (hn30 : n ≤ 30) (x : Int32) (hf : ∀ j, j < n → md_io M j = xb (f j)) (to : Int32) (h0x : 0 ≤ x) (kx : xj v κ post z (xw_up G 21 (pM v (md_th M) (nR te ho ow hs ra lo (nI n) st av so ln) (md_pt M) (md_re M) (md_sd M) (md_be M) (md_pb M) (md_ac M) (md_od M) (md_ad M) (md_wy M) (cpN n (gF f (gSh (md_ad M) x to) (md_so M)) (md_so M)) (md_rl M) (md_io M) (md_po M) (md_sp M) (md_rs M) (md_st M) (md_av M) (md_ip M) (md_tx M) (md_tm M) (md_ta M) (md_td M) (md_wo M) (md_sq M) (md_tk M) (md_bg M) (md_nu M) (md_wr M))) 112 [some (.ref (xw_ad v 21 0)), some (.int x), some (.int to), some (.int (gL f (gSh (md_ad M) x to) x n)), some (.int (nI n)), none] []) : ∀ (m : Nat) (k : Nat), n - k < m → k ≤ n → xj v κ post z (xw_up G 21 (pM v (md_th M) (nR te ho ow hs ra lo (nI n) st av so ln) (md_pt M) (md_re M) (md_sd M) (md_be M) (md_pb M) (md_ac M) (md_od M) (md_ad M) (md_wy M) (cpN k (gF f (gSh (md_ad M) x to) (md_so M)) (md_so M)) (md_rl M) (md_io M) (md_po M) (md_sp M) (md_rs M) (md_st M) (md_av M) (md_ip M) (md_tx M) (md_tm M) (md_ta M) (md_td M) (md_wo M) (md_sq M) (md_tk M) (md_bg M) (md_nu M) (md_wr M))) 41 [some (.ref (xw_ad v 21 0)), some (.int x), some (.int to), some (.int (gL f (gSh (md_ad M) x to) x k)), some (.int (nI k)), none] [] := by
  intro m
  induction m with
  | zero => intro k h; exact absurd h (Nat.not_lt_zero _)
  | succ m ih =>
    intro k hm hi
    refine xj_iload hk dX8_gives_41 rfl ?_
    refine xj_aload_n (i := 0) hk dX8_gives_43 rfl rfl ?_
    refine xj_callV hk hz (fr1 := 0) (lo1 := 0) (r1 := some (.int (nI n))) (As := []) (st := [.int (nI k)]) (st2 := [.int (nI n), .int (nI k)]) (G1 := xw_up G 21 (pM v (md_th M) (nR te ho ow hs ra lo (nI n) st av so ln) (md_pt M) (md_re M) (md_sd M) (md_be M) (md_pb M) (md_ac M) (md_od M) (md_ad M) (md_wy M) (cpN k (gF f (gSh (md_ad M) x to) (md_so M)) (md_so M)) (md_rl M) (md_io M) (md_po M) (md_sp M) (md_rs M) (md_st M) (md_av M) (md_ip M) (md_tx M) (md_tm M) (md_ta M) (md_td M) (md_wo M) (md_sq M) (md_tk M) (md_bg M) (md_nu M) (md_wr M))) ml_X8_73 (c_X8_many (M := (md_th M, nR te ho ow hs ra lo (nI n) st av so ln, md_pt M, md_re M, md_sd M, md_be M, md_pb M, md_ac M, md_od M, md_ad M, md_wy M, cpN k (gF f (gSh (md_ad M) x to) (md_so M)) (md_so M), md_rl M, md_io M, md_po M, md_sp M, md_rs M, md_st M, md_av M, md_ip M, md_tx M, md_tm M, md_ta M, md_td M, md_wo M, md_sq M, md_tk M, md_bg M, md_nu M, md_wr M)) (show (xw_up G 21 (pM v (md_th M) (nR te ho ow hs ra lo (nI n) st av so ln) (md_pt M) (md_re M) (md_sd M) (md_be M) (md_pb M) (md_ac M) (md_od M) (md_ad M) (md_wy M) (cpN k (gF f (gSh (md_ad M) x to) (md_so M)) (md_so M)) (md_rl M) (md_io M) (md_po M) (md_sp M) (md_rs M) (md_st M) (md_av M) (md_ip M) (md_tx M) (md_tm M) (md_ta M) (md_td M) (md_wo M) (md_sq M) (md_tk M) (md_bg M) (md_nu M) (md_wr M))) 21 = pM v (md_th M) (nR te ho ow hs ra lo (nI n) st av so ln) (md_pt M) (md_re M) (md_sd M) (md_be M) (md_pb M) (md_ac M) (md_od M) (md_ad M) (md_wy M) (cpN k (gF f (gSh (md_ad M) x to) (md_so M)) (md_so M)) (md_rl M) (md_io M) (md_po M) (md_sp M) (md_rs M) (md_st M) (md_av M) (md_ip M) (md_tx M) (md_tm M) (md_ta M) (md_td M) (md_wo M) (md_sq M) (md_tk M) (md_bg M) (md_nu M) (md_wr M) from xw_up_s)) (xw_at xw_up_s rfl) rfl dX8_gives_44 ⟨Nat.le_of_ble_eq_true rfl, Nat.le_of_ble_eq_true rfl⟩ rfl (Nat.le_of_ble_eq_true rfl) rfl rfl ?_
    refine xj_icmp_ge (tgt := 112) hk dX8_gives_47 (by decide) (fun c47 => ?_) (fun c47 => ?_)
    · have c47 : n ≤ k := (nI_leI (a := n) (b := k) (by omega) (by omega)).mp c47
      have e9 : k = n := by omega
      subst e9
      exact kx
    · have c47 : ¬ n ≤ k := fun q => c47 ((nI_leI (a := n) (b := k) (by omega) (by omega)).mpr q)
      refine xj_aload_n (i := 0) hk dX8_gives_50 rfl rfl ?_
      refine xj_getfield hk dX8_gives_51 fl_X8_48 (xw_at xw_up_s rfl) rfl ?_
      refine xj_iload hk dX8_gives_54 rfl ?_
      refine xj_zaload (k := k) hk dX8_gives_56 (xw_at xw_up_s rfl) (xi_n (by omega) (by decide)) ?_
      refine xj.eqi (x' := xb (f k)) (hf k (by omega)) ?_
      refine xj_ifb_ne (tgt := 63) hk dX8_gives_57 (by decide) (fun c57 => ?_) (fun c57 => ?_)
      · refine xj_aload_n (i := 0) hk dX8_gives_63 rfl rfl ?_
        refine xj_getfield hk dX8_gives_64 fl_X8_42 (xw_at xw_up_s rfl) rfl ?_
        refine xj_iload hk dX8_gives_67 rfl ?_
        refine xj_iload_n (i := 2) hk dX8_gives_69 rfl rfl ?_
        refine xj_iload_n (i := 1) hk dX8_gives_70 rfl rfl ?_
        refine xj_icmp_gt (tgt := 84) hk dX8_gives_71 (by decide) (fun c71 => ?_) (fun c71 => ?_)
        · refine xj_aload_n (i := 0) hk dX8_gives_84 rfl rfl ?_
          refine xj_getfield hk dX8_gives_85 fl_X8_36 (xw_at xw_up_s rfl) rfl ?_
          refine xj_iload hk dX8_gives_88 rfl ?_
          refine xj_iaload (k := k) hk dX8_gives_90 (xw_at xw_up_s rfl) (xi_n (by omega) (by decide)) ?_
          refine xj_iload_n (i := 1) hk dX8_gives_91 rfl rfl ?_
          refine xj_imul hk dX8_gives_92 ?_
          refine xj_iload_n (i := 2) hk dX8_gives_93 rfl rfl ?_
          refine xj_idiv hk dX8_gives_94 (div0 h0x c71) ?_
          refine xj_iastore (k := k) (G2 := xw_up G 21 (pM v (md_th M) (nR te ho ow hs ra lo (nI n) st av so ln) (md_pt M) (md_re M) (md_sd M) (md_be M) (md_pb M) (md_ac M) (md_od M) (md_ad M) (md_wy M) (xu (cpN k (gF f (gSh (md_ad M) x to) (md_so M)) (md_so M)) k (((md_ad M k) * x) / to)) (md_rl M) (md_io M) (md_po M) (md_sp M) (md_rs M) (md_st M) (md_av M) (md_ip M) (md_tx M) (md_tm M) (md_ta M) (md_td M) (md_wo M) (md_sq M) (md_tk M) (md_bg M) (md_nu M) (md_wr M))) hk dX8_gives_95 (xw_at xw_up_s rfl) (xi_n (by omega) (by decide)) (xw_wr2 rfl) ?_
          refine xj_iload_n (i := 3) hk dX8_gives_96 rfl rfl ?_
          refine xj_aload_n (i := 0) hk dX8_gives_97 rfl rfl ?_
          refine xj_getfield hk dX8_gives_98 fl_X8_42 (xw_at xw_up_s rfl) rfl ?_
          refine xj_iload hk dX8_gives_101 rfl ?_
          refine xj_iaload (k := k) hk dX8_gives_103 (xw_at xw_up_s rfl) (xi_n (by omega) (by decide)) ?_
          refine xj.eqi (x' := gSh (md_ad M) x to k) (by rw [xu_s]; first | rw [gSh_p c71] | rw [gSh_n c71]) ?_
          refine xj_isub hk dX8_gives_104 ?_
          refine xj_istore_n (i := 3) (ls2 := [some (.ref (xw_ad v 21 0)), some (.int x), some (.int to), some (.int ((gL f (gSh (md_ad M) x to) x k) - (gSh (md_ad M) x to k))), some (.int (nI k)), none]) hk dX8_gives_105 rfl (by decide) rfl rfl ?_
          refine xj_iinc (i := 4) (x2 := nI (k + 1)) (ls2 := [some (.ref (xw_ad v 21 0)), some (.int x), some (.int to), some (.int ((gL f (gSh (md_ad M) x to) x k) - (gSh (md_ad M) x to k))), some (.int (nI (k + 1))), none]) hk dX8_gives_106 rfl (nI_1 k) (by decide) rfl rfl ?_
          refine xj_goto (tgt := 41) hk dX8_gives_109 (by decide) ?_
          refine xj.eqG (G' := xw_up G 21 (pM v (md_th M) (nR te ho ow hs ra lo (nI n) st av so ln) (md_pt M) (md_re M) (md_sd M) (md_be M) (md_pb M) (md_ac M) (md_od M) (md_ad M) (md_wy M) (cpN ((k + 1)) (gF f (gSh (md_ad M) x to) (md_so M)) (md_so M)) (md_rl M) (md_io M) (md_po M) (md_sp M) (md_rs M) (md_st M) (md_av M) (md_ip M) (md_tx M) (md_tm M) (md_ta M) (md_td M) (md_wo M) (md_sq M) (md_tk M) (md_bg M) (md_nu M) (md_wr M))) (by first | rw [cp_e (show gF f (gSh (md_ad M) x to) (md_so M) k = md_ad M k * x / to by rw [gF_y c57, gSh_p c71])] | rw [cp_e (show gF f (gSh (md_ad M) x to) (md_so M) k = md_ad M k by rw [gF_y c57, gSh_n c71])] | rw [cp_n (gF_n c57)]) (xj.to (ls' := [some (.ref (xw_ad v 21 0)), some (.int x), some (.int to), some (.int (gL f (gSh (md_ad M) x to) x ((k + 1)))), some (.int (nI ((k + 1)))), none]) (by simp [gL, *]) (ih (k + 1) (by omega) (by omega)))
        · refine xj_aload_n (i := 0) hk dX8_gives_74 rfl rfl ?_
          refine xj_getfield hk dX8_gives_75 fl_X8_36 (xw_at xw_up_s rfl) rfl ?_
          refine xj_iload hk dX8_gives_78 rfl ?_
          refine xj_iaload (k := k) hk dX8_gives_80 (xw_at xw_up_s rfl) (xi_n (by omega) (by decide)) ?_
          refine xj_goto (tgt := 95) hk dX8_gives_81 (by decide) ?_
          refine xj_iastore (k := k) (G2 := xw_up G 21 (pM v (md_th M) (nR te ho ow hs ra lo (nI n) st av so ln) (md_pt M) (md_re M) (md_sd M) (md_be M) (md_pb M) (md_ac M) (md_od M) (md_ad M) (md_wy M) (xu (cpN k (gF f (gSh (md_ad M) x to) (md_so M)) (md_so M)) k (md_ad M k)) (md_rl M) (md_io M) (md_po M) (md_sp M) (md_rs M) (md_st M) (md_av M) (md_ip M) (md_tx M) (md_tm M) (md_ta M) (md_td M) (md_wo M) (md_sq M) (md_tk M) (md_bg M) (md_nu M) (md_wr M))) hk dX8_gives_95 (xw_at xw_up_s rfl) (xi_n (by omega) (by decide)) (xw_wr2 rfl) ?_
          refine xj_iload_n (i := 3) hk dX8_gives_96 rfl rfl ?_
          refine xj_aload_n (i := 0) hk dX8_gives_97 rfl rfl ?_
          refine xj_getfield hk dX8_gives_98 fl_X8_42 (xw_at xw_up_s rfl) rfl ?_
          refine xj_iload hk dX8_gives_101 rfl ?_
          refine xj_iaload (k := k) hk dX8_gives_103 (xw_at xw_up_s rfl) (xi_n (by omega) (by decide)) ?_
          refine xj.eqi (x' := gSh (md_ad M) x to k) (by rw [xu_s]; first | rw [gSh_p c71] | rw [gSh_n c71]) ?_
          refine xj_isub hk dX8_gives_104 ?_
          refine xj_istore_n (i := 3) (ls2 := [some (.ref (xw_ad v 21 0)), some (.int x), some (.int to), some (.int ((gL f (gSh (md_ad M) x to) x k) - (gSh (md_ad M) x to k))), some (.int (nI k)), none]) hk dX8_gives_105 rfl (by decide) rfl rfl ?_
          refine xj_iinc (i := 4) (x2 := nI (k + 1)) (ls2 := [some (.ref (xw_ad v 21 0)), some (.int x), some (.int to), some (.int ((gL f (gSh (md_ad M) x to) x k) - (gSh (md_ad M) x to k))), some (.int (nI (k + 1))), none]) hk dX8_gives_106 rfl (nI_1 k) (by decide) rfl rfl ?_
          refine xj_goto (tgt := 41) hk dX8_gives_109 (by decide) ?_
          refine xj.eqG (G' := xw_up G 21 (pM v (md_th M) (nR te ho ow hs ra lo (nI n) st av so ln) (md_pt M) (md_re M) (md_sd M) (md_be M) (md_pb M) (md_ac M) (md_od M) (md_ad M) (md_wy M) (cpN ((k + 1)) (gF f (gSh (md_ad M) x to) (md_so M)) (md_so M)) (md_rl M) (md_io M) (md_po M) (md_sp M) (md_rs M) (md_st M) (md_av M) (md_ip M) (md_tx M) (md_tm M) (md_ta M) (md_td M) (md_wo M) (md_sq M) (md_tk M) (md_bg M) (md_nu M) (md_wr M))) (by first | rw [cp_e (show gF f (gSh (md_ad M) x to) (md_so M) k = md_ad M k * x / to by rw [gF_y c57, gSh_p c71])] | rw [cp_e (show gF f (gSh (md_ad M) x to) (md_so M) k = md_ad M k by rw [gF_y c57, gSh_n c71])] | rw [cp_n (gF_n c57)]) (xj.to (ls' := [some (.ref (xw_ad v 21 0)), some (.int x), some (.int to), some (.int (gL f (gSh (md_ad M) x to) x ((k + 1)))), some (.int (nI ((k + 1)))), none]) (by simp [gL, *]) (ih (k + 1) (by omega) (by omega)))
      · refine xj_goto (tgt := 106) hk dX8_gives_60 (by decide) ?_
        refine xj_iinc (i := 4) (x2 := nI (k + 1)) (ls2 := [some (.ref (xw_ad v 21 0)), some (.int x), some (.int to), some (.int (gL f (gSh (md_ad M) x to) x k)), some (.int (nI (k + 1))), none]) hk dX8_gives_106 rfl (nI_1 k) (by decide) rfl rfl ?_
        refine xj_goto (tgt := 41) hk dX8_gives_109 (by decide) ?_
        refine xj.eqG (G' := xw_up G 21 (pM v (md_th M) (nR te ho ow hs ra lo (nI n) st av so ln) (md_pt M) (md_re M) (md_sd M) (md_be M) (md_pb M) (md_ac M) (md_od M) (md_ad M) (md_wy M) (cpN ((k + 1)) (gF f (gSh (md_ad M) x to) (md_so M)) (md_so M)) (md_rl M) (md_io M) (md_po M) (md_sp M) (md_rs M) (md_st M) (md_av M) (md_ip M) (md_tx M) (md_tm M) (md_ta M) (md_td M) (md_wo M) (md_sq M) (md_tk M) (md_bg M) (md_nu M) (md_wr M))) (by first | rw [cp_e (show gF f (gSh (md_ad M) x to) (md_so M) k = md_ad M k * x / to by rw [gF_y c57, gSh_p c71])] | rw [cp_e (show gF f (gSh (md_ad M) x to) (md_so M) k = md_ad M k by rw [gF_y c57, gSh_n c71])] | rw [cp_n (gF_n c57)]) (xj.to (ls' := [some (.ref (xw_ad v 21 0)), some (.int x), some (.int to), some (.int (gL f (gSh (md_ad M) x to) x ((k + 1)))), some (.int (nI ((k + 1)))), none]) (by simp [gL, *]) (ih (k + 1) (by omega) (by omega)))

set_option maxHeartbeats 1000000 in
set_option maxRecDepth 10000 in
theorem c_X8_gives {v : xw_V} {G : xw_G} {M : md_T} {te ho ow hs ra lo st av so : Nat → Int32} {ln : Int32} {n : Nat} {f : Nat → Bool} (hM : G 21 = pM v (md_th M) (nR te ho ow hs ra lo (nI n) st av so ln) (md_pt M) (md_re M) (md_sd M) (md_be M) (md_pb M) (md_ac M) (md_od M) (md_ad M) (md_wy M) (md_so M) (md_rl M) (md_io M) (md_po M) (md_sp M) (md_rs M) (md_st M) (md_av M) (md_ip M) (md_tx M) (md_tm M) (md_ta M) (md_td M) (md_wo M) (md_sq M) (md_tk M) (md_bg M) (md_nu M) (md_wr M)) (hn30 : n ≤ 30) (x : Int32) (hf : ∀ j, j < n → md_io M j = xb (f j)) (h0x : 0 ≤ x) (hne : x < (sm (gT f (md_ad M)) n) → ∃ l, l < 2 ^ 31 ∧ gL f (gSh (md_ad M) x (sm (gT f (md_ad M)) n)) x n = nI l ∧ gN (pM_ (md_ad M) x (sm (gT f (md_ad M)) n)) n l f) : xk_Con v yX8_gives cX8_gives 6 (some .boolean) 1 20 [.ref (xw_ad v 21 0), .int x] G (fun r G' => ∃ so1 io1 : Nat → Int32, (¬ x < (sm (gT f (md_ad M)) n) → so1 = cpN n (gF f (gSh (md_ad M) x (sm (gT f (md_ad M)) n)) (md_so M)) (md_so M)) ∧ (x < (sm (gT f (md_ad M)) n) → ∀ l, l < 2 ^ 31 → gL f (gSh (md_ad M) x (sm (gT f (md_ad M)) n)) x n = nI l → so1 = gS (pM_ (md_ad M) x (sm (gT f (md_ad M)) n)) n l f (cpN n (gF f (gSh (md_ad M) x (sm (gT f (md_ad M)) n)) (md_so M)) (md_so M))) ∧ r = some (.int (xb (decide (x < (sm (gT f (md_ad M)) n))))) ∧ G' = xw_up G 21 (pM v (md_th M) (nR te ho ow hs ra lo (nI n) st av so ln) (md_pt M) (md_re M) (md_sd M) (md_be M) (md_pb M) (md_ac M) (md_od M) (md_ad M) (md_wy M) so1 (md_rl M) io1 (md_po M) (md_sp M) (md_rs M) (md_st M) (md_av M) (md_ip M) (md_tx M) (md_tm M) (md_ta M) (md_td M) (md_wo M) (md_sq M) (md_tk M) (md_bg M) (md_nu M) (md_wr M))) := by
  refine xk_of (ls0 := [some (.ref (xw_ad v 21 0)), some (.int x), none, none, none, none]) (by decide) rfl (Nat.le_of_ble_eq_true rfl) ?_
  intro κ z hk hz
  refine xj_iconst (x := 0) hk dX8_gives_0 (by decide) ?_
  refine xj_istore_n (i := 2) (ls2 := [some (.ref (xw_ad v 21 0)), some (.int x), some (.int 0), none, none, none]) hk dX8_gives_1 rfl (by decide) rfl rfl ?_
  refine xj_iconst (x := 0) hk dX8_gives_2 (by decide) ?_
  refine xj_istore_n (i := 3) (ls2 := [some (.ref (xw_ad v 21 0)), some (.int x), some (.int 0), some (.int 0), none, none]) hk dX8_gives_3 rfl (by decide) rfl rfl ?_
  refine l_X8_gives_4 hk hz hM hn30 x hf ?_ (n + 1) 0 (by omega) (by omega)
  refine xj_iload_n (i := 1) hk dX8_gives_36 rfl rfl ?_
  refine xj_istore_n (i := 3) (ls2 := [some (.ref (xw_ad v 21 0)), some (.int x), some (.int (sm (gT f (md_ad M)) n)), some (.int x), none, none]) hk dX8_gives_37 rfl (by decide) rfl rfl ?_
  refine xj_iconst (x := 0) hk dX8_gives_38 (by decide) ?_
  refine xj_istore (i := 4) (ls2 := [some (.ref (xw_ad v 21 0)), some (.int x), some (.int (sm (gT f (md_ad M)) n)), some (.int x), some (.int 0), none]) hk dX8_gives_39 (by decide) rfl rfl ?_
  obtain ⟨to, hto⟩ : ∃ to, to = sm (gT f (md_ad M)) n := ⟨_, rfl⟩
  rw [← hto] at hne ⊢
  refine xj.le (ls' := [some (.ref (xw_ad v 21 0)), some (.int x), some (.int to), some (.int x), some (.int 0), none]) (by simp [xl_le] <;> rfl) ?_
  refine xj.to (ls' := [some (.ref (xw_ad v 21 0)), some (.int x), some (.int to), some (.int (gL f (gSh (md_ad M) x to) x 0)), some (.int (nI 0)), none]) rfl ?_
  refine xj.eqG (G' := xw_up G 21 (pM v (md_th M) (nR te ho ow hs ra lo (nI n) st av so ln) (md_pt M) (md_re M) (md_sd M) (md_be M) (md_pb M) (md_ac M) (md_od M) (md_ad M) (md_wy M) (cpN 0 (gF f (gSh (md_ad M) x to) (md_so M)) (md_so M)) (md_rl M) (md_io M) (md_po M) (md_sp M) (md_rs M) (md_st M) (md_av M) (md_ip M) (md_tx M) (md_tm M) (md_ta M) (md_td M) (md_wo M) (md_sq M) (md_tk M) (md_bg M) (md_nu M) (md_wr M))) (by simp only [cp_0]; exact (xw_up_same hM).symm) ?_
  refine l_X8_gives_41 hk hz hM hn30 x hf to h0x ?_ (n + 1) 0 (by omega) (by omega)
  refine xj_iload_n (i := 2) hk dX8_gives_112 rfl rfl ?_
  refine xj_iload_n (i := 1) hk dX8_gives_113 rfl rfl ?_
  refine xj_icmp_gt (tgt := 119) hk dX8_gives_114 (by decide) (fun c114 => ?_) (fun c114 => ?_)
  · obtain ⟨l, hl31, hgl, hgN⟩ := hne c114
    refine xj.le (ls' := [some (.ref (xw_ad v 21 0)), some (.int x), some (.int to), some (.int (gL f (gSh (md_ad M) x to) x n)), none, none]) (by simp [xl_le] <;> rfl) ?_
    refine xj.to (ls' := [some (.ref (xw_ad v 21 0)), some (.int x), some (.int to), some (.int (nI l)), none, none]) (by rw [hgl]) ?_
    refine l_X8_gives_119 hk hz hM hn30 x to (div0 h0x c114) (fun io9 => ?_) (l + 1) l f (md_io M) _ (by omega) hl31 hf hgN rfl
    refine xj_iconst (x := 1) hk dX8_gives_214 (by decide) ?_
    refine xj_zreturn hk hz dX8_gives_215 (by decide) ?_
    exact ⟨_, io9, fun q => absurd c114 q, fun _ l9 h9 q9 => by rw [(nI_eq hl31 h9).mp (hgl.symm.trans q9)], by rw [decide_eq_true c114]; rfl, rfl⟩
  · refine xj_iconst (x := 0) hk dX8_gives_117 (by decide) ?_
    refine xj_zreturn hk hz dX8_gives_118 (by decide) ?_
    exact ⟨_, md_io M, fun _ => rfl, fun q => absurd q c114, by rw [decide_eq_false c114]; rfl, rfl⟩


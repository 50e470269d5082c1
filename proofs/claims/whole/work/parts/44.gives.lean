set_option maxHeartbeats 1000000 in
set_option maxRecDepth 10000 in
theorem l_X8_admittedTo_4 {v : xw_V} {κ : xk_K} {post : Option Value → xw_G → Prop} {z : Nat × Nat × Nat} {G : xw_G} {M : md_T} {te ho ow hs ra lo st av so : Nat → Int32} {ln : Int32} {n : Nat} (hk : xk_Ok v κ yX8_admittedTo cX8_admittedTo 4 (some .int) 2 42) (hz : xk_zf κ = z) (hM : G 21 = pM v (md_th M) (nR te ho ow hs ra lo (nI n) st av so ln) (md_pt M) (md_re M) (md_sd M) (md_be M) (md_pb M) (md_ac M) (md_od M) (md_ad M) (md_wy M) (md_so M) (md_rl M) (md_io M) (md_po M) (md_sp M) (md_rs M) (md_st M) (md_av M) (md_ip M) (md_tx M) (md_tm M) (md_ta M) (md_td M) (md_wo M) (md_sq M) (md_tk M) (md_bg M) (md_nu M) (md_wr M)) (hn30 : n ≤ 30) (x : Int32) (kx : xj v κ post z G 44 [some (.ref (xw_ad v 21 0)), some (.int x), some (.int (sm (fun j => if ra j = -1 then 0 else if x < ra j then 0 else md_ad M j) n)), some (.int (nI n))] []) : ∀ (m : Nat) (k : Nat), n - k < m → k ≤ n → xj v κ post z G 4 [some (.ref (xw_ad v 21 0)), some (.int x), some (.int (sm (fun j => if ra j = -1 then 0 else if x < ra j then 0 else md_ad M j) k)), some (.int (nI k))] [] := by
  intro m
  induction m with
  | zero => intro k h; exact absurd h (Nat.not_lt_zero _)
  | succ m ih =>
    intro k hm hi
    refine xj_iload_n (i := 3) hk dX8_admittedTo_4 rfl rfl ?_
    refine xj_aload_n (i := 0) hk dX8_admittedTo_5 rfl rfl ?_
    refine xj_callV hk hz (fr1 := 0) (lo1 := 0) (r1 := some (.int (nI n))) (As := []) (st := [.int (nI k)]) (st2 := [.int (nI n), .int (nI k)]) (G1 := G) ml_X8_73 (c_X8_many (M := M) (show G 21 = pM v (md_th M) (nR te ho ow hs ra lo (nI n) st av so ln) (md_pt M) (md_re M) (md_sd M) (md_be M) (md_pb M) (md_ac M) (md_od M) (md_ad M) (md_wy M) (md_so M) (md_rl M) (md_io M) (md_po M) (md_sp M) (md_rs M) (md_st M) (md_av M) (md_ip M) (md_tx M) (md_tm M) (md_ta M) (md_td M) (md_wo M) (md_sq M) (md_tk M) (md_bg M) (md_nu M) (md_wr M) from hM)) (xw_at hM rfl) rfl dX8_admittedTo_6 ⟨Nat.le_of_ble_eq_true rfl, Nat.le_of_ble_eq_true rfl⟩ rfl (Nat.le_of_ble_eq_true rfl) rfl rfl ?_
    refine xj_icmp_ge (tgt := 44) hk dX8_admittedTo_9 (by decide) (fun c9 => ?_) (fun c9 => ?_)
    · have c9 : n ≤ k := (nI_leI (a := n) (b := k) (by omega) (by omega)).mp c9
      have e9 : k = n := by omega
      subst e9
      exact kx
    · have c9 : ¬ n ≤ k := fun q => c9 ((nI_leI (a := n) (b := k) (by omega) (by omega)).mpr q)
      refine xj_aload_n (i := 0) hk dX8_admittedTo_12 rfl rfl ?_
      refine xj_iload_n (i := 3) hk dX8_admittedTo_13 rfl rfl ?_
      refine xj_callV hk hz (fr1 := 1) (lo1 := 21) (r1 := some (.int (xb (decide (ra k = -1))))) (As := [.int (nI k)]) (st := []) (st2 := [.int (xb (decide (ra k = -1)))]) (G1 := G) ml_X8_115 (c_X8_isPlain (b := k) (M := M) (show G 21 = pM v (md_th M) (nR te ho ow hs ra lo (nI n) st av so ln) (md_pt M) (md_re M) (md_sd M) (md_be M) (md_pb M) (md_ac M) (md_od M) (md_ad M) (md_wy M) (md_so M) (md_rl M) (md_io M) (md_po M) (md_sp M) (md_rs M) (md_st M) (md_av M) (md_ip M) (md_tx M) (md_tm M) (md_ta M) (md_td M) (md_wo M) (md_sq M) (md_tk M) (md_bg M) (md_nu M) (md_wr M) from hM) (by omega)) (xw_at hM rfl) rfl dX8_admittedTo_14 ⟨Nat.le_of_ble_eq_true rfl, Nat.le_of_ble_eq_true rfl⟩ rfl (Nat.le_of_ble_eq_true rfl) rfl rfl ?_
      refine xj_ifb_ne (tgt := 38) hk dX8_admittedTo_17 (by decide) (fun c17 => ?_) (fun c17 => ?_)
      · refine xj_iinc (i := 3) (x2 := nI (k + 1)) (ls2 := [some (.ref (xw_ad v 21 0)), some (.int x), some (.int (sm (fun j => if ra j = -1 then 0 else if x < ra j then 0 else md_ad M j) k)), some (.int (nI (k + 1)))]) hk dX8_admittedTo_38 rfl (nI_1 k) (by decide) rfl rfl ?_
        refine xj_goto (tgt := 4) hk dX8_admittedTo_41 (by decide) ?_
        refine xj.to (ls' := [some (.ref (xw_ad v 21 0)), some (.int x), some (.int (sm (fun j => if ra j = -1 then 0 else if x < ra j then 0 else md_ad M j) ((k + 1)))), some (.int (nI ((k + 1))))]) (by (try simp only [decide_eq_true_eq, decide_eq_false_iff_not] at c17); simp [sm, *]) (ih (k + 1) (by omega) (by omega))
      · refine xj_aload_n (i := 0) hk dX8_admittedTo_20 rfl rfl ?_
        refine xj_iload_n (i := 3) hk dX8_admittedTo_21 rfl rfl ?_
        refine xj_callV hk hz (fr1 := 0) (lo1 := 0) (r1 := some (.int (ra k))) (As := [.int (nI k)]) (st := []) (st2 := [.int (ra k)]) (G1 := G) ml_X8_77 (c_X8_rateOf (b := k) (M := M) (show G 21 = pM v (md_th M) (nR te ho ow hs ra lo (nI n) st av so ln) (md_pt M) (md_re M) (md_sd M) (md_be M) (md_pb M) (md_ac M) (md_od M) (md_ad M) (md_wy M) (md_so M) (md_rl M) (md_io M) (md_po M) (md_sp M) (md_rs M) (md_st M) (md_av M) (md_ip M) (md_tx M) (md_tm M) (md_ta M) (md_td M) (md_wo M) (md_sq M) (md_tk M) (md_bg M) (md_nu M) (md_wr M) from hM) (by omega)) (xw_at hM rfl) rfl dX8_admittedTo_22 ⟨Nat.le_of_ble_eq_true rfl, Nat.le_of_ble_eq_true rfl⟩ rfl (Nat.le_of_ble_eq_true rfl) rfl rfl ?_
        refine xj_iload_n (i := 1) hk dX8_admittedTo_25 rfl rfl ?_
        refine xj_icmp_gt (tgt := 38) hk dX8_admittedTo_26 (by decide) (fun c26 => ?_) (fun c26 => ?_)
        · refine xj_iinc (i := 3) (x2 := nI (k + 1)) (ls2 := [some (.ref (xw_ad v 21 0)), some (.int x), some (.int (sm (fun j => if ra j = -1 then 0 else if x < ra j then 0 else md_ad M j) k)), some (.int (nI (k + 1)))]) hk dX8_admittedTo_38 rfl (nI_1 k) (by decide) rfl rfl ?_
          refine xj_goto (tgt := 4) hk dX8_admittedTo_41 (by decide) ?_
          refine xj.to (ls' := [some (.ref (xw_ad v 21 0)), some (.int x), some (.int (sm (fun j => if ra j = -1 then 0 else if x < ra j then 0 else md_ad M j) ((k + 1)))), some (.int (nI ((k + 1))))]) (by (try simp only [decide_eq_true_eq, decide_eq_false_iff_not] at c17); simp [sm, *]) (ih (k + 1) (by omega) (by omega))
        · refine xj_iload_n (i := 2) hk dX8_admittedTo_29 rfl rfl ?_
          refine xj_aload_n (i := 0) hk dX8_admittedTo_30 rfl rfl ?_
          refine xj_getfield hk dX8_admittedTo_31 fl_X8_36 (xw_at hM rfl) rfl ?_
          refine xj_iload_n (i := 3) hk dX8_admittedTo_34 rfl rfl ?_
          refine xj_iaload (k := k) hk dX8_admittedTo_35 (xw_at hM rfl) (xi_n (by omega) (by decide)) ?_
          refine xj_iadd hk dX8_admittedTo_36 ?_
          refine xj_istore_n (i := 2) (ls2 := [some (.ref (xw_ad v 21 0)), some (.int x), some (.int ((sm (fun j => if ra j = -1 then 0 else if x < ra j then 0 else md_ad M j) k) + (md_ad M k))), some (.int (nI k))]) hk dX8_admittedTo_37 rfl (by decide) rfl rfl ?_
          refine xj_iinc (i := 3) (x2 := nI (k + 1)) (ls2 := [some (.ref (xw_ad v 21 0)), some (.int x), some (.int ((sm (fun j => if ra j = -1 then 0 else if x < ra j then 0 else md_ad M j) k) + (md_ad M k))), some (.int (nI (k + 1)))]) hk dX8_admittedTo_38 rfl (nI_1 k) (by decide) rfl rfl ?_
          refine xj_goto (tgt := 4) hk dX8_admittedTo_41 (by decide) ?_
          refine xj.to (ls' := [some (.ref (xw_ad v 21 0)), some (.int x), some (.int (sm (fun j => if ra j = -1 then 0 else if x < ra j then 0 else md_ad M j) ((k + 1)))), some (.int (nI ((k + 1))))]) (by (try simp only [decide_eq_true_eq, decide_eq_false_iff_not] at c17); simp [sm, *]) (ih (k + 1) (by omega) (by omega))

set_option maxHeartbeats 1000000 in
set_option maxRecDepth 10000 in
theorem c_X8_admittedTo {v : xw_V} {G : xw_G} {M : md_T} {te ho ow hs ra lo st av so : Nat → Int32} {ln : Int32} {n : Nat} (hM : G 21 = pM v (md_th M) (nR te ho ow hs ra lo (nI n) st av so ln) (md_pt M) (md_re M) (md_sd M) (md_be M) (md_pb M) (md_ac M) (md_od M) (md_ad M) (md_wy M) (md_so M) (md_rl M) (md_io M) (md_po M) (md_sp M) (md_rs M) (md_st M) (md_av M) (md_ip M) (md_tx M) (md_tm M) (md_ta M) (md_td M) (md_wo M) (md_sq M) (md_tk M) (md_bg M) (md_nu M) (md_wr M)) (hn30 : n ≤ 30) (x : Int32) : xk_Con v yX8_admittedTo cX8_admittedTo 4 (some .int) 2 42 [.ref (xw_ad v 21 0), .int x] G (xk_ret (some (.int (sm (fun j => if ra j = -1 then 0 else if x < ra j then 0 else md_ad M j) n))) G) := by
  refine xk_of (ls0 := [some (.ref (xw_ad v 21 0)), some (.int x), none, none]) (by decide) rfl (Nat.le_of_ble_eq_true rfl) ?_
  intro κ z hk hz
  refine xj_iconst (x := 0) hk dX8_admittedTo_0 (by decide) ?_
  refine xj_istore_n (i := 2) (ls2 := [some (.ref (xw_ad v 21 0)), some (.int x), some (.int 0), none]) hk dX8_admittedTo_1 rfl (by decide) rfl rfl ?_
  refine xj_iconst (x := 0) hk dX8_admittedTo_2 (by decide) ?_
  refine xj_istore_n (i := 3) (ls2 := [some (.ref (xw_ad v 21 0)), some (.int x), some (.int 0), some (.int 0)]) hk dX8_admittedTo_3 rfl (by decide) rfl rfl ?_
  refine l_X8_admittedTo_4 hk hz hM hn30 x ?_ (n + 1) 0 (by omega) (by omega)
  refine xj_iload_n (i := 2) hk dX8_admittedTo_44 rfl rfl ?_
  refine xj_ireturn hk hz dX8_admittedTo_45 ?_
  exact ⟨rfl, rfl⟩

/-- the first of the greatest rests among those that count -/
def mG (f : Nat → Bool) (rm : Nat → Int32) : Nat → Option Nat
  | 0 => none
  | k + 1 => if f k = true then (match mG f rm k with
    | none => some k
    | some b => if rm k ≤ rm b then some b else some k) else mG f rm k
theorem mG_lt {f : Nat → Bool} {rm : Nat → Int32} : ∀ {k b : Nat}, mG f rm k = some b → b < k := by
  intro k
  induction k with
  | zero => intro b h; simp [mG] at h
  | succ k ih =>
    intro b h
    simp only [mG] at h
    split at h
    · split at h
      · cases h; omega
      · rename_i c hc
        split at h
        · cases h; have := ih hc; omega
        · cases h; omega
    · have := ih h; omega
theorem mG_no {f : Nat → Bool} {rm : Nat → Int32} {k : Nat} (h : f k = false) : mG f rm (k + 1) = mG f rm k := by simp [mG, h]
theorem mG_n {f : Nat → Bool} {rm : Nat → Int32} {k : Nat} (h : f k = true) (q : mG f rm k = none) : mG f rm (k + 1) = some k := by simp [mG, h, q]
theorem mG_l {f : Nat → Bool} {rm : Nat → Int32} {k b : Nat} (h : f k = true) (q : mG f rm k = some b) (c : rm k ≤ rm b) : mG f rm (k + 1) = some b := by simp [mG, h, q, c]
theorem mG_g {f : Nat → Bool} {rm : Nat → Int32} {k b : Nat} (h : f k = true) (q : mG f rm k = some b) (c : ¬ rm k ≤ rm b) : mG f rm (k + 1) = some k := by
  simp only [mG]; rw [if_pos h, q]; simp only []; rw [if_neg c]
theorem oI_no {f : Nat → Bool} {rm : Nat → Int32} {k : Nat} (hk : k ≤ 30) (h : oI (mG f rm k) = -1) : mG f rm k = none := by
  cases q : mG f rm k with
  | none => rfl
  | some b =>
    rw [q] at h
    have hb := mG_lt q
    exact absurd (show nI b < 0 by rw [show nI b = -1 from h]; decide) (nI_pos (by omega))
theorem oI_yes {f : Nat → Bool} {rm : Nat → Int32} {k : Nat} (h : ¬ oI (mG f rm k) = -1) : ∃ b, mG f rm k = some b := by
  cases q : mG f rm k with
  | none => rw [q] at h; exact absurd rfl h
  | some b => exact ⟨b, rfl⟩
/-- l times: one more for the first of the greatest rests -/
def gS (rm : Nat → Int32) (n : Nat) : Nat → (Nat → Bool) → (Nat → Int32) → (Nat → Int32)
  | 0, _, so => so
  | l + 1, f, so => match mG f rm n with
    | none => so
    | some b => gS rm n l (xu f b false) (xu so b (so b + 1))
def gN (rm : Nat → Int32) (n : Nat) : Nat → (Nat → Bool) → Prop
  | 0, _ => True
  | l + 1, f => ∃ b, mG f rm n = some b ∧ gN rm n l (xu f b false)
theorem gS_s {rm : Nat → Int32} {n l b : Nat} {f : Nat → Bool} {so : Nat → Int32} (h : mG f rm n = some b) : gS rm n (l + 1) f so = gS rm n l (xu f b false) (xu so b (so b + 1)) := by simp only [gS, h]
def gT (f : Nat → Bool) (ad : Nat → Int32) : Nat → Int32 := fun j => if f j = true then ad j else 0
/-- what stays of x behind the first k shares -/
def gL (f : Nat → Bool) (sh : Nat → Int32) (x : Int32) : Nat → Int32
  | 0 => x
  | k + 1 => if f k = true then gL f sh x k - sh k else gL f sh x k
def gF (f : Nat → Bool) (sh so : Nat → Int32) : Nat → Int32 := fun j => if f j = true then sh j else so j
theorem io_x {f : Nat → Bool} {io : Nat → Int32} {n b : Nat} (h : ∀ j, j < n → io j = xb (f j)) : ∀ j, j < n → xu io b 0 j = xb (xu f b false j) := by
  intro j hj
  by_cases q : j = b
  · subst q; rw [xu_s, xu_s]; rfl
  · rw [xu_n q, xu_n q]; exact h j hj
set_option maxHeartbeats 1000000 in
set_option maxRecDepth 10000 in
theorem l_X8_gives_129 {v : xw_V} {κ : xk_K} {post : Option Value → xw_G → Prop} {z : Nat × Nat × Nat} {G : xw_G} {M : md_T} {te ho ow hs ra lo st av so : Nat → Int32} {ln : Int32} {n : Nat} {f : Nat → Bool} {io so1 : Nat → Int32} (hk : xk_Ok v κ yX8_gives cX8_gives 6 (some .boolean) 1 20) (hz : xk_zf κ = z) (hM : G 21 = pM v (md_th M) (nR te ho ow hs ra lo (nI n) st av so ln) (md_pt M) (md_re M) (md_sd M) (md_be M) (md_pb M) (md_ac M) (md_od M) (md_ad M) (md_wy M) (md_so M) (md_rl M) (md_io M) (md_po M) (md_sp M) (md_rs M) (md_st M) (md_av M) (md_ip M) (md_tx M) (md_tm M) (md_ta M) (md_td M) (md_wo M) (md_sq M) (md_tk M) (md_bg M) (md_nu M) (md_wr M)) (hn30 : n ≤ 30) (x to lf : Int32) (hd0 : ¬ to = 0) (hio : ∀ j, j < n → io j = xb (f j)) (kx : xj v κ post z (xw_up G 21 (pM v (md_th M) (nR te ho ow hs ra lo (nI n) st av so ln) (md_pt M) (md_re M) (md_sd M) (md_be M) (md_pb M) (md_ac M) (md_od M) (md_ad M) (md_wy M) so1 (md_rl M) io (md_po M) (md_sp M) (md_rs M) (md_st M) (md_av M) (md_ip M) (md_tx M) (md_tm M) (md_ta M) (md_td M) (md_wo M) (md_sq M) (md_tk M) (md_bg M) (md_nu M) (md_wr M))) 189 [some (.ref (xw_ad v 21 0)), some (.int x), some (.int to), some (.int lf), some (.int (oI (mG f (pM_ (md_ad M) x to) n))), some (.int (nI n))] []) : ∀ (m : Nat) (k : Nat), n - k < m → k ≤ n → xj v κ post z (xw_up G 21 (pM v (md_th M) (nR te ho ow hs ra lo (nI n) st av so ln) (md_pt M) (md_re M) (md_sd M) (md_be M) (md_pb M) (md_ac M) (md_od M) (md_ad M) (md_wy M) so1 (md_rl M) io (md_po M) (md_sp M) (md_rs M) (md_st M) (md_av M) (md_ip M) (md_tx M) (md_tm M) (md_ta M) (md_td M) (md_wo M) (md_sq M) (md_tk M) (md_bg M) (md_nu M) (md_wr M))) 129 [some (.ref (xw_ad v 21 0)), some (.int x), some (.int to), some (.int lf), some (.int (oI (mG f (pM_ (md_ad M) x to) k))), some (.int (nI k))] [] := by
  intro m
  induction m with
  | zero => intro k h; exact absurd h (Nat.not_lt_zero _)
  | succ m ih =>
    intro k hm hkn
    refine xj_iload hk dX8_gives_129 rfl ?_
    refine xj_aload_n (i := 0) hk dX8_gives_131 rfl rfl ?_
    refine xj_callV hk hz (fr1 := 0) (lo1 := 0) (r1 := some (.int (nI n))) (As := []) (st := [.int (nI k)]) (st2 := [.int (nI n), .int (nI k)]) (G1 := xw_up G 21 (pM v (md_th M) (nR te ho ow hs ra lo (nI n) st av so ln) (md_pt M) (md_re M) (md_sd M) (md_be M) (md_pb M) (md_ac M) (md_od M) (md_ad M) (md_wy M) so1 (md_rl M) io (md_po M) (md_sp M) (md_rs M) (md_st M) (md_av M) (md_ip M) (md_tx M) (md_tm M) (md_ta M) (md_td M) (md_wo M) (md_sq M) (md_tk M) (md_bg M) (md_nu M) (md_wr M))) ml_X8_73 (c_X8_many (M := (md_th M, nR te ho ow hs ra lo (nI n) st av so ln, md_pt M, md_re M, md_sd M, md_be M, md_pb M, md_ac M, md_od M, md_ad M, md_wy M, so1, md_rl M, io, md_po M, md_sp M, md_rs M, md_st M, md_av M, md_ip M, md_tx M, md_tm M, md_ta M, md_td M, md_wo M, md_sq M, md_tk M, md_bg M, md_nu M, md_wr M)) (show (xw_up G 21 (pM v (md_th M) (nR te ho ow hs ra lo (nI n) st av so ln) (md_pt M) (md_re M) (md_sd M) (md_be M) (md_pb M) (md_ac M) (md_od M) (md_ad M) (md_wy M) so1 (md_rl M) io (md_po M) (md_sp M) (md_rs M) (md_st M) (md_av M) (md_ip M) (md_tx M) (md_tm M) (md_ta M) (md_td M) (md_wo M) (md_sq M) (md_tk M) (md_bg M) (md_nu M) (md_wr M))) 21 = pM v (md_th M) (nR te ho ow hs ra lo (nI n) st av so ln) (md_pt M) (md_re M) (md_sd M) (md_be M) (md_pb M) (md_ac M) (md_od M) (md_ad M) (md_wy M) so1 (md_rl M) io (md_po M) (md_sp M) (md_rs M) (md_st M) (md_av M) (md_ip M) (md_tx M) (md_tm M) (md_ta M) (md_td M) (md_wo M) (md_sq M) (md_tk M) (md_bg M) (md_nu M) (md_wr M) from xw_up_s)) (xw_at xw_up_s rfl) rfl dX8_gives_132 ⟨Nat.le_of_ble_eq_true rfl, Nat.le_of_ble_eq_true rfl⟩ rfl (Nat.le_of_ble_eq_true rfl) rfl rfl ?_
    refine xj_icmp_ge (tgt := 189) hk dX8_gives_135 (by decide) (fun c135 => ?_) (fun c135 => ?_)
    · have c135 : n ≤ k := (nI_leI (a := n) (b := k) (by omega) (by omega)).mp c135
      have e9 : k = n := by omega
      subst e9
      exact kx
    · have c135 : ¬ n ≤ k := fun q => c135 ((nI_leI (a := n) (b := k) (by omega) (by omega)).mpr q)
      refine xj_aload_n (i := 0) hk dX8_gives_138 rfl rfl ?_
      refine xj_getfield hk dX8_gives_139 fl_X8_48 (xw_at xw_up_s rfl) rfl ?_
      refine xj_iload hk dX8_gives_142 rfl ?_
      refine xj_zaload (k := k) hk dX8_gives_144 (xw_at xw_up_s rfl) (xi_n (by omega) (by decide)) ?_
      refine xj.eqi (x' := xb (f k)) (hio k (by omega)) ?_
      refine xj_ifb_eq (tgt := 183) hk dX8_gives_145 (by decide) (fun c145 => ?_) (fun c145 => ?_)
      · refine xj_iinc (i := 5) (x2 := nI (k + 1)) (ls2 := [some (.ref (xw_ad v 21 0)), some (.int x), some (.int to), some (.int lf), some (.int (oI (mG f (pM_ (md_ad M) x to) k))), some (.int (nI (k + 1)))]) hk dX8_gives_183 rfl (nI_1 k) (by decide) rfl rfl ?_
        refine xj_goto (tgt := 129) hk dX8_gives_186 (by decide) ?_
        refine xj.to (ls' := [some (.ref (xw_ad v 21 0)), some (.int x), some (.int to), some (.int lf), some (.int (oI (mG f (pM_ (md_ad M) x to) (k + 1)))), some (.int (nI (k + 1)))]) (by rw [mG_no c145]) ?_
        exact ih (k + 1) (by omega) (by omega)
      · refine xj_iload hk dX8_gives_148 rfl ?_
        refine xj_iconst (x := (-1)) hk dX8_gives_150 (by decide) ?_
        refine xj_icmp_eq (tgt := 179) hk dX8_gives_151 (by decide) (fun c151 => ?_) (fun c151 => ?_)
        · refine xj_iload hk dX8_gives_179 rfl ?_
          refine xj_istore (i := 4) (ls2 := [some (.ref (xw_ad v 21 0)), some (.int x), some (.int to), some (.int lf), some (.int (nI k)), some (.int (nI k))]) hk dX8_gives_181 (by decide) rfl rfl ?_
          refine xj_iinc (i := 5) (x2 := nI (k + 1)) (ls2 := [some (.ref (xw_ad v 21 0)), some (.int x), some (.int to), some (.int lf), some (.int (nI k)), some (.int (nI (k + 1)))]) hk dX8_gives_183 rfl (nI_1 k) (by decide) rfl rfl ?_
          refine xj_goto (tgt := 129) hk dX8_gives_186 (by decide) ?_
          refine xj.to (ls' := [some (.ref (xw_ad v 21 0)), some (.int x), some (.int to), some (.int lf), some (.int (oI (mG f (pM_ (md_ad M) x to) (k + 1)))), some (.int (nI (k + 1)))]) (by rw [mG_n c145 (oI_no (by omega) c151)]; rfl) ?_
          exact ih (k + 1) (by omega) (by omega)
        · obtain ⟨b, hb⟩ := oI_yes c151
          have hbk := mG_lt hb
          refine xj.to (ls' := [some (.ref (xw_ad v 21 0)), some (.int x), some (.int to), some (.int lf), some (.int (nI b)), some (.int (nI k))]) (by rw [hb]; rfl) ?_
          refine xj_aload_n (i := 0) hk dX8_gives_154 rfl rfl ?_
          refine xj_getfield hk dX8_gives_155 fl_X8_36 (xw_at xw_up_s rfl) rfl ?_
          refine xj_iload hk dX8_gives_158 rfl ?_
          refine xj_iaload (k := k) hk dX8_gives_160 (xw_at xw_up_s rfl) (xi_n (by omega) (by decide)) ?_
          refine xj_iload_n (i := 1) hk dX8_gives_161 rfl rfl ?_
          refine xj_imul hk dX8_gives_162 ?_
          refine xj_iload_n (i := 2) hk dX8_gives_163 rfl rfl ?_
          refine xj_irem hk dX8_gives_164 hd0 ?_
          refine xj_aload_n (i := 0) hk dX8_gives_165 rfl rfl ?_
          refine xj_getfield hk dX8_gives_166 fl_X8_36 (xw_at xw_up_s rfl) rfl ?_
          refine xj_iload hk dX8_gives_169 rfl ?_
          refine xj_iaload (k := b) hk dX8_gives_171 (xw_at xw_up_s rfl) (xi_n (by omega) (by decide)) ?_
          refine xj_iload_n (i := 1) hk dX8_gives_172 rfl rfl ?_
          refine xj_imul hk dX8_gives_173 ?_
          refine xj_iload_n (i := 2) hk dX8_gives_174 rfl rfl ?_
          refine xj_irem hk dX8_gives_175 hd0 ?_
          refine xj_icmp_le (tgt := 183) hk dX8_gives_176 (by decide) (fun c176 => ?_) (fun c176 => ?_)
          · refine xj_iinc (i := 5) (x2 := nI (k + 1)) (ls2 := [some (.ref (xw_ad v 21 0)), some (.int x), some (.int to), some (.int lf), some (.int (nI b)), some (.int (nI (k + 1)))]) hk dX8_gives_183 rfl (nI_1 k) (by decide) rfl rfl ?_
            refine xj_goto (tgt := 129) hk dX8_gives_186 (by decide) ?_
            refine xj.to (ls' := [some (.ref (xw_ad v 21 0)), some (.int x), some (.int to), some (.int lf), some (.int (oI (mG f (pM_ (md_ad M) x to) (k + 1)))), some (.int (nI (k + 1)))]) (by rw [mG_l c145 hb c176]; rfl) ?_
            exact ih (k + 1) (by omega) (by omega)
          · refine xj_iload hk dX8_gives_179 rfl ?_
            refine xj_istore (i := 4) (ls2 := [some (.ref (xw_ad v 21 0)), some (.int x), some (.int to), some (.int lf), some (.int (nI k)), some (.int (nI k))]) hk dX8_gives_181 (by decide) rfl rfl ?_
            refine xj_iinc (i := 5) (x2 := nI (k + 1)) (ls2 := [some (.ref (xw_ad v 21 0)), some (.int x), some (.int to), some (.int lf), some (.int (nI k)), some (.int (nI (k + 1)))]) hk dX8_gives_183 rfl (nI_1 k) (by decide) rfl rfl ?_
            refine xj_goto (tgt := 129) hk dX8_gives_186 (by decide) ?_
            refine xj.to (ls' := [some (.ref (xw_ad v 21 0)), some (.int x), some (.int to), some (.int lf), some (.int (oI (mG f (pM_ (md_ad M) x to) (k + 1)))), some (.int (nI (k + 1)))]) (by rw [mG_g c145 hb c176]; rfl) ?_
            exact ih (k + 1) (by omega) (by omega)

set_option maxHeartbeats 1000000 in
set_option maxRecDepth 10000 in
theorem l_X8_gives_119 {v : xw_V} {κ : xk_K} {post : Option Value → xw_G → Prop} {z : Nat × Nat × Nat} {G : xw_G} {M : md_T} {te ho ow hs ra lo st av so : Nat → Int32} {ln : Int32} {n : Nat} {SF : Nat → Int32} (hk : xk_Ok v κ yX8_gives cX8_gives 6 (some .boolean) 1 20) (hz : xk_zf κ = z) (hM : G 21 = pM v (md_th M) (nR te ho ow hs ra lo (nI n) st av so ln) (md_pt M) (md_re M) (md_sd M) (md_be M) (md_pb M) (md_ac M) (md_od M) (md_ad M) (md_wy M) (md_so M) (md_rl M) (md_io M) (md_po M) (md_sp M) (md_rs M) (md_st M) (md_av M) (md_ip M) (md_tx M) (md_tm M) (md_ta M) (md_td M) (md_wo M) (md_sq M) (md_tk M) (md_bg M) (md_nu M) (md_wr M)) (hn30 : n ≤ 30) (x to : Int32) (hd0 : ¬ to = 0) (kx : ∀ io : Nat → Int32, xj v κ post z (xw_up G 21 (pM v (md_th M) (nR te ho ow hs ra lo (nI n) st av so ln) (md_pt M) (md_re M) (md_sd M) (md_be M) (md_pb M) (md_ac M) (md_od M) (md_ad M) (md_wy M) SF (md_rl M) io (md_po M) (md_sp M) (md_rs M) (md_st M) (md_av M) (md_ip M) (md_tx M) (md_tm M) (md_ta M) (md_td M) (md_wo M) (md_sq M) (md_tk M) (md_bg M) (md_nu M) (md_wr M))) 214 [some (.ref (xw_ad v 21 0)), some (.int x), some (.int to), some (.int (nI 0)), none, none] []) : ∀ (m : Nat) (l : Nat) (f : Nat → Bool) (io : Nat → Int32) (so1 : Nat → Int32), l < m → l < 2 ^ 31 → (∀ j, j < n → io j = xb (f j)) → gN (pM_ (md_ad M) x to) n l f → gS (pM_ (md_ad M) x to) n l f so1 = SF → xj v κ post z (xw_up G 21 (pM v (md_th M) (nR te ho ow hs ra lo (nI n) st av so ln) (md_pt M) (md_re M) (md_sd M) (md_be M) (md_pb M) (md_ac M) (md_od M) (md_ad M) (md_wy M) so1 (md_rl M) io (md_po M) (md_sp M) (md_rs M) (md_st M) (md_av M) (md_ip M) (md_tx M) (md_tm M) (md_ta M) (md_td M) (md_wo M) (md_sq M) (md_tk M) (md_bg M) (md_nu M) (md_wr M))) 119 [some (.ref (xw_ad v 21 0)), some (.int x), some (.int to), some (.int (nI l)), none, none] [] := by
  intro m
  induction m with
  | zero => intro l f io so1 h; exact absurd h (Nat.not_lt_zero _)
  | succ m ih =>
    intro l f io so1 hm hl31 hio hgN hSF
    refine xj_iload_n (i := 3) hk dX8_gives_119 rfl rfl ?_
    refine xj_if_le (tgt := 214) hk dX8_gives_120 (by decide) (fun c120 => ?_) (fun c120 => ?_)
    · have c120 : l ≤ 0 := (nI_leI (a := l) (b := 0) (by omega) (by omega)).mp c120
      have e9 : l = 0 := by omega
      subst e9
      simp only [gS] at hSF
      subst hSF
      exact kx _
    · have c120 : ¬ l ≤ 0 := fun q => c120 ((nI_leI (a := l) (b := 0) (by omega) (by omega)).mpr q)
      obtain ⟨l, rfl⟩ : ∃ l9, l = l9 + 1 := ⟨l - 1, by omega⟩
      obtain ⟨b, hb, hg⟩ := hgN
      have hbn := mG_lt hb
      refine xj_iconst (x := (-1)) hk dX8_gives_123 (by decide) ?_
      refine xj_istore (i := 4) (ls2 := [some (.ref (xw_ad v 21 0)), some (.int x), some (.int to), some (.int (nI (l + 1))), some (.int ((-1))), none]) hk dX8_gives_124 (by decide) rfl rfl ?_
      refine xj_iconst (x := 0) hk dX8_gives_126 (by decide) ?_
      refine xj_istore (i := 5) (ls2 := [some (.ref (xw_ad v 21 0)), some (.int x), some (.int to), some (.int (nI (l + 1))), some (.int ((-1))), some (.int 0)]) hk dX8_gives_127 (by decide) rfl rfl ?_
      refine xj.to (ls' := [some (.ref (xw_ad v 21 0)), some (.int x), some (.int to), some (.int (nI (l + 1))), some (.int (oI (mG f (pM_ (md_ad M) x to) 0))), some (.int (nI 0))]) rfl ?_
      refine l_X8_gives_129 (f := f) (io := io) hk hz hM hn30 x to (nI (l + 1)) hd0 hio ?_ (n + 1) 0 (by omega) (by omega)
      refine xj.to (ls' := [some (.ref (xw_ad v 21 0)), some (.int x), some (.int to), some (.int (nI (l + 1))), some (.int (nI b)), some (.int (nI n))]) (by rw [hb]; rfl) ?_
      refine xj_aload_n (i := 0) hk dX8_gives_189 rfl rfl ?_
      refine xj_getfield hk dX8_gives_190 fl_X8_42 (xw_at xw_up_s rfl) rfl ?_
      refine xj_iload hk dX8_gives_193 rfl ?_
      refine xj_dup2 hk dX8_gives_195 rfl rfl ?_
      refine xj_iaload (k := b) hk dX8_gives_196 (xw_at xw_up_s rfl) (xi_n (by omega) (by decide)) ?_
      refine xj_iconst (x := 1) hk dX8_gives_197 (by decide) ?_
      refine xj_iadd hk dX8_gives_198 ?_
      refine xj_iastore (k := b) (G2 := xw_up G 21 (pM v (md_th M) (nR te ho ow hs ra lo (nI n) st av so ln) (md_pt M) (md_re M) (md_sd M) (md_be M) (md_pb M) (md_ac M) (md_od M) (md_ad M) (md_wy M) (xu so1 b ((so1 b) + 1)) (md_rl M) io (md_po M) (md_sp M) (md_rs M) (md_st M) (md_av M) (md_ip M) (md_tx M) (md_tm M) (md_ta M) (md_td M) (md_wo M) (md_sq M) (md_tk M) (md_bg M) (md_nu M) (md_wr M))) hk dX8_gives_199 (xw_at xw_up_s rfl) (xi_n (by omega) (by decide)) (xw_wr2 rfl) ?_
      refine xj_aload_n (i := 0) hk dX8_gives_200 rfl rfl ?_
      refine xj_getfield hk dX8_gives_201 fl_X8_48 (xw_at xw_up_s rfl) rfl ?_
      refine xj_iload hk dX8_gives_204 rfl ?_
      refine xj_iconst (x := 0) hk dX8_gives_206 (by decide) ?_
      refine xj_zastore (k := b) (G2 := xw_up G 21 (pM v (md_th M) (nR te ho ow hs ra lo (nI n) st av so ln) (md_pt M) (md_re M) (md_sd M) (md_be M) (md_pb M) (md_ac M) (md_od M) (md_ad M) (md_wy M) (xu so1 b ((so1 b) + 1)) (md_rl M) (xu io b 0) (md_po M) (md_sp M) (md_rs M) (md_st M) (md_av M) (md_ip M) (md_tx M) (md_tm M) (md_ta M) (md_td M) (md_wo M) (md_sq M) (md_tk M) (md_bg M) (md_nu M) (md_wr M))) hk dX8_gives_207 (xw_at xw_up_s rfl) (xi_n (by omega) (by decide)) (by decide) (xw_wr2 rfl) ?_
      refine xj_iinc (i := 3) (x2 := nI (l + 1 - 1)) (ls2 := [some (.ref (xw_ad v 21 0)), some (.int x), some (.int to), some (.int (nI (l + 1 - 1))), some (.int (nI b)), some (.int (nI n))]) hk dX8_gives_208 rfl (nI_dec (by omega)) (by decide) rfl rfl ?_
      refine xj_goto (tgt := 119) hk dX8_gives_211 (by decide) ?_
      refine xj.le (ls' := [some (.ref (xw_ad v 21 0)), some (.int x), some (.int to), some (.int (nI (l + 1 - 1))), none, none]) (by simp [xl_le] <;> rfl) ?_
      exact ih l (xu f b false) _ _ (by omega) (by omega) (io_x hio) hg (by rw [← hSF, gS_s hb])


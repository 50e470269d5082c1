def okB (B : bk_T) (n r : Nat) : Prop := bk_bi B = nI n ∧ n ≤ 30 ∧ okOw (bk_ow B) ∧ okHs (bk_hs B) n ∧ bk_ln B = nI r ∧ r ≤ 8
/-- the class's object and all that it holds: the book, what was kept, the tape; the rest is scratch -/
def XB (v : xw_V) (G : xw_G) (B : bk_T) (n r e a : Nat) (K : Nat → bk_T) (t : tp_T) (l : Nat) : Prop := okB B n r ∧ e < 12 ∧ a ≤ 12 ∧ (∀ j, j < 12 → ∃ nj rj, okB (K j) nj rj) ∧ l ≤ 700 ∧ tp_le t = nI l ∧ ∃ (S : sl_T) (A : bk_T) (Q : sl_T) (rd : rd_T) (sw : sw_T), okO S ∧ okO Q ∧ G 0 = pc_X v ∧ G 1 = pc_B v 1 B ∧ G 2 = pc_S v 2 1 S ∧ G 3 = pc_B v 3 A ∧ G 4 = pc_S v 4 3 Q ∧ G 5 = pP v (nI e) (nI a) ∧ (∀ j, j < 12 → G (6 + j) = pc_B v (6 + j) (K j)) ∧ G 18 = pc_T v t ∧ G 19 = pc_R v rd ∧ G 20 = pc_W sw
def XF (G G' : xw_G) : Prop := ∀ g, 21 ≤ g → G' g = G g
theorem hasB_of {x : Int32} {m : Int32} {n : Nat} (hm : m = nI n) (hn : n ≤ 30) (h : hasB m x = true) : ∃ j, j < n ∧ x = nI j := by
  simp only [hasB, Bool.and_eq_true, Bool.not_eq_true', decide_eq_false_iff_not, hm] at h
  obtain ⟨j, hj, rfl⟩ := nI_of h.1
  refine ⟨j, ?_, rfl⟩
  rcases Nat.lt_or_ge j n with q | q
  · exact q
  · exact absurd (nI_le q hj) h.2
theorem hasB_nI {m : Int32} {j n : Nat} (hm : m = nI n) (hn : n ≤ 30) (h : j < n) : hasB m (nI j) = true := by
  simp only [hasB, Bool.and_eq_true, Bool.not_eq_true', decide_eq_false_iff_not, hm]
  exact ⟨nI_pos (by omega), nI_ge h (by omega)⟩
theorem isH_of {x : Int32} (h : isH x = true) : ∃ j, j < 8 ∧ x = nI j := hasB_of (m := 8) (n := 8) rfl (by omega) h
theorem isR_of {x : Int32} (h : isR x = true) : ∃ j, j ≤ 999 ∧ x = nI j := by
  simp only [isR, Bool.and_eq_true, Bool.not_eq_true', decide_eq_false_iff_not] at h
  obtain ⟨j, hj, rfl⟩ := nI_of h.1
  refine ⟨j, ?_, rfl⟩
  rcases Nat.lt_or_ge 999 j with q | q
  · exact absurd (nI_lt (a := 999) q hj) h.2
  · exact q
theorem xn_nI {j : Nat} (h : j < 2 ^ 31) : xn (nI j) = j := nI_clamp h
theorem RecS_io {B : bk_T} {n : Nat} {S S' : sl_T} (h : RecS B n S S') : sl_io S' = nI n := by obtain ⟨p, so1, re1, a1, a2, a3, a4, -⟩ := h; exact a4
theorem RecS_od {B : bk_T} {n : Nat} {S S' : sl_T} (h : RecS B n S S') : ∃ p, pls n (sl_od S') p ∧ inj n p := by obtain ⟨p, so1, re1, a1, a2, -⟩ := h; exact ⟨p, a1, a2⟩
set_option maxHeartbeats 1000000 in
set_option maxRecDepth 10000 in
theorem c_X7_standing {v : xw_V} {G : xw_G} {B : bk_T} {S : sl_T} {n : Nat} (g0 : G 0 = pc_X v) (g1 : G 1 = pc_B v 1 B) (g2 : G 2 = pc_S v 2 1 S) (okS : okO S) (hn : bk_bi B = nI n) (hn30 : n ≤ 30) (how : okOw (bk_ow B)) (hhs : okHs (bk_hs B) n) : xk_Con v yX7_standing cX7_standing 1 (some (.object "BillTender$Sale")) 5 117 [.ref (xw_ad v 0 0)] G (fun r G' => ∃ S1 : sl_T, RecS B n S S1 ∧ r = some (.ref (xw_ad v 2 0)) ∧ G' = xw_up G 2 (pc_S v 2 1 S1)) := by
  refine xk_of (ls0 := [some (.ref (xw_ad v 0 0))]) (by decide) rfl (Nat.le_of_ble_eq_true rfl) ?_
  intro κ z hk hz
  refine xj_aload_n (i := 0) hk dX7_standing_0 rfl rfl ?_
  refine xj_getfield hk dX7_standing_1 fl_X7_21 (xw_at g0 rfl) rfl ?_
  refine xj_callVE hk hz (fr1 := 4) (lo1 := 97) (As := []) (st := []) ml_X7_316 (c_X4_reckon (n := n) (show G 2 = pc_S v 2 1 S from g2) (show G 1 = pc_B v 1 B from g1) (by decide) hn hn30 okS how hhs) (xw_at g2 rfl) rfl dX7_standing_4 ⟨Nat.le_of_ble_eq_true rfl, Nat.le_of_ble_eq_true rfl⟩ rfl (Nat.le_of_ble_eq_true rfl) rfl ?_
  rintro _ _ ⟨rfl, S1, hS1, rfl⟩
  show xj v κ _ z (xw_up G 2 (pc_S v 2 1 S1)) 7 _ []
  refine xj_aload_n (i := 0) hk dX7_standing_7 rfl rfl ?_
  refine xj_getfield hk dX7_standing_8 fl_X7_21 (xw_at (show (xw_up G 2 (pc_S v 2 1 S1)) 0 = pc_X v from by rw [xw_up_n (by decide), g0]) rfl) rfl ?_
  refine xj_areturn hk hz dX7_standing_11 ?_
  exact ⟨S1, hS1, rfl, rfl⟩

set_option maxHeartbeats 1000000 in
set_option maxRecDepth 10000 in
theorem c_X7_tried {v : xw_V} {G : xw_G} {B : bk_T} {S : sl_T} {n : Nat} (g0 : G 0 = pc_X v) (g1 : G 3 = pc_B v 3 B) (g2 : G 4 = pc_S v 4 3 S) (okS : okO S) (hn : bk_bi B = nI n) (hn30 : n ≤ 30) (how : okOw (bk_ow B)) (hhs : okHs (bk_hs B) n) : xk_Con v yX7_tried cX7_tried 1 (some (.object "BillTender$Sale")) 5 117 [.ref (xw_ad v 0 0)] G (fun r G' => ∃ S1 : sl_T, RecS B n S S1 ∧ r = some (.ref (xw_ad v 4 0)) ∧ G' = xw_up G 4 (pc_S v 4 3 S1)) := by
  refine xk_of (ls0 := [some (.ref (xw_ad v 0 0))]) (by decide) rfl (Nat.le_of_ble_eq_true rfl) ?_
  intro κ z hk hz
  refine xj_aload_n (i := 0) hk dX7_tried_0 rfl rfl ?_
  refine xj_getfield hk dX7_tried_1 fl_X7_28 (xw_at g0 rfl) rfl ?_
  refine xj_callVE hk hz (fr1 := 4) (lo1 := 97) (As := []) (st := []) ml_X7_316 (c_X4_reckon (n := n) (show G 4 = pc_S v 4 3 S from g2) (show G 3 = pc_B v 3 B from g1) (by decide) hn hn30 okS how hhs) (xw_at g2 rfl) rfl dX7_tried_4 ⟨Nat.le_of_ble_eq_true rfl, Nat.le_of_ble_eq_true rfl⟩ rfl (Nat.le_of_ble_eq_true rfl) rfl ?_
  rintro _ _ ⟨rfl, S1, hS1, rfl⟩
  show xj v κ _ z (xw_up G 4 (pc_S v 4 3 S1)) 7 _ []
  refine xj_aload_n (i := 0) hk dX7_tried_7 rfl rfl ?_
  refine xj_getfield hk dX7_tried_8 fl_X7_28 (xw_at (show (xw_up G 4 (pc_S v 4 3 S1)) 0 = pc_X v from by rw [xw_up_n (by decide), g0]) rfl) rfl ?_
  refine xj_areturn hk hz dX7_tried_11 ?_
  exact ⟨S1, hS1, rfl, rfl⟩

theorem sw_out7 {x : Int32} (h0 : ¬ x = 0) (h1 : ¬ x = 1) (h2 : ¬ x = 2) (h3 : ¬ x = 3) (h4 : ¬ x = 4) (h5 : ¬ x = 5) (h6 : ¬ x = 6) : x.toInt < 0 ∨ 6 < x.toInt := by
  simp only [← Int32.toInt_inj] at h0 h1 h2 h3 h4 h5 h6
  simp at h0 h1 h2 h3 h4 h5 h6
  omega
theorem sw_out6 {x : Int32} (h0 : ¬ x = 0) (h1 : ¬ x = 1) (h2 : ¬ x = 2) (h3 : ¬ x = 3) (h4 : ¬ x = 4) (h5 : ¬ x = 5) : x.toInt < 0 ∨ 5 < x.toInt := by
  simp only [← Int32.toInt_inj] at h0 h1 h2 h3 h4 h5
  simp at h0 h1 h2 h3 h4 h5
  omega
theorem sw_out5 {x : Int32} (h0 : ¬ x = 0) (h1 : ¬ x = 1) (h2 : ¬ x = 2) (h3 : ¬ x = 3) (h4 : ¬ x = 4) : x.toInt < 0 ∨ 4 < x.toInt := by
  simp only [← Int32.toInt_inj] at h0 h1 h2 h3 h4
  simp at h0 h1 h2 h3 h4
  omega
theorem sw_out3 {x : Int32} (h0 : ¬ x = 0) (h1 : ¬ x = 1) (h2 : ¬ x = 2) : x.toInt < 0 ∨ 2 < x.toInt := by
  simp only [← Int32.toInt_inj] at h0 h1 h2
  simp at h0 h1 h2
  omega
theorem sw_out9 {x : Int32} (h0 : ¬ x = 0) (h1 : ¬ x = 1) (h2 : ¬ x = 2) (h3 : ¬ x = 3) (h4 : ¬ x = 4) (h5 : ¬ x = 5) (h6 : ¬ x = 6) (h7 : ¬ x = 7) (h8 : ¬ x = 8) : x.toInt < 0 ∨ 8 < x.toInt := by
  simp only [← Int32.toInt_inj] at h0 h1 h2 h3 h4 h5 h6 h7 h8
  simp at h0 h1 h2 h3 h4 h5 h6 h7 h8
  omega
def q_asTerm (te : Nat → Int32) (w : Int32) : Int32 := if w < 0 then -1 else if w < 7 then te (xn w) else -1
def q_of (B : bk_T) (S : sl_T) (b w : Int32) : Int32 := if hasB (bk_bi B) b then (if w = 0 then bk_hs B (xn b) else if w = 1 then (if bk_ra B (xn b) = -1 then -2 else bk_ra B (xn b)) else if w = 2 then bk_lo B (xn b) else if w = 3 then sl_ad S (xn b) else if w = 4 then sl_wy S (xn b) else if w = 5 then sl_so S (xn b) else -1) else -1
def q_pays (B : bk_T) (S : sl_T) (b : Int32) : Int64 := if hasB (bk_bi B) b then payF B S (xn b) else -1
def q_house (B : bk_T) (S : sl_T) (n : Nat) (h w : Int32) : Int32 := if isH h then (if w = 0 then bk_ho B (xn h) else if w = 1 then sl_ro S (xn (bk_ow B (xn h))) else if w = 2 then sm (sel (bk_hs B) h (bk_lo B)) n else if w = 3 then sm (sel (bk_hs B) h (sl_ad S)) n else if w = 4 then sm (sel (bk_hs B) h (sl_so S)) n else if w = 5 then bk_ow B (xn h) else if w = 6 then ownd (bk_ow B) h else -1) else -1
def q_hpays (B : bk_T) (S : sl_T) (n : Nat) (h : Int32) : Int64 := if isH h then sml (fun j => if bk_hs B j = h then payF B S j else 0) n else -1
def q_mean (B : bk_T) (S : sl_T) (n : Nat) (h : Int32) : Int64 := if isH h then (if sm (sel (bk_hs B) h (sl_so S)) n ≤ 0 then -2 else sml (fun j => if bk_hs B j = h then payF B S j else 0) n / (sm (sel (bk_hs B) h (sl_so S)) n).toInt64) else -1
def q_filled (B : bk_T) (S : sl_T) (b : Int32) : Int32 := if hasB (bk_bi B) b then (if 1 ≤ bk_lo B (xn b) then sl_so S (xn b) * 100 / bk_lo B (xn b) else -1) else -1
/-- the dearest of the first k: which, how much -/
def q_dear (f : Nat → Int64) : Nat → Int32 × Int64
  | 0 => (-2, -1)
  | k + 1 => if lg_cmp (f k) (q_dear f k).2 ≤ 0 then q_dear f k else (nI k, f k)
def q_price (te : Nat → Int32) (x : Int32) : Int32 := if isR x then pric te x else -1
def q_upTo (B : bk_T) (S : sl_T) (n : Nat) (x : Int32) : Int32 := if isR x then sm (fun j => if bk_ra B j = -1 then 0 else if x < bk_ra B j then 0 else sl_ad S j) n else -1
def q_ranked (B : bk_T) (S : sl_T) (b : Int32) : Int32 := if hasB (bk_bi B) b then sl_od S (xn b) else -1
def sUnd (B : bk_T) (S : sl_T) (n : Nat) (x : Int32) : Int32 := sm (fun j => if bk_ow B (xn (bk_hs B j)) = x then sl_so S j else 0) n
def q_full (B : bk_T) (S : sl_T) (n : Nat) : Int32 := sm (fun o => if sUnd B S n (nI o) ≤ 0 then 0 else if sUnd B S n (nI o) < sl_ro S o then 0 else 1) 8
def hdr (B : bk_T) (S : sl_T) (n : Nat) (h : Nat) : Int32 := sm (sel (bk_hs B) (nI h) (sl_so S)) n * 100 / (sl_sp S + sl_sr S)
def q_crowd (B : bk_T) (S : sl_T) (n : Nat) : Int32 := if 1 ≤ sl_sp S + sl_sr S then sm (fun h => hdr B S n h * hdr B S n h) 8 else 0
def q_record (B : bk_T) (k w : Int32) : Int32 := if hasB (bk_ln B) k then (if w = 0 then bk_st B (xn k) else if w = 1 then bk_av B (xn k) else if w = 2 then bk_so B (xn k) else -1) else -1
def q_records (B : bk_T) (r : Nat) (w : Int32) : Int32 := if w = 0 then sm (bk_so B) r else if w = 1 then mst (bk_st B) r else if w = 2 then gst (bk_st B) r else if w = 3 then lst (bk_st B) r else -1
def q_rpaid (B : bk_T) (k : Int32) : Int64 := if hasB (bk_ln B) k then bk_pa B (xn k) else -1
def q_count (B : bk_T) (S : sl_T) (n r a l : Nat) (w : Int32) : Int32 := if w = 0 then nI n else if w = 1 then sm (fun j => if bk_ra B j = -1 then 1 else 0) n else if w = 2 then nI r else if w = 3 then nI a else if w = 4 then nI l else if w = 5 then sm (fun j => if sl_wy S j = 1 then 1 else 0) n else if w = 6 then sm (fun j => if sl_wy S j = 2 then 1 else 0) n else if w = 7 then sm (fun j => if sm (sel (bk_hs B) (nI j) (bk_lo B)) n ≤ 0 then 0 else 1) 8 else if w = 8 then sm (fun j => if ownd (bk_ow B) (nI j) ≤ 0 then 0 else 1) 8 else -1
theorem payF_ag {B : bk_T} {n j : Nat} {S R : sl_T} (h : agS n S R) (hj : j < n) : payF B S j = payF B R j := by
  obtain ⟨h1, h2, h3, h4, h5, h6, h7, h8, h9, h10, h11, h12⟩ := h
  simp only [payF, rateP, (h1 j hj).2.2.2, h9, h12]
theorem selso_ag {B : bk_T} {n : Nat} {S R : sl_T} {x : Int32} (h : agS n S R) : sm (sel (bk_hs B) x (sl_so S)) n = sm (sel (bk_hs B) x (sl_so R)) n := sm_congr (fun j hj => by simp only [sel, (h.1 j hj).2.2.2])
theorem selad_ag {f : Nat → Int32} {n : Nat} {S R : sl_T} {x : Int32} (h : agS n S R) : sm (sel f x (sl_ad S)) n = sm (sel f x (sl_ad R)) n := sm_congr (fun j hj => by simp only [sel, (h.1 j hj).2.1])
theorem selso2_ag {f : Nat → Int32} {n : Nat} {S R : sl_T} {x : Int32} (h : agS n S R) : sm (sel f x (sl_so S)) n = sm (sel f x (sl_so R)) n := sm_congr (fun j hj => by simp only [sel, (h.1 j hj).2.2.2])
theorem fig_ag {B : bk_T} {n : Nat} {S R : sl_T} (x : Int32) (h : agS n S R) : fig B S n x = fig B R n x := by
  obtain ⟨h1, h2, h3, h4, h5, h6, h7, h8, h9, h10, h11, h12⟩ := h
  have e : sm (fun j => if bk_ra B j = sl_st S then (if sl_ad S j ≤ 0 then 0 else 1) else 0) n = sm (fun j => if bk_ra B j = sl_st R then (if sl_ad R j ≤ 0 then 0 else 1) else 0) n := sm_congr (fun j hj => by rw [(h1 j hj).2.1, h9])
  simp only [fig]
  rw [e, h4, h5, h6, h7, h8, h9, h10, h11, h12]
theorem q_of_ag {B : bk_T} {n : Nat} {S R : sl_T} (b w : Int32) (hn : bk_bi B = nI n) (hn30 : n ≤ 30) (h : agS n S R) : q_of B S b w = q_of B R b w := by
  simp only [q_of]
  by_cases c : hasB (bk_bi B) b = true
  · obtain ⟨j, hj, rfl⟩ := hasB_of hn hn30 c
    rw [xn_nI (by omega), (h.1 j hj).2.1, (h.1 j hj).2.2.1, (h.1 j hj).2.2.2]
  · simp [c]
theorem q_house_ag {B : bk_T} {n : Nat} {S R : sl_T} (x w : Int32) (how : okOw (bk_ow B)) (h : agS n S R) : q_house B S n x w = q_house B R n x w := by
  simp only [q_house]
  by_cases c : isH x = true
  · obtain ⟨j, hj, rfl⟩ := isH_of c
    rw [selad_ag h, selso_ag h, xn_nI (by omega), h.2.1 _ (how j hj).2.2]
  · simp [c]
theorem hp_ag {B : bk_T} {n : Nat} {S R : sl_T} {x : Int32} (h : agS n S R) : sml (fun j => if bk_hs B j = x then payF B S j else 0) n = sml (fun j => if bk_hs B j = x then payF B R j else 0) n := sml_congr (fun j hj => by rw [payF_ag h hj])
theorem pa_ag {B : bk_T} {n : Nat} {S R : sl_T} (h : agS n S R) : sml (payF B S) n = sml (payF B R) n := sml_congr (fun j hj => payF_ag h hj)
theorem dear_ag {f g : Nat → Int64} : ∀ {n : Nat}, (∀ j, j < n → f j = g j) → q_dear f n = q_dear g n
  | 0, _ => rfl
  | n + 1, h => by simp only [q_dear, dear_ag (fun j hj => h j (Nat.lt_succ_of_lt hj)), h n (Nat.lt_succ_self n)]
theorem und_ag {B : bk_T} {n : Nat} {S R : sl_T} {x : Int32} (h : agS n S R) : sUnd B S n x = sUnd B R n x := sm_congr (fun j hj => by rw [(h.1 j hj).2.2.2])
theorem full_ag {B : bk_T} {n : Nat} {S R : sl_T} (h : agS n S R) : q_full B S n = q_full B R n := sm_congr (fun o ho => by rw [und_ag h, h.2.1 o ho])
theorem crowd_ag {B : bk_T} {n : Nat} {S R : sl_T} (h : agS n S R) : q_crowd B S n = q_crowd B R n := by
  have e : ∀ k, hdr B S n k = hdr B R n k := fun k => by simp only [hdr]; rw [selso_ag h, h.2.2.2.2.2.2.1, h.2.2.2.2.2.2.2.2.2.1]
  simp only [q_crowd]
  rw [h.2.2.2.2.2.2.1, h.2.2.2.2.2.2.2.2.2.1, sm_congr (fun k _ => by rw [e k])]
theorem upTo_ag {B : bk_T} {n : Nat} {S R : sl_T} {x : Int32} (h : agS n S R) : sm (fun j => if bk_ra B j = -1 then 0 else if x < bk_ra B j then 0 else sl_ad S j) n = sm (fun j => if bk_ra B j = -1 then 0 else if x < bk_ra B j then 0 else sl_ad R j) n := sm_congr (fun j hj => by rw [(h.1 j hj).2.1])
theorem bAt_ag {B : bk_T} {n : Nat} {S R : sl_T} {x : Int32} (h : agS n S R) : sm (fun j => if bk_ra B j = x then (if sl_ad S j ≤ 0 then 0 else 1) else 0) n = sm (fun j => if bk_ra B j = x then (if sl_ad R j ≤ 0 then 0 else 1) else 0) n := sm_congr (fun j hj => by rw [(h.1 j hj).2.1])
theorem wy_ag {n : Nat} {S R : sl_T} {x : Int32} (h : agS n S R) : sm (fun j => if sl_wy S j = x then 1 else 0) n = sm (fun j => if sl_wy R j = x then 1 else 0) n := sm_congr (fun j hj => by rw [(h.1 j hj).2.2.1])
theorem q_pays_ag {B : bk_T} {n : Nat} {S R : sl_T} (b : Int32) (hn : bk_bi B = nI n) (hn30 : n ≤ 30) (h : agS n S R) : q_pays B S b = q_pays B R b := by
  simp only [q_pays]
  by_cases c : hasB (bk_bi B) b = true
  · obtain ⟨j, hj, rfl⟩ := hasB_of hn hn30 c
    rw [xn_nI (by omega), payF_ag h hj]
  · simp [c]
theorem q_filled_ag {B : bk_T} {n : Nat} {S R : sl_T} (b : Int32) (hn : bk_bi B = nI n) (hn30 : n ≤ 30) (h : agS n S R) : q_filled B S b = q_filled B R b := by
  simp only [q_filled]
  by_cases c : hasB (bk_bi B) b = true
  · obtain ⟨j, hj, rfl⟩ := hasB_of hn hn30 c
    rw [xn_nI (by omega), (h.1 j hj).2.2.2]
  · simp [c]
theorem q_ranked_ag {B : bk_T} {n : Nat} {S R : sl_T} (b : Int32) (hn : bk_bi B = nI n) (hn30 : n ≤ 30) (h : agS n S R) : q_ranked B S b = q_ranked B R b := by
  simp only [q_ranked]
  by_cases c : hasB (bk_bi B) b = true
  · obtain ⟨j, hj, rfl⟩ := hasB_of hn hn30 c
    rw [xn_nI (by omega), (h.1 j hj).1]
  · simp [c]
theorem q_hpays_ag {B : bk_T} {n : Nat} {S R : sl_T} (x : Int32) (h : agS n S R) : q_hpays B S n x = q_hpays B R n x := by simp only [q_hpays]; rw [hp_ag h]
theorem q_mean_ag {B : bk_T} {n : Nat} {S R : sl_T} (x : Int32) (h : agS n S R) : q_mean B S n x = q_mean B R n x := by simp only [q_mean]; rw [hp_ag h, selso_ag h]
theorem q_upTo_ag {B : bk_T} {n : Nat} {S R : sl_T} (x : Int32) (h : agS n S R) : q_upTo B S n x = q_upTo B R n x := by simp only [q_upTo]; rw [upTo_ag h]
theorem q_count_ag {B : bk_T} {n r a l : Nat} {S R : sl_T} (x : Int32) (h : agS n S R) : q_count B S n r a l x = q_count B R n r a l x := by simp only [q_count]; rw [wy_ag h, wy_ag h]
theorem i64ne {x : Int32} (h : ¬ x ≤ 0) : ¬ x.toInt64 = 0 := by
  intro q
  have e := congrArg Int64.toInt q
  rw [Int32.toInt_toInt64] at e
  apply h
  rw [Int32.le_iff_toInt_le, e]
  decide
theorem i1ne {x : Int32} (h : 1 ≤ x) : ¬ x = 0 := by rintro rfl; exact absurd h (by decide)
set_option maxHeartbeats 1000000 in
set_option maxRecDepth 10000 in
theorem c_X7_asTerm {v : xw_V} {G : xw_G} {B : bk_T} {n r e a l : Nat} {K : Nat → bk_T} {t : tp_T} (hX : XB v G B n r e a K t l) (w : Int32) : xk_Con v yX7_asTerm cX7_asTerm 2 (some .int) 0 0 [.ref (xw_ad v 0 0), .int w] G (fun r9 G' => r9 = some (.int (q_asTerm (bk_te B) w)) ∧ XB v G' B n r e a K t l ∧ XF G G') := by
  refine xk_of (ls0 := [some (.ref (xw_ad v 0 0)), some (.int w)]) (by decide) rfl (Nat.le_of_ble_eq_true rfl) ?_
  intro κ z hk hz
  obtain ⟨okb, he12, ha12, hK0, hl700, htl, S, A, Q, rd, sw, okS, okQ, g0, g1, g2, g3, g4, g5, gK, g18, g19, g20⟩ := hX
  obtain ⟨hn, hn30, how, hhs, hr, hr8⟩ := id okb
  refine xj_iload_n (i := 1) hk dX7_asTerm_0 rfl rfl ?_
  refine xj_if_lt (tgt := 10) hk dX7_asTerm_1 (by decide) (fun c1 => ?_) (fun c1 => ?_)
  · refine xj_iconst (x := (-1)) hk dX7_asTerm_10 (by decide) ?_
    refine xj_goto (tgt := 23) hk dX7_asTerm_11 (by decide) ?_
    refine xj_ireturn hk hz dX7_asTerm_23 ?_
    refine ⟨?_, ⟨okb, he12, ha12, hK0, hl700, htl, S, A, Q, rd, sw, okS, okQ, (show G 0 = pc_X v from g0), (show G 1 = pc_B v 1 B from g1), (show G 2 = pc_S v 2 1 S from g2), (show G 3 = pc_B v 3 A from g3), (show G 4 = pc_S v 4 3 Q from g4), (show G 5 = pc_P v (nI e, nI a) from g5), gK, (show G 18 = pc_T v t from g18), (show G 19 = pc_R v rd from g19), (show G 20 = pc_W  sw from g20)⟩, (fun _ _ => rfl)⟩
    simp [q_asTerm, c1]
  · refine xj_iload_n (i := 1) hk dX7_asTerm_4 rfl rfl ?_
    refine xj_bipush (x := 7) hk dX7_asTerm_5 (by decide) ?_
    refine xj_icmp_lt (tgt := 14) hk dX7_asTerm_7 (by decide) (fun c7 => ?_) (fun c7 => ?_)
    · refine xj_aload_n (i := 0) hk dX7_asTerm_14 rfl rfl ?_
      refine xj_getfield hk dX7_asTerm_15 fl_X7_10 (xw_at g0 rfl) rfl ?_
      refine xj_getfield hk dX7_asTerm_18 fl_X7_127 (xw_at g1 rfl) rfl ?_
      refine xj_iload_n (i := 1) hk dX7_asTerm_21 rfl rfl ?_
      refine xj_iaload (k := xn w) hk dX7_asTerm_22 (xw_at g1 rfl) (xi_7 c1 (Int32.not_le.mpr c7)) ?_
      refine xj_ireturn hk hz dX7_asTerm_23 ?_
      refine ⟨?_, ⟨okb, he12, ha12, hK0, hl700, htl, S, A, Q, rd, sw, okS, okQ, (show G 0 = pc_X v from g0), (show G 1 = pc_B v 1 B from g1), (show G 2 = pc_S v 2 1 S from g2), (show G 3 = pc_B v 3 A from g3), (show G 4 = pc_S v 4 3 Q from g4), (show G 5 = pc_P v (nI e, nI a) from g5), gK, (show G 18 = pc_T v t from g18), (show G 19 = pc_R v rd from g19), (show G 20 = pc_W  sw from g20)⟩, (fun _ _ => rfl)⟩
      simp [q_asTerm, c1, c7]
    · refine xj_iconst (x := (-1)) hk dX7_asTerm_10 (by decide) ?_
      refine xj_goto (tgt := 23) hk dX7_asTerm_11 (by decide) ?_
      refine xj_ireturn hk hz dX7_asTerm_23 ?_
      refine ⟨?_, ⟨okb, he12, ha12, hK0, hl700, htl, S, A, Q, rd, sw, okS, okQ, (show G 0 = pc_X v from g0), (show G 1 = pc_B v 1 B from g1), (show G 2 = pc_S v 2 1 S from g2), (show G 3 = pc_B v 3 A from g3), (show G 4 = pc_S v 4 3 Q from g4), (show G 5 = pc_P v (nI e, nI a) from g5), gK, (show G 18 = pc_T v t from g18), (show G 19 = pc_R v rd from g19), (show G 20 = pc_W  sw from g20)⟩, (fun _ _ => rfl)⟩
      simp [q_asTerm, c1, c7]

set_option maxHeartbeats 1000000 in
set_option maxRecDepth 10000 in
theorem c_X7_of {v : xw_V} {G : xw_G} {B : bk_T} {n r e a l : Nat} {K : Nat → bk_T} {t : tp_T} (hX : XB v G B n r e a K t l) (b : Int32) (w : Int32) : xk_Con v yX7_of cX7_of 4 (some .int) 6 137 [.ref (xw_ad v 0 0), .int b, .int w] G (fun r9 G' => r9 = some (.int (q_of B (kR B n) b w)) ∧ XB v G' B n r e a K t l ∧ XF G G') := by
  refine xk_of (ls0 := [some (.ref (xw_ad v 0 0)), some (.int b), some (.int w), none]) (by decide) rfl (Nat.le_of_ble_eq_true rfl) ?_
  intro κ z hk hz
  obtain ⟨okb, he12, ha12, hK0, hl700, htl, S, A, Q, rd, sw, okS, okQ, g0, g1, g2, g3, g4, g5, gK, g18, g19, g20⟩ := hX
  obtain ⟨hn, hn30, how, hhs, hr, hr8⟩ := id okb
  refine xj_aload_n (i := 0) hk dX7_of_0 rfl rfl ?_
  refine xj_getfield hk dX7_of_1 fl_X7_10 (xw_at g0 rfl) rfl ?_
  refine xj_iload_n (i := 1) hk dX7_of_4 rfl rfl ?_
  refine xj_callV hk hz (fr1 := 0) (lo1 := 0) (r1 := some (.int (xb (hasB (bk_bi B) b)))) (As := [.int b]) (st := []) (st2 := [.int (xb (hasB (bk_bi B) b))]) (G1 := G) ml_X7_103 (c_X0_hasBid (show G 1 = pc_B v 1 B from g1) b) (xw_at g1 rfl) rfl dX7_of_5 ⟨Nat.le_of_ble_eq_true rfl, Nat.le_of_ble_eq_true rfl⟩ rfl (Nat.le_of_ble_eq_true rfl) rfl rfl ?_
  refine xj_ifb_ne (tgt := 13) hk dX7_of_8 (by decide) (fun c8 => ?_) (fun c8 => ?_)
  · obtain ⟨j, hj_j, rfl⟩ := hasB_of hn hn30 c8
    refine xj_aload_n (i := 0) hk dX7_of_13 rfl rfl ?_
    refine xj_callVE hk hz (fr1 := 5) (lo1 := 117) (As := []) (st := []) ml_X7_142 (c_X7_standing (n := n) (show G 0 = pc_X v from g0) (show G 1 = pc_B v 1 B from g1) (show G 2 = pc_S v 2 1 S from g2) okS hn hn30 how hhs) (xw_at g0 rfl) rfl dX7_of_14 ⟨Nat.le_of_ble_eq_true rfl, Nat.le_of_ble_eq_true rfl⟩ rfl (Nat.le_of_ble_eq_true rfl) rfl ?_
    rintro _ _ ⟨S1, hS1, rfl, rfl⟩
    have hag := kR_ag how hhs hS1
    have hio := RecS_io hS1
    show xj v κ _ z (xw_up G 2 (pc_S v 2 1 S1)) 17 _ [.ref (xw_ad v 2 0)]
    refine xj_astore_n (i := 3) (ls2 := [some (.ref (xw_ad v 0 0)), some (.int (nI j)), some (.int w), some (.ref (xw_ad v 2 0))]) hk dX7_of_17 rfl (by decide) rfl rfl ?_
    refine xj_iload_n (i := 2) hk dX7_of_18 rfl rfl ?_
    by_cases s19_0 : w = 0
    · refine xj_swIn (tgt := 56) (off := 37) hk dX7_of_19 (by rw [s19_0]; decide) (by rw [s19_0]; decide) (by rw [s19_0]; decide) (by decide) ?_
      refine xj_aload_n (i := 0) hk dX7_of_56 rfl rfl ?_
      refine xj_getfield hk dX7_of_57 fl_X7_10 (xw_at (show (xw_up G 2 (pc_S v 2 1 S1)) 0 = pc_X v from by rw [xw_up_n (by decide), g0]) rfl) rfl ?_
      refine xj_getfield hk dX7_of_60 fl_X7_133 (xw_at (show (xw_up G 2 (pc_S v 2 1 S1)) 1 = pc_B v 1 B from by rw [xw_up_n (by decide), g1]) rfl) rfl ?_
      refine xj_iload_n (i := 1) hk dX7_of_63 rfl rfl ?_
      refine xj_iaload (k := j) hk dX7_of_64 (xw_at (show (xw_up G 2 (pc_S v 2 1 S1)) 1 = pc_B v 1 B from by rw [xw_up_n (by decide), g1]) rfl) (xi_n (by omega) (by decide)) ?_
      refine xj_ireturn hk hz dX7_of_65 ?_
      refine ⟨?_, ⟨okb, he12, ha12, hK0, hl700, htl, S1, A, Q, rd, sw, (Rec_okO hn30 hS1), okQ, (show (xw_up G 2 (pc_S v 2 1 S1)) 0 = pc_X v from (show (xw_up G 2 (pc_S v 2 1 S1)) 0 = pc_X v from by rw [xw_up_n (by decide), g0])), (show (xw_up G 2 (pc_S v 2 1 S1)) 1 = pc_B v 1 B from (show (xw_up G 2 (pc_S v 2 1 S1)) 1 = pc_B v 1 B from by rw [xw_up_n (by decide), g1])), (show (xw_up G 2 (pc_S v 2 1 S1)) 2 = pc_S v 2 1 S1 from xw_up_s), (show (xw_up G 2 (pc_S v 2 1 S1)) 3 = pc_B v 3 A from (show (xw_up G 2 (pc_S v 2 1 S1)) 3 = pc_B v 3 A from by rw [xw_up_n (by decide), g3])), (show (xw_up G 2 (pc_S v 2 1 S1)) 4 = pc_S v 4 3 Q from (show (xw_up G 2 (pc_S v 2 1 S1)) 4 = pc_S v 4 3 Q from by rw [xw_up_n (by decide), g4])), (show (xw_up G 2 (pc_S v 2 1 S1)) 5 = pc_P v (nI e, nI a) from (show (xw_up G 2 (pc_S v 2 1 S1)) 5 = pP v (nI e) (nI a) from by rw [xw_up_n (by decide), g5])), (fun j9 h9 => by rw [xw_up_n (by omega)]; exact gK j9 h9), (show (xw_up G 2 (pc_S v 2 1 S1)) 18 = pc_T v t from (show (xw_up G 2 (pc_S v 2 1 S1)) 18 = pc_T v t from by rw [xw_up_n (by decide), g18])), (show (xw_up G 2 (pc_S v 2 1 S1)) 19 = pc_R v rd from (show (xw_up G 2 (pc_S v 2 1 S1)) 19 = pc_R v rd from by rw [xw_up_n (by decide), g19])), (show (xw_up G 2 (pc_S v 2 1 S1)) 20 = pc_W  sw from (show (xw_up G 2 (pc_S v 2 1 S1)) 20 = pc_W  sw from by rw [xw_up_n (by decide), g20]))⟩, (fun g h9 => by rw [xw_up_n (by omega)])⟩
      rw [← q_of_ag _ _ hn hn30 hag]
      simp [q_of, c8, xn_nI (show j < 2 ^ 31 by omega), s19_0]
    by_cases s19_1 : w = 1
    · refine xj_swIn (tgt := 66) (off := 47) hk dX7_of_19 (by rw [s19_1]; decide) (by rw [s19_1]; decide) (by rw [s19_1]; decide) (by decide) ?_
      refine xj_aload_n (i := 0) hk dX7_of_66 rfl rfl ?_
      refine xj_getfield hk dX7_of_67 fl_X7_10 (xw_at (show (xw_up G 2 (pc_S v 2 1 S1)) 0 = pc_X v from by rw [xw_up_n (by decide), g0]) rfl) rfl ?_
      refine xj_getfield hk dX7_of_70 fl_X7_120 (xw_at (show (xw_up G 2 (pc_S v 2 1 S1)) 1 = pc_B v 1 B from by rw [xw_up_n (by decide), g1]) rfl) rfl ?_
      refine xj_iload_n (i := 1) hk dX7_of_73 rfl rfl ?_
      refine xj_iaload (k := j) hk dX7_of_74 (xw_at (show (xw_up G 2 (pc_S v 2 1 S1)) 1 = pc_B v 1 B from by rw [xw_up_n (by decide), g1]) rfl) (xi_n (by omega) (by decide)) ?_
      refine xj_iconst (x := (-1)) hk dX7_of_75 (by decide) ?_
      refine xj_icmp_ne (tgt := 84) hk dX7_of_76 (by decide) (fun c76 => ?_) (fun c76 => ?_)
      · refine xj_aload_n (i := 0) hk dX7_of_84 rfl rfl ?_
        refine xj_getfield hk dX7_of_85 fl_X7_10 (xw_at (show (xw_up G 2 (pc_S v 2 1 S1)) 0 = pc_X v from by rw [xw_up_n (by decide), g0]) rfl) rfl ?_
        refine xj_getfield hk dX7_of_88 fl_X7_120 (xw_at (show (xw_up G 2 (pc_S v 2 1 S1)) 1 = pc_B v 1 B from by rw [xw_up_n (by decide), g1]) rfl) rfl ?_
        refine xj_iload_n (i := 1) hk dX7_of_91 rfl rfl ?_
        refine xj_iaload (k := j) hk dX7_of_92 (xw_at (show (xw_up G 2 (pc_S v 2 1 S1)) 1 = pc_B v 1 B from by rw [xw_up_n (by decide), g1]) rfl) (xi_n (by omega) (by decide)) ?_
        refine xj_ireturn hk hz dX7_of_93 ?_
        refine ⟨?_, ⟨okb, he12, ha12, hK0, hl700, htl, S1, A, Q, rd, sw, (Rec_okO hn30 hS1), okQ, (show (xw_up G 2 (pc_S v 2 1 S1)) 0 = pc_X v from (show (xw_up G 2 (pc_S v 2 1 S1)) 0 = pc_X v from by rw [xw_up_n (by decide), g0])), (show (xw_up G 2 (pc_S v 2 1 S1)) 1 = pc_B v 1 B from (show (xw_up G 2 (pc_S v 2 1 S1)) 1 = pc_B v 1 B from by rw [xw_up_n (by decide), g1])), (show (xw_up G 2 (pc_S v 2 1 S1)) 2 = pc_S v 2 1 S1 from xw_up_s), (show (xw_up G 2 (pc_S v 2 1 S1)) 3 = pc_B v 3 A from (show (xw_up G 2 (pc_S v 2 1 S1)) 3 = pc_B v 3 A from by rw [xw_up_n (by decide), g3])), (show (xw_up G 2 (pc_S v 2 1 S1)) 4 = pc_S v 4 3 Q from (show (xw_up G 2 (pc_S v 2 1 S1)) 4 = pc_S v 4 3 Q from by rw [xw_up_n (by decide), g4])), (show (xw_up G 2 (pc_S v 2 1 S1)) 5 = pc_P v (nI e, nI a) from (show (xw_up G 2 (pc_S v 2 1 S1)) 5 = pP v (nI e) (nI a) from by rw [xw_up_n (by decide), g5])), (fun j9 h9 => by rw [xw_up_n (by omega)]; exact gK j9 h9), (show (xw_up G 2 (pc_S v 2 1 S1)) 18 = pc_T v t from (show (xw_up G 2 (pc_S v 2 1 S1)) 18 = pc_T v t from by rw [xw_up_n (by decide), g18])), (show (xw_up G 2 (pc_S v 2 1 S1)) 19 = pc_R v rd from (show (xw_up G 2 (pc_S v 2 1 S1)) 19 = pc_R v rd from by rw [xw_up_n (by decide), g19])), (show (xw_up G 2 (pc_S v 2 1 S1)) 20 = pc_W  sw from (show (xw_up G 2 (pc_S v 2 1 S1)) 20 = pc_W  sw from by rw [xw_up_n (by decide), g20]))⟩, (fun g h9 => by rw [xw_up_n (by omega)])⟩
        rw [← q_of_ag _ _ hn hn30 hag]
        simp [q_of, c8, xn_nI (show j < 2 ^ 31 by omega), s19_0, s19_1, c76]
      · refine xj_bipush (x := (-2)) hk dX7_of_79 (by decide) ?_
        refine xj_goto (tgt := 93) hk dX7_of_81 (by decide) ?_
        refine xj_ireturn hk hz dX7_of_93 ?_
        refine ⟨?_, ⟨okb, he12, ha12, hK0, hl700, htl, S1, A, Q, rd, sw, (Rec_okO hn30 hS1), okQ, (show (xw_up G 2 (pc_S v 2 1 S1)) 0 = pc_X v from (show (xw_up G 2 (pc_S v 2 1 S1)) 0 = pc_X v from by rw [xw_up_n (by decide), g0])), (show (xw_up G 2 (pc_S v 2 1 S1)) 1 = pc_B v 1 B from (show (xw_up G 2 (pc_S v 2 1 S1)) 1 = pc_B v 1 B from by rw [xw_up_n (by decide), g1])), (show (xw_up G 2 (pc_S v 2 1 S1)) 2 = pc_S v 2 1 S1 from xw_up_s), (show (xw_up G 2 (pc_S v 2 1 S1)) 3 = pc_B v 3 A from (show (xw_up G 2 (pc_S v 2 1 S1)) 3 = pc_B v 3 A from by rw [xw_up_n (by decide), g3])), (show (xw_up G 2 (pc_S v 2 1 S1)) 4 = pc_S v 4 3 Q from (show (xw_up G 2 (pc_S v 2 1 S1)) 4 = pc_S v 4 3 Q from by rw [xw_up_n (by decide), g4])), (show (xw_up G 2 (pc_S v 2 1 S1)) 5 = pc_P v (nI e, nI a) from (show (xw_up G 2 (pc_S v 2 1 S1)) 5 = pP v (nI e) (nI a) from by rw [xw_up_n (by decide), g5])), (fun j9 h9 => by rw [xw_up_n (by omega)]; exact gK j9 h9), (show (xw_up G 2 (pc_S v 2 1 S1)) 18 = pc_T v t from (show (xw_up G 2 (pc_S v 2 1 S1)) 18 = pc_T v t from by rw [xw_up_n (by decide), g18])), (show (xw_up G 2 (pc_S v 2 1 S1)) 19 = pc_R v rd from (show (xw_up G 2 (pc_S v 2 1 S1)) 19 = pc_R v rd from by rw [xw_up_n (by decide), g19])), (show (xw_up G 2 (pc_S v 2 1 S1)) 20 = pc_W  sw from (show (xw_up G 2 (pc_S v 2 1 S1)) 20 = pc_W  sw from by rw [xw_up_n (by decide), g20]))⟩, (fun g h9 => by rw [xw_up_n (by omega)])⟩
        rw [← q_of_ag _ _ hn hn30 hag]
        simp [q_of, c8, xn_nI (show j < 2 ^ 31 by omega), s19_0, s19_1, c76]
    by_cases s19_2 : w = 2
    · refine xj_swIn (tgt := 94) (off := 75) hk dX7_of_19 (by rw [s19_2]; decide) (by rw [s19_2]; decide) (by rw [s19_2]; decide) (by decide) ?_
      refine xj_aload_n (i := 0) hk dX7_of_94 rfl rfl ?_
      refine xj_getfield hk dX7_of_95 fl_X7_10 (xw_at (show (xw_up G 2 (pc_S v 2 1 S1)) 0 = pc_X v from by rw [xw_up_n (by decide), g0]) rfl) rfl ?_
      refine xj_getfield hk dX7_of_98 fl_X7_116 (xw_at (show (xw_up G 2 (pc_S v 2 1 S1)) 1 = pc_B v 1 B from by rw [xw_up_n (by decide), g1]) rfl) rfl ?_
      refine xj_iload_n (i := 1) hk dX7_of_101 rfl rfl ?_
      refine xj_iaload (k := j) hk dX7_of_102 (xw_at (show (xw_up G 2 (pc_S v 2 1 S1)) 1 = pc_B v 1 B from by rw [xw_up_n (by decide), g1]) rfl) (xi_n (by omega) (by decide)) ?_
      refine xj_ireturn hk hz dX7_of_103 ?_
      refine ⟨?_, ⟨okb, he12, ha12, hK0, hl700, htl, S1, A, Q, rd, sw, (Rec_okO hn30 hS1), okQ, (show (xw_up G 2 (pc_S v 2 1 S1)) 0 = pc_X v from (show (xw_up G 2 (pc_S v 2 1 S1)) 0 = pc_X v from by rw [xw_up_n (by decide), g0])), (show (xw_up G 2 (pc_S v 2 1 S1)) 1 = pc_B v 1 B from (show (xw_up G 2 (pc_S v 2 1 S1)) 1 = pc_B v 1 B from by rw [xw_up_n (by decide), g1])), (show (xw_up G 2 (pc_S v 2 1 S1)) 2 = pc_S v 2 1 S1 from xw_up_s), (show (xw_up G 2 (pc_S v 2 1 S1)) 3 = pc_B v 3 A from (show (xw_up G 2 (pc_S v 2 1 S1)) 3 = pc_B v 3 A from by rw [xw_up_n (by decide), g3])), (show (xw_up G 2 (pc_S v 2 1 S1)) 4 = pc_S v 4 3 Q from (show (xw_up G 2 (pc_S v 2 1 S1)) 4 = pc_S v 4 3 Q from by rw [xw_up_n (by decide), g4])), (show (xw_up G 2 (pc_S v 2 1 S1)) 5 = pc_P v (nI e, nI a) from (show (xw_up G 2 (pc_S v 2 1 S1)) 5 = pP v (nI e) (nI a) from by rw [xw_up_n (by decide), g5])), (fun j9 h9 => by rw [xw_up_n (by omega)]; exact gK j9 h9), (show (xw_up G 2 (pc_S v 2 1 S1)) 18 = pc_T v t from (show (xw_up G 2 (pc_S v 2 1 S1)) 18 = pc_T v t from by rw [xw_up_n (by decide), g18])), (show (xw_up G 2 (pc_S v 2 1 S1)) 19 = pc_R v rd from (show (xw_up G 2 (pc_S v 2 1 S1)) 19 = pc_R v rd from by rw [xw_up_n (by decide), g19])), (show (xw_up G 2 (pc_S v 2 1 S1)) 20 = pc_W  sw from (show (xw_up G 2 (pc_S v 2 1 S1)) 20 = pc_W  sw from by rw [xw_up_n (by decide), g20]))⟩, (fun g h9 => by rw [xw_up_n (by omega)])⟩
      rw [← q_of_ag _ _ hn hn30 hag]
      simp [q_of, c8, xn_nI (show j < 2 ^ 31 by omega), s19_0, s19_1, s19_2]
    by_cases s19_3 : w = 3
    · refine xj_swIn (tgt := 104) (off := 85) hk dX7_of_19 (by rw [s19_3]; decide) (by rw [s19_3]; decide) (by rw [s19_3]; decide) (by decide) ?_
      refine xj_aload_n (i := 3) hk dX7_of_104 rfl rfl ?_
      refine xj_getfield hk dX7_of_105 fl_X7_184 (xw_at xw_up_s rfl) rfl ?_
      refine xj_iload_n (i := 1) hk dX7_of_108 rfl rfl ?_
      refine xj_iaload (k := j) hk dX7_of_109 (xw_at xw_up_s rfl) (xi_n (by omega) (by decide)) ?_
      refine xj_ireturn hk hz dX7_of_110 ?_
      refine ⟨?_, ⟨okb, he12, ha12, hK0, hl700, htl, S1, A, Q, rd, sw, (Rec_okO hn30 hS1), okQ, (show (xw_up G 2 (pc_S v 2 1 S1)) 0 = pc_X v from (show (xw_up G 2 (pc_S v 2 1 S1)) 0 = pc_X v from by rw [xw_up_n (by decide), g0])), (show (xw_up G 2 (pc_S v 2 1 S1)) 1 = pc_B v 1 B from (show (xw_up G 2 (pc_S v 2 1 S1)) 1 = pc_B v 1 B from by rw [xw_up_n (by decide), g1])), (show (xw_up G 2 (pc_S v 2 1 S1)) 2 = pc_S v 2 1 S1 from xw_up_s), (show (xw_up G 2 (pc_S v 2 1 S1)) 3 = pc_B v 3 A from (show (xw_up G 2 (pc_S v 2 1 S1)) 3 = pc_B v 3 A from by rw [xw_up_n (by decide), g3])), (show (xw_up G 2 (pc_S v 2 1 S1)) 4 = pc_S v 4 3 Q from (show (xw_up G 2 (pc_S v 2 1 S1)) 4 = pc_S v 4 3 Q from by rw [xw_up_n (by decide), g4])), (show (xw_up G 2 (pc_S v 2 1 S1)) 5 = pc_P v (nI e, nI a) from (show (xw_up G 2 (pc_S v 2 1 S1)) 5 = pP v (nI e) (nI a) from by rw [xw_up_n (by decide), g5])), (fun j9 h9 => by rw [xw_up_n (by omega)]; exact gK j9 h9), (show (xw_up G 2 (pc_S v 2 1 S1)) 18 = pc_T v t from (show (xw_up G 2 (pc_S v 2 1 S1)) 18 = pc_T v t from by rw [xw_up_n (by decide), g18])), (show (xw_up G 2 (pc_S v 2 1 S1)) 19 = pc_R v rd from (show (xw_up G 2 (pc_S v 2 1 S1)) 19 = pc_R v rd from by rw [xw_up_n (by decide), g19])), (show (xw_up G 2 (pc_S v 2 1 S1)) 20 = pc_W  sw from (show (xw_up G 2 (pc_S v 2 1 S1)) 20 = pc_W  sw from by rw [xw_up_n (by decide), g20]))⟩, (fun g h9 => by rw [xw_up_n (by omega)])⟩
      rw [← q_of_ag _ _ hn hn30 hag]
      simp [q_of, c8, xn_nI (show j < 2 ^ 31 by omega), s19_0, s19_1, s19_2, s19_3]
    by_cases s19_4 : w = 4
    · refine xj_swIn (tgt := 111) (off := 92) hk dX7_of_19 (by rw [s19_4]; decide) (by rw [s19_4]; decide) (by rw [s19_4]; decide) (by decide) ?_
      refine xj_aload_n (i := 3) hk dX7_of_111 rfl rfl ?_
      refine xj_getfield hk dX7_of_112 fl_X7_187 (xw_at xw_up_s rfl) rfl ?_
      refine xj_iload_n (i := 1) hk dX7_of_115 rfl rfl ?_
      refine xj_iaload (k := j) hk dX7_of_116 (xw_at xw_up_s rfl) (xi_n (by omega) (by decide)) ?_
      refine xj_ireturn hk hz dX7_of_117 ?_
      refine ⟨?_, ⟨okb, he12, ha12, hK0, hl700, htl, S1, A, Q, rd, sw, (Rec_okO hn30 hS1), okQ, (show (xw_up G 2 (pc_S v 2 1 S1)) 0 = pc_X v from (show (xw_up G 2 (pc_S v 2 1 S1)) 0 = pc_X v from by rw [xw_up_n (by decide), g0])), (show (xw_up G 2 (pc_S v 2 1 S1)) 1 = pc_B v 1 B from (show (xw_up G 2 (pc_S v 2 1 S1)) 1 = pc_B v 1 B from by rw [xw_up_n (by decide), g1])), (show (xw_up G 2 (pc_S v 2 1 S1)) 2 = pc_S v 2 1 S1 from xw_up_s), (show (xw_up G 2 (pc_S v 2 1 S1)) 3 = pc_B v 3 A from (show (xw_up G 2 (pc_S v 2 1 S1)) 3 = pc_B v 3 A from by rw [xw_up_n (by decide), g3])), (show (xw_up G 2 (pc_S v 2 1 S1)) 4 = pc_S v 4 3 Q from (show (xw_up G 2 (pc_S v 2 1 S1)) 4 = pc_S v 4 3 Q from by rw [xw_up_n (by decide), g4])), (show (xw_up G 2 (pc_S v 2 1 S1)) 5 = pc_P v (nI e, nI a) from (show (xw_up G 2 (pc_S v 2 1 S1)) 5 = pP v (nI e) (nI a) from by rw [xw_up_n (by decide), g5])), (fun j9 h9 => by rw [xw_up_n (by omega)]; exact gK j9 h9), (show (xw_up G 2 (pc_S v 2 1 S1)) 18 = pc_T v t from (show (xw_up G 2 (pc_S v 2 1 S1)) 18 = pc_T v t from by rw [xw_up_n (by decide), g18])), (show (xw_up G 2 (pc_S v 2 1 S1)) 19 = pc_R v rd from (show (xw_up G 2 (pc_S v 2 1 S1)) 19 = pc_R v rd from by rw [xw_up_n (by decide), g19])), (show (xw_up G 2 (pc_S v 2 1 S1)) 20 = pc_W  sw from (show (xw_up G 2 (pc_S v 2 1 S1)) 20 = pc_W  sw from by rw [xw_up_n (by decide), g20]))⟩, (fun g h9 => by rw [xw_up_n (by omega)])⟩
      rw [← q_of_ag _ _ hn hn30 hag]
      simp [q_of, c8, xn_nI (show j < 2 ^ 31 by omega), s19_0, s19_1, s19_2, s19_3, s19_4]
    by_cases s19_5 : w = 5
    · refine xj_swIn (tgt := 118) (off := 99) hk dX7_of_19 (by rw [s19_5]; decide) (by rw [s19_5]; decide) (by rw [s19_5]; decide) (by decide) ?_
      refine xj_aload_n (i := 3) hk dX7_of_118 rfl rfl ?_
      refine xj_getfield hk dX7_of_119 fl_X7_190 (xw_at xw_up_s rfl) rfl ?_
      refine xj_iload_n (i := 1) hk dX7_of_122 rfl rfl ?_
      refine xj_iaload (k := j) hk dX7_of_123 (xw_at xw_up_s rfl) (xi_n (by omega) (by decide)) ?_
      refine xj_ireturn hk hz dX7_of_124 ?_
      refine ⟨?_, ⟨okb, he12, ha12, hK0, hl700, htl, S1, A, Q, rd, sw, (Rec_okO hn30 hS1), okQ, (show (xw_up G 2 (pc_S v 2 1 S1)) 0 = pc_X v from (show (xw_up G 2 (pc_S v 2 1 S1)) 0 = pc_X v from by rw [xw_up_n (by decide), g0])), (show (xw_up G 2 (pc_S v 2 1 S1)) 1 = pc_B v 1 B from (show (xw_up G 2 (pc_S v 2 1 S1)) 1 = pc_B v 1 B from by rw [xw_up_n (by decide), g1])), (show (xw_up G 2 (pc_S v 2 1 S1)) 2 = pc_S v 2 1 S1 from xw_up_s), (show (xw_up G 2 (pc_S v 2 1 S1)) 3 = pc_B v 3 A from (show (xw_up G 2 (pc_S v 2 1 S1)) 3 = pc_B v 3 A from by rw [xw_up_n (by decide), g3])), (show (xw_up G 2 (pc_S v 2 1 S1)) 4 = pc_S v 4 3 Q from (show (xw_up G 2 (pc_S v 2 1 S1)) 4 = pc_S v 4 3 Q from by rw [xw_up_n (by decide), g4])), (show (xw_up G 2 (pc_S v 2 1 S1)) 5 = pc_P v (nI e, nI a) from (show (xw_up G 2 (pc_S v 2 1 S1)) 5 = pP v (nI e) (nI a) from by rw [xw_up_n (by decide), g5])), (fun j9 h9 => by rw [xw_up_n (by omega)]; exact gK j9 h9), (show (xw_up G 2 (pc_S v 2 1 S1)) 18 = pc_T v t from (show (xw_up G 2 (pc_S v 2 1 S1)) 18 = pc_T v t from by rw [xw_up_n (by decide), g18])), (show (xw_up G 2 (pc_S v 2 1 S1)) 19 = pc_R v rd from (show (xw_up G 2 (pc_S v 2 1 S1)) 19 = pc_R v rd from by rw [xw_up_n (by decide), g19])), (show (xw_up G 2 (pc_S v 2 1 S1)) 20 = pc_W  sw from (show (xw_up G 2 (pc_S v 2 1 S1)) 20 = pc_W  sw from by rw [xw_up_n (by decide), g20]))⟩, (fun g h9 => by rw [xw_up_n (by omega)])⟩
      rw [← q_of_ag _ _ hn hn30 hag]
      simp [q_of, c8, xn_nI (show j < 2 ^ 31 by omega), s19_0, s19_1, s19_2, s19_3, s19_4, s19_5]
    refine xj_swOut (tgt := 125) hk dX7_of_19 (sw_out6 s19_0 s19_1 s19_2 s19_3 s19_4 s19_5) (by decide) ?_
    refine xj_iconst (x := (-1)) hk dX7_of_125 (by decide) ?_
    refine xj_ireturn hk hz dX7_of_126 ?_
    refine ⟨?_, ⟨okb, he12, ha12, hK0, hl700, htl, S1, A, Q, rd, sw, (Rec_okO hn30 hS1), okQ, (show (xw_up G 2 (pc_S v 2 1 S1)) 0 = pc_X v from (show (xw_up G 2 (pc_S v 2 1 S1)) 0 = pc_X v from by rw [xw_up_n (by decide), g0])), (show (xw_up G 2 (pc_S v 2 1 S1)) 1 = pc_B v 1 B from (show (xw_up G 2 (pc_S v 2 1 S1)) 1 = pc_B v 1 B from by rw [xw_up_n (by decide), g1])), (show (xw_up G 2 (pc_S v 2 1 S1)) 2 = pc_S v 2 1 S1 from xw_up_s), (show (xw_up G 2 (pc_S v 2 1 S1)) 3 = pc_B v 3 A from (show (xw_up G 2 (pc_S v 2 1 S1)) 3 = pc_B v 3 A from by rw [xw_up_n (by decide), g3])), (show (xw_up G 2 (pc_S v 2 1 S1)) 4 = pc_S v 4 3 Q from (show (xw_up G 2 (pc_S v 2 1 S1)) 4 = pc_S v 4 3 Q from by rw [xw_up_n (by decide), g4])), (show (xw_up G 2 (pc_S v 2 1 S1)) 5 = pc_P v (nI e, nI a) from (show (xw_up G 2 (pc_S v 2 1 S1)) 5 = pP v (nI e) (nI a) from by rw [xw_up_n (by decide), g5])), (fun j9 h9 => by rw [xw_up_n (by omega)]; exact gK j9 h9), (show (xw_up G 2 (pc_S v 2 1 S1)) 18 = pc_T v t from (show (xw_up G 2 (pc_S v 2 1 S1)) 18 = pc_T v t from by rw [xw_up_n (by decide), g18])), (show (xw_up G 2 (pc_S v 2 1 S1)) 19 = pc_R v rd from (show (xw_up G 2 (pc_S v 2 1 S1)) 19 = pc_R v rd from by rw [xw_up_n (by decide), g19])), (show (xw_up G 2 (pc_S v 2 1 S1)) 20 = pc_W  sw from (show (xw_up G 2 (pc_S v 2 1 S1)) 20 = pc_W  sw from by rw [xw_up_n (by decide), g20]))⟩, (fun g h9 => by rw [xw_up_n (by omega)])⟩
    rw [← q_of_ag _ _ hn hn30 hag]
    simp [q_of, c8, xn_nI (show j < 2 ^ 31 by omega), s19_0, s19_1, s19_2, s19_3, s19_4, s19_5]
  · refine xj_iconst (x := (-1)) hk dX7_of_11 (by decide) ?_
    refine xj_ireturn hk hz dX7_of_12 ?_
    refine ⟨?_, ⟨okb, he12, ha12, hK0, hl700, htl, S, A, Q, rd, sw, okS, okQ, (show G 0 = pc_X v from g0), (show G 1 = pc_B v 1 B from g1), (show G 2 = pc_S v 2 1 S from g2), (show G 3 = pc_B v 3 A from g3), (show G 4 = pc_S v 4 3 Q from g4), (show G 5 = pc_P v (nI e, nI a) from g5), gK, (show G 18 = pc_T v t from g18), (show G 19 = pc_R v rd from g19), (show G 20 = pc_W  sw from g20)⟩, (fun _ _ => rfl)⟩
    simp [q_of, c8]

set_option maxHeartbeats 1000000 in
set_option maxRecDepth 10000 in
theorem c_X7_pays {v : xw_V} {G : xw_G} {B : bk_T} {n r e a l : Nat} {K : Nat → bk_T} {t : tp_T} (hX : XB v G B n r e a K t l) (b : Int32) : xk_Con v yX7_pays cX7_pays 2 (some .long) 6 137 [.ref (xw_ad v 0 0), .int b] G (fun r9 G' => r9 = some (.long (q_pays B (kR B n) b)) ∧ XB v G' B n r e a K t l ∧ XF G G') := by
  refine xk_of (ls0 := [some (.ref (xw_ad v 0 0)), some (.int b)]) (by decide) rfl (Nat.le_of_ble_eq_true rfl) ?_
  intro κ z hk hz
  obtain ⟨okb, he12, ha12, hK0, hl700, htl, S, A, Q, rd, sw, okS, okQ, g0, g1, g2, g3, g4, g5, gK, g18, g19, g20⟩ := hX
  obtain ⟨hn, hn30, how, hhs, hr, hr8⟩ := id okb
  refine xj_aload_n (i := 0) hk dX7_pays_0 rfl rfl ?_
  refine xj_getfield hk dX7_pays_1 fl_X7_10 (xw_at g0 rfl) rfl ?_
  refine xj_iload_n (i := 1) hk dX7_pays_4 rfl rfl ?_
  refine xj_callV hk hz (fr1 := 0) (lo1 := 0) (r1 := some (.int (xb (hasB (bk_bi B) b)))) (As := [.int b]) (st := []) (st2 := [.int (xb (hasB (bk_bi B) b))]) (G1 := G) ml_X7_103 (c_X0_hasBid (show G 1 = pc_B v 1 B from g1) b) (xw_at g1 rfl) rfl dX7_pays_5 ⟨Nat.le_of_ble_eq_true rfl, Nat.le_of_ble_eq_true rfl⟩ rfl (Nat.le_of_ble_eq_true rfl) rfl rfl ?_
  refine xj_ifb_eq (tgt := 22) hk dX7_pays_8 (by decide) (fun c8 => ?_) (fun c8 => ?_)
  · refine xj_ldc2 (x := -1) hk dX7_pays_22 kl_X7_197 ?_
    refine xj_lreturn hk hz dX7_pays_25 ?_
    refine ⟨?_, ⟨okb, he12, ha12, hK0, hl700, htl, S, A, Q, rd, sw, okS, okQ, (show G 0 = pc_X v from g0), (show G 1 = pc_B v 1 B from g1), (show G 2 = pc_S v 2 1 S from g2), (show G 3 = pc_B v 3 A from g3), (show G 4 = pc_S v 4 3 Q from g4), (show G 5 = pc_P v (nI e, nI a) from g5), gK, (show G 18 = pc_T v t from g18), (show G 19 = pc_R v rd from g19), (show G 20 = pc_W  sw from g20)⟩, (fun _ _ => rfl)⟩
    simp [q_pays, c8]
  · obtain ⟨j, hj_j, rfl⟩ := hasB_of hn hn30 c8
    refine xj_aload_n (i := 0) hk dX7_pays_11 rfl rfl ?_
    refine xj_callVE hk hz (fr1 := 5) (lo1 := 117) (As := []) (st := []) ml_X7_142 (c_X7_standing (n := n) (show G 0 = pc_X v from g0) (show G 1 = pc_B v 1 B from g1) (show G 2 = pc_S v 2 1 S from g2) okS hn hn30 how hhs) (xw_at g0 rfl) rfl dX7_pays_12 ⟨Nat.le_of_ble_eq_true rfl, Nat.le_of_ble_eq_true rfl⟩ rfl (Nat.le_of_ble_eq_true rfl) rfl ?_
    rintro _ _ ⟨S1, hS1, rfl, rfl⟩
    have hag := kR_ag how hhs hS1
    have hio := RecS_io hS1
    show xj v κ _ z (xw_up G 2 (pc_S v 2 1 S1)) 15 _ [.ref (xw_ad v 2 0)]
    refine xj_iload_n (i := 1) hk dX7_pays_15 rfl rfl ?_
    refine xj_callV hk hz (fr1 := 1) (lo1 := 21) (r1 := some (.long (payF B S1 j))) (As := [.int (nI j)]) (st := []) (st2 := [.long (payF B S1 j)]) (G1 := xw_up G 2 (pc_S v 2 1 S1)) ml_X7_193 (c_X4_paysFor (j := j) (show (xw_up G 2 (pc_S v 2 1 S1)) 2 = pc_S v 2 1 S1 from xw_up_s) (show (xw_up G 2 (pc_S v 2 1 S1)) 1 = pc_B v 1 B from (show (xw_up G 2 (pc_S v 2 1 S1)) 1 = pc_B v 1 B from by rw [xw_up_n (by decide), g1])) (by decide) (by omega)) (xw_at xw_up_s rfl) rfl dX7_pays_16 ⟨Nat.le_of_ble_eq_true rfl, Nat.le_of_ble_eq_true rfl⟩ rfl (Nat.le_of_ble_eq_true rfl) rfl rfl ?_
    refine xj_goto (tgt := 25) hk dX7_pays_19 (by decide) ?_
    refine xj_lreturn hk hz dX7_pays_25 ?_
    refine ⟨?_, ⟨okb, he12, ha12, hK0, hl700, htl, S1, A, Q, rd, sw, (Rec_okO hn30 hS1), okQ, (show (xw_up G 2 (pc_S v 2 1 S1)) 0 = pc_X v from (show (xw_up G 2 (pc_S v 2 1 S1)) 0 = pc_X v from by rw [xw_up_n (by decide), g0])), (show (xw_up G 2 (pc_S v 2 1 S1)) 1 = pc_B v 1 B from (show (xw_up G 2 (pc_S v 2 1 S1)) 1 = pc_B v 1 B from by rw [xw_up_n (by decide), g1])), (show (xw_up G 2 (pc_S v 2 1 S1)) 2 = pc_S v 2 1 S1 from xw_up_s), (show (xw_up G 2 (pc_S v 2 1 S1)) 3 = pc_B v 3 A from (show (xw_up G 2 (pc_S v 2 1 S1)) 3 = pc_B v 3 A from by rw [xw_up_n (by decide), g3])), (show (xw_up G 2 (pc_S v 2 1 S1)) 4 = pc_S v 4 3 Q from (show (xw_up G 2 (pc_S v 2 1 S1)) 4 = pc_S v 4 3 Q from by rw [xw_up_n (by decide), g4])), (show (xw_up G 2 (pc_S v 2 1 S1)) 5 = pc_P v (nI e, nI a) from (show (xw_up G 2 (pc_S v 2 1 S1)) 5 = pP v (nI e) (nI a) from by rw [xw_up_n (by decide), g5])), (fun j9 h9 => by rw [xw_up_n (by omega)]; exact gK j9 h9), (show (xw_up G 2 (pc_S v 2 1 S1)) 18 = pc_T v t from (show (xw_up G 2 (pc_S v 2 1 S1)) 18 = pc_T v t from by rw [xw_up_n (by decide), g18])), (show (xw_up G 2 (pc_S v 2 1 S1)) 19 = pc_R v rd from (show (xw_up G 2 (pc_S v 2 1 S1)) 19 = pc_R v rd from by rw [xw_up_n (by decide), g19])), (show (xw_up G 2 (pc_S v 2 1 S1)) 20 = pc_W  sw from (show (xw_up G 2 (pc_S v 2 1 S1)) 20 = pc_W  sw from by rw [xw_up_n (by decide), g20]))⟩, (fun g h9 => by rw [xw_up_n (by omega)])⟩
    rw [← q_pays_ag _ hn hn30 hag]
    simp [q_pays, c8, xn_nI (show j < 2 ^ 31 by omega)]

set_option maxHeartbeats 1000000 in
set_option maxRecDepth 10000 in
theorem c_X7_house {v : xw_V} {G : xw_G} {B : bk_T} {n r e a l : Nat} {K : Nat → bk_T} {t : tp_T} (hX : XB v G B n r e a K t l) (h : Int32) (w : Int32) : xk_Con v yX7_house cX7_house 4 (some .int) 6 137 [.ref (xw_ad v 0 0), .int h, .int w] G (fun r9 G' => r9 = some (.int (q_house B (kR B n) n h w)) ∧ XB v G' B n r e a K t l ∧ XF G G') := by
  refine xk_of (ls0 := [some (.ref (xw_ad v 0 0)), some (.int h), some (.int w), none]) (by decide) rfl (Nat.le_of_ble_eq_true rfl) ?_
  intro κ z hk hz
  obtain ⟨okb, he12, ha12, hK0, hl700, htl, S, A, Q, rd, sw, okS, okQ, g0, g1, g2, g3, g4, g5, gK, g18, g19, g20⟩ := hX
  obtain ⟨hn, hn30, how, hhs, hr, hr8⟩ := id okb
  refine xj_iload_n (i := 1) hk dX7_house_0 rfl rfl ?_
  refine xj_callS hk hz (fr1 := 0) (lo1 := 0) (r1 := some (.int (xb (isH h)))) (As := [.int h]) (st := []) (st2 := [.int (xb (isH h))]) (G1 := G) ml_X7_90 (c_X7_isHouse h) dX7_house_1 ⟨Nat.le_of_ble_eq_true rfl, Nat.le_of_ble_eq_true rfl⟩ rfl (Nat.le_of_ble_eq_true rfl) rfl rfl ?_
  refine xj_ifb_ne (tgt := 9) hk dX7_house_4 (by decide) (fun c4 => ?_) (fun c4 => ?_)
  · obtain ⟨j, hj_j, rfl⟩ := isH_of c4
    refine xj_aload_n (i := 0) hk dX7_house_9 rfl rfl ?_
    refine xj_callVE hk hz (fr1 := 5) (lo1 := 117) (As := []) (st := []) ml_X7_142 (c_X7_standing (n := n) (show G 0 = pc_X v from g0) (show G 1 = pc_B v 1 B from g1) (show G 2 = pc_S v 2 1 S from g2) okS hn hn30 how hhs) (xw_at g0 rfl) rfl dX7_house_10 ⟨Nat.le_of_ble_eq_true rfl, Nat.le_of_ble_eq_true rfl⟩ rfl (Nat.le_of_ble_eq_true rfl) rfl ?_
    rintro _ _ ⟨S1, hS1, rfl, rfl⟩
    have hag := kR_ag how hhs hS1
    have hio := RecS_io hS1
    show xj v κ _ z (xw_up G 2 (pc_S v 2 1 S1)) 13 _ [.ref (xw_ad v 2 0)]
    refine xj_astore_n (i := 3) (ls2 := [some (.ref (xw_ad v 0 0)), some (.int (nI j)), some (.int w), some (.ref (xw_ad v 2 0))]) hk dX7_house_13 rfl (by decide) rfl rfl ?_
    refine xj_iload_n (i := 2) hk dX7_house_14 rfl rfl ?_
    by_cases s15_0 : w = 0
    · refine xj_swIn (tgt := 56) (off := 41) hk dX7_house_15 (by rw [s15_0]; decide) (by rw [s15_0]; decide) (by rw [s15_0]; decide) (by decide) ?_
      refine xj_aload_n (i := 0) hk dX7_house_56 rfl rfl ?_
      refine xj_getfield hk dX7_house_57 fl_X7_10 (xw_at (show (xw_up G 2 (pc_S v 2 1 S1)) 0 = pc_X v from by rw [xw_up_n (by decide), g0]) rfl) rfl ?_
      refine xj_getfield hk dX7_house_60 fl_X7_139 (xw_at (show (xw_up G 2 (pc_S v 2 1 S1)) 1 = pc_B v 1 B from by rw [xw_up_n (by decide), g1]) rfl) rfl ?_
      refine xj_iload_n (i := 1) hk dX7_house_63 rfl rfl ?_
      refine xj_iaload (k := j) hk dX7_house_64 (xw_at (show (xw_up G 2 (pc_S v 2 1 S1)) 1 = pc_B v 1 B from by rw [xw_up_n (by decide), g1]) rfl) (xi_n (by omega) (by decide)) ?_
      refine xj_ireturn hk hz dX7_house_65 ?_
      refine ⟨?_, ⟨okb, he12, ha12, hK0, hl700, htl, S1, A, Q, rd, sw, (Rec_okO hn30 hS1), okQ, (show (xw_up G 2 (pc_S v 2 1 S1)) 0 = pc_X v from (show (xw_up G 2 (pc_S v 2 1 S1)) 0 = pc_X v from by rw [xw_up_n (by decide), g0])), (show (xw_up G 2 (pc_S v 2 1 S1)) 1 = pc_B v 1 B from (show (xw_up G 2 (pc_S v 2 1 S1)) 1 = pc_B v 1 B from by rw [xw_up_n (by decide), g1])), (show (xw_up G 2 (pc_S v 2 1 S1)) 2 = pc_S v 2 1 S1 from xw_up_s), (show (xw_up G 2 (pc_S v 2 1 S1)) 3 = pc_B v 3 A from (show (xw_up G 2 (pc_S v 2 1 S1)) 3 = pc_B v 3 A from by rw [xw_up_n (by decide), g3])), (show (xw_up G 2 (pc_S v 2 1 S1)) 4 = pc_S v 4 3 Q from (show (xw_up G 2 (pc_S v 2 1 S1)) 4 = pc_S v 4 3 Q from by rw [xw_up_n (by decide), g4])), (show (xw_up G 2 (pc_S v 2 1 S1)) 5 = pc_P v (nI e, nI a) from (show (xw_up G 2 (pc_S v 2 1 S1)) 5 = pP v (nI e) (nI a) from by rw [xw_up_n (by decide), g5])), (fun j9 h9 => by rw [xw_up_n (by omega)]; exact gK j9 h9), (show (xw_up G 2 (pc_S v 2 1 S1)) 18 = pc_T v t from (show (xw_up G 2 (pc_S v 2 1 S1)) 18 = pc_T v t from by rw [xw_up_n (by decide), g18])), (show (xw_up G 2 (pc_S v 2 1 S1)) 19 = pc_R v rd from (show (xw_up G 2 (pc_S v 2 1 S1)) 19 = pc_R v rd from by rw [xw_up_n (by decide), g19])), (show (xw_up G 2 (pc_S v 2 1 S1)) 20 = pc_W  sw from (show (xw_up G 2 (pc_S v 2 1 S1)) 20 = pc_W  sw from by rw [xw_up_n (by decide), g20]))⟩, (fun g h9 => by rw [xw_up_n (by omega)])⟩
      rw [← q_house_ag _ _ how hag]
      simp [q_house, c4, xn_nI (show j < 2 ^ 31 by omega), s15_0]
    by_cases s15_1 : w = 1
    · refine xj_swIn (tgt := 66) (off := 51) hk dX7_house_15 (by rw [s15_1]; decide) (by rw [s15_1]; decide) (by rw [s15_1]; decide) (by decide) ?_
      refine xj_aload_n (i := 3) hk dX7_house_66 rfl rfl ?_
      refine xj_getfield hk dX7_house_67 fl_X7_199 (xw_at xw_up_s rfl) rfl ?_
      refine xj_aload_n (i := 0) hk dX7_house_70 rfl rfl ?_
      refine xj_getfield hk dX7_house_71 fl_X7_10 (xw_at (show (xw_up G 2 (pc_S v 2 1 S1)) 0 = pc_X v from by rw [xw_up_n (by decide), g0]) rfl) rfl ?_
      refine xj_getfield hk dX7_house_74 fl_X7_130 (xw_at (show (xw_up G 2 (pc_S v 2 1 S1)) 1 = pc_B v 1 B from by rw [xw_up_n (by decide), g1]) rfl) rfl ?_
      refine xj_iload_n (i := 1) hk dX7_house_77 rfl rfl ?_
      refine xj_iaload (k := j) hk dX7_house_78 (xw_at (show (xw_up G 2 (pc_S v 2 1 S1)) 1 = pc_B v 1 B from by rw [xw_up_n (by decide), g1]) rfl) (xi_n (by omega) (by decide)) ?_
      refine xj_iaload (k := xn (bk_ow B j)) hk dX7_house_79 (xw_at xw_up_s rfl) (how j (by omega)) ?_
      refine xj_ireturn hk hz dX7_house_80 ?_
      refine ⟨?_, ⟨okb, he12, ha12, hK0, hl700, htl, S1, A, Q, rd, sw, (Rec_okO hn30 hS1), okQ, (show (xw_up G 2 (pc_S v 2 1 S1)) 0 = pc_X v from (show (xw_up G 2 (pc_S v 2 1 S1)) 0 = pc_X v from by rw [xw_up_n (by decide), g0])), (show (xw_up G 2 (pc_S v 2 1 S1)) 1 = pc_B v 1 B from (show (xw_up G 2 (pc_S v 2 1 S1)) 1 = pc_B v 1 B from by rw [xw_up_n (by decide), g1])), (show (xw_up G 2 (pc_S v 2 1 S1)) 2 = pc_S v 2 1 S1 from xw_up_s), (show (xw_up G 2 (pc_S v 2 1 S1)) 3 = pc_B v 3 A from (show (xw_up G 2 (pc_S v 2 1 S1)) 3 = pc_B v 3 A from by rw [xw_up_n (by decide), g3])), (show (xw_up G 2 (pc_S v 2 1 S1)) 4 = pc_S v 4 3 Q from (show (xw_up G 2 (pc_S v 2 1 S1)) 4 = pc_S v 4 3 Q from by rw [xw_up_n (by decide), g4])), (show (xw_up G 2 (pc_S v 2 1 S1)) 5 = pc_P v (nI e, nI a) from (show (xw_up G 2 (pc_S v 2 1 S1)) 5 = pP v (nI e) (nI a) from by rw [xw_up_n (by decide), g5])), (fun j9 h9 => by rw [xw_up_n (by omega)]; exact gK j9 h9), (show (xw_up G 2 (pc_S v 2 1 S1)) 18 = pc_T v t from (show (xw_up G 2 (pc_S v 2 1 S1)) 18 = pc_T v t from by rw [xw_up_n (by decide), g18])), (show (xw_up G 2 (pc_S v 2 1 S1)) 19 = pc_R v rd from (show (xw_up G 2 (pc_S v 2 1 S1)) 19 = pc_R v rd from by rw [xw_up_n (by decide), g19])), (show (xw_up G 2 (pc_S v 2 1 S1)) 20 = pc_W  sw from (show (xw_up G 2 (pc_S v 2 1 S1)) 20 = pc_W  sw from by rw [xw_up_n (by decide), g20]))⟩, (fun g h9 => by rw [xw_up_n (by omega)])⟩
      rw [← q_house_ag _ _ how hag]
      simp [q_house, c4, xn_nI (show j < 2 ^ 31 by omega), s15_0, s15_1]
    by_cases s15_2 : w = 2
    · refine xj_swIn (tgt := 81) (off := 66) hk dX7_house_15 (by rw [s15_2]; decide) (by rw [s15_2]; decide) (by rw [s15_2]; decide) (by decide) ?_
      refine xj_aload_n (i := 0) hk dX7_house_81 rfl rfl ?_
      refine xj_getfield hk dX7_house_82 fl_X7_10 (xw_at (show (xw_up G 2 (pc_S v 2 1 S1)) 0 = pc_X v from by rw [xw_up_n (by decide), g0]) rfl) rfl ?_
      refine xj_iload_n (i := 1) hk dX7_house_85 rfl rfl ?_
      refine xj_callV hk hz (fr1 := 1) (lo1 := 25) (r1 := some (.int (sm (sel (bk_hs B) (nI j) (bk_lo B)) n))) (As := [.int (nI j)]) (st := []) (st2 := [.int (sm (sel (bk_hs B) (nI j) (bk_lo B)) n)]) (G1 := xw_up G 2 (pc_S v 2 1 S1)) ml_X7_202 (c_X0_lotsOf (n := n) (show (xw_up G 2 (pc_S v 2 1 S1)) 1 = pc_B v 1 B from (show (xw_up G 2 (pc_S v 2 1 S1)) 1 = pc_B v 1 B from by rw [xw_up_n (by decide), g1])) hn hn30 (nI j)) (xw_at (show (xw_up G 2 (pc_S v 2 1 S1)) 1 = pc_B v 1 B from by rw [xw_up_n (by decide), g1]) rfl) rfl dX7_house_86 ⟨Nat.le_of_ble_eq_true rfl, Nat.le_of_ble_eq_true rfl⟩ rfl (Nat.le_of_ble_eq_true rfl) rfl rfl ?_
      refine xj_ireturn hk hz dX7_house_89 ?_
      refine ⟨?_, ⟨okb, he12, ha12, hK0, hl700, htl, S1, A, Q, rd, sw, (Rec_okO hn30 hS1), okQ, (show (xw_up G 2 (pc_S v 2 1 S1)) 0 = pc_X v from (show (xw_up G 2 (pc_S v 2 1 S1)) 0 = pc_X v from by rw [xw_up_n (by decide), g0])), (show (xw_up G 2 (pc_S v 2 1 S1)) 1 = pc_B v 1 B from (show (xw_up G 2 (pc_S v 2 1 S1)) 1 = pc_B v 1 B from by rw [xw_up_n (by decide), g1])), (show (xw_up G 2 (pc_S v 2 1 S1)) 2 = pc_S v 2 1 S1 from xw_up_s), (show (xw_up G 2 (pc_S v 2 1 S1)) 3 = pc_B v 3 A from (show (xw_up G 2 (pc_S v 2 1 S1)) 3 = pc_B v 3 A from by rw [xw_up_n (by decide), g3])), (show (xw_up G 2 (pc_S v 2 1 S1)) 4 = pc_S v 4 3 Q from (show (xw_up G 2 (pc_S v 2 1 S1)) 4 = pc_S v 4 3 Q from by rw [xw_up_n (by decide), g4])), (show (xw_up G 2 (pc_S v 2 1 S1)) 5 = pc_P v (nI e, nI a) from (show (xw_up G 2 (pc_S v 2 1 S1)) 5 = pP v (nI e) (nI a) from by rw [xw_up_n (by decide), g5])), (fun j9 h9 => by rw [xw_up_n (by omega)]; exact gK j9 h9), (show (xw_up G 2 (pc_S v 2 1 S1)) 18 = pc_T v t from (show (xw_up G 2 (pc_S v 2 1 S1)) 18 = pc_T v t from by rw [xw_up_n (by decide), g18])), (show (xw_up G 2 (pc_S v 2 1 S1)) 19 = pc_R v rd from (show (xw_up G 2 (pc_S v 2 1 S1)) 19 = pc_R v rd from by rw [xw_up_n (by decide), g19])), (show (xw_up G 2 (pc_S v 2 1 S1)) 20 = pc_W  sw from (show (xw_up G 2 (pc_S v 2 1 S1)) 20 = pc_W  sw from by rw [xw_up_n (by decide), g20]))⟩, (fun g h9 => by rw [xw_up_n (by omega)])⟩
      rw [← q_house_ag _ _ how hag]
      simp [q_house, c4, xn_nI (show j < 2 ^ 31 by omega), s15_0, s15_1, s15_2]
    by_cases s15_3 : w = 3
    · refine xj_swIn (tgt := 90) (off := 75) hk dX7_house_15 (by rw [s15_3]; decide) (by rw [s15_3]; decide) (by rw [s15_3]; decide) (by decide) ?_
      refine xj_aload_n (i := 3) hk dX7_house_90 rfl rfl ?_
      refine xj_iload_n (i := 1) hk dX7_house_91 rfl rfl ?_
      refine xj_callV hk hz (fr1 := 1) (lo1 := 25) (r1 := some (.int (sm (sel (bk_hs B) (nI j) (sl_ad S1)) n))) (As := [.int (nI j)]) (st := []) (st2 := [.int (sm (sel (bk_hs B) (nI j) (sl_ad S1)) n)]) (G1 := xw_up G 2 (pc_S v 2 1 S1)) ml_X7_205 (c_X4_admittedOf (n := n) (show (xw_up G 2 (pc_S v 2 1 S1)) 2 = pc_S v 2 1 S1 from xw_up_s) (show (xw_up G 2 (pc_S v 2 1 S1)) 1 = pc_B v 1 B from (show (xw_up G 2 (pc_S v 2 1 S1)) 1 = pc_B v 1 B from by rw [xw_up_n (by decide), g1])) (by decide) hio hn30 (nI j)) (xw_at xw_up_s rfl) rfl dX7_house_92 ⟨Nat.le_of_ble_eq_true rfl, Nat.le_of_ble_eq_true rfl⟩ rfl (Nat.le_of_ble_eq_true rfl) rfl rfl ?_
      refine xj_ireturn hk hz dX7_house_95 ?_
      refine ⟨?_, ⟨okb, he12, ha12, hK0, hl700, htl, S1, A, Q, rd, sw, (Rec_okO hn30 hS1), okQ, (show (xw_up G 2 (pc_S v 2 1 S1)) 0 = pc_X v from (show (xw_up G 2 (pc_S v 2 1 S1)) 0 = pc_X v from by rw [xw_up_n (by decide), g0])), (show (xw_up G 2 (pc_S v 2 1 S1)) 1 = pc_B v 1 B from (show (xw_up G 2 (pc_S v 2 1 S1)) 1 = pc_B v 1 B from by rw [xw_up_n (by decide), g1])), (show (xw_up G 2 (pc_S v 2 1 S1)) 2 = pc_S v 2 1 S1 from xw_up_s), (show (xw_up G 2 (pc_S v 2 1 S1)) 3 = pc_B v 3 A from (show (xw_up G 2 (pc_S v 2 1 S1)) 3 = pc_B v 3 A from by rw [xw_up_n (by decide), g3])), (show (xw_up G 2 (pc_S v 2 1 S1)) 4 = pc_S v 4 3 Q from (show (xw_up G 2 (pc_S v 2 1 S1)) 4 = pc_S v 4 3 Q from by rw [xw_up_n (by decide), g4])), (show (xw_up G 2 (pc_S v 2 1 S1)) 5 = pc_P v (nI e, nI a) from (show (xw_up G 2 (pc_S v 2 1 S1)) 5 = pP v (nI e) (nI a) from by rw [xw_up_n (by decide), g5])), (fun j9 h9 => by rw [xw_up_n (by omega)]; exact gK j9 h9), (show (xw_up G 2 (pc_S v 2 1 S1)) 18 = pc_T v t from (show (xw_up G 2 (pc_S v 2 1 S1)) 18 = pc_T v t from by rw [xw_up_n (by decide), g18])), (show (xw_up G 2 (pc_S v 2 1 S1)) 19 = pc_R v rd from (show (xw_up G 2 (pc_S v 2 1 S1)) 19 = pc_R v rd from by rw [xw_up_n (by decide), g19])), (show (xw_up G 2 (pc_S v 2 1 S1)) 20 = pc_W  sw from (show (xw_up G 2 (pc_S v 2 1 S1)) 20 = pc_W  sw from by rw [xw_up_n (by decide), g20]))⟩, (fun g h9 => by rw [xw_up_n (by omega)])⟩
      rw [← q_house_ag _ _ how hag]
      simp [q_house, c4, xn_nI (show j < 2 ^ 31 by omega), s15_0, s15_1, s15_2, s15_3]
    by_cases s15_4 : w = 4
    · refine xj_swIn (tgt := 96) (off := 81) hk dX7_house_15 (by rw [s15_4]; decide) (by rw [s15_4]; decide) (by rw [s15_4]; decide) (by decide) ?_
      refine xj_aload_n (i := 3) hk dX7_house_96 rfl rfl ?_
      refine xj_iload_n (i := 1) hk dX7_house_97 rfl rfl ?_
      refine xj_callV hk hz (fr1 := 1) (lo1 := 25) (r1 := some (.int (sm (sel (bk_hs B) (nI j) (sl_so S1)) n))) (As := [.int (nI j)]) (st := []) (st2 := [.int (sm (sel (bk_hs B) (nI j) (sl_so S1)) n)]) (G1 := xw_up G 2 (pc_S v 2 1 S1)) ml_X7_169 (c_X4_soldTo (n := n) (show (xw_up G 2 (pc_S v 2 1 S1)) 2 = pc_S v 2 1 S1 from xw_up_s) (show (xw_up G 2 (pc_S v 2 1 S1)) 1 = pc_B v 1 B from (show (xw_up G 2 (pc_S v 2 1 S1)) 1 = pc_B v 1 B from by rw [xw_up_n (by decide), g1])) (by decide) hio hn30 (nI j)) (xw_at xw_up_s rfl) rfl dX7_house_98 ⟨Nat.le_of_ble_eq_true rfl, Nat.le_of_ble_eq_true rfl⟩ rfl (Nat.le_of_ble_eq_true rfl) rfl rfl ?_
      refine xj_ireturn hk hz dX7_house_101 ?_
      refine ⟨?_, ⟨okb, he12, ha12, hK0, hl700, htl, S1, A, Q, rd, sw, (Rec_okO hn30 hS1), okQ, (show (xw_up G 2 (pc_S v 2 1 S1)) 0 = pc_X v from (show (xw_up G 2 (pc_S v 2 1 S1)) 0 = pc_X v from by rw [xw_up_n (by decide), g0])), (show (xw_up G 2 (pc_S v 2 1 S1)) 1 = pc_B v 1 B from (show (xw_up G 2 (pc_S v 2 1 S1)) 1 = pc_B v 1 B from by rw [xw_up_n (by decide), g1])), (show (xw_up G 2 (pc_S v 2 1 S1)) 2 = pc_S v 2 1 S1 from xw_up_s), (show (xw_up G 2 (pc_S v 2 1 S1)) 3 = pc_B v 3 A from (show (xw_up G 2 (pc_S v 2 1 S1)) 3 = pc_B v 3 A from by rw [xw_up_n (by decide), g3])), (show (xw_up G 2 (pc_S v 2 1 S1)) 4 = pc_S v 4 3 Q from (show (xw_up G 2 (pc_S v 2 1 S1)) 4 = pc_S v 4 3 Q from by rw [xw_up_n (by decide), g4])), (show (xw_up G 2 (pc_S v 2 1 S1)) 5 = pc_P v (nI e, nI a) from (show (xw_up G 2 (pc_S v 2 1 S1)) 5 = pP v (nI e) (nI a) from by rw [xw_up_n (by decide), g5])), (fun j9 h9 => by rw [xw_up_n (by omega)]; exact gK j9 h9), (show (xw_up G 2 (pc_S v 2 1 S1)) 18 = pc_T v t from (show (xw_up G 2 (pc_S v 2 1 S1)) 18 = pc_T v t from by rw [xw_up_n (by decide), g18])), (show (xw_up G 2 (pc_S v 2 1 S1)) 19 = pc_R v rd from (show (xw_up G 2 (pc_S v 2 1 S1)) 19 = pc_R v rd from by rw [xw_up_n (by decide), g19])), (show (xw_up G 2 (pc_S v 2 1 S1)) 20 = pc_W  sw from (show (xw_up G 2 (pc_S v 2 1 S1)) 20 = pc_W  sw from by rw [xw_up_n (by decide), g20]))⟩, (fun g h9 => by rw [xw_up_n (by omega)])⟩
      rw [← q_house_ag _ _ how hag]
      simp [q_house, c4, xn_nI (show j < 2 ^ 31 by omega), s15_0, s15_1, s15_2, s15_3, s15_4]
    by_cases s15_5 : w = 5
    · refine xj_swIn (tgt := 102) (off := 87) hk dX7_house_15 (by rw [s15_5]; decide) (by rw [s15_5]; decide) (by rw [s15_5]; decide) (by decide) ?_
      refine xj_aload_n (i := 0) hk dX7_house_102 rfl rfl ?_
      refine xj_getfield hk dX7_house_103 fl_X7_10 (xw_at (show (xw_up G 2 (pc_S v 2 1 S1)) 0 = pc_X v from by rw [xw_up_n (by decide), g0]) rfl) rfl ?_
      refine xj_getfield hk dX7_house_106 fl_X7_130 (xw_at (show (xw_up G 2 (pc_S v 2 1 S1)) 1 = pc_B v 1 B from by rw [xw_up_n (by decide), g1]) rfl) rfl ?_
      refine xj_iload_n (i := 1) hk dX7_house_109 rfl rfl ?_
      refine xj_iaload (k := j) hk dX7_house_110 (xw_at (show (xw_up G 2 (pc_S v 2 1 S1)) 1 = pc_B v 1 B from by rw [xw_up_n (by decide), g1]) rfl) (xi_n (by omega) (by decide)) ?_
      refine xj_ireturn hk hz dX7_house_111 ?_
      refine ⟨?_, ⟨okb, he12, ha12, hK0, hl700, htl, S1, A, Q, rd, sw, (Rec_okO hn30 hS1), okQ, (show (xw_up G 2 (pc_S v 2 1 S1)) 0 = pc_X v from (show (xw_up G 2 (pc_S v 2 1 S1)) 0 = pc_X v from by rw [xw_up_n (by decide), g0])), (show (xw_up G 2 (pc_S v 2 1 S1)) 1 = pc_B v 1 B from (show (xw_up G 2 (pc_S v 2 1 S1)) 1 = pc_B v 1 B from by rw [xw_up_n (by decide), g1])), (show (xw_up G 2 (pc_S v 2 1 S1)) 2 = pc_S v 2 1 S1 from xw_up_s), (show (xw_up G 2 (pc_S v 2 1 S1)) 3 = pc_B v 3 A from (show (xw_up G 2 (pc_S v 2 1 S1)) 3 = pc_B v 3 A from by rw [xw_up_n (by decide), g3])), (show (xw_up G 2 (pc_S v 2 1 S1)) 4 = pc_S v 4 3 Q from (show (xw_up G 2 (pc_S v 2 1 S1)) 4 = pc_S v 4 3 Q from by rw [xw_up_n (by decide), g4])), (show (xw_up G 2 (pc_S v 2 1 S1)) 5 = pc_P v (nI e, nI a) from (show (xw_up G 2 (pc_S v 2 1 S1)) 5 = pP v (nI e) (nI a) from by rw [xw_up_n (by decide), g5])), (fun j9 h9 => by rw [xw_up_n (by omega)]; exact gK j9 h9), (show (xw_up G 2 (pc_S v 2 1 S1)) 18 = pc_T v t from (show (xw_up G 2 (pc_S v 2 1 S1)) 18 = pc_T v t from by rw [xw_up_n (by decide), g18])), (show (xw_up G 2 (pc_S v 2 1 S1)) 19 = pc_R v rd from (show (xw_up G 2 (pc_S v 2 1 S1)) 19 = pc_R v rd from by rw [xw_up_n (by decide), g19])), (show (xw_up G 2 (pc_S v 2 1 S1)) 20 = pc_W  sw from (show (xw_up G 2 (pc_S v 2 1 S1)) 20 = pc_W  sw from by rw [xw_up_n (by decide), g20]))⟩, (fun g h9 => by rw [xw_up_n (by omega)])⟩
      rw [← q_house_ag _ _ how hag]
      simp [q_house, c4, xn_nI (show j < 2 ^ 31 by omega), s15_0, s15_1, s15_2, s15_3, s15_4, s15_5]
    by_cases s15_6 : w = 6
    · refine xj_swIn (tgt := 112) (off := 97) hk dX7_house_15 (by rw [s15_6]; decide) (by rw [s15_6]; decide) (by rw [s15_6]; decide) (by decide) ?_
      refine xj_aload_n (i := 0) hk dX7_house_112 rfl rfl ?_
      refine xj_getfield hk dX7_house_113 fl_X7_10 (xw_at (show (xw_up G 2 (pc_S v 2 1 S1)) 0 = pc_X v from by rw [xw_up_n (by decide), g0]) rfl) rfl ?_
      refine xj_iload_n (i := 1) hk dX7_house_116 rfl rfl ?_
      refine xj_callV hk hz (fr1 := 0) (lo1 := 0) (r1 := some (.int (ownd (bk_ow B) (nI j)))) (As := [.int (nI j)]) (st := []) (st2 := [.int (ownd (bk_ow B) (nI j))]) (G1 := xw_up G 2 (pc_S v 2 1 S1)) ml_X7_208 (c_X0_ownedBy (show (xw_up G 2 (pc_S v 2 1 S1)) 1 = pc_B v 1 B from (show (xw_up G 2 (pc_S v 2 1 S1)) 1 = pc_B v 1 B from by rw [xw_up_n (by decide), g1])) (nI j)) (xw_at (show (xw_up G 2 (pc_S v 2 1 S1)) 1 = pc_B v 1 B from by rw [xw_up_n (by decide), g1]) rfl) rfl dX7_house_117 ⟨Nat.le_of_ble_eq_true rfl, Nat.le_of_ble_eq_true rfl⟩ rfl (Nat.le_of_ble_eq_true rfl) rfl rfl ?_
      refine xj_ireturn hk hz dX7_house_120 ?_
      refine ⟨?_, ⟨okb, he12, ha12, hK0, hl700, htl, S1, A, Q, rd, sw, (Rec_okO hn30 hS1), okQ, (show (xw_up G 2 (pc_S v 2 1 S1)) 0 = pc_X v from (show (xw_up G 2 (pc_S v 2 1 S1)) 0 = pc_X v from by rw [xw_up_n (by decide), g0])), (show (xw_up G 2 (pc_S v 2 1 S1)) 1 = pc_B v 1 B from (show (xw_up G 2 (pc_S v 2 1 S1)) 1 = pc_B v 1 B from by rw [xw_up_n (by decide), g1])), (show (xw_up G 2 (pc_S v 2 1 S1)) 2 = pc_S v 2 1 S1 from xw_up_s), (show (xw_up G 2 (pc_S v 2 1 S1)) 3 = pc_B v 3 A from (show (xw_up G 2 (pc_S v 2 1 S1)) 3 = pc_B v 3 A from by rw [xw_up_n (by decide), g3])), (show (xw_up G 2 (pc_S v 2 1 S1)) 4 = pc_S v 4 3 Q from (show (xw_up G 2 (pc_S v 2 1 S1)) 4 = pc_S v 4 3 Q from by rw [xw_up_n (by decide), g4])), (show (xw_up G 2 (pc_S v 2 1 S1)) 5 = pc_P v (nI e, nI a) from (show (xw_up G 2 (pc_S v 2 1 S1)) 5 = pP v (nI e) (nI a) from by rw [xw_up_n (by decide), g5])), (fun j9 h9 => by rw [xw_up_n (by omega)]; exact gK j9 h9), (show (xw_up G 2 (pc_S v 2 1 S1)) 18 = pc_T v t from (show (xw_up G 2 (pc_S v 2 1 S1)) 18 = pc_T v t from by rw [xw_up_n (by decide), g18])), (show (xw_up G 2 (pc_S v 2 1 S1)) 19 = pc_R v rd from (show (xw_up G 2 (pc_S v 2 1 S1)) 19 = pc_R v rd from by rw [xw_up_n (by decide), g19])), (show (xw_up G 2 (pc_S v 2 1 S1)) 20 = pc_W  sw from (show (xw_up G 2 (pc_S v 2 1 S1)) 20 = pc_W  sw from by rw [xw_up_n (by decide), g20]))⟩, (fun g h9 => by rw [xw_up_n (by omega)])⟩
      rw [← q_house_ag _ _ how hag]
      simp [q_house, c4, xn_nI (show j < 2 ^ 31 by omega), s15_0, s15_1, s15_2, s15_3, s15_4, s15_5, s15_6]
    refine xj_swOut (tgt := 121) hk dX7_house_15 (sw_out7 s15_0 s15_1 s15_2 s15_3 s15_4 s15_5 s15_6) (by decide) ?_
    refine xj_iconst (x := (-1)) hk dX7_house_121 (by decide) ?_
    refine xj_ireturn hk hz dX7_house_122 ?_
    refine ⟨?_, ⟨okb, he12, ha12, hK0, hl700, htl, S1, A, Q, rd, sw, (Rec_okO hn30 hS1), okQ, (show (xw_up G 2 (pc_S v 2 1 S1)) 0 = pc_X v from (show (xw_up G 2 (pc_S v 2 1 S1)) 0 = pc_X v from by rw [xw_up_n (by decide), g0])), (show (xw_up G 2 (pc_S v 2 1 S1)) 1 = pc_B v 1 B from (show (xw_up G 2 (pc_S v 2 1 S1)) 1 = pc_B v 1 B from by rw [xw_up_n (by decide), g1])), (show (xw_up G 2 (pc_S v 2 1 S1)) 2 = pc_S v 2 1 S1 from xw_up_s), (show (xw_up G 2 (pc_S v 2 1 S1)) 3 = pc_B v 3 A from (show (xw_up G 2 (pc_S v 2 1 S1)) 3 = pc_B v 3 A from by rw [xw_up_n (by decide), g3])), (show (xw_up G 2 (pc_S v 2 1 S1)) 4 = pc_S v 4 3 Q from (show (xw_up G 2 (pc_S v 2 1 S1)) 4 = pc_S v 4 3 Q from by rw [xw_up_n (by decide), g4])), (show (xw_up G 2 (pc_S v 2 1 S1)) 5 = pc_P v (nI e, nI a) from (show (xw_up G 2 (pc_S v 2 1 S1)) 5 = pP v (nI e) (nI a) from by rw [xw_up_n (by decide), g5])), (fun j9 h9 => by rw [xw_up_n (by omega)]; exact gK j9 h9), (show (xw_up G 2 (pc_S v 2 1 S1)) 18 = pc_T v t from (show (xw_up G 2 (pc_S v 2 1 S1)) 18 = pc_T v t from by rw [xw_up_n (by decide), g18])), (show (xw_up G 2 (pc_S v 2 1 S1)) 19 = pc_R v rd from (show (xw_up G 2 (pc_S v 2 1 S1)) 19 = pc_R v rd from by rw [xw_up_n (by decide), g19])), (show (xw_up G 2 (pc_S v 2 1 S1)) 20 = pc_W  sw from (show (xw_up G 2 (pc_S v 2 1 S1)) 20 = pc_W  sw from by rw [xw_up_n (by decide), g20]))⟩, (fun g h9 => by rw [xw_up_n (by omega)])⟩
    rw [← q_house_ag _ _ how hag]
    simp [q_house, c4, xn_nI (show j < 2 ^ 31 by omega), s15_0, s15_1, s15_2, s15_3, s15_4, s15_5, s15_6]
  · refine xj_iconst (x := (-1)) hk dX7_house_7 (by decide) ?_
    refine xj_ireturn hk hz dX7_house_8 ?_
    refine ⟨?_, ⟨okb, he12, ha12, hK0, hl700, htl, S, A, Q, rd, sw, okS, okQ, (show G 0 = pc_X v from g0), (show G 1 = pc_B v 1 B from g1), (show G 2 = pc_S v 2 1 S from g2), (show G 3 = pc_B v 3 A from g3), (show G 4 = pc_S v 4 3 Q from g4), (show G 5 = pc_P v (nI e, nI a) from g5), gK, (show G 18 = pc_T v t from g18), (show G 19 = pc_R v rd from g19), (show G 20 = pc_W  sw from g20)⟩, (fun _ _ => rfl)⟩
    simp [q_house, c4]

set_option maxHeartbeats 1000000 in
set_option maxRecDepth 10000 in
theorem c_X7_housePays {v : xw_V} {G : xw_G} {B : bk_T} {n r e a l : Nat} {K : Nat → bk_T} {t : tp_T} (hX : XB v G B n r e a K t l) (h : Int32) : xk_Con v yX7_housePays cX7_housePays 2 (some .long) 6 137 [.ref (xw_ad v 0 0), .int h] G (fun r9 G' => r9 = some (.long (q_hpays B (kR B n) n h)) ∧ XB v G' B n r e a K t l ∧ XF G G') := by
  refine xk_of (ls0 := [some (.ref (xw_ad v 0 0)), some (.int h)]) (by decide) rfl (Nat.le_of_ble_eq_true rfl) ?_
  intro κ z hk hz
  obtain ⟨okb, he12, ha12, hK0, hl700, htl, S, A, Q, rd, sw, okS, okQ, g0, g1, g2, g3, g4, g5, gK, g18, g19, g20⟩ := hX
  obtain ⟨hn, hn30, how, hhs, hr, hr8⟩ := id okb
  refine xj_iload_n (i := 1) hk dX7_housePays_0 rfl rfl ?_
  refine xj_callS hk hz (fr1 := 0) (lo1 := 0) (r1 := some (.int (xb (isH h)))) (As := [.int h]) (st := []) (st2 := [.int (xb (isH h))]) (G1 := G) ml_X7_90 (c_X7_isHouse h) dX7_housePays_1 ⟨Nat.le_of_ble_eq_true rfl, Nat.le_of_ble_eq_true rfl⟩ rfl (Nat.le_of_ble_eq_true rfl) rfl rfl ?_
  refine xj_ifb_eq (tgt := 18) hk dX7_housePays_4 (by decide) (fun c4 => ?_) (fun c4 => ?_)
  · refine xj_ldc2 (x := -1) hk dX7_housePays_18 kl_X7_197 ?_
    refine xj_lreturn hk hz dX7_housePays_21 ?_
    refine ⟨?_, ⟨okb, he12, ha12, hK0, hl700, htl, S, A, Q, rd, sw, okS, okQ, (show G 0 = pc_X v from g0), (show G 1 = pc_B v 1 B from g1), (show G 2 = pc_S v 2 1 S from g2), (show G 3 = pc_B v 3 A from g3), (show G 4 = pc_S v 4 3 Q from g4), (show G 5 = pc_P v (nI e, nI a) from g5), gK, (show G 18 = pc_T v t from g18), (show G 19 = pc_R v rd from g19), (show G 20 = pc_W  sw from g20)⟩, (fun _ _ => rfl)⟩
    simp [q_hpays, c4]
  · refine xj_aload_n (i := 0) hk dX7_housePays_7 rfl rfl ?_
    refine xj_callVE hk hz (fr1 := 5) (lo1 := 117) (As := []) (st := []) ml_X7_142 (c_X7_standing (n := n) (show G 0 = pc_X v from g0) (show G 1 = pc_B v 1 B from g1) (show G 2 = pc_S v 2 1 S from g2) okS hn hn30 how hhs) (xw_at g0 rfl) rfl dX7_housePays_8 ⟨Nat.le_of_ble_eq_true rfl, Nat.le_of_ble_eq_true rfl⟩ rfl (Nat.le_of_ble_eq_true rfl) rfl ?_
    rintro _ _ ⟨S1, hS1, rfl, rfl⟩
    have hag := kR_ag how hhs hS1
    have hio := RecS_io hS1
    show xj v κ _ z (xw_up G 2 (pc_S v 2 1 S1)) 11 _ [.ref (xw_ad v 2 0)]
    refine xj_iload_n (i := 1) hk dX7_housePays_11 rfl rfl ?_
    refine xj_callV hk hz (fr1 := 2) (lo1 := 43) (r1 := some (.long (sml (fun j => if (bk_hs B) j = h then payF B S1 j else 0) n))) (As := [.int h]) (st := []) (st2 := [.long (sml (fun j => if (bk_hs B) j = h then payF B S1 j else 0) n)]) (G1 := xw_up G 2 (pc_S v 2 1 S1)) ml_X7_211 (c_X4_paysOf (n := n) (show (xw_up G 2 (pc_S v 2 1 S1)) 2 = pc_S v 2 1 S1 from xw_up_s) (show (xw_up G 2 (pc_S v 2 1 S1)) 1 = pc_B v 1 B from (show (xw_up G 2 (pc_S v 2 1 S1)) 1 = pc_B v 1 B from by rw [xw_up_n (by decide), g1])) (by decide) hio hn30 h) (xw_at xw_up_s rfl) rfl dX7_housePays_12 ⟨Nat.le_of_ble_eq_true rfl, Nat.le_of_ble_eq_true rfl⟩ rfl (Nat.le_of_ble_eq_true rfl) rfl rfl ?_
    refine xj_goto (tgt := 21) hk dX7_housePays_15 (by decide) ?_
    refine xj_lreturn hk hz dX7_housePays_21 ?_
    refine ⟨?_, ⟨okb, he12, ha12, hK0, hl700, htl, S1, A, Q, rd, sw, (Rec_okO hn30 hS1), okQ, (show (xw_up G 2 (pc_S v 2 1 S1)) 0 = pc_X v from (show (xw_up G 2 (pc_S v 2 1 S1)) 0 = pc_X v from by rw [xw_up_n (by decide), g0])), (show (xw_up G 2 (pc_S v 2 1 S1)) 1 = pc_B v 1 B from (show (xw_up G 2 (pc_S v 2 1 S1)) 1 = pc_B v 1 B from by rw [xw_up_n (by decide), g1])), (show (xw_up G 2 (pc_S v 2 1 S1)) 2 = pc_S v 2 1 S1 from xw_up_s), (show (xw_up G 2 (pc_S v 2 1 S1)) 3 = pc_B v 3 A from (show (xw_up G 2 (pc_S v 2 1 S1)) 3 = pc_B v 3 A from by rw [xw_up_n (by decide), g3])), (show (xw_up G 2 (pc_S v 2 1 S1)) 4 = pc_S v 4 3 Q from (show (xw_up G 2 (pc_S v 2 1 S1)) 4 = pc_S v 4 3 Q from by rw [xw_up_n (by decide), g4])), (show (xw_up G 2 (pc_S v 2 1 S1)) 5 = pc_P v (nI e, nI a) from (show (xw_up G 2 (pc_S v 2 1 S1)) 5 = pP v (nI e) (nI a) from by rw [xw_up_n (by decide), g5])), (fun j9 h9 => by rw [xw_up_n (by omega)]; exact gK j9 h9), (show (xw_up G 2 (pc_S v 2 1 S1)) 18 = pc_T v t from (show (xw_up G 2 (pc_S v 2 1 S1)) 18 = pc_T v t from by rw [xw_up_n (by decide), g18])), (show (xw_up G 2 (pc_S v 2 1 S1)) 19 = pc_R v rd from (show (xw_up G 2 (pc_S v 2 1 S1)) 19 = pc_R v rd from by rw [xw_up_n (by decide), g19])), (show (xw_up G 2 (pc_S v 2 1 S1)) 20 = pc_W  sw from (show (xw_up G 2 (pc_S v 2 1 S1)) 20 = pc_W  sw from by rw [xw_up_n (by decide), g20]))⟩, (fun g h9 => by rw [xw_up_n (by omega)])⟩
    rw [← q_hpays_ag _ hag]
    simp [q_hpays, c4]

set_option maxHeartbeats 1000000 in
set_option maxRecDepth 10000 in
theorem c_X7_result {v : xw_V} {G : xw_G} {B : bk_T} {n r e a l : Nat} {K : Nat → bk_T} {t : tp_T} (hX : XB v G B n r e a K t l) (w : Int32) : xk_Con v yX7_result cX7_result 2 (some .int) 6 137 [.ref (xw_ad v 0 0), .int w] G (fun r9 G' => r9 = some (.int (fig B (kR B n) n w)) ∧ XB v G' B n r e a K t l ∧ XF G G') := by
  refine xk_of (ls0 := [some (.ref (xw_ad v 0 0)), some (.int w)]) (by decide) rfl (Nat.le_of_ble_eq_true rfl) ?_
  intro κ z hk hz
  obtain ⟨okb, he12, ha12, hK0, hl700, htl, S, A, Q, rd, sw, okS, okQ, g0, g1, g2, g3, g4, g5, gK, g18, g19, g20⟩ := hX
  obtain ⟨hn, hn30, how, hhs, hr, hr8⟩ := id okb
  refine xj_aload_n (i := 0) hk dX7_result_0 rfl rfl ?_
  refine xj_callVE hk hz (fr1 := 5) (lo1 := 117) (As := []) (st := []) ml_X7_142 (c_X7_standing (n := n) (show G 0 = pc_X v from g0) (show G 1 = pc_B v 1 B from g1) (show G 2 = pc_S v 2 1 S from g2) okS hn hn30 how hhs) (xw_at g0 rfl) rfl dX7_result_1 ⟨Nat.le_of_ble_eq_true rfl, Nat.le_of_ble_eq_true rfl⟩ rfl (Nat.le_of_ble_eq_true rfl) rfl ?_
  rintro _ _ ⟨S1, hS1, rfl, rfl⟩
  have hag := kR_ag how hhs hS1
  have hio := RecS_io hS1
  show xj v κ _ z (xw_up G 2 (pc_S v 2 1 S1)) 4 _ [.ref (xw_ad v 2 0)]
  refine xj_iload_n (i := 1) hk dX7_result_4 rfl rfl ?_
  refine xj_callV hk hz (fr1 := 1) (lo1 := 23) (r1 := some (.int (fig B S1 n w))) (As := [.int w]) (st := []) (st2 := [.int (fig B S1 n w)]) (G1 := xw_up G 2 (pc_S v 2 1 S1)) ml_X7_214 (c_X4_figure (n := n) (show (xw_up G 2 (pc_S v 2 1 S1)) 2 = pc_S v 2 1 S1 from xw_up_s) (show (xw_up G 2 (pc_S v 2 1 S1)) 1 = pc_B v 1 B from (show (xw_up G 2 (pc_S v 2 1 S1)) 1 = pc_B v 1 B from by rw [xw_up_n (by decide), g1])) (by decide) hio hn30 w) (xw_at xw_up_s rfl) rfl dX7_result_5 ⟨Nat.le_of_ble_eq_true rfl, Nat.le_of_ble_eq_true rfl⟩ rfl (Nat.le_of_ble_eq_true rfl) rfl rfl ?_
  refine xj_ireturn hk hz dX7_result_8 ?_
  refine ⟨?_, ⟨okb, he12, ha12, hK0, hl700, htl, S1, A, Q, rd, sw, (Rec_okO hn30 hS1), okQ, (show (xw_up G 2 (pc_S v 2 1 S1)) 0 = pc_X v from (show (xw_up G 2 (pc_S v 2 1 S1)) 0 = pc_X v from by rw [xw_up_n (by decide), g0])), (show (xw_up G 2 (pc_S v 2 1 S1)) 1 = pc_B v 1 B from (show (xw_up G 2 (pc_S v 2 1 S1)) 1 = pc_B v 1 B from by rw [xw_up_n (by decide), g1])), (show (xw_up G 2 (pc_S v 2 1 S1)) 2 = pc_S v 2 1 S1 from xw_up_s), (show (xw_up G 2 (pc_S v 2 1 S1)) 3 = pc_B v 3 A from (show (xw_up G 2 (pc_S v 2 1 S1)) 3 = pc_B v 3 A from by rw [xw_up_n (by decide), g3])), (show (xw_up G 2 (pc_S v 2 1 S1)) 4 = pc_S v 4 3 Q from (show (xw_up G 2 (pc_S v 2 1 S1)) 4 = pc_S v 4 3 Q from by rw [xw_up_n (by decide), g4])), (show (xw_up G 2 (pc_S v 2 1 S1)) 5 = pc_P v (nI e, nI a) from (show (xw_up G 2 (pc_S v 2 1 S1)) 5 = pP v (nI e) (nI a) from by rw [xw_up_n (by decide), g5])), (fun j9 h9 => by rw [xw_up_n (by omega)]; exact gK j9 h9), (show (xw_up G 2 (pc_S v 2 1 S1)) 18 = pc_T v t from (show (xw_up G 2 (pc_S v 2 1 S1)) 18 = pc_T v t from by rw [xw_up_n (by decide), g18])), (show (xw_up G 2 (pc_S v 2 1 S1)) 19 = pc_R v rd from (show (xw_up G 2 (pc_S v 2 1 S1)) 19 = pc_R v rd from by rw [xw_up_n (by decide), g19])), (show (xw_up G 2 (pc_S v 2 1 S1)) 20 = pc_W  sw from (show (xw_up G 2 (pc_S v 2 1 S1)) 20 = pc_W  sw from by rw [xw_up_n (by decide), g20]))⟩, (fun g h9 => by rw [xw_up_n (by omega)])⟩
  rw [← fig_ag _ hag]

set_option maxHeartbeats 1000000 in
set_option maxRecDepth 10000 in
theorem c_X7_paid {v : xw_V} {G : xw_G} {B : bk_T} {n r e a l : Nat} {K : Nat → bk_T} {t : tp_T} (hX : XB v G B n r e a K t l) : xk_Con v yX7_paid cX7_paid 1 (some .long) 6 137 [.ref (xw_ad v 0 0)] G (fun r9 G' => r9 = some (.long (sml (payF B (kR B n)) n)) ∧ XB v G' B n r e a K t l ∧ XF G G') := by
  refine xk_of (ls0 := [some (.ref (xw_ad v 0 0))]) (by decide) rfl (Nat.le_of_ble_eq_true rfl) ?_
  intro κ z hk hz
  obtain ⟨okb, he12, ha12, hK0, hl700, htl, S, A, Q, rd, sw, okS, okQ, g0, g1, g2, g3, g4, g5, gK, g18, g19, g20⟩ := hX
  obtain ⟨hn, hn30, how, hhs, hr, hr8⟩ := id okb
  refine xj_aload_n (i := 0) hk dX7_paid_0 rfl rfl ?_
  refine xj_callVE hk hz (fr1 := 5) (lo1 := 117) (As := []) (st := []) ml_X7_142 (c_X7_standing (n := n) (show G 0 = pc_X v from g0) (show G 1 = pc_B v 1 B from g1) (show G 2 = pc_S v 2 1 S from g2) okS hn hn30 how hhs) (xw_at g0 rfl) rfl dX7_paid_1 ⟨Nat.le_of_ble_eq_true rfl, Nat.le_of_ble_eq_true rfl⟩ rfl (Nat.le_of_ble_eq_true rfl) rfl ?_
  rintro _ _ ⟨S1, hS1, rfl, rfl⟩
  have hag := kR_ag how hhs hS1
  have hio := RecS_io hS1
  show xj v κ _ z (xw_up G 2 (pc_S v 2 1 S1)) 4 _ [.ref (xw_ad v 2 0)]
  refine xj_callV hk hz (fr1 := 2) (lo1 := 43) (r1 := some (.long (sml (payF B S1) n))) (As := []) (st := []) (st2 := [.long (sml (payF B S1) n)]) (G1 := xw_up G 2 (pc_S v 2 1 S1)) ml_X7_159 (c_X4_paysInAll (n := n) (show (xw_up G 2 (pc_S v 2 1 S1)) 2 = pc_S v 2 1 S1 from xw_up_s) (show (xw_up G 2 (pc_S v 2 1 S1)) 1 = pc_B v 1 B from (show (xw_up G 2 (pc_S v 2 1 S1)) 1 = pc_B v 1 B from by rw [xw_up_n (by decide), g1])) (by decide) hio hn30 ) (xw_at xw_up_s rfl) rfl dX7_paid_4 ⟨Nat.le_of_ble_eq_true rfl, Nat.le_of_ble_eq_true rfl⟩ rfl (Nat.le_of_ble_eq_true rfl) rfl rfl ?_
  refine xj_lreturn hk hz dX7_paid_7 ?_
  refine ⟨?_, ⟨okb, he12, ha12, hK0, hl700, htl, S1, A, Q, rd, sw, (Rec_okO hn30 hS1), okQ, (show (xw_up G 2 (pc_S v 2 1 S1)) 0 = pc_X v from (show (xw_up G 2 (pc_S v 2 1 S1)) 0 = pc_X v from by rw [xw_up_n (by decide), g0])), (show (xw_up G 2 (pc_S v 2 1 S1)) 1 = pc_B v 1 B from (show (xw_up G 2 (pc_S v 2 1 S1)) 1 = pc_B v 1 B from by rw [xw_up_n (by decide), g1])), (show (xw_up G 2 (pc_S v 2 1 S1)) 2 = pc_S v 2 1 S1 from xw_up_s), (show (xw_up G 2 (pc_S v 2 1 S1)) 3 = pc_B v 3 A from (show (xw_up G 2 (pc_S v 2 1 S1)) 3 = pc_B v 3 A from by rw [xw_up_n (by decide), g3])), (show (xw_up G 2 (pc_S v 2 1 S1)) 4 = pc_S v 4 3 Q from (show (xw_up G 2 (pc_S v 2 1 S1)) 4 = pc_S v 4 3 Q from by rw [xw_up_n (by decide), g4])), (show (xw_up G 2 (pc_S v 2 1 S1)) 5 = pc_P v (nI e, nI a) from (show (xw_up G 2 (pc_S v 2 1 S1)) 5 = pP v (nI e) (nI a) from by rw [xw_up_n (by decide), g5])), (fun j9 h9 => by rw [xw_up_n (by omega)]; exact gK j9 h9), (show (xw_up G 2 (pc_S v 2 1 S1)) 18 = pc_T v t from (show (xw_up G 2 (pc_S v 2 1 S1)) 18 = pc_T v t from by rw [xw_up_n (by decide), g18])), (show (xw_up G 2 (pc_S v 2 1 S1)) 19 = pc_R v rd from (show (xw_up G 2 (pc_S v 2 1 S1)) 19 = pc_R v rd from by rw [xw_up_n (by decide), g19])), (show (xw_up G 2 (pc_S v 2 1 S1)) 20 = pc_W  sw from (show (xw_up G 2 (pc_S v 2 1 S1)) 20 = pc_W  sw from by rw [xw_up_n (by decide), g20]))⟩, (fun g h9 => by rw [xw_up_n (by omega)])⟩
  rw [← pa_ag hag]

set_option maxHeartbeats 1000000 in
set_option maxRecDepth 10000 in
theorem c_X7_mean {v : xw_V} {G : xw_G} {B : bk_T} {n r e a l : Nat} {K : Nat → bk_T} {t : tp_T} (hX : XB v G B n r e a K t l) (h : Int32) : xk_Con v yX7_mean cX7_mean 4 (some .long) 6 137 [.ref (xw_ad v 0 0), .int h] G (fun r9 G' => r9 = some (.long (q_mean B (kR B n) n h)) ∧ XB v G' B n r e a K t l ∧ XF G G') := by
  refine xk_of (ls0 := [some (.ref (xw_ad v 0 0)), some (.int h), none, none]) (by decide) rfl (Nat.le_of_ble_eq_true rfl) ?_
  intro κ z hk hz
  obtain ⟨okb, he12, ha12, hK0, hl700, htl, S, A, Q, rd, sw, okS, okQ, g0, g1, g2, g3, g4, g5, gK, g18, g19, g20⟩ := hX
  obtain ⟨hn, hn30, how, hhs, hr, hr8⟩ := id okb
  refine xj_iload_n (i := 1) hk dX7_mean_0 rfl rfl ?_
  refine xj_callS hk hz (fr1 := 0) (lo1 := 0) (r1 := some (.int (xb (isH h)))) (As := [.int h]) (st := []) (st2 := [.int (xb (isH h))]) (G1 := G) ml_X7_90 (c_X7_isHouse h) dX7_mean_1 ⟨Nat.le_of_ble_eq_true rfl, Nat.le_of_ble_eq_true rfl⟩ rfl (Nat.le_of_ble_eq_true rfl) rfl rfl ?_
  refine xj_ifb_ne (tgt := 11) hk dX7_mean_4 (by decide) (fun c4 => ?_) (fun c4 => ?_)
  · refine xj_aload_n (i := 0) hk dX7_mean_11 rfl rfl ?_
    refine xj_callVE hk hz (fr1 := 5) (lo1 := 117) (As := []) (st := []) ml_X7_142 (c_X7_standing (n := n) (show G 0 = pc_X v from g0) (show G 1 = pc_B v 1 B from g1) (show G 2 = pc_S v 2 1 S from g2) okS hn hn30 how hhs) (xw_at g0 rfl) rfl dX7_mean_12 ⟨Nat.le_of_ble_eq_true rfl, Nat.le_of_ble_eq_true rfl⟩ rfl (Nat.le_of_ble_eq_true rfl) rfl ?_
    rintro _ _ ⟨S1, hS1, rfl, rfl⟩
    have hag := kR_ag how hhs hS1
    have hio := RecS_io hS1
    show xj v κ _ z (xw_up G 2 (pc_S v 2 1 S1)) 15 _ [.ref (xw_ad v 2 0)]
    refine xj_astore_n (i := 2) (ls2 := [some (.ref (xw_ad v 0 0)), some (.int h), some (.ref (xw_ad v 2 0)), none]) hk dX7_mean_15 rfl (by decide) rfl rfl ?_
    refine xj_aload_n (i := 2) hk dX7_mean_16 rfl rfl ?_
    refine xj_iload_n (i := 1) hk dX7_mean_17 rfl rfl ?_
    refine xj_callV hk hz (fr1 := 1) (lo1 := 25) (r1 := some (.int (sm (sel (bk_hs B) h (sl_so S1)) n))) (As := [.int h]) (st := []) (st2 := [.int (sm (sel (bk_hs B) h (sl_so S1)) n)]) (G1 := xw_up G 2 (pc_S v 2 1 S1)) ml_X7_169 (c_X4_soldTo (n := n) (show (xw_up G 2 (pc_S v 2 1 S1)) 2 = pc_S v 2 1 S1 from xw_up_s) (show (xw_up G 2 (pc_S v 2 1 S1)) 1 = pc_B v 1 B from (show (xw_up G 2 (pc_S v 2 1 S1)) 1 = pc_B v 1 B from by rw [xw_up_n (by decide), g1])) (by decide) hio hn30 h) (xw_at xw_up_s rfl) rfl dX7_mean_18 ⟨Nat.le_of_ble_eq_true rfl, Nat.le_of_ble_eq_true rfl⟩ rfl (Nat.le_of_ble_eq_true rfl) rfl rfl ?_
    refine xj_istore_n (i := 3) (ls2 := [some (.ref (xw_ad v 0 0)), some (.int h), some (.ref (xw_ad v 2 0)), some (.int (sm (sel (bk_hs B) h (sl_so S1)) n))]) hk dX7_mean_21 rfl (by decide) rfl rfl ?_
    refine xj_iload_n (i := 3) hk dX7_mean_22 rfl rfl ?_
    refine xj_if_le (tgt := 37) hk dX7_mean_23 (by decide) (fun c23 => ?_) (fun c23 => ?_)
    · refine xj_ldc2 (x := -2) hk dX7_mean_37 kl_X7_217 ?_
      refine xj_lreturn hk hz dX7_mean_40 ?_
      refine ⟨?_, ⟨okb, he12, ha12, hK0, hl700, htl, S1, A, Q, rd, sw, (Rec_okO hn30 hS1), okQ, (show (xw_up G 2 (pc_S v 2 1 S1)) 0 = pc_X v from (show (xw_up G 2 (pc_S v 2 1 S1)) 0 = pc_X v from by rw [xw_up_n (by decide), g0])), (show (xw_up G 2 (pc_S v 2 1 S1)) 1 = pc_B v 1 B from (show (xw_up G 2 (pc_S v 2 1 S1)) 1 = pc_B v 1 B from by rw [xw_up_n (by decide), g1])), (show (xw_up G 2 (pc_S v 2 1 S1)) 2 = pc_S v 2 1 S1 from xw_up_s), (show (xw_up G 2 (pc_S v 2 1 S1)) 3 = pc_B v 3 A from (show (xw_up G 2 (pc_S v 2 1 S1)) 3 = pc_B v 3 A from by rw [xw_up_n (by decide), g3])), (show (xw_up G 2 (pc_S v 2 1 S1)) 4 = pc_S v 4 3 Q from (show (xw_up G 2 (pc_S v 2 1 S1)) 4 = pc_S v 4 3 Q from by rw [xw_up_n (by decide), g4])), (show (xw_up G 2 (pc_S v 2 1 S1)) 5 = pc_P v (nI e, nI a) from (show (xw_up G 2 (pc_S v 2 1 S1)) 5 = pP v (nI e) (nI a) from by rw [xw_up_n (by decide), g5])), (fun j9 h9 => by rw [xw_up_n (by omega)]; exact gK j9 h9), (show (xw_up G 2 (pc_S v 2 1 S1)) 18 = pc_T v t from (show (xw_up G 2 (pc_S v 2 1 S1)) 18 = pc_T v t from by rw [xw_up_n (by decide), g18])), (show (xw_up G 2 (pc_S v 2 1 S1)) 19 = pc_R v rd from (show (xw_up G 2 (pc_S v 2 1 S1)) 19 = pc_R v rd from by rw [xw_up_n (by decide), g19])), (show (xw_up G 2 (pc_S v 2 1 S1)) 20 = pc_W  sw from (show (xw_up G 2 (pc_S v 2 1 S1)) 20 = pc_W  sw from by rw [xw_up_n (by decide), g20]))⟩, (fun g h9 => by rw [xw_up_n (by omega)])⟩
      rw [← q_mean_ag _ hag]
      simp [q_mean, c4, c23]
    · refine xj_aload_n (i := 2) hk dX7_mean_26 rfl rfl ?_
      refine xj_iload_n (i := 1) hk dX7_mean_27 rfl rfl ?_
      refine xj_callV hk hz (fr1 := 2) (lo1 := 43) (r1 := some (.long (sml (fun j => if (bk_hs B) j = h then payF B S1 j else 0) n))) (As := [.int h]) (st := []) (st2 := [.long (sml (fun j => if (bk_hs B) j = h then payF B S1 j else 0) n)]) (G1 := xw_up G 2 (pc_S v 2 1 S1)) ml_X7_211 (c_X4_paysOf (n := n) (show (xw_up G 2 (pc_S v 2 1 S1)) 2 = pc_S v 2 1 S1 from xw_up_s) (show (xw_up G 2 (pc_S v 2 1 S1)) 1 = pc_B v 1 B from (show (xw_up G 2 (pc_S v 2 1 S1)) 1 = pc_B v 1 B from by rw [xw_up_n (by decide), g1])) (by decide) hio hn30 h) (xw_at xw_up_s rfl) rfl dX7_mean_28 ⟨Nat.le_of_ble_eq_true rfl, Nat.le_of_ble_eq_true rfl⟩ rfl (Nat.le_of_ble_eq_true rfl) rfl rfl ?_
      refine xj_iload_n (i := 3) hk dX7_mean_31 rfl rfl ?_
      refine xj_i2l hk dX7_mean_32 ?_
      refine xj_ldiv hk dX7_mean_33 (i64ne c23) ?_
      refine xj_goto (tgt := 40) hk dX7_mean_34 (by decide) ?_
      refine xj_lreturn hk hz dX7_mean_40 ?_
      refine ⟨?_, ⟨okb, he12, ha12, hK0, hl700, htl, S1, A, Q, rd, sw, (Rec_okO hn30 hS1), okQ, (show (xw_up G 2 (pc_S v 2 1 S1)) 0 = pc_X v from (show (xw_up G 2 (pc_S v 2 1 S1)) 0 = pc_X v from by rw [xw_up_n (by decide), g0])), (show (xw_up G 2 (pc_S v 2 1 S1)) 1 = pc_B v 1 B from (show (xw_up G 2 (pc_S v 2 1 S1)) 1 = pc_B v 1 B from by rw [xw_up_n (by decide), g1])), (show (xw_up G 2 (pc_S v 2 1 S1)) 2 = pc_S v 2 1 S1 from xw_up_s), (show (xw_up G 2 (pc_S v 2 1 S1)) 3 = pc_B v 3 A from (show (xw_up G 2 (pc_S v 2 1 S1)) 3 = pc_B v 3 A from by rw [xw_up_n (by decide), g3])), (show (xw_up G 2 (pc_S v 2 1 S1)) 4 = pc_S v 4 3 Q from (show (xw_up G 2 (pc_S v 2 1 S1)) 4 = pc_S v 4 3 Q from by rw [xw_up_n (by decide), g4])), (show (xw_up G 2 (pc_S v 2 1 S1)) 5 = pc_P v (nI e, nI a) from (show (xw_up G 2 (pc_S v 2 1 S1)) 5 = pP v (nI e) (nI a) from by rw [xw_up_n (by decide), g5])), (fun j9 h9 => by rw [xw_up_n (by omega)]; exact gK j9 h9), (show (xw_up G 2 (pc_S v 2 1 S1)) 18 = pc_T v t from (show (xw_up G 2 (pc_S v 2 1 S1)) 18 = pc_T v t from by rw [xw_up_n (by decide), g18])), (show (xw_up G 2 (pc_S v 2 1 S1)) 19 = pc_R v rd from (show (xw_up G 2 (pc_S v 2 1 S1)) 19 = pc_R v rd from by rw [xw_up_n (by decide), g19])), (show (xw_up G 2 (pc_S v 2 1 S1)) 20 = pc_W  sw from (show (xw_up G 2 (pc_S v 2 1 S1)) 20 = pc_W  sw from by rw [xw_up_n (by decide), g20]))⟩, (fun g h9 => by rw [xw_up_n (by omega)])⟩
      rw [← q_mean_ag _ hag]
      simp [q_mean, c4, c23]
  · refine xj_ldc2 (x := -1) hk dX7_mean_7 kl_X7_197 ?_
    refine xj_lreturn hk hz dX7_mean_10 ?_
    refine ⟨?_, ⟨okb, he12, ha12, hK0, hl700, htl, S, A, Q, rd, sw, okS, okQ, (show G 0 = pc_X v from g0), (show G 1 = pc_B v 1 B from g1), (show G 2 = pc_S v 2 1 S from g2), (show G 3 = pc_B v 3 A from g3), (show G 4 = pc_S v 4 3 Q from g4), (show G 5 = pc_P v (nI e, nI a) from g5), gK, (show G 18 = pc_T v t from g18), (show G 19 = pc_R v rd from g19), (show G 20 = pc_W  sw from g20)⟩, (fun _ _ => rfl)⟩
    simp [q_mean, c4]

set_option maxHeartbeats 1000000 in
set_option maxRecDepth 10000 in
theorem c_X7_filled {v : xw_V} {G : xw_G} {B : bk_T} {n r e a l : Nat} {K : Nat → bk_T} {t : tp_T} (hX : XB v G B n r e a K t l) (b : Int32) : xk_Con v yX7_filled cX7_filled 2 (some .int) 6 137 [.ref (xw_ad v 0 0), .int b] G (fun r9 G' => r9 = some (.int (q_filled B (kR B n) b)) ∧ XB v G' B n r e a K t l ∧ XF G G') := by
  refine xk_of (ls0 := [some (.ref (xw_ad v 0 0)), some (.int b)]) (by decide) rfl (Nat.le_of_ble_eq_true rfl) ?_
  intro κ z hk hz
  obtain ⟨okb, he12, ha12, hK0, hl700, htl, S, A, Q, rd, sw, okS, okQ, g0, g1, g2, g3, g4, g5, gK, g18, g19, g20⟩ := hX
  obtain ⟨hn, hn30, how, hhs, hr, hr8⟩ := id okb
  refine xj_aload_n (i := 0) hk dX7_filled_0 rfl rfl ?_
  refine xj_getfield hk dX7_filled_1 fl_X7_10 (xw_at g0 rfl) rfl ?_
  refine xj_iload_n (i := 1) hk dX7_filled_4 rfl rfl ?_
  refine xj_callV hk hz (fr1 := 0) (lo1 := 0) (r1 := some (.int (xb (hasB (bk_bi B) b)))) (As := [.int b]) (st := []) (st2 := [.int (xb (hasB (bk_bi B) b))]) (G1 := G) ml_X7_103 (c_X0_hasBid (show G 1 = pc_B v 1 B from g1) b) (xw_at g1 rfl) rfl dX7_filled_5 ⟨Nat.le_of_ble_eq_true rfl, Nat.le_of_ble_eq_true rfl⟩ rfl (Nat.le_of_ble_eq_true rfl) rfl rfl ?_
  refine xj_ifb_eq (tgt := 24) hk dX7_filled_8 (by decide) (fun c8 => ?_) (fun c8 => ?_)
  · refine xj_iconst (x := (-1)) hk dX7_filled_24 (by decide) ?_
    refine xj_ireturn hk hz dX7_filled_25 ?_
    refine ⟨?_, ⟨okb, he12, ha12, hK0, hl700, htl, S, A, Q, rd, sw, okS, okQ, (show G 0 = pc_X v from g0), (show G 1 = pc_B v 1 B from g1), (show G 2 = pc_S v 2 1 S from g2), (show G 3 = pc_B v 3 A from g3), (show G 4 = pc_S v 4 3 Q from g4), (show G 5 = pc_P v (nI e, nI a) from g5), gK, (show G 18 = pc_T v t from g18), (show G 19 = pc_R v rd from g19), (show G 20 = pc_W  sw from g20)⟩, (fun _ _ => rfl)⟩
    simp [q_filled, c8]
  · obtain ⟨j, hj_j, rfl⟩ := hasB_of hn hn30 c8
    refine xj_aload_n (i := 0) hk dX7_filled_11 rfl rfl ?_
    refine xj_getfield hk dX7_filled_12 fl_X7_10 (xw_at g0 rfl) rfl ?_
    refine xj_getfield hk dX7_filled_15 fl_X7_116 (xw_at g1 rfl) rfl ?_
    refine xj_iload_n (i := 1) hk dX7_filled_18 rfl rfl ?_
    refine xj_iaload (k := j) hk dX7_filled_19 (xw_at g1 rfl) (xi_n (by omega) (by decide)) ?_
    refine xj_iconst (x := 1) hk dX7_filled_20 (by decide) ?_
    refine xj_icmp_ge (tgt := 26) hk dX7_filled_21 (by decide) (fun c21 => ?_) (fun c21 => ?_)
    · refine xj_aload_n (i := 0) hk dX7_filled_26 rfl rfl ?_
      refine xj_callVE hk hz (fr1 := 5) (lo1 := 117) (As := []) (st := []) ml_X7_142 (c_X7_standing (n := n) (show G 0 = pc_X v from g0) (show G 1 = pc_B v 1 B from g1) (show G 2 = pc_S v 2 1 S from g2) okS hn hn30 how hhs) (xw_at g0 rfl) rfl dX7_filled_27 ⟨Nat.le_of_ble_eq_true rfl, Nat.le_of_ble_eq_true rfl⟩ rfl (Nat.le_of_ble_eq_true rfl) rfl ?_
      rintro _ _ ⟨S1, hS1, rfl, rfl⟩
      have hag := kR_ag how hhs hS1
      have hio := RecS_io hS1
      show xj v κ _ z (xw_up G 2 (pc_S v 2 1 S1)) 30 _ [.ref (xw_ad v 2 0)]
      refine xj_getfield hk dX7_filled_30 fl_X7_190 (xw_at xw_up_s rfl) rfl ?_
      refine xj_iload_n (i := 1) hk dX7_filled_33 rfl rfl ?_
      refine xj_iaload (k := j) hk dX7_filled_34 (xw_at xw_up_s rfl) (xi_n (by omega) (by decide)) ?_
      refine xj_bipush (x := 100) hk dX7_filled_35 (by decide) ?_
      refine xj_imul hk dX7_filled_37 ?_
      refine xj_aload_n (i := 0) hk dX7_filled_38 rfl rfl ?_
      refine xj_getfield hk dX7_filled_39 fl_X7_10 (xw_at (show (xw_up G 2 (pc_S v 2 1 S1)) 0 = pc_X v from by rw [xw_up_n (by decide), g0]) rfl) rfl ?_
      refine xj_getfield hk dX7_filled_42 fl_X7_116 (xw_at (show (xw_up G 2 (pc_S v 2 1 S1)) 1 = pc_B v 1 B from by rw [xw_up_n (by decide), g1]) rfl) rfl ?_
      refine xj_iload_n (i := 1) hk dX7_filled_45 rfl rfl ?_
      refine xj_iaload (k := j) hk dX7_filled_46 (xw_at (show (xw_up G 2 (pc_S v 2 1 S1)) 1 = pc_B v 1 B from by rw [xw_up_n (by decide), g1]) rfl) (xi_n (by omega) (by decide)) ?_
      refine xj_idiv hk dX7_filled_47 (i1ne c21) ?_
      refine xj_ireturn hk hz dX7_filled_48 ?_
      refine ⟨?_, ⟨okb, he12, ha12, hK0, hl700, htl, S1, A, Q, rd, sw, (Rec_okO hn30 hS1), okQ, (show (xw_up G 2 (pc_S v 2 1 S1)) 0 = pc_X v from (show (xw_up G 2 (pc_S v 2 1 S1)) 0 = pc_X v from by rw [xw_up_n (by decide), g0])), (show (xw_up G 2 (pc_S v 2 1 S1)) 1 = pc_B v 1 B from (show (xw_up G 2 (pc_S v 2 1 S1)) 1 = pc_B v 1 B from by rw [xw_up_n (by decide), g1])), (show (xw_up G 2 (pc_S v 2 1 S1)) 2 = pc_S v 2 1 S1 from xw_up_s), (show (xw_up G 2 (pc_S v 2 1 S1)) 3 = pc_B v 3 A from (show (xw_up G 2 (pc_S v 2 1 S1)) 3 = pc_B v 3 A from by rw [xw_up_n (by decide), g3])), (show (xw_up G 2 (pc_S v 2 1 S1)) 4 = pc_S v 4 3 Q from (show (xw_up G 2 (pc_S v 2 1 S1)) 4 = pc_S v 4 3 Q from by rw [xw_up_n (by decide), g4])), (show (xw_up G 2 (pc_S v 2 1 S1)) 5 = pc_P v (nI e, nI a) from (show (xw_up G 2 (pc_S v 2 1 S1)) 5 = pP v (nI e) (nI a) from by rw [xw_up_n (by decide), g5])), (fun j9 h9 => by rw [xw_up_n (by omega)]; exact gK j9 h9), (show (xw_up G 2 (pc_S v 2 1 S1)) 18 = pc_T v t from (show (xw_up G 2 (pc_S v 2 1 S1)) 18 = pc_T v t from by rw [xw_up_n (by decide), g18])), (show (xw_up G 2 (pc_S v 2 1 S1)) 19 = pc_R v rd from (show (xw_up G 2 (pc_S v 2 1 S1)) 19 = pc_R v rd from by rw [xw_up_n (by decide), g19])), (show (xw_up G 2 (pc_S v 2 1 S1)) 20 = pc_W  sw from (show (xw_up G 2 (pc_S v 2 1 S1)) 20 = pc_W  sw from by rw [xw_up_n (by decide), g20]))⟩, (fun g h9 => by rw [xw_up_n (by omega)])⟩
      rw [← q_filled_ag _ hn hn30 hag]
      simp [q_filled, c8, xn_nI (show j < 2 ^ 31 by omega), c21]
    · refine xj_iconst (x := (-1)) hk dX7_filled_24 (by decide) ?_
      refine xj_ireturn hk hz dX7_filled_25 ?_
      refine ⟨?_, ⟨okb, he12, ha12, hK0, hl700, htl, S, A, Q, rd, sw, okS, okQ, (show G 0 = pc_X v from g0), (show G 1 = pc_B v 1 B from g1), (show G 2 = pc_S v 2 1 S from g2), (show G 3 = pc_B v 3 A from g3), (show G 4 = pc_S v 4 3 Q from g4), (show G 5 = pc_P v (nI e, nI a) from g5), gK, (show G 18 = pc_T v t from g18), (show G 19 = pc_R v rd from g19), (show G 20 = pc_W  sw from g20)⟩, (fun _ _ => rfl)⟩
      simp [q_filled, c8, xn_nI (show j < 2 ^ 31 by omega), c21]

set_option maxHeartbeats 1000000 in
set_option maxRecDepth 10000 in
theorem c_X7_price {v : xw_V} {G : xw_G} {B : bk_T} {n r e a l : Nat} {K : Nat → bk_T} {t : tp_T} (hX : XB v G B n r e a K t l) (x : Int32) : xk_Con v yX7_price cX7_price 2 (some .int) 1 21 [.ref (xw_ad v 0 0), .int x] G (fun r9 G' => r9 = some (.int (q_price (bk_te B) x)) ∧ XB v G' B n r e a K t l ∧ XF G G') := by
  refine xk_of (ls0 := [some (.ref (xw_ad v 0 0)), some (.int x)]) (by decide) rfl (Nat.le_of_ble_eq_true rfl) ?_
  intro κ z hk hz
  obtain ⟨okb, he12, ha12, hK0, hl700, htl, S, A, Q, rd, sw, okS, okQ, g0, g1, g2, g3, g4, g5, gK, g18, g19, g20⟩ := hX
  obtain ⟨hn, hn30, how, hhs, hr, hr8⟩ := id okb
  refine xj_iload_n (i := 1) hk dX7_price_0 rfl rfl ?_
  refine xj_callS hk hz (fr1 := 0) (lo1 := 0) (r1 := some (.int (xb (isR x)))) (As := [.int x]) (st := []) (st2 := [.int (xb (isR x))]) (G1 := G) ml_X7_86 (c_X7_isRate x) dX7_price_1 ⟨Nat.le_of_ble_eq_true rfl, Nat.le_of_ble_eq_true rfl⟩ rfl (Nat.le_of_ble_eq_true rfl) rfl rfl ?_
  refine xj_ifb_eq (tgt := 18) hk dX7_price_4 (by decide) (fun c4 => ?_) (fun c4 => ?_)
  · refine xj_iconst (x := (-1)) hk dX7_price_18 (by decide) ?_
    refine xj_ireturn hk hz dX7_price_19 ?_
    refine ⟨?_, ⟨okb, he12, ha12, hK0, hl700, htl, S, A, Q, rd, sw, okS, okQ, (show G 0 = pc_X v from g0), (show G 1 = pc_B v 1 B from g1), (show G 2 = pc_S v 2 1 S from g2), (show G 3 = pc_B v 3 A from g3), (show G 4 = pc_S v 4 3 Q from g4), (show G 5 = pc_P v (nI e, nI a) from g5), gK, (show G 18 = pc_T v t from g18), (show G 19 = pc_R v rd from g19), (show G 20 = pc_W  sw from g20)⟩, (fun _ _ => rfl)⟩
    simp [q_price, c4]
  · refine xj_aload_n (i := 0) hk dX7_price_7 rfl rfl ?_
    refine xj_getfield hk dX7_price_8 fl_X7_10 (xw_at g0 rfl) rfl ?_
    refine xj_iload_n (i := 1) hk dX7_price_11 rfl rfl ?_
    refine xj_callV hk hz (fr1 := 0) (lo1 := 0) (r1 := some (.int (pric (bk_te B) x))) (As := [.int x]) (st := []) (st2 := [.int (pric (bk_te B) x)]) (G1 := G) ml_X7_219 (c_X0_priceAt (show G 1 = pc_B v 1 B from g1) x) (xw_at g1 rfl) rfl dX7_price_12 ⟨Nat.le_of_ble_eq_true rfl, Nat.le_of_ble_eq_true rfl⟩ rfl (Nat.le_of_ble_eq_true rfl) rfl rfl ?_
    refine xj_goto (tgt := 19) hk dX7_price_15 (by decide) ?_
    refine xj_ireturn hk hz dX7_price_19 ?_
    refine ⟨?_, ⟨okb, he12, ha12, hK0, hl700, htl, S, A, Q, rd, sw, okS, okQ, (show G 0 = pc_X v from g0), (show G 1 = pc_B v 1 B from g1), (show G 2 = pc_S v 2 1 S from g2), (show G 3 = pc_B v 3 A from g3), (show G 4 = pc_S v 4 3 Q from g4), (show G 5 = pc_P v (nI e, nI a) from g5), gK, (show G 18 = pc_T v t from g18), (show G 19 = pc_R v rd from g19), (show G 20 = pc_W  sw from g20)⟩, (fun _ _ => rfl)⟩
    simp [q_price, c4]

set_option maxHeartbeats 1000000 in
set_option maxRecDepth 10000 in
theorem c_X7_upTo {v : xw_V} {G : xw_G} {B : bk_T} {n r e a l : Nat} {K : Nat → bk_T} {t : tp_T} (hX : XB v G B n r e a K t l) (x : Int32) : xk_Con v yX7_upTo cX7_upTo 2 (some .int) 6 137 [.ref (xw_ad v 0 0), .int x] G (fun r9 G' => r9 = some (.int (q_upTo B (kR B n) n x)) ∧ XB v G' B n r e a K t l ∧ XF G G') := by
  refine xk_of (ls0 := [some (.ref (xw_ad v 0 0)), some (.int x)]) (by decide) rfl (Nat.le_of_ble_eq_true rfl) ?_
  intro κ z hk hz
  obtain ⟨okb, he12, ha12, hK0, hl700, htl, S, A, Q, rd, sw, okS, okQ, g0, g1, g2, g3, g4, g5, gK, g18, g19, g20⟩ := hX
  obtain ⟨hn, hn30, how, hhs, hr, hr8⟩ := id okb
  refine xj_iload_n (i := 1) hk dX7_upTo_0 rfl rfl ?_
  refine xj_callS hk hz (fr1 := 0) (lo1 := 0) (r1 := some (.int (xb (isR x)))) (As := [.int x]) (st := []) (st2 := [.int (xb (isR x))]) (G1 := G) ml_X7_86 (c_X7_isRate x) dX7_upTo_1 ⟨Nat.le_of_ble_eq_true rfl, Nat.le_of_ble_eq_true rfl⟩ rfl (Nat.le_of_ble_eq_true rfl) rfl rfl ?_
  refine xj_ifb_eq (tgt := 18) hk dX7_upTo_4 (by decide) (fun c4 => ?_) (fun c4 => ?_)
  · refine xj_iconst (x := (-1)) hk dX7_upTo_18 (by decide) ?_
    refine xj_ireturn hk hz dX7_upTo_19 ?_
    refine ⟨?_, ⟨okb, he12, ha12, hK0, hl700, htl, S, A, Q, rd, sw, okS, okQ, (show G 0 = pc_X v from g0), (show G 1 = pc_B v 1 B from g1), (show G 2 = pc_S v 2 1 S from g2), (show G 3 = pc_B v 3 A from g3), (show G 4 = pc_S v 4 3 Q from g4), (show G 5 = pc_P v (nI e, nI a) from g5), gK, (show G 18 = pc_T v t from g18), (show G 19 = pc_R v rd from g19), (show G 20 = pc_W  sw from g20)⟩, (fun _ _ => rfl)⟩
    simp [q_upTo, c4]
  · refine xj_aload_n (i := 0) hk dX7_upTo_7 rfl rfl ?_
    refine xj_callVE hk hz (fr1 := 5) (lo1 := 117) (As := []) (st := []) ml_X7_142 (c_X7_standing (n := n) (show G 0 = pc_X v from g0) (show G 1 = pc_B v 1 B from g1) (show G 2 = pc_S v 2 1 S from g2) okS hn hn30 how hhs) (xw_at g0 rfl) rfl dX7_upTo_8 ⟨Nat.le_of_ble_eq_true rfl, Nat.le_of_ble_eq_true rfl⟩ rfl (Nat.le_of_ble_eq_true rfl) rfl ?_
    rintro _ _ ⟨S1, hS1, rfl, rfl⟩
    have hag := kR_ag how hhs hS1
    have hio := RecS_io hS1
    show xj v κ _ z (xw_up G 2 (pc_S v 2 1 S1)) 11 _ [.ref (xw_ad v 2 0)]
    refine xj_iload_n (i := 1) hk dX7_upTo_11 rfl rfl ?_
    refine xj_callV hk hz (fr1 := 0) (lo1 := 0) (r1 := some (.int (sm (fun j => if (bk_ra B) j = -1 then 0 else if x < (bk_ra B) j then 0 else (sl_ad S1) j) n))) (As := [.int x]) (st := []) (st2 := [.int (sm (fun j => if (bk_ra B) j = -1 then 0 else if x < (bk_ra B) j then 0 else (sl_ad S1) j) n)]) (G1 := xw_up G 2 (pc_S v 2 1 S1)) ml_X7_222 (c_X4_admittedUpTo (n := n) (show (xw_up G 2 (pc_S v 2 1 S1)) 2 = pc_S v 2 1 S1 from xw_up_s) (show (xw_up G 2 (pc_S v 2 1 S1)) 1 = pc_B v 1 B from (show (xw_up G 2 (pc_S v 2 1 S1)) 1 = pc_B v 1 B from by rw [xw_up_n (by decide), g1])) (by decide) hio hn30 x) (xw_at xw_up_s rfl) rfl dX7_upTo_12 ⟨Nat.le_of_ble_eq_true rfl, Nat.le_of_ble_eq_true rfl⟩ rfl (Nat.le_of_ble_eq_true rfl) rfl rfl ?_
    refine xj_goto (tgt := 19) hk dX7_upTo_15 (by decide) ?_
    refine xj_ireturn hk hz dX7_upTo_19 ?_
    refine ⟨?_, ⟨okb, he12, ha12, hK0, hl700, htl, S1, A, Q, rd, sw, (Rec_okO hn30 hS1), okQ, (show (xw_up G 2 (pc_S v 2 1 S1)) 0 = pc_X v from (show (xw_up G 2 (pc_S v 2 1 S1)) 0 = pc_X v from by rw [xw_up_n (by decide), g0])), (show (xw_up G 2 (pc_S v 2 1 S1)) 1 = pc_B v 1 B from (show (xw_up G 2 (pc_S v 2 1 S1)) 1 = pc_B v 1 B from by rw [xw_up_n (by decide), g1])), (show (xw_up G 2 (pc_S v 2 1 S1)) 2 = pc_S v 2 1 S1 from xw_up_s), (show (xw_up G 2 (pc_S v 2 1 S1)) 3 = pc_B v 3 A from (show (xw_up G 2 (pc_S v 2 1 S1)) 3 = pc_B v 3 A from by rw [xw_up_n (by decide), g3])), (show (xw_up G 2 (pc_S v 2 1 S1)) 4 = pc_S v 4 3 Q from (show (xw_up G 2 (pc_S v 2 1 S1)) 4 = pc_S v 4 3 Q from by rw [xw_up_n (by decide), g4])), (show (xw_up G 2 (pc_S v 2 1 S1)) 5 = pc_P v (nI e, nI a) from (show (xw_up G 2 (pc_S v 2 1 S1)) 5 = pP v (nI e) (nI a) from by rw [xw_up_n (by decide), g5])), (fun j9 h9 => by rw [xw_up_n (by omega)]; exact gK j9 h9), (show (xw_up G 2 (pc_S v 2 1 S1)) 18 = pc_T v t from (show (xw_up G 2 (pc_S v 2 1 S1)) 18 = pc_T v t from by rw [xw_up_n (by decide), g18])), (show (xw_up G 2 (pc_S v 2 1 S1)) 19 = pc_R v rd from (show (xw_up G 2 (pc_S v 2 1 S1)) 19 = pc_R v rd from by rw [xw_up_n (by decide), g19])), (show (xw_up G 2 (pc_S v 2 1 S1)) 20 = pc_W  sw from (show (xw_up G 2 (pc_S v 2 1 S1)) 20 = pc_W  sw from by rw [xw_up_n (by decide), g20]))⟩, (fun g h9 => by rw [xw_up_n (by omega)])⟩
    rw [← q_upTo_ag _ hag]
    simp [q_upTo, c4]

set_option maxHeartbeats 1000000 in
set_option maxRecDepth 10000 in
theorem c_X7_ranked {v : xw_V} {G : xw_G} {B : bk_T} {n r e a l : Nat} {K : Nat → bk_T} {t : tp_T} (hX : XB v G B n r e a K t l) (b : Int32) : xk_Con v yX7_ranked cX7_ranked 2 (some .int) 6 137 [.ref (xw_ad v 0 0), .int b] G (fun r9 G' => r9 = some (.int (q_ranked B (kR B n) b)) ∧ XB v G' B n r e a K t l ∧ XF G G') := by
  refine xk_of (ls0 := [some (.ref (xw_ad v 0 0)), some (.int b)]) (by decide) rfl (Nat.le_of_ble_eq_true rfl) ?_
  intro κ z hk hz
  obtain ⟨okb, he12, ha12, hK0, hl700, htl, S, A, Q, rd, sw, okS, okQ, g0, g1, g2, g3, g4, g5, gK, g18, g19, g20⟩ := hX
  obtain ⟨hn, hn30, how, hhs, hr, hr8⟩ := id okb
  refine xj_aload_n (i := 0) hk dX7_ranked_0 rfl rfl ?_
  refine xj_getfield hk dX7_ranked_1 fl_X7_10 (xw_at g0 rfl) rfl ?_
  refine xj_iload_n (i := 1) hk dX7_ranked_4 rfl rfl ?_
  refine xj_callV hk hz (fr1 := 0) (lo1 := 0) (r1 := some (.int (xb (hasB (bk_bi B) b)))) (As := [.int b]) (st := []) (st2 := [.int (xb (hasB (bk_bi B) b))]) (G1 := G) ml_X7_103 (c_X0_hasBid (show G 1 = pc_B v 1 B from g1) b) (xw_at g1 rfl) rfl dX7_ranked_5 ⟨Nat.le_of_ble_eq_true rfl, Nat.le_of_ble_eq_true rfl⟩ rfl (Nat.le_of_ble_eq_true rfl) rfl rfl ?_
  refine xj_ifb_eq (tgt := 23) hk dX7_ranked_8 (by decide) (fun c8 => ?_) (fun c8 => ?_)
  · refine xj_iconst (x := (-1)) hk dX7_ranked_23 (by decide) ?_
    refine xj_ireturn hk hz dX7_ranked_24 ?_
    refine ⟨?_, ⟨okb, he12, ha12, hK0, hl700, htl, S, A, Q, rd, sw, okS, okQ, (show G 0 = pc_X v from g0), (show G 1 = pc_B v 1 B from g1), (show G 2 = pc_S v 2 1 S from g2), (show G 3 = pc_B v 3 A from g3), (show G 4 = pc_S v 4 3 Q from g4), (show G 5 = pc_P v (nI e, nI a) from g5), gK, (show G 18 = pc_T v t from g18), (show G 19 = pc_R v rd from g19), (show G 20 = pc_W  sw from g20)⟩, (fun _ _ => rfl)⟩
    simp [q_ranked, c8]
  · obtain ⟨j, hj_j, rfl⟩ := hasB_of hn hn30 c8
    refine xj_aload_n (i := 0) hk dX7_ranked_11 rfl rfl ?_
    refine xj_callVE hk hz (fr1 := 5) (lo1 := 117) (As := []) (st := []) ml_X7_142 (c_X7_standing (n := n) (show G 0 = pc_X v from g0) (show G 1 = pc_B v 1 B from g1) (show G 2 = pc_S v 2 1 S from g2) okS hn hn30 how hhs) (xw_at g0 rfl) rfl dX7_ranked_12 ⟨Nat.le_of_ble_eq_true rfl, Nat.le_of_ble_eq_true rfl⟩ rfl (Nat.le_of_ble_eq_true rfl) rfl ?_
    rintro _ _ ⟨S1, hS1, rfl, rfl⟩
    have hag := kR_ag how hhs hS1
    have hio := RecS_io hS1
    show xj v κ _ z (xw_up G 2 (pc_S v 2 1 S1)) 15 _ [.ref (xw_ad v 2 0)]
    refine xj_getfield hk dX7_ranked_15 fl_X7_225 (xw_at xw_up_s rfl) rfl ?_
    refine xj_iload_n (i := 1) hk dX7_ranked_18 rfl rfl ?_
    refine xj_iaload (k := j) hk dX7_ranked_19 (xw_at xw_up_s rfl) (xi_n (by omega) (by decide)) ?_
    refine xj_goto (tgt := 24) hk dX7_ranked_20 (by decide) ?_
    refine xj_ireturn hk hz dX7_ranked_24 ?_
    refine ⟨?_, ⟨okb, he12, ha12, hK0, hl700, htl, S1, A, Q, rd, sw, (Rec_okO hn30 hS1), okQ, (show (xw_up G 2 (pc_S v 2 1 S1)) 0 = pc_X v from (show (xw_up G 2 (pc_S v 2 1 S1)) 0 = pc_X v from by rw [xw_up_n (by decide), g0])), (show (xw_up G 2 (pc_S v 2 1 S1)) 1 = pc_B v 1 B from (show (xw_up G 2 (pc_S v 2 1 S1)) 1 = pc_B v 1 B from by rw [xw_up_n (by decide), g1])), (show (xw_up G 2 (pc_S v 2 1 S1)) 2 = pc_S v 2 1 S1 from xw_up_s), (show (xw_up G 2 (pc_S v 2 1 S1)) 3 = pc_B v 3 A from (show (xw_up G 2 (pc_S v 2 1 S1)) 3 = pc_B v 3 A from by rw [xw_up_n (by decide), g3])), (show (xw_up G 2 (pc_S v 2 1 S1)) 4 = pc_S v 4 3 Q from (show (xw_up G 2 (pc_S v 2 1 S1)) 4 = pc_S v 4 3 Q from by rw [xw_up_n (by decide), g4])), (show (xw_up G 2 (pc_S v 2 1 S1)) 5 = pc_P v (nI e, nI a) from (show (xw_up G 2 (pc_S v 2 1 S1)) 5 = pP v (nI e) (nI a) from by rw [xw_up_n (by decide), g5])), (fun j9 h9 => by rw [xw_up_n (by omega)]; exact gK j9 h9), (show (xw_up G 2 (pc_S v 2 1 S1)) 18 = pc_T v t from (show (xw_up G 2 (pc_S v 2 1 S1)) 18 = pc_T v t from by rw [xw_up_n (by decide), g18])), (show (xw_up G 2 (pc_S v 2 1 S1)) 19 = pc_R v rd from (show (xw_up G 2 (pc_S v 2 1 S1)) 19 = pc_R v rd from by rw [xw_up_n (by decide), g19])), (show (xw_up G 2 (pc_S v 2 1 S1)) 20 = pc_W  sw from (show (xw_up G 2 (pc_S v 2 1 S1)) 20 = pc_W  sw from by rw [xw_up_n (by decide), g20]))⟩, (fun g h9 => by rw [xw_up_n (by omega)])⟩
    rw [← q_ranked_ag _ hn hn30 hag]
    simp [q_ranked, c8, xn_nI (show j < 2 ^ 31 by omega)]


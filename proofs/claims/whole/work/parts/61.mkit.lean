/-- the reference's row as a book -/
def mB (te ho ow hs ra lo : Nat → Int32) (n : Nat) : bk_T := (te, ho, ow, hs, ra, lo, nI n, fun _ => 0, fun _ => 0, fun _ => 0, fun _ => 0, 0)
noncomputable def kM (te ho ow hs ra lo : Nat → Int32) (n : Nat) : sl_T := kR (mB te ho ow hs ra lo n) n
def MV (te ow hs ra lo : Nat → Int32) (n : Nat) : Prop := n ≤ 30 ∧ okOw ow ∧ okHs hs n ∧ vT te ∧ vL ra lo n
def sl_w (K : sl_T) (od ad wy so : Nat → Int32) : sl_T := (od, ad, wy, so, sl_re K, sl_ro K, sl_rl K, sl_io K, sl_ap K, sl_ar K, sl_po K, sl_sp K, sl_rs K, sl_st K, sl_sr K, sl_pt K, sl_av K)
theorem kMF {te ho ow hs ra lo : Nat → Int32} {n : Nat} (h : MV te ow hs ra lo n) : kF (mB te ho ow hs ra lo n) n (kM te ho ow hs ra lo n) := kF_of (B := mB te ho ow hs ra lo n) h.1 h.2.2.2.1 h.2.2.2.2 h.2.1 h.2.2.1
theorem agM_S {n : Nat} {K : sl_T} {od ad wy so : Nat → Int32} (h : agM n K od ad wy so) : agS n (sl_w K od ad wy so) K := ⟨h, fun _ _ => rfl, rfl, rfl, rfl, rfl, rfl, rfl, rfl, rfl, rfl, rfl⟩
/-- the reference's object, its row aside -/
def MS (v : xw_V) (G : xw_G) (N : Nat → Int32) (M : md_T) : Prop := G 21 = pM v (md_th M) N (md_pt M) (md_re M) (md_sd M) (md_be M) (md_pb M) (md_ac M) (md_od M) (md_ad M) (md_wy M) (md_so M) (md_rl M) (md_io M) (md_po M) (md_sp M) (md_rs M) (md_st M) (md_av M) (md_ip M) (md_tx M) (md_tm M) (md_ta M) (md_td M) (md_wo M) (md_sq M) (md_tk M) (md_bg M) (md_nu M) (md_wr M)
def mQ (v : xw_V) (G G' : xw_G) (N : Nat → Int32) (M : md_T) : Prop := (∃ M' : md_T, MS v G' N M' ∧ md_pt M' = md_pt M ∧ md_be M' = md_be M ∧ md_pb M' = md_pb M ∧ md_ac M' = md_ac M ∧ md_ta M' = md_ta M ∧ md_td M' = md_td M ∧ md_wo M' = md_wo M) ∧ ∀ g, g ≠ 21 → G' g = G g
theorem c_sellsK {v : xw_V} {G : xw_G} {M : md_T} {te ho ow hs ra lo st av so : Nat → Int32} {ln : Int32} {n : Nat} (hM : G 21 = pM v (md_th M) (nR te ho ow hs ra lo (nI n) st av so ln) (md_pt M) (md_re M) (md_sd M) (md_be M) (md_pb M) (md_ac M) (md_od M) (md_ad M) (md_wy M) (md_so M) (md_rl M) (md_io M) (md_po M) (md_sp M) (md_rs M) (md_st M) (md_av M) (md_ip M) (md_tx M) (md_tm M) (md_ta M) (md_td M) (md_wo M) (md_sq M) (md_tk M) (md_bg M) (md_nu M) (md_wr M)) (hq : MV te ow hs ra lo n) : xk_Con v yX8_sells cX8_sells 5 none 3 65 [.ref (xw_ad v 21 0)] G (fun r G' => r = none ∧ ∃ (od ad wy rl so3 io3 : Nat → Int32), agS n (sl_w (kM te ho ow hs ra lo n) od ad wy so3) (kM te ho ow hs ra lo n) ∧ G' = xw_up G 21 (pM v (md_th M) (nR te ho ow hs ra lo (nI n) st av so ln) (md_pt M) (md_re M) (md_sd M) (md_be M) (md_pb M) (md_ac M) od ad wy so3 rl io3 (sl_po (kM te ho ow hs ra lo n)) (sl_sp (kM te ho ow hs ra lo n)) (sl_rs (kM te ho ow hs ra lo n)) (sl_st (kM te ho ow hs ra lo n)) (sl_av (kM te ho ow hs ra lo n)) (sl_pt (kM te ho ow hs ra lo n)) (md_tx M) (md_tm M) (md_ta M) (md_td M) (md_wo M) (md_sq M) (md_tk M) (md_bg M) (md_nu M) (md_wr M))) := by
  obtain ⟨h1, h2, h3, h4, h5⟩ := hq
  refine xk_mono ?_ (c_X8_sells hM h1 h2 h3 (HG1_of h1 h4 h5 h2 h3) (HG2_of h1 h4 h5 h2 h3))
  rintro _ _ ⟨rfl, p, od, ad, wy, rl, so1, so3, io3, ip, a1, a2, a3, a4, a5, a6, a7, a8, rfl⟩
  obtain ⟨e1, e2, e3, e4, e5, e6, e7, -⟩ := sells_kR (B := mB te ho ow hs ra lo n) (M := M) h1 h4 h5 h2 h3 a1 a2 a3 a4 a5 a6 a7 a8
  refine ⟨rfl, od, ad, wy, rl, so3, io3, agM_S e1, ?_⟩
  have e2 : te 2 * te 0 / 100 = sl_po (kM te ho ow hs ra lo n) := e2
  have e3 : sm so1 n = sl_sp (kM te ho ow hs ra lo n) := e3
  have e4 : te 0 - sm so1 n = sl_rs (kM te ho ow hs ra lo n) := e4
  have e5 : sC ra ad p n (te 0 - sm so1 n) n = sl_st (kM te ho ow hs ra lo n) := e5
  have e6 : avM te ra so3 n = sl_av (kM te ho ow hs ra lo n) := e6
  have e7 : ip = sl_pt (kM te ho ow hs ra lo n) := e7
  rw [e5, e6, e7, e2, e4, e3]
theorem mIn2 {w : Int32} (h : mIn w 0 2 = true) : w = 0 ∨ w = 1 ∨ w = 2 := by
  obtain ⟨j, hj, rfl⟩ := mIn_of (m := 2) (by decide) h
  match j, hj with
  | 0, _ => decide
  | 1, _ => decide
  | 2, _ => decide
  | j + 3, h => exact absurd h (by omega)
theorem mOut2 {w : Int32} (h : mIn w 0 2 = false) : ¬ w = 0 ∧ ¬ w = 1 ∧ ¬ w = 2 := by
  refine ⟨?_, ?_, ?_⟩ <;> (rintro rfl; exact absurd h (by decide))
theorem mIn3 {w : Int32} (h : mIn w 0 3 = true) : w = 0 ∨ w = 1 ∨ w = 2 ∨ w = 3 := by
  obtain ⟨j, hj, rfl⟩ := mIn_of (m := 3) (by decide) h
  match j, hj with
  | 0, _ => decide
  | 1, _ => decide
  | 2, _ => decide
  | 3, _ => decide
  | j + 4, h => exact absurd h (by omega)
theorem mOut3 {w : Int32} (h : mIn w 0 3 = false) : ¬ w = 0 ∧ ¬ w = 1 ∧ ¬ w = 2 ∧ ¬ w = 3 := by
  refine ⟨?_, ?_, ?_, ?_⟩ <;> (rintro rfl; exact absurd h (by decide))
theorem mIn4 {w : Int32} (h : mIn w 0 4 = true) : w = 0 ∨ w = 1 ∨ w = 2 ∨ w = 3 ∨ w = 4 := by
  obtain ⟨j, hj, rfl⟩ := mIn_of (m := 4) (by decide) h
  match j, hj with
  | 0, _ => decide
  | 1, _ => decide
  | 2, _ => decide
  | 3, _ => decide
  | 4, _ => decide
  | j + 5, h => exact absurd h (by omega)
theorem mOut4 {w : Int32} (h : mIn w 0 4 = false) : ¬ w = 0 ∧ ¬ w = 1 ∧ ¬ w = 2 ∧ ¬ w = 3 ∧ ¬ w = 4 := by
  refine ⟨?_, ?_, ?_, ?_, ?_⟩ <;> (rintro rfl; exact absurd h (by decide))
theorem mIn5 {w : Int32} (h : mIn w 0 5 = true) : w = 0 ∨ w = 1 ∨ w = 2 ∨ w = 3 ∨ w = 4 ∨ w = 5 := by
  obtain ⟨j, hj, rfl⟩ := mIn_of (m := 5) (by decide) h
  match j, hj with
  | 0, _ => decide
  | 1, _ => decide
  | 2, _ => decide
  | 3, _ => decide
  | 4, _ => decide
  | 5, _ => decide
  | j + 6, h => exact absurd h (by omega)
theorem mOut5 {w : Int32} (h : mIn w 0 5 = false) : ¬ w = 0 ∧ ¬ w = 1 ∧ ¬ w = 2 ∧ ¬ w = 3 ∧ ¬ w = 4 ∧ ¬ w = 5 := by
  refine ⟨?_, ?_, ?_, ?_, ?_, ?_⟩ <;> (rintro rfl; exact absurd h (by decide))
theorem mIn6 {w : Int32} (h : mIn w 0 6 = true) : w = 0 ∨ w = 1 ∨ w = 2 ∨ w = 3 ∨ w = 4 ∨ w = 5 ∨ w = 6 := by
  obtain ⟨j, hj, rfl⟩ := mIn_of (m := 6) (by decide) h
  match j, hj with
  | 0, _ => decide
  | 1, _ => decide
  | 2, _ => decide
  | 3, _ => decide
  | 4, _ => decide
  | 5, _ => decide
  | 6, _ => decide
  | j + 7, h => exact absurd h (by omega)
theorem mOut6 {w : Int32} (h : mIn w 0 6 = false) : ¬ w = 0 ∧ ¬ w = 1 ∧ ¬ w = 2 ∧ ¬ w = 3 ∧ ¬ w = 4 ∧ ¬ w = 5 ∧ ¬ w = 6 := by
  refine ⟨?_, ?_, ?_, ?_, ?_, ?_, ?_⟩ <;> (rintro rfl; exact absurd h (by decide))
theorem mIn11 {w : Int32} (h : mIn w 0 11 = true) : w = 0 ∨ w = 1 ∨ w = 2 ∨ w = 3 ∨ w = 4 ∨ w = 5 ∨ w = 6 ∨ w = 7 ∨ w = 8 ∨ w = 9 ∨ w = 10 ∨ w = 11 := by
  obtain ⟨j, hj, rfl⟩ := mIn_of (m := 11) (by decide) h
  match j, hj with
  | 0, _ => decide
  | 1, _ => decide
  | 2, _ => decide
  | 3, _ => decide
  | 4, _ => decide
  | 5, _ => decide
  | 6, _ => decide
  | 7, _ => decide
  | 8, _ => decide
  | 9, _ => decide
  | 10, _ => decide
  | 11, _ => decide
  | j + 12, h => exact absurd h (by omega)
theorem mOut11 {w : Int32} (h : mIn w 0 11 = false) : ¬ w = 0 ∧ ¬ w = 1 ∧ ¬ w = 2 ∧ ¬ w = 3 ∧ ¬ w = 4 ∧ ¬ w = 5 ∧ ¬ w = 6 ∧ ¬ w = 7 ∧ ¬ w = 8 ∧ ¬ w = 9 ∧ ¬ w = 10 ∧ ¬ w = 11 := by
  refine ⟨?_, ?_, ?_, ?_, ?_, ?_, ?_, ?_, ?_, ?_, ?_, ?_⟩ <;> (rintro rfl; exact absurd h (by decide))
theorem hb_t {n j : Nat} (hn : n ≤ 30) (h : j < n) : hasB (nI n) (nI j) = true := hasB_nI rfl hn h
theorem hb_f {n : Nat} {b : Int32} (hn : n ≤ 30) (h : mIn b 0 (nI n - 1) = false) : hasB (nI n) b = false := by rw [← mIn_bid hn]; exact h
theorem ih_t {j : Nat} (h : j < 8) : isH (nI j) = true := hasB_nI (m := 8) (n := 8) rfl (by omega) h
theorem ih_f {b : Int32} (h : mIn b 0 7 = false) : isH b = false := by rw [← mIn_isH]; exact h

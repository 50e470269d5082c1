abbrev bk_T : Type := (Nat → Int32) × (Nat → Int32) × (Nat → Int32) × (Nat → Int32) × (Nat → Int32) × (Nat → Int32) × Int32 × (Nat → Int32) × (Nat → Int32) × (Nat → Int32) × (Nat → Int64) × Int32
def bk_te (B : bk_T) : Nat → Int32 := B.1
def bk_ho (B : bk_T) : Nat → Int32 := B.2.1
def bk_ow (B : bk_T) : Nat → Int32 := B.2.2.1
def bk_hs (B : bk_T) : Nat → Int32 := B.2.2.2.1
def bk_ra (B : bk_T) : Nat → Int32 := B.2.2.2.2.1
def bk_lo (B : bk_T) : Nat → Int32 := B.2.2.2.2.2.1
def bk_bi (B : bk_T) : Int32 := B.2.2.2.2.2.2.1
def bk_st (B : bk_T) : Nat → Int32 := B.2.2.2.2.2.2.2.1
def bk_av (B : bk_T) : Nat → Int32 := B.2.2.2.2.2.2.2.2.1
def bk_so (B : bk_T) : Nat → Int32 := B.2.2.2.2.2.2.2.2.2.1
def bk_pa (B : bk_T) : Nat → Int64 := B.2.2.2.2.2.2.2.2.2.2.1
def bk_ln (B : bk_T) : Int32 := B.2.2.2.2.2.2.2.2.2.2.2
def pB (v : xw_V) (g : Nat) (q_te : Nat → Int32) (q_ho : Nat → Int32) (q_ow : Nat → Int32) (q_hs : Nat → Int32) (q_ra : Nat → Int32) (q_lo : Nat → Int32) (q_bi : Int32) (q_st : Nat → Int32) (q_av : Nat → Int32) (q_so : Nat → Int32) (q_pa : Nat → Int64) (q_ln : Int32) : List va_E := [xw_eo 0 [.ref (xw_ad v g 1), .ref (xw_ad v g 2), .ref (xw_ad v g 3), .ref (xw_ad v g 4), .ref (xw_ad v g 5), .ref (xw_ad v g 6), .ref (xw_ad v g 7), .int q_bi], xw_ei v 7 q_te, xw_ei v 8 q_ho, xw_ei v 8 q_ow, xw_ei v 30 q_hs, xw_ei v 30 q_ra, xw_ei v 30 q_lo, xw_eo 1 [.ref (xw_ad v g 8), .ref (xw_ad v g 9), .ref (xw_ad v g 10), .ref (xw_ad v g 11), .int q_ln], xw_ei v 8 q_st, xw_ei v 8 q_av, xw_ei v 8 q_so, xw_el v 8 q_pa]
def pc_B (v : xw_V) (g : Nat) (B : bk_T) : List va_E := pB v g (bk_te B) (bk_ho B) (bk_ow B) (bk_hs B) (bk_ra B) (bk_lo B) (bk_bi B) (bk_st B) (bk_av B) (bk_so B) (bk_pa B) (bk_ln B)
abbrev sl_T : Type := (Nat → Int32) × (Nat → Int32) × (Nat → Int32) × (Nat → Int32) × (Nat → Int32) × (Nat → Int32) × (Nat → Int32) × Int32 × Int32 × Int32 × Int32 × Int32 × Int32 × Int32 × Int32 × Int32 × Int32
def sl_od (B : sl_T) : Nat → Int32 := B.1
def sl_ad (B : sl_T) : Nat → Int32 := B.2.1
def sl_wy (B : sl_T) : Nat → Int32 := B.2.2.1
def sl_so (B : sl_T) : Nat → Int32 := B.2.2.2.1
def sl_re (B : sl_T) : Nat → Int32 := B.2.2.2.2.1
def sl_ro (B : sl_T) : Nat → Int32 := B.2.2.2.2.2.1
def sl_rl (B : sl_T) : Nat → Int32 := B.2.2.2.2.2.2.1
def sl_io (B : sl_T) : Int32 := B.2.2.2.2.2.2.2.1
def sl_ap (B : sl_T) : Int32 := B.2.2.2.2.2.2.2.2.1
def sl_ar (B : sl_T) : Int32 := B.2.2.2.2.2.2.2.2.2.1
def sl_po (B : sl_T) : Int32 := B.2.2.2.2.2.2.2.2.2.2.1
def sl_sp (B : sl_T) : Int32 := B.2.2.2.2.2.2.2.2.2.2.2.1
def sl_rs (B : sl_T) : Int32 := B.2.2.2.2.2.2.2.2.2.2.2.2.1
def sl_st (B : sl_T) : Int32 := B.2.2.2.2.2.2.2.2.2.2.2.2.2.1
def sl_sr (B : sl_T) : Int32 := B.2.2.2.2.2.2.2.2.2.2.2.2.2.2.1
def sl_pt (B : sl_T) : Int32 := B.2.2.2.2.2.2.2.2.2.2.2.2.2.2.2.1
def sl_av (B : sl_T) : Int32 := B.2.2.2.2.2.2.2.2.2.2.2.2.2.2.2.2
def pS (v : xw_V) (g b : Nat) (q_od : Nat → Int32) (q_ad : Nat → Int32) (q_wy : Nat → Int32) (q_so : Nat → Int32) (q_re : Nat → Int32) (q_ro : Nat → Int32) (q_rl : Nat → Int32) (q_io : Int32) (q_ap : Int32) (q_ar : Int32) (q_po : Int32) (q_sp : Int32) (q_rs : Int32) (q_st : Int32) (q_sr : Int32) (q_pt : Int32) (q_av : Int32) : List va_E := [xw_eo 4 [.ref (xw_ad v b 0), .ref (xw_ad v g 1), .ref (xw_ad v g 2), .ref (xw_ad v g 3), .ref (xw_ad v g 4), .ref (xw_ad v g 5), .ref (xw_ad v g 6), .ref (xw_ad v g 7), .int q_io, .int q_ap, .int q_ar, .int q_po, .int q_sp, .int q_rs, .int q_st, .int q_sr, .int q_pt, .int q_av], xw_ei v 30 q_od, xw_ei v 30 q_ad, xw_ei v 30 q_wy, xw_ei v 30 q_so, xw_ei v 30 q_re, xw_ei v 8 q_ro, xw_ei v 8 q_rl]
def pc_S (v : xw_V) (g b : Nat) (S : sl_T) : List va_E := pS v g b (sl_od S) (sl_ad S) (sl_wy S) (sl_so S) (sl_re S) (sl_ro S) (sl_rl S) (sl_io S) (sl_ap S) (sl_ar S) (sl_po S) (sl_sp S) (sl_rs S) (sl_st S) (sl_sr S) (sl_pt S) (sl_av S)
abbrev pa_T : Type := Int32 × Int32
def pa_ne (B : pa_T) : Int32 := B.1
def pa_ac (B : pa_T) : Int32 := B.2
def pP (v : xw_V) (q_ne : Int32) (q_ac : Int32) : List va_E := [xw_eo 2 [.ref (xw_ad v 5 1), .int q_ne, .int q_ac], xw_eq v 12 (fun j => if j < 12 then some (xw_ad v (6 + j) 0) else none)]
def pc_P (v : xw_V) (P : pa_T) : List va_E := pP v (pa_ne P) (pa_ac P)
abbrev tp_T : Type := (Nat → Int32) × Int32
def tp_by (B : tp_T) : Nat → Int32 := B.1
def tp_le (B : tp_T) : Int32 := B.2
def pT (v : xw_V) (q_by : Nat → Int32) (q_le : Int32) : List va_E := [xw_eo 6 [.ref (xw_ad v 18 1), .int q_le], xw_ei v 700 q_by]
def pc_T (v : xw_V) (t : tp_T) : List va_E := pT v (tp_by t) (tp_le t)
abbrev rd_T : Type := Int32 × Int32 × Int32
def rd_pl (B : rd_T) : Int32 := B.1
def rd_ws (B : rd_T) : Int32 := B.2.1
def rd_fa (B : rd_T) : Int32 := B.2.2
def pR (v : xw_V) (q_pl : Int32) (q_ws : Int32) (q_fa : Int32) : List va_E := [xw_eo 3 [.ref (xw_ad v 18 0), .ref (xw_ad v 3 0), .int q_pl, .int q_ws, .int q_fa]]
def pc_R (v : xw_V) (r : rd_T) : List va_E := pR v (rd_pl r) (rd_ws r) (rd_fa r)
abbrev sw_T : Type := Int32 × Int32 × Int32
def sw_wa (B : sw_T) : Int32 := B.1
def sw_le (B : sw_T) : Int32 := B.2.1
def sw_fo (B : sw_T) : Int32 := B.2.2
def pW  (q_wa : Int32) (q_le : Int32) (q_fo : Int32) : List va_E := [xw_eo 5 [.int q_wa, .int q_le, .int q_fo]]
def pc_W  (s : sw_T) : List va_E := pW  (sw_wa s) (sw_le s) (sw_fo s)
def pc_X (v : xw_V) : List va_E := [xw_eo 7 [.ref (xw_ad v 1 0), .ref (xw_ad v 2 0), .ref (xw_ad v 3 0), .ref (xw_ad v 4 0), .ref (xw_ad v 5 0), .ref (xw_ad v 18 0), .ref (xw_ad v 19 0), .ref (xw_ad v 20 0)]]
abbrev md_T : Type := Int32 × (Nat → Int32) × (Nat → Int64) × (Nat → Int32) × (Nat → Int32) × (Nat → Int32) × (Nat → Int64) × Int32 × (Nat → Int32) × (Nat → Int32) × (Nat → Int32) × (Nat → Int32) × (Nat → Int32) × (Nat → Int32) × Int32 × Int32 × Int32 × Int32 × Int32 × Int32 × (Nat → Int32) × Int32 × (Nat → Int32) × Int32 × (Nat → Int32) × Int32 × Int32 × Int32 × Int32 × Int32
def md_th (B : md_T) : Int32 := B.1
def md_no (B : md_T) : Nat → Int32 := B.2.1
def md_pt (B : md_T) : Nat → Int64 := B.2.2.1
def md_re (B : md_T) : Nat → Int32 := B.2.2.2.1
def md_sd (B : md_T) : Nat → Int32 := B.2.2.2.2.1
def md_be (B : md_T) : Nat → Int32 := B.2.2.2.2.2.1
def md_pb (B : md_T) : Nat → Int64 := B.2.2.2.2.2.2.1
def md_ac (B : md_T) : Int32 := B.2.2.2.2.2.2.2.1
def md_od (B : md_T) : Nat → Int32 := B.2.2.2.2.2.2.2.2.1
def md_ad (B : md_T) : Nat → Int32 := B.2.2.2.2.2.2.2.2.2.1
def md_wy (B : md_T) : Nat → Int32 := B.2.2.2.2.2.2.2.2.2.2.1
def md_so (B : md_T) : Nat → Int32 := B.2.2.2.2.2.2.2.2.2.2.2.1
def md_rl (B : md_T) : Nat → Int32 := B.2.2.2.2.2.2.2.2.2.2.2.2.1
def md_io (B : md_T) : Nat → Int32 := B.2.2.2.2.2.2.2.2.2.2.2.2.2.1
def md_po (B : md_T) : Int32 := B.2.2.2.2.2.2.2.2.2.2.2.2.2.2.1
def md_sp (B : md_T) : Int32 := B.2.2.2.2.2.2.2.2.2.2.2.2.2.2.2.1
def md_rs (B : md_T) : Int32 := B.2.2.2.2.2.2.2.2.2.2.2.2.2.2.2.2.1
def md_st (B : md_T) : Int32 := B.2.2.2.2.2.2.2.2.2.2.2.2.2.2.2.2.2.1
def md_av (B : md_T) : Int32 := B.2.2.2.2.2.2.2.2.2.2.2.2.2.2.2.2.2.2.1
def md_ip (B : md_T) : Int32 := B.2.2.2.2.2.2.2.2.2.2.2.2.2.2.2.2.2.2.2.1
def md_tx (B : md_T) : Nat → Int32 := B.2.2.2.2.2.2.2.2.2.2.2.2.2.2.2.2.2.2.2.2.1
def md_tm (B : md_T) : Int32 := B.2.2.2.2.2.2.2.2.2.2.2.2.2.2.2.2.2.2.2.2.2.1
def md_ta (B : md_T) : Nat → Int32 := B.2.2.2.2.2.2.2.2.2.2.2.2.2.2.2.2.2.2.2.2.2.2.1
def md_td (B : md_T) : Int32 := B.2.2.2.2.2.2.2.2.2.2.2.2.2.2.2.2.2.2.2.2.2.2.2.1
def md_wo (B : md_T) : Nat → Int32 := B.2.2.2.2.2.2.2.2.2.2.2.2.2.2.2.2.2.2.2.2.2.2.2.2.1
def md_sq (B : md_T) : Int32 := B.2.2.2.2.2.2.2.2.2.2.2.2.2.2.2.2.2.2.2.2.2.2.2.2.2.1
def md_tk (B : md_T) : Int32 := B.2.2.2.2.2.2.2.2.2.2.2.2.2.2.2.2.2.2.2.2.2.2.2.2.2.2.1
def md_bg (B : md_T) : Int32 := B.2.2.2.2.2.2.2.2.2.2.2.2.2.2.2.2.2.2.2.2.2.2.2.2.2.2.2.1
def md_nu (B : md_T) : Int32 := B.2.2.2.2.2.2.2.2.2.2.2.2.2.2.2.2.2.2.2.2.2.2.2.2.2.2.2.2.1
def md_wr (B : md_T) : Int32 := B.2.2.2.2.2.2.2.2.2.2.2.2.2.2.2.2.2.2.2.2.2.2.2.2.2.2.2.2.2
def pM (v : xw_V) (q_th : Int32) (q_no : Nat → Int32) (q_pt : Nat → Int64) (q_re : Nat → Int32) (q_sd : Nat → Int32) (q_be : Nat → Int32) (q_pb : Nat → Int64) (q_ac : Int32) (q_od : Nat → Int32) (q_ad : Nat → Int32) (q_wy : Nat → Int32) (q_so : Nat → Int32) (q_rl : Nat → Int32) (q_io : Nat → Int32) (q_po : Int32) (q_sp : Int32) (q_rs : Int32) (q_st : Int32) (q_av : Int32) (q_ip : Int32) (q_tx : Nat → Int32) (q_tm : Int32) (q_ta : Nat → Int32) (q_td : Int32) (q_wo : Nat → Int32) (q_sq : Int32) (q_tk : Int32) (q_bg : Int32) (q_nu : Int32) (q_wr : Int32) : List va_E := [xw_eo 8 [.int q_th, .ref (xw_ad v 21 1), .ref (xw_ad v 21 2), .ref (xw_ad v 21 3), .ref (xw_ad v 21 4), .ref (xw_ad v 21 5), .ref (xw_ad v 21 6), .int q_ac, .ref (xw_ad v 21 7), .ref (xw_ad v 21 8), .ref (xw_ad v 21 9), .ref (xw_ad v 21 10), .ref (xw_ad v 21 11), .ref (xw_ad v 21 12), .int q_po, .int q_sp, .int q_rs, .int q_st, .int q_av, .int q_ip, .ref (xw_ad v 21 13), .int q_tm, .ref (xw_ad v 21 14), .int q_td, .ref (xw_ad v 21 15), .int q_sq, .int q_tk, .int q_bg, .int q_nu, .int q_wr], xw_ei v 139 q_no, xw_el v 8 q_pt, xw_ei v 139 q_re, xw_ei v 139 q_sd, xw_ei v 1668 q_be, xw_el v 96 q_pb, xw_ei v 30 q_od, xw_ei v 30 q_ad, xw_ei v 30 q_wy, xw_ei v 30 q_so, xw_ei v 8 q_rl, xw_ez v 30 q_io, xw_ei v 1400 q_tx, xw_ei v 700 q_ta, xw_eb v 68 q_wo]
def pc_M (v : xw_V) (M : md_T) : List va_E := pM v (md_th M) (md_no M) (md_pt M) (md_re M) (md_sd M) (md_be M) (md_pb M) (md_ac M) (md_od M) (md_ad M) (md_wy M) (md_so M) (md_rl M) (md_io M) (md_po M) (md_sp M) (md_rs M) (md_st M) (md_av M) (md_ip M) (md_tx M) (md_tm M) (md_ta M) (md_td M) (md_wo M) (md_sq M) (md_tk M) (md_bg M) (md_nu M) (md_wr M)
/-- a truth as an int -/
def xb (c : Bool) : Int32 := if c then 1 else 0
theorem xb_nar (c : Bool) : narrow .boolean (.int (xb c)) = .int (xb c) := by cases c <;> decide
theorem xb_fit (c : Bool) : fits .boolean (.int (xb c)) = true := by cases c <;> decide
theorem xb_0 {c : Bool} (h : xb c = 0) : c = false := by cases c <;> simp_all [xb]
theorem xb_1 {c : Bool} (h : ¬ xb c = 0) : c = true := by cases c <;> simp_all [xb]
abbrev xn (x : Int32) : Nat := x.toNatClampNeg
theorem xk_cg {v : xw_V} {y : MethodName} {cc : ByteArray} {nL : Nat} {ret : Option FieldType} {fr lo : Nat} {av : List Value} {G G1 G2 : xw_G} {r : Option Value} (h : G1 = G2) (c : xk_Con v y cc nL ret fr lo av G (xk_ret r G1)) : xk_Con v y cc nL ret fr lo av G (xk_ret r G2) := h ▸ c
section XB
variable {v : xw_V} {κ : xk_K} {post : Option Value → xw_G → Prop} {z : Nat × Nat × Nat} {G : xw_G} {pc : Nat} {ls ls' : List (Option Value)} {st : List Value} {y : MethodName} {cc : ByteArray} {nL : Nat} {ret : Option FieldType} {fr lo : Nat}
theorem xj_ifb_eq (hk : xk_Ok v κ y cc nL ret fr lo) {c : Bool} {off : Int} {tgt : Nat} (hd : decode cc pc = .ok (.ifCond .eq off, 3)) (ht : (pc : Int) + off = (tgt : Int)) (k1 : c = false → xj v κ post z G tgt ls st) (k2 : c = true → xj v κ post z G (pc + 3) ls st) : xj v κ post z G pc ls (.int (xb c) :: st) := xj_if_eq hk hd ht (fun h => k1 (xb_0 h)) (fun h => k2 (xb_1 h))
theorem xj_ifb_ne (hk : xk_Ok v κ y cc nL ret fr lo) {c : Bool} {off : Int} {tgt : Nat} (hd : decode cc pc = .ok (.ifCond .ne off, 3)) (ht : (pc : Int) + off = (tgt : Int)) (k1 : c = true → xj v κ post z G tgt ls st) (k2 : c = false → xj v κ post z G (pc + 3) ls st) : xj v κ post z G pc ls (.int (xb c) :: st) := xj_if_ne hk hd ht (fun h => k1 (xb_1 h)) (fun h => k2 (xb_0 h))
theorem xj_callVE (hk : xk_Ok v κ y cc nL ret fr lo) (hz : xk_zf κ = z) {y1 : MethodName} {cc1 : ByteArray} {nL1 n fr1 lo1 idx : Nat} {ret1 : Option FieldType} {As st0 : List Value} {post1 : Option Value → xw_G → Prop} {g i ci : Nat} {fs : List Value} (hm : xk_MV y.cls idx y1 cc1 nL1 ret1 n) (hc : xk_Con v y1 cc1 nL1 ret1 fr1 lo1 (.ref (xw_ad v g i) :: As) G post1) (hG : (G g)[i]? = some (xw_eo ci fs)) (hcl : vwCl[ci]?.map (fun q => q.1) = some y1.cls) (hd : decode cc pc = .ok (.invokevirtual idx, 3)) (hr : fr1 + 1 ≤ fr ∧ 8 + (nL1 + 11) + lo1 ≤ lo) (hn : As.length = n) (hw : (st.map fun v => v.category).sum ≤ 8) (hs : st0 = As.reverse ++ .ref (xw_ad v g i) :: st)
    (kk : ∀ (r : Option Value) (G' : xw_G), post1 r G' → xj v κ post z G' (pc + 3) ls (r.toList ++ st)) : xj v κ post z G pc ls st0 :=
  xj_callVZ (mc := 0) (ms := 0) hk hm (hc z.1) (xk_z0 hz) hn hd hr (xk_recv hk hG hcl) hw hs kk
theorem xj.to (h : ls = ls') (kk : xj v κ post z G pc ls' st) : xj v κ post z G pc ls st := h ▸ kk
end XB
theorem xi_d (k : Int32) (n : Nat) (h : (decide (¬ k < 0) && decide (k.toNatClampNeg < n)) = true) : xi k k.toNatClampNeg n := by
  simp only [Bool.and_eq_true, decide_eq_true_eq] at h
  exact ⟨rfl, h.1, h.2⟩
theorem nI_dec {k : Nat} (h : 0 < k) : nI k + Int32.ofInt (-1) = nI (k - 1) := by
  obtain ⟨j, rfl⟩ : ∃ j, k = j + 1 := ⟨k - 1, by omega⟩
  rw [Nat.add_sub_cancel, show Int32.ofInt (-1) = -1 from by decide, ← Int32.sub_eq_add_neg]
  exact nI_pred j
theorem nI_sub1 {k : Nat} (h : 0 < k) : nI k - 1 = nI (k - 1) := by
  obtain ⟨j, rfl⟩ : ∃ j, k = j + 1 := ⟨k - 1, by omega⟩
  rw [Nat.add_sub_cancel]
  exact nI_pred j
/-- sums of a row's first places -/
def sm (f : Nat → Int32) : Nat → Int32
  | 0 => 0
  | k + 1 => sm f k + f k
def sml (f : Nat → Int64) : Nat → Int64
  | 0 => 0
  | k + 1 => sml f k + f k


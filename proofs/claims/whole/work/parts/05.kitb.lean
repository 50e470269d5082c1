/-! ===== heap rows ===== -/
theorem xw_tI (v : xw_V) : (xw_tys v)[0]? = some (xw_ca v 0, .int) := rfl
theorem xw_tJ (v : xw_V) : (xw_tys v)[1]? = some (xw_ca v 1, .long) := rfl
theorem xw_tZ (v : xw_V) : (xw_tys v)[2]? = some (xw_ca v 2, .boolean) := rfl
theorem xw_tB (v : xw_V) : (xw_tys v)[3]? = some (xw_ca v 3, .byte) := rfl
theorem xw_tQ (v : xw_V) : (xw_tys v)[4]? = some (xw_ca v 4, .object "BillTender$Book") := rfl
/-- the classes: their layouts are among the words, types and names as printed -/
def xk_CL (C : String) (T : u_T) (N : Nat) : Prop := (∀ w ∈ u_ws C T N, w ∈ xw_tbl) ∧ ∃ ty : Nat → FieldType, (∀ k, k < N → parseFieldDescriptor (T k).2.2.1 = some (ty k)) ∧ (∀ a, a < N → ∀ b, b < N → a ≠ b → (T a).2.1 ≠ (T b).2.1) ∧ (∀ k, k < N → (T k).1 = C) ∧ C ≠ "java/lang/invoke/MethodHandle" ∧ C ≠ "java/lang/invoke/VarHandle"
theorem xk_inw {ws : List Cond} (h : ws.all (fun w => decide (w ∈ lw_tbl) && goodWord w) = true) : ∀ w ∈ ws, w ∈ xw_tbl := fun w hw => by
  have h1 := List.all_eq_true.mp h w hw
  simp only [Bool.and_eq_true, decide_eq_true_eq] at h1
  exact xw_in h1.1 h1.2
set_option maxRecDepth 100000 in
theorem xk_cl0 : xk_CL RX0 TX0 8 := ⟨xk_inw (by decide +kernel), tyX0, tyX0_ok, nmX0, by decide +kernel, by decide +kernel, by decide +kernel⟩
set_option maxRecDepth 100000 in
theorem xk_cl1 : xk_CL RX1 TX1 5 := ⟨xk_inw (by decide +kernel), tyX1, tyX1_ok, nmX1, by decide +kernel, by decide +kernel, by decide +kernel⟩
set_option maxRecDepth 100000 in
theorem xk_cl2 : xk_CL RX2 TX2 3 := ⟨xk_inw (by decide +kernel), tyX2, tyX2_ok, nmX2, by decide +kernel, by decide +kernel, by decide +kernel⟩
set_option maxRecDepth 100000 in
theorem xk_cl3 : xk_CL RX3 TX3 5 := ⟨xk_inw (by decide +kernel), tyX3, tyX3_ok, nmX3, by decide +kernel, by decide +kernel, by decide +kernel⟩
set_option maxRecDepth 100000 in
theorem xk_cl4 : xk_CL RX4 TX4 18 := ⟨xk_inw (by decide +kernel), tyX4, tyX4_ok, nmX4, by decide +kernel, by decide +kernel, by decide +kernel⟩
set_option maxRecDepth 100000 in
theorem xk_cl5 : xk_CL RX5 TX5 3 := ⟨xk_inw (by decide +kernel), tyX5, tyX5_ok, nmX5, by decide +kernel, by decide +kernel, by decide +kernel⟩
set_option maxRecDepth 100000 in
theorem xk_cl6 : xk_CL RX6 TX6 2 := ⟨xk_inw (by decide +kernel), tyX6, tyX6_ok, nmX6, by decide +kernel, by decide +kernel, by decide +kernel⟩
set_option maxRecDepth 100000 in
theorem xk_cl7 : xk_CL RX7 TX7 8 := ⟨xk_inw (by decide +kernel), tyX7, tyX7_ok, nmX7, by decide +kernel, by decide +kernel, by decide +kernel⟩
set_option maxRecDepth 100000 in
theorem xk_cl8 : xk_CL RX8 TX8 30 := ⟨xk_inw (by decide +kernel), tyX8, tyX8_ok, nmX8, by decide +kernel, by decide +kernel, by decide +kernel⟩
theorem xk_cl {ci : Nat} {C : String} {T : u_T} {N : Nat} (h : vwCl[ci]? = some (C, T, N)) : xk_CL C T N := by
  match ci, h with
  | 0, h => cases h; exact xk_cl0
  | 1, h => cases h; exact xk_cl1
  | 2, h => cases h; exact xk_cl2
  | 3, h => cases h; exact xk_cl3
  | 4, h => cases h; exact xk_cl4
  | 5, h => cases h; exact xk_cl5
  | 6, h => cases h; exact xk_cl6
  | 7, h => cases h; exact xk_cl7
  | 8, h => cases h; exact xk_cl8
  | k + 9, h => simp [vwCl] at h
/-- a field by the link of a method's class -/
def xk_FL (own : String) (idx ci k : Nat) (ty : FieldType) (fin : Bool) : Prop := ∃ (C : String) (T : u_T) (N : Nat), vwCl[ci]? = some (C, T, N) ∧ k < N ∧ (T k).2.2.2 = fin ∧ parseFieldDescriptor (T k).2.2.1 = some ty ∧ (Cond.fieldLink own idx C (T k).2.1 (T k).2.2.1 ∈ xw_tbl ∨ (Cond.fieldLinkNest own idx C (T k).2.1 (T k).2.2.1 "BillTender" ∈ xw_nst))
section XH
variable {v : xw_V} {κ : xk_K} {post : Option Value → xw_G → Prop} {z : Nat × Nat × Nat} {G : xw_G} {pc : Nat} {ls : List (Option Value)} {st : List Value} {y : MethodName} {cc : ByteArray} {nL : Nat} {ret : Option FieldType} {fr lo : Nat}
theorem xj_getfield (hk : xk_Ok v κ y cc nL ret fr lo) {idx ci k g i : Nat} {ty : FieldType} {fin : Bool} {fs : List Value} {x : Value} (hd : decode cc pc = .ok (.getfield idx, 3)) (hf : xk_FL y.cls idx ci k ty fin) (hc : (G g)[i]? = some (xw_eo ci fs)) (hx : fs[k]? = some x) (kk : xj v κ post z G (pc + 3) ls (x :: st)) : xj v κ post z G pc ls (.ref (xw_ad v g i) :: st) := by
  obtain ⟨C, T, N, hcl, hkN, -, -, hl⟩ := hf
  obtain ⟨hin, ty0, hty, hnm, hde, -⟩ := xk_cl hcl
  intro H locs lsC hH hL hS
  have hH0 := hH
  obtain ⟨hz, dom, hdom, hP, hD⟩ := hH
  obtain ⟨q, hq, hw⟩ := xw_find (v := v) hdom hc
  rcases hl with hl | hl
  · exact va_get hk.1 hk.2.1 hk.2.2.2.2.2.1 hin hk.2.2.2.2.1 hk.2.2.2.2.2.2.2.1.1 hP q hw hcl k hkN (hk.2.2.2.2.2.1 _ hl) (fun x h => by rw [hde k hkN] at h; exact h) hx hd (kk H locs lsC hH0 hL hS)
  · exact va_getN hk.1 hk.2.1 hk.2.2.2.2.2.1 hin hk.2.2.2.2.1 hk.2.2.2.2.2.2.2.1.1 hP q hw hcl k hkN (va_Nw.use rfl (hk.2.2.2.2.2.2.2.1.2.1 _ hl)) (fun x h => by rw [hde k hkN] at h; exact h) hx hd (kk H locs lsC hH0 hL hS)
theorem xj_putfield (hk : xk_Ok v κ y cc nL ret fr lo) {idx ci k g i : Nat} {ty : FieldType} {fs : List Value} {x : Value} {G2 : xw_G} (hd : decode cc pc = .ok (.putfield idx, 3)) (hf : xk_FL y.cls idx ci k ty false) (hn : narrow ty x = x) (hfit : fits ty x = true) (hc : (G g)[i]? = some (xw_eo ci fs)) (hx : k < fs.length) (he : xw_up G g ((G g).set i (xw_eo ci (fs.set k x))) = G2) (kk : xj v κ post z G2 (pc + 3) ls st) : xj v κ post z G pc ls (x :: .ref (xw_ad v g i) :: st) := by
  obtain ⟨C, T, N, hcl, hkN, hfin, hpd, hl⟩ := hf
  obtain ⟨hin, ty0, hty, hnm, hde, -⟩ := xk_cl hcl
  subst he
  intro H locs lsC hH hL hS0
  obtain ⟨hz, dom, hdom, hP, hD⟩ := hH
  obtain ⟨q, hq, hw⟩ := xw_find (v := v) hdom hc
  have hts := hk.2.2.2.2.2.1
  have hK := hk.2.2.2.2.2.2.2.1.1
  have hap := va_apart (own := y.cls) hts hin ty0 hty hnm hK hcl
  obtain ⟨r, h1, cell, q1, q2, q3, q4⟩ := hP q _ hw
  have hr : r = (C, T, N) := Option.some.inj (h1.symm.trans hcl)
  subst hr
  obtain ⟨hS, hfc, kC, hkC, hkind⟩ := hK.1 ci _ hcl
  obtain ⟨cf, kf, fi, f, hi, hsl⟩ := hS k hkN
  have hlay := hts _ (hin _ (u_in_lay hkN))
  unfold u_lay at hlay
  rw [if_neg (by rw [hfin]; decide)] at hlay
  have hst := (u_facts hfc hkC (u_lays hts hin hkN) hi).1
  have h6 := u_store hfc hkC hkind hlay hi hpd hn hfit
  have hsame : (xk_s κ).fieldFound? C (T k).2.1 (T k).2.2.1 = some (cf, kf, fi, f) := by have := hi; rw [hde k hkN] at this; exact this
  have fin : ∀ H' : Heap, H'[xw_ad v g i]? = some (cell.setSlot f.slot x) → H'.size = H.size → (∀ q, q ≠ xw_ad v g i → H'[q]? = H[q]?) → xk_W κ H' (locs ++ [⟨xw_ad v g i, f.slot⟩]) z.2.1 z.2.2 (xk_Q v κ post) (F0 (xk_m κ) (pc + 3) lsC st) := by
    intro H' e1 e2 e3
    rw [hsl] at e1
    have hP2 := hP.set hD hw (e := .inr (ci, fs.set k x)) ⟨_, hcl, t_OB.to (V := updV (vp_V fs) k x) ⟨_, e1, q2, q3, t_set q4 hap hkN x⟩ (fun j _ => vp_updV_set hx x j)⟩ e3
    have hD2 := hD.set (e := .inr (ci, fs.set k x)) hw
    rw [xw_put hD hq hc] at hP2 hD2
    exact kk H' _ lsC ⟨e2.trans hz, dom, xw_dom hdom hc, hP2, hD2⟩ hL (hS0.put e2 e3 (hD.2 q _ hw))
  rcases hl with hl | hl
  · exact W.putK hk.1 hk.2.1 (f := f) ⟨hk.2.2.2.2.1, hts _ hl, ⟨_, _, _, hsame⟩, hst⟩ (by rw [q2]; exact h6) q1 q3 (by rw [hsl]; exact k2_hasslot (q4 k hkN)) rfl rfl hd fin
  · exact va_WputK hk.1 hk.2.1 (f := f) hk.2.2.2.2.1 (va_Nw.use rfl (hk.2.2.2.2.2.2.2.1.2.1 _ hl)) hsame hst (by rw [q2]; exact h6) q1 q3 (by rw [hsl]; exact k2_hasslot (q4 k hkN)) rfl rfl hd fin
/-- a final field, in a constructor -/
theorem xj_putfinal (hk : xk_Ok v κ y cc nL ret fr lo) {idx ci k g i : Nat} {ty : FieldType} {fs : List Value} {x : Value} {G2 : xw_G} (hd : decode cc pc = .ok (.putfield idx, 3)) (hf : xk_FL y.cls idx ci k ty true) (hcn : vwCl[ci]?.map (fun q => q.1) = some y.cls) (hin2 : y.name = "<init>") (hgood : ∀ (C : String) (T : u_T) (N : Nat), vwCl[ci]? = some (C, T, N) → Cond.fieldLink y.cls idx C (T k).2.1 (T k).2.2.1 ∈ xw_tbl) (hn : narrow ty x = x) (hfit : fits ty x = true) (hc : (G g)[i]? = some (xw_eo ci fs)) (hx : k < fs.length) (he : xw_up G g ((G g).set i (xw_eo ci (fs.set k x))) = G2) (kk : xj v κ post z G2 (pc + 3) ls st) : xj v κ post z G pc ls (x :: .ref (xw_ad v g i) :: st) := by
  obtain ⟨C, T, N, hcl, hkN, hfin, hpd, -⟩ := hf
  have hl := hgood C T N hcl
  have hC : C = y.cls := by rw [hcl] at hcn; simpa using hcn
  obtain ⟨hin, ty0, hty, hnm, hde, -⟩ := xk_cl hcl
  subst he
  intro H locs lsC hH hL hS0
  obtain ⟨hz, dom, hdom, hP, hD⟩ := hH
  obtain ⟨q, hq, hw⟩ := xw_find (v := v) hdom hc
  have hts := hk.2.2.2.2.2.1
  have hK := hk.2.2.2.2.2.2.2.1.1
  have hown := hk.2.2.2.2.1
  have hap := va_apart (own := y.cls) hts hin ty0 hty hnm hK hcl
  obtain ⟨r, h1, cell, q1, q2, q3, q4⟩ := hP q _ hw
  have hr : r = (C, T, N) := Option.some.inj (h1.symm.trans hcl)
  subst hr
  obtain ⟨hS, hfc, kC, hkC, hkind⟩ := hK.1 ci _ hcl
  obtain ⟨cf, kf, fi, f, hi, hsl⟩ := hS k hkN
  have hlay := hts _ (hin _ (u_in_lay hkN))
  unfold u_lay at hlay
  rw [if_pos hfin] at hlay
  have hst := (u_facts hfc hkC (u_lays hts hin hkN) hi).1
  have hcf : (xk_m κ).cls = cf := by
    obtain ⟨_, _, c', _, _, _, -, -, hf', -, -, -, hown2, -⟩ := Cond.laysFinal_spec hlay
    have e1 : c' = cf := by have := hi.symm.trans hf'; simp at this; exact this.1.symm
    rw [hde k hkN, hC] at hown2
    rw [← e1]; exact Option.some.inj (hown.symm.trans hown2)
  have h6 := u_fits hfc hkC hkind (Or.inr hlay) hi hpd hn hfit
  have hsame : (xk_s κ).fieldFound? C (T k).2.1 (T k).2.2.1 = some (cf, kf, fi, f) := by have := hi; rw [hde k hkN] at this; exact this
  refine W.putFinK hk.1 hk.2.1 hown (hts _ hl) hsame hst hcf (hk.2.2.2.2.2.2.2.2.2.2.1.trans hin2) (by rw [q2]; exact h6) q1 q3 (by rw [hsl]; exact k2_hasslot (q4 k hkN)) rfl rfl hd fun H' e1 e2 e3 => ?_
  rw [hsl] at e1
  have hP2 := hP.set hD hw (e := .inr (ci, fs.set k x)) ⟨_, hcl, t_OB.to (V := updV (vp_V fs) k x) ⟨_, e1, q2, q3, t_set q4 hap hkN x⟩ (fun j _ => vp_updV_set hx x j)⟩ e3
  have hD2 := hD.set (e := .inr (ci, fs.set k x)) hw
  rw [xw_put hD hq hc] at hP2 hD2
  exact kk H' _ lsC ⟨e2.trans hz, dom, xw_dom hdom hc, hP2, hD2⟩ hL (hS0.put e2 e3 (hD.2 q _ hw))
theorem xj_iaload (hk : xk_Ok v κ y cc nL ret fr lo) {g i k : Nat} {j : Int32} {n9 : Nat} {f : Nat → Int32} (hd : decode cc pc = .ok (.iaload, 1)) (hc : (G g)[i]? = some (xw_ei v n9 f)) (hj : xi j k n9) (kk : xj v κ post z G (pc + 1) ls (.int (f k) :: st)) : xj v κ post z G pc ls (.int j :: .ref (xw_ad v g i) :: st) := by
  intro H locs lsC hH hL hS
  have hH0 := hH
  obtain ⟨hz, dom, hdom, hP, hD⟩ := hH
  obtain ⟨q, hq, hw⟩ := xw_find (v := v) hdom hc
  refine va_iald hk.1 hk.2.1 hk.2.2.2.2.2.2.2.1.1 hP q 0 hw (xw_tI v) (xi_in hj) hd ?_
  rw [hj.1]
  exact kk H locs lsC hH0 hL hS
theorem xj_zaload (hk : xk_Ok v κ y cc nL ret fr lo) {g i k : Nat} {j : Int32} {n9 : Nat} {f : Nat → Int32} (hd : decode cc pc = .ok (.baload, 1)) (hc : (G g)[i]? = some (xw_ez v n9 f)) (hj : xi j k n9) (kk : xj v κ post z G (pc + 1) ls (.int (f k) :: st)) : xj v κ post z G pc ls (.int j :: .ref (xw_ad v g i) :: st) := by
  intro H locs lsC hH hL hS
  have hH0 := hH
  obtain ⟨hz, dom, hdom, hP, hD⟩ := hH
  obtain ⟨q, hq, hw⟩ := xw_find (v := v) hdom hc
  refine va_zald hk.1 hk.2.1 hk.2.2.2.2.2.2.2.1.1 hP q 2 hw (xw_tZ v) (xi_in hj) hd ?_
  rw [hj.1]
  exact kk H locs lsC hH0 hL hS
theorem xj_baload (hk : xk_Ok v κ y cc nL ret fr lo) {g i k : Nat} {j : Int32} {n9 : Nat} {f : Nat → Int32} (hd : decode cc pc = .ok (.baload, 1)) (hc : (G g)[i]? = some (xw_eb v n9 f)) (hj : xi j k n9) (kk : xj v κ post z G (pc + 1) ls (.int (f k) :: st)) : xj v κ post z G pc ls (.int j :: .ref (xw_ad v g i) :: st) := by
  intro H locs lsC hH hL hS
  have hH0 := hH
  obtain ⟨hz, dom, hdom, hP, hD⟩ := hH
  obtain ⟨q, hq, hw⟩ := xw_find (v := v) hdom hc
  refine va_bald hk.1 hk.2.1 hk.2.2.2.2.2.2.2.1.1 hP q 3 hw (xw_tB v) (xi_in hj) hd ?_
  rw [hj.1]
  exact kk H locs lsC hH0 hL hS
theorem xj_laload (hk : xk_Ok v κ y cc nL ret fr lo) {g i k : Nat} {j : Int32} {n9 : Nat} {f : Nat → Int64} (hd : decode cc pc = .ok (.laload, 1)) (hc : (G g)[i]? = some (xw_el v n9 f)) (hj : xi j k n9) (kk : xj v κ post z G (pc + 1) ls (.long (f k) :: st)) : xj v κ post z G pc ls (.int j :: .ref (xw_ad v g i) :: st) := by
  intro H locs lsC hH hL hS
  have hH0 := hH
  obtain ⟨hz, dom, hdom, hP, hD⟩ := hH
  obtain ⟨q, hq, hw⟩ := xw_find (v := v) hdom hc
  refine va_lald hk.1 hk.2.1 hk.2.2.2.2.2.2.2.1.1 hP q 1 hw (xw_tJ v) (xi_in hj) hd ?_
  rw [hj.1]
  exact kk H locs lsC hH0 hL hS
theorem xj_aaload (hk : xk_Ok v κ y cc nL ret fr lo) {g i k : Nat} {j : Int32} {n9 : Nat} {f : Nat → Option Nat} (hd : decode cc pc = .ok (.aaload, 1)) (hc : (G g)[i]? = some (xw_eq v n9 f)) (hj : xi j k n9) (kk : xj v κ post z G (pc + 1) ls (va_rf (f k) :: st)) : xj v κ post z G pc ls (.int j :: .ref (xw_ad v g i) :: st) := by
  intro H locs lsC hH hL hS
  have hH0 := hH
  obtain ⟨hz, dom, hdom, hP, hD⟩ := hH
  obtain ⟨q, hq, hw⟩ := xw_find (v := v) hdom hc
  refine va_aldq hk.1 hk.2.1 hk.2.2.2.2.2.2.2.1.1 hP q 4 hw (xw_tQ v) (xi_in hj) hd ?_
  rw [hj.1]
  exact kk H locs lsC hH0 hL hS
theorem xj_alen (hk : xk_Ok v κ y cc nL ret fr lo) {g i : Nat} {n9 : Nat} {f : Nat → Int32} (hd : decode cc pc = .ok (.arraylength, 1)) (hc : (G g)[i]? = some (xw_ei v n9 f)) (kk : xj v κ post z G (pc + 1) ls (.int (nI n9) :: st)) : xj v κ post z G pc ls (.ref (xw_ad v g i) :: st) := by
  intro H locs lsC hH hL hS
  have hH0 := hH
  obtain ⟨hz, dom, hdom, hP, hD⟩ := hH
  obtain ⟨q, hq, hw⟩ := xw_find (v := v) hdom hc
  refine W.alen (n := nI n9) hk.1 hk.2.1 (hP q _ hw) ((hk.2.2.2.2.2.2.2.1.1.2 0 _ (xw_tI v)).1 n9 (fun j => .int (f j))) (by show (arrV _ _ _).slots.size.toInt32 = _; rw [arrV_size]; rfl) rfl rfl hd (kk H locs lsC hH0 hL hS)
theorem xj_iastore (hk : xk_Ok v κ y cc nL ret fr lo) {g i k : Nat} {j x : Int32} {n9 : Nat} {f : Nat → Int32} {G2 : xw_G} (hd : decode cc pc = .ok (.iastore, 1)) (hc : (G g)[i]? = some (xw_ei v n9 f)) (hj : xi j k n9) (he : xw_up G g ((G g).set i (xw_ei v n9 (xu f k x))) = G2) (kk : xj v κ post z G2 (pc + 1) ls st) : xj v κ post z G pc ls (.int x :: .int j :: .ref (xw_ad v g i) :: st) := by
  subst he
  intro H locs lsC hH hL hS
  obtain ⟨hz, dom, hdom, hP, hD⟩ := hH
  obtain ⟨q, hq, hw⟩ := xw_find (v := v) hdom hc
  refine W.iast hk.1 hk.2.1 (hP q _ hw) ((hk.2.2.2.2.2.2.2.1.1.2 0 _ (xw_tI v)).1 n9 (fun j => .int (f j))) (fun q => by cases q) (by show ¬ (j < 0 ∨ (arrV _ _ _).slots.size ≤ _); rw [arrV_size]; exact xi_in hj) rfl rfl hd fun H1 e z1 oq => ?_
  have he1 : H1[xw_ad v g i]? = some (vp_cell (xw_ca v 0) (n9, .inl (xu f k x))) := by
    rw [e, hj.1]
    show some ((vp_cell (xw_ca v 0) (n9, .inl f)).setSlot k (.int x)) = _
    rw [vp_cell_i, vp_cell_i, arrV_store]
    congr 2
    funext q
    simp only [updV, xu]
    by_cases e9 : q = k <;> simp [e9]
  have hP2 := hP.set hD hw (e := xw_ei v n9 (xu f k x)) he1 oq
  have hD2 := hD.set (e := xw_ei v n9 (xu f k x)) hw
  rw [xw_put hD hq hc] at hP2 hD2
  exact kk H1 _ lsC ⟨z1.trans hz, dom, xw_dom hdom hc, hP2, hD2⟩ hL (hS.put z1 oq (hD.2 q _ hw))
theorem xj_zastore (hk : xk_Ok v κ y cc nL ret fr lo) {g i k : Nat} {j x : Int32} {n9 : Nat} {f : Nat → Int32} {G2 : xw_G} (hd : decode cc pc = .ok (.bastore, 1)) (hc : (G g)[i]? = some (xw_ez v n9 f)) (hj : xi j k n9) (hx : narrow .boolean (.int x) = .int x) (he : xw_up G g ((G g).set i (xw_ez v n9 (xu f k x))) = G2) (kk : xj v κ post z G2 (pc + 1) ls st) : xj v κ post z G pc ls (.int x :: .int j :: .ref (xw_ad v g i) :: st) := by
  subst he
  intro H locs lsC hH hL hS
  obtain ⟨hz, dom, hdom, hP, hD⟩ := hH
  obtain ⟨q, hq, hw⟩ := xw_find (v := v) hdom hc
  refine W.zast hk.1 hk.2.1 (hP q _ hw) ((hk.2.2.2.2.2.2.2.1.1.2 2 _ (xw_tZ v)).1 n9 (fun j => .int (f j))) (fun q => by cases q) (by show ¬ (j < 0 ∨ (arrV _ _ _).slots.size ≤ _); rw [arrV_size]; exact xi_in hj) rfl rfl hd fun H1 e z1 oq => ?_
  have he1 : H1[xw_ad v g i]? = some (vp_cell (xw_ca v 2) (n9, .inl (xu f k x))) := by
    rw [e, hj.1, hx]
    show some ((vp_cell (xw_ca v 2) (n9, .inl f)).setSlot k (.int x)) = _
    rw [vp_cell_i, vp_cell_i, arrV_store]
    congr 2
    funext q
    simp only [updV, xu]
    by_cases e9 : q = k <;> simp [e9]
  have hP2 := hP.set hD hw (e := xw_ez v n9 (xu f k x)) he1 oq
  have hD2 := hD.set (e := xw_ez v n9 (xu f k x)) hw
  rw [xw_put hD hq hc] at hP2 hD2
  exact kk H1 _ lsC ⟨z1.trans hz, dom, xw_dom hdom hc, hP2, hD2⟩ hL (hS.put z1 oq (hD.2 q _ hw))
theorem xj_bastore (hk : xk_Ok v κ y cc nL ret fr lo) {g i k : Nat} {j x : Int32} {n9 : Nat} {f : Nat → Int32} {G2 : xw_G} (hd : decode cc pc = .ok (.bastore, 1)) (hc : (G g)[i]? = some (xw_eb v n9 f)) (hj : xi j k n9) (hx : narrow .byte (.int x) = .int x) (he : xw_up G g ((G g).set i (xw_eb v n9 (xu f k x))) = G2) (kk : xj v κ post z G2 (pc + 1) ls st) : xj v κ post z G pc ls (.int x :: .int j :: .ref (xw_ad v g i) :: st) := by
  subst he
  intro H locs lsC hH hL hS
  obtain ⟨hz, dom, hdom, hP, hD⟩ := hH
  obtain ⟨q, hq, hw⟩ := xw_find (v := v) hdom hc
  refine W.bast hk.1 hk.2.1 (hP q _ hw) ((hk.2.2.2.2.2.2.2.1.1.2 3 _ (xw_tB v)).1 n9 (fun j => .int (f j))) (fun q => by cases q) (by show ¬ (j < 0 ∨ (arrV _ _ _).slots.size ≤ _); rw [arrV_size]; exact xi_in hj) rfl rfl hd fun H1 e z1 oq => ?_
  have he1 : H1[xw_ad v g i]? = some (vp_cell (xw_ca v 3) (n9, .inl (xu f k x))) := by
    rw [e, hj.1, hx]
    show some ((vp_cell (xw_ca v 3) (n9, .inl f)).setSlot k (.int x)) = _
    rw [vp_cell_i, vp_cell_i, arrV_store]
    congr 2
    funext q
    simp only [updV, xu]
    by_cases e9 : q = k <;> simp [e9]
  have hP2 := hP.set hD hw (e := xw_eb v n9 (xu f k x)) he1 oq
  have hD2 := hD.set (e := xw_eb v n9 (xu f k x)) hw
  rw [xw_put hD hq hc] at hP2 hD2
  exact kk H1 _ lsC ⟨z1.trans hz, dom, xw_dom hdom hc, hP2, hD2⟩ hL (hS.put z1 oq (hD.2 q _ hw))
theorem xj_lastore (hk : xk_Ok v κ y cc nL ret fr lo) {g i k : Nat} {j : Int32} {x : Int64} {n9 : Nat} {f : Nat → Int64} {G2 : xw_G} (hd : decode cc pc = .ok (.lastore, 1)) (hc : (G g)[i]? = some (xw_el v n9 f)) (hj : xi j k n9) (he : xw_up G g ((G g).set i (xw_el v n9 (xu f k x))) = G2) (kk : xj v κ post z G2 (pc + 1) ls st) : xj v κ post z G pc ls (.long x :: .int j :: .ref (xw_ad v g i) :: st) := by
  subst he
  intro H locs lsC hH hL hS
  obtain ⟨hz, dom, hdom, hP, hD⟩ := hH
  obtain ⟨q, hq, hw⟩ := xw_find (v := v) hdom hc
  refine W.last hk.1 hk.2.1 (hP q _ hw) ((hk.2.2.2.2.2.2.2.1.1.2 1 _ (xw_tJ v)).1 n9 (fun j => .long (f j))) (fun q => by cases q) (by show ¬ (j < 0 ∨ (arrV _ _ _).slots.size ≤ _); rw [arrV_size]; exact xi_in hj) rfl rfl hd fun H1 e z1 oq => ?_
  have he1 : H1[xw_ad v g i]? = some (vp_cell (xw_ca v 1) (n9, .inr (.inl (xu f k x)))) := by
    rw [e, hj.1]
    show some ((vp_cell (xw_ca v 1) (n9, .inr (.inl f))).setSlot k (.long x)) = _
    rw [vp_cell_l, vp_cell_l, arrV_store]
    congr 2
    funext q
    simp only [updV, xu]
    by_cases e9 : q = k <;> simp [e9]
  have hP2 := hP.set hD hw (e := xw_el v n9 (xu f k x)) he1 oq
  have hD2 := hD.set (e := xw_el v n9 (xu f k x)) hw
  rw [xw_put hD hq hc] at hP2 hD2
  exact kk H1 _ lsC ⟨z1.trans hz, dom, xw_dom hdom hc, hP2, hD2⟩ hL (hS.put z1 oq (hD.2 q _ hw))
/-! ends -/
theorem xj_end {o : Option Value} (hz : xk_zf κ = z) {H : Heap} {locs : List Loc} (hH : xw_H v (xk_D κ) (xk_b κ) z.1 G H) (hS : va_S (fun q => xk_b κ ≤ q) (xk_s κ).heap H locs) (hp : post o G) : ∀ t : State, t.heap = H → (xk_s κ).WarmedH t.vm → xw_Q v (xk_D κ) (xk_b κ) (xk_zf κ).1 post (xk_a κ) (xk_s κ) (.returned o) t := fun t ht _ => ⟨⟨o, G, rfl, hp, by rw [ht, hz]; exact hH⟩, hS.F ht⟩
theorem xj_ireturn (hk : xk_Ok v κ y cc nL (some .int) fr lo) (hz : xk_zf κ = z) {x : Int32} (hd : decode cc pc = .ok (.ireturn, 1)) (hp : post (some (.int x)) G) : xj v κ post z G pc ls [.int x] := by
  intro H locs lsC hH hL hS
  have h0 := W.iret (R := xk_R κ) (cells := z.2.1) (slots := z.2.2) (v := x) hk.1 hk.2.1 hk.2.2.1 (xj_end hz hH hS hp) (free := fun q => xk_b κ ≤ q) hS.2.2 (p := xk_p κ) (l := xk_l κ) (e := xk_e κ) (m := xk_m κ) (below := xk_bl κ) (ls := lsC) hd hk.2.2.2.2.2.2.1
  rw [← hz] at h0 ⊢
  exact h0
theorem xj_zreturn (hk : xk_Ok v κ y cc nL (some .boolean) fr lo) (hz : xk_zf κ = z) {x : Int32} (hd : decode cc pc = .ok (.ireturn, 1)) (hn : narrow .boolean (.int x) = .int x) (hp : post (some (.int x)) G) : xj v κ post z G pc ls [.int x] := by
  intro H locs lsC hH hL hS
  have h0 := W.zret (R := xk_R κ) (cells := z.2.1) (slots := z.2.2) (v := x) hk.1 hk.2.1 hk.2.2.1 hn (xj_end hz hH hS hp) (free := fun q => xk_b κ ≤ q) hS.2.2 (p := xk_p κ) (l := xk_l κ) (e := xk_e κ) (m := xk_m κ) (below := xk_bl κ) (ls := lsC) hd hk.2.2.2.2.2.2.1
  rw [← hz] at h0 ⊢
  exact h0
theorem xj_lreturn (hk : xk_Ok v κ y cc nL (some .long) fr lo) (hz : xk_zf κ = z) {x : Int64} (hd : decode cc pc = .ok (.lreturn, 1)) (hp : post (some (.long x)) G) : xj v κ post z G pc ls [.long x] := by
  intro H locs lsC hH hL hS
  have h0 := W.lret (R := xk_R κ) (cells := z.2.1) (slots := z.2.2) (v := x) hk.1 hk.2.1 hk.2.2.1 (xj_end hz hH hS hp) (free := fun q => xk_b κ ≤ q) hS.2.2 (p := xk_p κ) (l := xk_l κ) (e := xk_e κ) (m := xk_m κ) (below := xk_bl κ) (ls := lsC) hd hk.2.2.2.2.2.2.1
  rw [← hz] at h0 ⊢
  exact h0
theorem xj_return (hk : xk_Ok v κ y cc nL none fr lo) (hz : xk_zf κ = z) (hd : decode cc pc = .ok (.return_, 1)) (hp : post none G) : xj v κ post z G pc ls [] := by
  intro H locs lsC hH hL hS
  have h0 := W.vret (R := xk_R κ) (cells := z.2.1) (slots := z.2.2) hk.1 hk.2.1 hk.2.2.1 (xj_end hz hH hS hp) (free := fun q => xk_b κ ≤ q) hS.2.2 (p := xk_p κ) (l := xk_l κ) (e := xk_e κ) (m := xk_m κ) (below := xk_bl κ) (ls := lsC) hd hk.2.2.2.2.2.2.1
  rw [← hz] at h0 ⊢
  exact h0
theorem xj_areturn {C9 : String} (hk : xk_Ok v κ y cc nL (some (.object C9)) fr lo) (hz : xk_zf κ = z) {x : Nat} (hd : decode cc pc = .ok (.areturn, 1)) (hp : post (some (.ref x)) G) : xj v κ post z G pc ls [.ref x] := by
  intro H locs lsC hH hL hS
  have h0 := W.aret (R := xk_R κ) (cells := z.2.1) (slots := z.2.2) (v := .ref x) hk.1 hk.2.1 hk.2.2.1 (Or.inl ⟨_, rfl⟩) (Or.inr ⟨_, rfl⟩) (xj_end hz hH hS hp) (free := fun q => xk_b κ ≤ q) hS.2.2 (p := xk_p κ) (l := xk_l κ) (e := xk_e κ) (m := xk_m κ) (below := xk_bl κ) (ls := lsC) hd hk.2.2.2.2.2.2.1
  rw [← hz] at h0 ⊢
  exact h0
/-! calls -/
theorem xk_pre {av : List Value} {H : Heap} {locs : List Loc} (hk : xk_Ok v κ y cc nL ret fr lo) (hH : xw_H v (xk_D κ) (xk_b κ) z.1 G H) (hS : va_S (fun q => xk_b κ ≤ q) (xk_s κ).heap H locs) : PreS (xk_s κ) H (va_Pc av (fun U => xw_H v (xk_D κ) (xk_b κ) z.1 G U.heap ∧ xk_KW v (xk_D κ) (xk_b κ) U)) av :=
  ⟨fun a U g mk q => ⟨q.1, q.2.1, xk_KW.same (s := U) (U := U.calling g mk a) rfl rfl q.2.2⟩, fun U hU hW => ⟨rfl, by rw [hU]; exact hH, hk.2.2.2.2.2.2.2.1.to hW (fun a h1 h2 => by rw [hU]; exact hS.2.1 a h1 h2)⟩⟩
theorem xj_run (hk : xk_Ok v κ y cc nL ret fr lo) {H : Heap} {locs : List Loc} {lsC : Array Slot} {st0 rest : List Value} {av : Array Value} {mc ms : Nat} {post1 : Option Value → xw_G → Prop} (hr : va_Run (xk_p κ) (xk_l κ) (xk_e κ) (xk_R κ) (xk_s κ) (xk_m κ) (xk_a κ) (xk_bl κ) (xk_me κ) (xk_c κ) H locs z.2.1 z.2.2 mc ms (F0 (xk_m κ) pc lsC st0) rest (xw_Q v (xk_D κ) (xk_b κ) (z.1 + mc) post1 av) (fun q => xk_b κ ≤ q))
    (hL : xl_R (xk_c κ).maxLocals ls lsC) (hS : va_S (fun q => xk_b κ ≤ q) (xk_s κ).heap H locs) (kk : ∀ (r : Option Value) (G' : xw_G), post1 r G' → xj v κ post (z.1 + mc, z.2.1 + mc, z.2.2 + ms) G' (pc + 3) ls (r.toList ++ rest)) : xk_W κ H locs z.2.1 z.2.2 (xk_Q v κ post) (F0 (xk_m κ) pc lsC st0) := by
  intro T hT X
  obtain ⟨r0, st₀, t, T', L, h0, X', hLo, e1, e2, ⟨⟨r, G', hv, hp, hH'⟩, hz, hkk⟩, stp⟩ := hr T hT X
  cases hv
  rw [h0] at hz hkk
  obtain ⟨t2, a1, b1⟩ := kk r0 G' hp T'.heap (locs ++ L) lsC (by rw [e1]; exact hH') hL
    ⟨Nat.le_trans hS.1 (by rw [e1]; exact hz), fun q h1 h2 => by rw [e1, hkk q (Nat.lt_of_lt_of_le h1 hS.1) h2]; exact hS.2.1 q h1 h2, fun q hq => by
      rcases List.mem_append.mp hq with h | h
      · exact hS.2.2 q h
      · exact hLo q h⟩ T' rfl X'
  exact ⟨t2, stp t2 a1, b1⟩
end XH

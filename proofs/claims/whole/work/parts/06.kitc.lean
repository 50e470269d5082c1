/-! ===== calls, new cells, switches ===== -/
theorem xw_pars {y : MethodName} {n : Nat} (h : (parseMethodDescriptor y.desc).map (fun d => d.parameters.length) = some n) : ∀ sig, parseMethodDescriptor y.desc = some sig → n = sig.parameters.length := fun sig h1 => by
  rw [h1] at h
  exact (Option.some.inj h).symm
/-- a method by the link of a caller's class: an instance's, a class's, a constructor -/
def xk_ML (own : String) (idx : Nat) (y : MethodName) (cc : ByteArray) (nL : Nat) (ret : Option FieldType) (n : Nat) : Prop := Cond.code y cc nL ret ∈ xw_tbl ∧ Cond.initialized y.cls ∈ xw_tbl ∧ (y.cls ≠ "java/lang/invoke/MethodHandle" ∧ y.cls ≠ "java/lang/invoke/VarHandle") ∧ (parseMethodDescriptor y.desc).map (fun d => d.parameters.length) = some n ∧ (Cond.methodLink own idx y ∈ xw_tbl ∨ Cond.methodLinkNest own idx y "BillTender" ∈ xw_nst)
def xk_MV (own : String) (idx : Nat) (y : MethodName) (cc : ByteArray) (nL : Nat) (ret : Option FieldType) (n : Nat) : Prop := xk_ML own idx y cc nL ret n ∧ Cond.instanceMethod y ∈ xw_tbl ∧ Cond.selects y.cls y y ∈ xw_tbl
def xk_MS (own : String) (idx : Nat) (y : MethodName) (cc : ByteArray) (nL : Nat) (ret : Option FieldType) (n : Nat) : Prop := xk_ML own idx y cc nL ret n ∧ Cond.static y ∈ xw_tbl
def xk_MI (own : String) (idx : Nat) (y : MethodName) (cc : ByteArray) (nL : Nat) (n : Nat) : Prop := xk_ML own idx y cc nL none n ∧ Cond.instanceMethod y ∈ xw_tbl ∧ y.name = "<init>"
theorem xk_gi {y : MethodName} {cc : ByteArray} {nL : Nat} {ret : Option FieldType} (h : Cond.code y cc nL ret ∈ xw_tbl) : GoodIn xw_tbl (Cond.code y cc nL ret :: xw_tbl) := fun w hw => by
  rcases List.mem_cons.mp hw with e | e
  · rw [e]; exact ⟨h, xw_good _ h⟩
  · exact ⟨e, xw_good _ e⟩
section XC
variable {v : xw_V} {κ : xk_K} {post : Option Value → xw_G → Prop} {z : Nat × Nat × Nat} {G : xw_G} {pc : Nat} {ls : List (Option Value)} {st st0 : List Value} {y : MethodName} {cc : ByteArray} {nL : Nat} {ret : Option FieldType} {fr lo : Nat}
variable {y1 : MethodName} {cc1 : ByteArray} {nL1 n fr1 lo1 idx mc ms : Nat} {ret1 : Option FieldType} {As : List Value} {post1 : Option Value → xw_G → Prop}
theorem xk_fix (hk : xk_Ok v κ y cc nL ret fr lo) : CallFix (xk_p κ) (xk_m κ) (xk_c κ) cc nL (xk_s κ) (xk_a κ) xw_tbl y.cls := ⟨hk.1, hk.2.1, hk.2.2.2.1, hk.2.2.2.2.1, hk.2.2.2.2.2.1⟩
theorem xk_rm (hk : xk_Ok v κ y cc nL ret fr lo) (hr : fr1 + 1 ≤ fr ∧ 8 + (nL1 + 11) + lo1 ≤ lo) : fr1 + 1 ≤ (xk_R κ).frames ∧ 8 + (nL1 + 11) + lo1 ≤ (xk_R κ).locals := ⟨Nat.le_trans hr.1 hk.2.2.2.2.2.2.2.2.1.1, Nat.le_trans hr.2 hk.2.2.2.2.2.2.2.2.1.2⟩
theorem xk_cells (hk : xk_Ok v κ y cc nL ret fr lo) (hf : z.2.1 + mc ≤ (xk_zf κ).2.1 ∧ z.2.2 + ms ≤ (xk_zf κ).2.2) : z.2.1 + mc ≤ (xk_R κ).cells ∧ z.2.2 + ms ≤ (xk_R κ).slots := ⟨Nat.le_trans hf.1 hk.2.2.2.2.2.2.2.2.2.2.2.1, Nat.le_trans hf.2 hk.2.2.2.2.2.2.2.2.2.2.2.2⟩
theorem xk_z0 (hz : xk_zf κ = z) : z.2.1 + 0 ≤ (xk_zf κ).2.1 ∧ z.2.2 + 0 ≤ (xk_zf κ).2.2 := by rw [hz]; exact ⟨Nat.le_refl _, Nat.le_refl _⟩
/-- an instance's method, of an object at a -/
theorem xj_callVZ (hk : xk_Ok v κ y cc nL ret fr lo) {a : Nat} (hm : xk_MV y.cls idx y1 cc1 nL1 ret1 n) (hc : xk_ConZ v y1 cc1 nL1 ret1 fr1 lo1 (.ref a :: As) z.1 mc ms G post1) (hf : z.2.1 + mc ≤ (xk_zf κ).2.1 ∧ z.2.2 + ms ≤ (xk_zf κ).2.2) (hn : As.length = n) (hd : decode cc pc = .ok (.invokevirtual idx, 3)) (hr : fr1 + 1 ≤ fr ∧ 8 + (nL1 + 11) + lo1 ≤ lo)
    (hrec : ∀ (H : Heap) (locs : List Loc), xw_H v (xk_D κ) (xk_b κ) z.1 G H → va_S (fun q => xk_b κ ≤ q) (xk_s κ).heap H locs → ∃ cellB : Cell, H[a]? = some cellB ∧ cellB.vm.isStatics = false ∧ (xk_s κ).vm.findClass y1.cls = some cellB.cls) (hw : (st.map fun v => v.category).sum ≤ 8) (hs : st0 = As.reverse ++ .ref a :: st)
    (kk : ∀ (r : Option Value) (G' : xw_G), post1 r G' → xj v κ post (z.1 + mc, z.2.1 + mc, z.2.2 + ms) G' (pc + 3) ls (r.toList ++ st)) : xj v κ post z G pc ls st0 := by
  subst hs
  intro H locs lsC hH hL hS
  obtain ⟨⟨h1, h2, h3, h4, h5⟩, h6, h7⟩ := hm
  have hts := hk.2.2.2.2.2.1
  have hM := hc (xk_l κ) (xk_D κ) (xk_b κ)
  have hpre := xk_pre (av := .ref a :: As) hk hH hS
  have hp : PreV (xk_s κ) H y1.cls a (va_Pc (.ref a :: As) (fun U => xw_H v (xk_D κ) (xk_b κ) z.1 G U.heap ∧ xk_KW v (xk_D κ) (xk_b κ) U)) As := ⟨hpre.1, hrec H locs hH hS, hpre.2⟩
  have hsz : lsC.size = nL := hL.1.trans hk.2.2.2.1
  rcases h5 with hl | hl
  · exact xj_run hk (va_runV (g := F0 (xk_m κ) pc lsC (As.reverse ++ .ref a :: st)) (As := As) (rest := st) (xk_fix hk) hM ⟨callB_of n hts (xk_gi h1) rfl rfl rfl (hts _ h2) (hts _ hl) ⟨h3.1, h3.2, h4⟩ (xk_rm hk hr), hts _ h6, hts _ h7⟩ hp rfl hn hsz rfl (lv_room hw) hd (xk_cells hk hf)) hL hS kk
  · exact xj_run hk (va_runVN (g := F0 (xk_m κ) pc lsC (As.reverse ++ .ref a :: st)) (As := As) (rest := st) (xk_fix hk) hM ⟨va_cnB n hts (xk_gi h1) rfl rfl rfl (hk.2.2.2.2.2.2.2.1.2.1 _ hl) (hts _ h2) ⟨h3.1, h3.2, h4⟩ (xk_rm hk hr), hts _ h6, hts _ h7⟩ hp rfl hn hsz rfl (lv_room hw) hd (xk_cells hk hf)) hL hS kk
theorem xj_callSZ (hk : xk_Ok v κ y cc nL ret fr lo) (hm : xk_MS y.cls idx y1 cc1 nL1 ret1 n) (hc : xk_ConZ v y1 cc1 nL1 ret1 fr1 lo1 As z.1 mc ms G post1) (hf : z.2.1 + mc ≤ (xk_zf κ).2.1 ∧ z.2.2 + ms ≤ (xk_zf κ).2.2) (hn : As.length = n) (hd : decode cc pc = .ok (.invokestatic idx, 3)) (hr : fr1 + 1 ≤ fr ∧ 8 + (nL1 + 11) + lo1 ≤ lo) (hw : (st.map fun v => v.category).sum ≤ 8) (hs : st0 = As.reverse ++ st)
    (kk : ∀ (r : Option Value) (G' : xw_G), post1 r G' → xj v κ post (z.1 + mc, z.2.1 + mc, z.2.2 + ms) G' (pc + 3) ls (r.toList ++ st)) : xj v κ post z G pc ls st0 := by
  subst hs
  intro H locs lsC hH hL hS
  obtain ⟨⟨h1, h2, h3, h4, h5⟩, h6⟩ := hm
  have hts := hk.2.2.2.2.2.1
  have hM := hc (xk_l κ) (xk_D κ) (xk_b κ)
  have hp := xk_pre (av := As) hk hH hS
  have hsz : lsC.size = nL := hL.1.trans hk.2.2.2.1
  rcases h5 with hl | hl
  · exact xj_run hk (va_runS (g := F0 (xk_m κ) pc lsC (As.reverse ++ st)) (As := As) (rest := st) (xk_fix hk) hM ⟨callB_of n hts (xk_gi h1) rfl rfl rfl (hts _ h2) (hts _ hl) ⟨h3.1, h3.2, h4⟩ (xk_rm hk hr), hts _ h6⟩ hp rfl hn hsz rfl (lv_room hw) hd (xk_cells hk hf)) hL hS kk
  · exact xj_run hk (va_runSN (g := F0 (xk_m κ) pc lsC (As.reverse ++ st)) (As := As) (rest := st) (xk_fix hk) hM ⟨va_cnB n hts (xk_gi h1) rfl rfl rfl (hk.2.2.2.2.2.2.2.1.2.1 _ hl) (hts _ h2) ⟨h3.1, h3.2, h4⟩ (xk_rm hk hr), hts _ h6, trivial⟩ hp rfl hn hsz rfl (lv_room hw) hd (xk_cells hk hf)) hL hS kk
theorem xj_callIZ (hk : xk_Ok v κ y cc nL ret fr lo) {a : Nat} (hm : xk_MI y.cls idx y1 cc1 nL1 n) (hc : xk_ConZ v y1 cc1 nL1 none fr1 lo1 (.ref a :: As) z.1 mc ms G post1) (hf : z.2.1 + mc ≤ (xk_zf κ).2.1 ∧ z.2.2 + ms ≤ (xk_zf κ).2.2) (hn : As.length = n) (hd : decode cc pc = .ok (.invokespecial idx, 3)) (hr : fr1 + 1 ≤ fr ∧ 8 + (nL1 + 11) + lo1 ≤ lo) (hw : (st.map fun v => v.category).sum ≤ 8) (hs : st0 = As.reverse ++ .ref a :: st)
    (kk : ∀ (r : Option Value) (G' : xw_G), post1 r G' → xj v κ post (z.1 + mc, z.2.1 + mc, z.2.2 + ms) G' (pc + 3) ls (r.toList ++ st)) : xj v κ post z G pc ls st0 := by
  subst hs
  intro H locs lsC hH hL hS
  obtain ⟨⟨h1, h2, h3, h4, h5⟩, h6, h7⟩ := hm
  have hts := hk.2.2.2.2.2.1
  have hM := hc (xk_l κ) (xk_D κ) (xk_b κ)
  have hp := xk_pre (av := .ref a :: As) hk hH hS
  have hsz : lsC.size = nL := hL.1.trans hk.2.2.2.1
  rcases h5 with hl | hl
  · exact xj_run hk (va_runI (g := F0 (xk_m κ) pc lsC (As.reverse ++ .ref a :: st)) (As := As) (rest := st) (xk_fix hk) hM ⟨callB_of n hts (xk_gi h1) rfl rfl rfl (hts _ h2) (hts _ hl) ⟨h3.1, h3.2, h4⟩ (xk_rm hk hr), h7, hts _ h6⟩ hp rfl hn hsz rfl (lv_room hw) hd (xk_cells hk hf)) hL hS kk
  · exact xj_run hk (va_runIN (g := F0 (xk_m κ) pc lsC (As.reverse ++ .ref a :: st)) (As := As) (rest := st) (xk_fix hk) hM ⟨va_cnB n hts (xk_gi h1) rfl rfl rfl (hk.2.2.2.2.2.2.2.1.2.1 _ hl) (hts _ h2) ⟨h3.1, h3.2, h4⟩ (xk_rm hk hr), h7, hts _ h6⟩ hp rfl hn hsz rfl (lv_room hw) hd (xk_cells hk hf)) hL hS kk
theorem xk_recv (hk : xk_Ok v κ y cc nL ret fr lo) {g i ci : Nat} {fs : List Value} {C : String} (hG : (G g)[i]? = some (xw_eo ci fs)) (hcl : vwCl[ci]?.map (fun q => q.1) = some C) : ∀ (H : Heap) (locs : List Loc), xw_H v (xk_D κ) (xk_b κ) z.1 G H → va_S (fun q => xk_b κ ≤ q) (xk_s κ).heap H locs → ∃ cellB : Cell, H[xw_ad v g i]? = some cellB ∧ cellB.vm.isStatics = false ∧ (xk_s κ).vm.findClass C = some cellB.cls := by
  intro H locs hH hS
  obtain ⟨hz, dom, hdom, hP, hD⟩ := hH
  obtain ⟨q, hq, hw⟩ := xw_find (v := v) hdom hG
  cases hc : vwCl[ci]? with
  | none => rw [hc] at hcl; cases hcl
  | some r =>
    rw [hc] at hcl
    have e : r.1 = C := by simpa using hcl
    rw [← e]
    exact va_recv hk.2.2.2.2.2.2.2.1.1 hP hc hw
/-- with a plain answer, nothing made -/
theorem xj_callV (hk : xk_Ok v κ y cc nL ret fr lo) (hz : xk_zf κ = z) {g i ci : Nat} {fs : List Value} {r1 : Option Value} {G1 : xw_G} {st2 : List Value} (hm : xk_MV y.cls idx y1 cc1 nL1 ret1 n) (hc : xk_Con v y1 cc1 nL1 ret1 fr1 lo1 (.ref (xw_ad v g i) :: As) G (xk_ret r1 G1)) (hG : (G g)[i]? = some (xw_eo ci fs)) (hcl : vwCl[ci]?.map (fun q => q.1) = some y1.cls) (hd : decode cc pc = .ok (.invokevirtual idx, 3)) (hr : fr1 + 1 ≤ fr ∧ 8 + (nL1 + 11) + lo1 ≤ lo) (hn : As.length = n) (hw : (st.map fun v => v.category).sum ≤ 8) (hs : st0 = As.reverse ++ .ref (xw_ad v g i) :: st) (hs2 : r1.toList ++ st = st2)
    (kk : xj v κ post z G1 (pc + 3) ls st2) : xj v κ post z G pc ls st0 :=
  xj_callVZ (mc := 0) (ms := 0) hk hm (hc z.1) (xk_z0 hz) hn hd hr (xk_recv hk hG hcl) hw hs (fun r G' h => by obtain ⟨rfl, rfl⟩ := h; rw [hs2]; exact kk)
theorem xj_callS (hk : xk_Ok v κ y cc nL ret fr lo) (hz : xk_zf κ = z) {r1 : Option Value} {G1 : xw_G} {st2 : List Value} (hm : xk_MS y.cls idx y1 cc1 nL1 ret1 n) (hc : xk_Con v y1 cc1 nL1 ret1 fr1 lo1 As G (xk_ret r1 G1)) (hd : decode cc pc = .ok (.invokestatic idx, 3)) (hr : fr1 + 1 ≤ fr ∧ 8 + (nL1 + 11) + lo1 ≤ lo) (hn : As.length = n) (hw : (st.map fun v => v.category).sum ≤ 8) (hs : st0 = As.reverse ++ st) (hs2 : r1.toList ++ st = st2)
    (kk : xj v κ post z G1 (pc + 3) ls st2) : xj v κ post z G pc ls st0 :=
  xj_callSZ (mc := 0) (ms := 0) hk hm (hc z.1) (xk_z0 hz) hn hd hr hw hs (fun r G' h => by obtain ⟨rfl, rfl⟩ := h; rw [hs2]; exact kk)
/-! Math.min, Math.max -/
theorem xj_min (hk : xk_Ok v κ y cc nL ret fr lo) (hz : xk_zf κ = z) {x1 x2 : Int32} (hd : decode cc pc = .ok (.invokestatic idx, 3)) (hl : Cond.methodLink y.cls idx Lib.Math.min.name ∈ xw_tbl) (hr : 1 ≤ fr) (hlo : (st.map fun v => v.category).sum + 13 ≤ lo) (h1 : Cond.static Lib.Math.min.name ∈ xw_tbl) (h2 : Cond.initialized "java/lang/Math" ∈ xw_tbl) (h3 : Cond.code Lib.Math.min.name Lib.Math.min.code 2 (some .int) ∈ xw_tbl) (kk : xj v κ post z G (pc + 3) ls (.int (if x2 < x1 then x2 else x1) :: st)) : xj v κ post z G pc ls (.int x2 :: .int x1 :: st) := fun H locs lsC hH hL hS =>
  va_mmin hk.1 hk.2.1 hL.1.symm hk.2.2.2.2.1 (hk.2.2.2.2.2.1 _ hl) (hk.2.2.2.2.2.1 _ h1) (hk.2.2.2.2.2.1 _ h2) (hk.2.2.2.2.2.1 _ h3) (Nat.le_trans hr hk.2.2.2.2.2.2.2.2.1.1) (Nat.le_trans hlo hk.2.2.2.2.2.2.2.2.1.2) (xk_cells hk (xk_z0 hz)).1 (xk_cells hk (xk_z0 hz)).2 hd (kk H locs lsC hH hL hS)
theorem xj_max (hk : xk_Ok v κ y cc nL ret fr lo) (hz : xk_zf κ = z) {x1 x2 : Int32} (hd : decode cc pc = .ok (.invokestatic idx, 3)) (hl : Cond.methodLink y.cls idx Lib.Math.max.name ∈ xw_tbl) (hr : 1 ≤ fr) (hlo : (st.map fun v => v.category).sum + 13 ≤ lo) (h1 : Cond.static Lib.Math.max.name ∈ xw_tbl) (h2 : Cond.initialized "java/lang/Math" ∈ xw_tbl) (h3 : Cond.code Lib.Math.max.name Lib.Math.max.code 2 (some .int) ∈ xw_tbl) (kk : xj v κ post z G (pc + 3) ls (.int (if x1 < x2 then x2 else x1) :: st)) : xj v κ post z G pc ls (.int x2 :: .int x1 :: st) := fun H locs lsC hH hL hS =>
  va_mmax hk.1 hk.2.1 hL.1.symm hk.2.2.2.2.1 (hk.2.2.2.2.2.1 _ hl) (hk.2.2.2.2.2.1 _ h1) (hk.2.2.2.2.2.1 _ h2) (hk.2.2.2.2.2.1 _ h3) (Nat.le_trans hr hk.2.2.2.2.2.2.2.2.1.1) (Nat.le_trans hlo hk.2.2.2.2.2.2.2.2.1.2) (xk_cells hk (xk_z0 hz)).1 (xk_cells hk (xk_z0 hz)).2 hd (kk H locs lsC hH hL hS)
/-! switches -/
theorem xj_swOut (hk : xk_Ok v κ y cc nL ret fr lo) {dflt lo1 hi1 : Int} {offs : Array Int} {len : Nat} {x : Int32} {tgt : Nat} (hd : decode cc pc = .ok (.tableswitch dflt lo1 hi1 offs, len)) (h : x.toInt < lo1 ∨ hi1 < x.toInt) (ht : (pc : Int) + dflt = (tgt : Int)) (kk : xj v κ post z G tgt ls st) : xj v κ post z G pc ls (.int x :: st) := fun H locs lsC hH hL hS => lv_tableOut hk.1 hk.2.1 hd h ht (kk H locs lsC hH hL hS)
theorem xj_swIn (hk : xk_Ok v κ y cc nL ret fr lo) {dflt lo1 hi1 : Int} {offs : Array Int} {len : Nat} {x : Int32} {off : Int} {tgt : Nat} (hd : decode cc pc = .ok (.tableswitch dflt lo1 hi1 offs, len)) (h1 : ¬ x.toInt < lo1) (h2 : ¬ hi1 < x.toInt) (ho : offs[(x.toInt - lo1).toNat]? = some off) (ht : (pc : Int) + off = (tgt : Int)) (kk : xj v κ post z G tgt ls st) : xj v κ post z G pc ls (.int x :: st) := fun H locs lsC hH hL hS => lv_tableIn hk.1 hk.2.1 hd h1 h2 ho ht (kk H locs lsC hH hL hS)
/-! statics and their arrays -/
theorem xj_getstat (hk : xk_Ok v κ y cc nL ret fr lo) {q : Nat × String × List Int32} (hq : q ∈ xk_stats) (hd : decode cc pc = .ok (.getstatic idx, 3)) (hl : Cond.fieldLink y.cls idx "BillTender" q.2.1 "[I" ∈ xw_tbl ∨ Cond.fieldLinkNest y.cls idx "BillTender" q.2.1 "[I" "BillTender" ∈ xw_nst) (kk : xj v κ post z G (pc + 3) ls (.ref (xw_ad v (30 + q.1) 0) :: st)) : xj v κ post z G pc ls st := by
  intro H locs lsC hH hL hS
  have h0 := (hk.2.2.2.2.2.2.2.1.2.2.2.1 q hq).1
  rcases hl with hl | hl
  · exact va_gets hk.1 hk.2.1 h0 hS hk.2.2.2.2.1 (hk.2.2.2.2.2.1 _ hl) (fun x h => h) hd (kk H locs lsC hH hL hS)
  · exact va_getsN hk.1 hk.2.1 h0 hS hk.2.2.2.2.1 (va_Nw.use rfl (hk.2.2.2.2.2.2.2.1.2.1 _ hl)) (fun x h => h) hd (kk H locs lsC hH hL hS)
theorem xj_staload (hk : xk_Ok v κ y cc nL ret fr lo) {q : Nat × String × List Int32} {j : Int32} {k : Nat} (hq : q ∈ xk_stats) (hd : decode cc pc = .ok (.iaload, 1)) (hj : xi j k q.2.2.length) (kk : xj v κ post z G (pc + 1) ls (.int (q.2.2.getD k 0) :: st)) : xj v κ post z G pc ls (.int j :: .ref (xw_ad v (30 + q.1) 0) :: st) := fun H locs lsC hH hL hS =>
  va_ti hk.1 hk.2.1 (hk.2.2.2.2.2.2.2.1.2.2.2.1 q hq).2 hS (xi_in hj) (v := .int (q.2.2.getD k 0)) (by rw [hj.1]) hd (kk H locs lsC hH hL hS)
end XC

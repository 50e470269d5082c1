/-! ===== making: a new cell at the end of its group ===== -/
theorem xw_cell_app {G : xw_G} {g : Nat} {c : va_E} {a : Nat × Nat} (h : a ≠ (g, (G g).length)) : xw_cell (xw_up G g (G g ++ [c])) a = xw_cell G a := by
  obtain ⟨a1, a2⟩ := a
  unfold xw_cell
  by_cases h1 : a1 = g
  · subst h1
    show (xw_up G a1 (G a1 ++ [c]) a1)[a2]? = (G a1)[a2]?
    rw [xw_up_s]
    by_cases h2 : a2 < (G a1).length
    · rw [List.getElem?_append_left h2]
    · have h3 : a2 ≠ (G a1).length := fun q => h (by rw [q])
      rw [List.getElem?_eq_none (by simp; omega), List.getElem?_eq_none (by omega)]
  · show (xw_up G g (G g ++ [c]) a1)[a2]? = _
    rw [xw_up_n h1]
theorem xw_cell_new {G : xw_G} {g : Nat} {c : va_E} : xw_cell (xw_up G g (G g ++ [c])) (g, (G g).length) = some c := by
  show (xw_up G g (G g ++ [c]) g)[(G g).length]? = _
  rw [xw_up_s, List.getElem?_append_right (Nat.le_refl _), Nat.sub_self]; rfl
theorem xw_none {G : xw_G} {g : Nat} : xw_cell G (g, (G g).length) = none := List.getElem?_eq_none (Nat.le_refl _)
theorem xw_ws_app {v : xw_V} {G : xw_G} {dom : List (Nat × Nat)} {g : Nat} {c : va_E} (hdom : ∀ a, a ∈ dom ↔ (xw_cell G a).isSome = true) : xw_ws v (xw_up G g (G g ++ [c])) (dom ++ [(g, (G g).length)]) = xw_ws v G dom ++ [(xw_ad v g (G g).length, c)] := by
  simp only [xw_ws, List.map_append, List.map_cons, List.map_nil]
  congr 1
  · refine List.map_congr_left (fun a ha => ?_)
    have hne : a ≠ (g, (G g).length) := fun q => by
      have := (hdom a).mp ha
      rw [q, xw_none] at this; cases this
    rw [xw_cell_app hne]
  · rw [xw_cell_new]; rfl
theorem xw_dom_app {G : xw_G} {dom : List (Nat × Nat)} {g : Nat} {c : va_E} (hdom : ∀ a, a ∈ dom ↔ (xw_cell G a).isSome = true) : ∀ a, a ∈ dom ++ [(g, (G g).length)] ↔ (xw_cell (xw_up G g (G g ++ [c])) a).isSome = true := by
  intro a
  by_cases q : a = (g, (G g).length)
  · subst q; rw [xw_cell_new]; simp
  · rw [xw_cell_app q, ← hdom a]; simp [q]
section XM
variable {v : xw_V} {κ : xk_K} {post : Option Value → xw_G → Prop} {z : Nat × Nat × Nat} {G : xw_G} {pc : Nat} {ls : List (Option Value)} {st : List Value} {y : MethodName} {cc : ByteArray} {nL : Nat} {ret : Option FieldType} {fr lo : Nat}
theorem xk_had (hk : xk_Ok v κ y cc nL ret fr lo) {g : Nat} {H : Heap} (hg : g < 22) (hz1 : z.1 = xw_off g + (G g).length) (hz : H.size = xk_b κ + z.1) : xw_ad v g (G g).length = H.size := by
  rw [hk.2.2.2.2.2.2.2.1.2.2.1 g _ hg, hz, hz1]; omega
theorem xk_grow {κ : xk_K} {H H1 : Heap} {locs : List Loc} (hS : va_S (fun q => xk_b κ ≤ q) (xk_s κ).heap H locs) (z1 : H1.size = H.size + 1) (o1 : ∀ q, q < H.size → H1[q]? = H[q]?) : va_S (fun q => xk_b κ ≤ q) (xk_s κ).heap H1 locs := ⟨Nat.le_trans hS.1 (by omega), fun x h1 h2 => (o1 x (Nat.lt_of_lt_of_le h1 hS.1)).trans (hS.2.1 x h1 h2), hS.2.2⟩
theorem xk_made {D : va_G} {base nn : Nat} {H H1 : Heap} {g : Nat} {c : va_E} (hH : xw_H v D base nn G H) (had : xw_ad v g (G g).length = H.size) (z1 : H1.size = H.size + 1) (o1 : ∀ q, q < H.size → H1[q]? = H[q]?) (hP1 : va_P D vwCl [(H.size, c)] H1) : xw_H v D base (nn + 1) (xw_up G g (G g ++ [c])) H1 := by
  obtain ⟨hz, dom, hdom, hP, hD⟩ := hH
  have hk9 : ∀ (k : Nat) (x : Nat × va_E), (xw_ws v G dom)[k]? = some x → H1[x.1]? = H[x.1]? := fun k x hx => o1 x.1 ((hP k x hx).lt)
  refine ⟨by rw [z1, hz]; omega, dom ++ [(g, (G g).length)], xw_dom_app hdom, ?_, ?_⟩
  · rw [xw_ws_app hdom, had]
    exact (hP.kept hk9).app hP1
  · rw [xw_ws_app hdom, had]
    exact hD.push hP rfl (show base ≤ H.size by rw [hz]; exact Nat.le_add_right _ _)
theorem xj_new (hk : xk_Ok v κ y cc nL ret fr lo) {idx ci g N : Nat} {C : String} {T : u_T} {fs : List Value} (hd : decode cc pc = .ok (.new idx, 3)) (hcl : vwCl[ci]? = some (C, T, N)) (hl : Cond.classLink y.cls idx C ∈ xw_tbl) (hi : Cond.instantiable C N ∈ xw_tbl) (hn : Cond.initialized C ∈ xw_tbl) (ty : Nat → FieldType) (hty : ∀ k, k < N → parseFieldDescriptor (T k).2.2.1 = some (ty k)) (hfs : ∀ j, j < N → defaultValue (ty j) = vp_V fs j) (hg : g < 22) (hz1 : z.1 = xw_off g + (G g).length) (hf : z.2.1 + 1 ≤ (xk_zf κ).2.1 ∧ z.2.2 + N ≤ (xk_zf κ).2.2) (kk : xj v κ post (z.1 + 1, z.2.1 + 1, z.2.2 + N) (xw_up G g (G g ++ [xw_eo ci fs])) (pc + 3) ls (.ref (xw_ad v g (G g).length) :: st)) : xj v κ post z G pc ls st := by
  intro H locs lsC hH hL hS
  obtain ⟨hin, -⟩ := xk_cl hcl
  have hts := hk.2.2.2.2.2.1
  have hK := hk.2.2.2.2.2.2.2.1.1
  have hKn := hK.1 ci _ hcl
  have had := xk_had hk hg hz1 hH.1
  have hc := xk_cells hk hf
  refine W.newcK hk.1 hk.2.1 hk.2.2.2.2.1 (hts _ hl) (hts _ hi) (hts _ hn) rfl hd hc.1 hc.2 hKn.2.1 rfl fun H1 kC hkC e1 z1 o1 => ?_
  have hP1 : va_P (xk_D κ) vwCl [(H.size, xw_eo ci fs)] H1 := fun k x hx => by
    have hz9 : k < 1 := (List.getElem?_eq_some_iff.mp hx).1
    rw [show k = 0 by omega] at hx
    cases hx
    exact ⟨_, hcl, (u_born ty hts hin hKn hkC e1 hty).to hfs⟩
  have h9 := kk H1 locs lsC (xk_made hH had z1 o1 hP1) hL (xk_grow hS z1 o1)
  rw [had] at h9
  exact h9
theorem xk_arrP {D : va_G} {H1 : Heap} {a : Nat} {cA : ClassId} {a0 : vp_A} {N : Nat} {w : Value} (ha : vp_cell cA a0 = arrV cA N (fun _ => w)) (e1 : H1[a]? = some (arrV cA N (fun _ => w))) : va_P D vwCl [(a, .inl (cA, a0))] H1 := fun k x hx => by
  have hz9 : k < 1 := (List.getElem?_eq_some_iff.mp hx).1
  rw [show k = 0 by omega] at hx
  cases hx
  show H1[a]? = some (vp_cell _ _)
  rw [ha]
  exact e1
theorem xj_newi (hk : xk_Ok v κ y cc nL ret fr lo) {g N : Nat} {n : Int32} (hd : decode cc pc = .ok (.newarray .int, 2)) (hl : Cond.arrayClass .int ∈ xw_tbl) (hn : n = nI N) (hN : N ≤ 1000000) (hg : g < 22) (hz1 : z.1 = xw_off g + (G g).length) (hf : z.2.1 + 1 ≤ (xk_zf κ).2.1 ∧ z.2.2 + N ≤ (xk_zf κ).2.2) (kk : xj v κ post (z.1 + 1, z.2.1 + 1, z.2.2 + N) (xw_up G g (G g ++ [xw_ei v N (fun _ => 0)])) (pc + 2) ls (.ref (xw_ad v g (G g).length) :: st)) : xj v κ post z G pc ls (.int n :: st) := by
  intro H locs lsC hH hL hS
  subst hn
  have had := xk_had hk hg hz1 hH.1
  have hc := xk_cells hk hf
  refine va_newaK (atype := .int) hk.1 hk.2.1 (hk.2.2.2.2.2.1 _ hl) rfl hd rfl (nI_pos (by omega)) (nI_clamp (by omega)) (show N * 4 ≤ 536870912 by omega) hc.1 hc.2 rfl fun H1 cA e1 z1 o1 hAr hNm => ?_
  have hca : cA = xw_ca v 0 := Option.some.inj (hNm.symm.trans (hk.2.2.2.2.2.2.2.1.1.2 0 _ (xw_tI v)).2)
  subst hca
  have h9 := kk H1 locs lsC (xk_made hH had z1 o1 (xk_arrP rfl e1)) hL (xk_grow hS z1 o1)
  rw [had] at h9
  exact h9
theorem xj_newl (hk : xk_Ok v κ y cc nL ret fr lo) {g N : Nat} {n : Int32} (hd : decode cc pc = .ok (.newarray .long, 2)) (hl : Cond.arrayClass .long ∈ xw_tbl) (hn : n = nI N) (hN : N ≤ 1000000) (hg : g < 22) (hz1 : z.1 = xw_off g + (G g).length) (hf : z.2.1 + 1 ≤ (xk_zf κ).2.1 ∧ z.2.2 + N ≤ (xk_zf κ).2.2) (kk : xj v κ post (z.1 + 1, z.2.1 + 1, z.2.2 + N) (xw_up G g (G g ++ [xw_el v N (fun _ => 0)])) (pc + 2) ls (.ref (xw_ad v g (G g).length) :: st)) : xj v κ post z G pc ls (.int n :: st) := by
  intro H locs lsC hH hL hS
  subst hn
  have had := xk_had hk hg hz1 hH.1
  have hc := xk_cells hk hf
  refine va_newaK (atype := .long) hk.1 hk.2.1 (hk.2.2.2.2.2.1 _ hl) rfl hd rfl (nI_pos (by omega)) (nI_clamp (by omega)) (show N * 8 ≤ 536870912 by omega) hc.1 hc.2 rfl fun H1 cA e1 z1 o1 hAr hNm => ?_
  have hca : cA = xw_ca v 1 := Option.some.inj (hNm.symm.trans (hk.2.2.2.2.2.2.2.1.1.2 1 _ (xw_tJ v)).2)
  subst hca
  have h9 := kk H1 locs lsC (xk_made hH had z1 o1 (xk_arrP rfl e1)) hL (xk_grow hS z1 o1)
  rw [had] at h9
  exact h9
theorem xj_newz (hk : xk_Ok v κ y cc nL ret fr lo) {g N : Nat} {n : Int32} (hd : decode cc pc = .ok (.newarray .boolean, 2)) (hl : Cond.arrayClass .boolean ∈ xw_tbl) (hn : n = nI N) (hN : N ≤ 1000000) (hg : g < 22) (hz1 : z.1 = xw_off g + (G g).length) (hf : z.2.1 + 1 ≤ (xk_zf κ).2.1 ∧ z.2.2 + N ≤ (xk_zf κ).2.2) (kk : xj v κ post (z.1 + 1, z.2.1 + 1, z.2.2 + N) (xw_up G g (G g ++ [xw_ez v N (fun _ => 0)])) (pc + 2) ls (.ref (xw_ad v g (G g).length) :: st)) : xj v κ post z G pc ls (.int n :: st) := by
  intro H locs lsC hH hL hS
  subst hn
  have had := xk_had hk hg hz1 hH.1
  have hc := xk_cells hk hf
  refine va_newaK (atype := .boolean) hk.1 hk.2.1 (hk.2.2.2.2.2.1 _ hl) rfl hd rfl (nI_pos (by omega)) (nI_clamp (by omega)) (show N * 1 ≤ 536870912 by omega) hc.1 hc.2 rfl fun H1 cA e1 z1 o1 hAr hNm => ?_
  have hca : cA = xw_ca v 2 := Option.some.inj (hNm.symm.trans (hk.2.2.2.2.2.2.2.1.1.2 2 _ (xw_tZ v)).2)
  subst hca
  have h9 := kk H1 locs lsC (xk_made hH had z1 o1 (xk_arrP rfl e1)) hL (xk_grow hS z1 o1)
  rw [had] at h9
  exact h9
theorem xj_newb (hk : xk_Ok v κ y cc nL ret fr lo) {g N : Nat} {n : Int32} (hd : decode cc pc = .ok (.newarray .byte, 2)) (hl : Cond.arrayClass .byte ∈ xw_tbl) (hn : n = nI N) (hN : N ≤ 1000000) (hg : g < 22) (hz1 : z.1 = xw_off g + (G g).length) (hf : z.2.1 + 1 ≤ (xk_zf κ).2.1 ∧ z.2.2 + N ≤ (xk_zf κ).2.2) (kk : xj v κ post (z.1 + 1, z.2.1 + 1, z.2.2 + N) (xw_up G g (G g ++ [xw_eb v N (fun _ => 0)])) (pc + 2) ls (.ref (xw_ad v g (G g).length) :: st)) : xj v κ post z G pc ls (.int n :: st) := by
  intro H locs lsC hH hL hS
  subst hn
  have had := xk_had hk hg hz1 hH.1
  have hc := xk_cells hk hf
  refine va_newaK (atype := .byte) hk.1 hk.2.1 (hk.2.2.2.2.2.1 _ hl) rfl hd rfl (nI_pos (by omega)) (nI_clamp (by omega)) (show N * 1 ≤ 536870912 by omega) hc.1 hc.2 rfl fun H1 cA e1 z1 o1 hAr hNm => ?_
  have hca : cA = xw_ca v 3 := Option.some.inj (hNm.symm.trans (hk.2.2.2.2.2.2.2.1.1.2 3 _ (xw_tB v)).2)
  subst hca
  have h9 := kk H1 locs lsC (xk_made hH had z1 o1 (xk_arrP rfl e1)) hL (xk_grow hS z1 o1)
  rw [had] at h9
  exact h9
theorem xj_newq (hk : xk_Ok v κ y cc nL ret fr lo) {g N idx : Nat} {n : Int32} (hd : decode cc pc = .ok (.anewarray idx, 3)) (hl : Cond.classLink y.cls idx "BillTender$Book" ∈ xw_tbl) (hn : n = nI N) (hN : N ≤ 1000000) (hg : g < 22) (hz1 : z.1 = xw_off g + (G g).length) (hf : z.2.1 + 1 ≤ (xk_zf κ).2.1 ∧ z.2.2 + N ≤ (xk_zf κ).2.2) (kk : xj v κ post (z.1 + 1, z.2.1 + 1, z.2.2 + N) (xw_up G g (G g ++ [xw_eq v N (fun _ => none)])) (pc + 3) ls (.ref (xw_ad v g (G g).length) :: st)) : xj v κ post z G pc ls (.int n :: st) := by
  intro H locs lsC hH hL hS
  subst hn
  have had := xk_had hk hg hz1 hH.1
  have hc := xk_cells hk hf
  have hcl : (nI N).toNatClampNeg = N := nI_clamp (by omega)
  refine W.anew hk.1 hk.2.1 hk.2.2.2.2.1 (hk.2.2.2.2.2.1 _ hl) (va_AO.use hk.2.2.2.2.2.2.2.1.2.2.2.2.2.2.2) rfl hd rfl (nI_pos (by omega)) (by rw [hcl]; omega) hc.1 (by rw [hcl]; exact hc.2) fun cA kA comp f1 f2 f3 f4 => ?_
  rw [hcl]
  generalize hH1 : H.push ({ cls := cA, slots := Array.replicate N .null, vm := .none } : Cell) = H1
  have z1 : H1.size = H.size + 1 := by rw [← hH1, Array.size_push]
  have e1 : H1[H.size]? = some (arrV cA N (fun _ => .null)) := by rw [← hH1, Array.getElem?_push_size, ← arrV_new]
  have o1 : ∀ q : Nat, q < H.size → H1[q]? = H[q]? := fun q hq => by rw [← hH1, Array.getElem?_push, if_neg (Nat.ne_of_lt hq)]
  obtain ⟨kA2, comp2, g1, g2, g3, g4⟩ := (hk.2.2.2.2.2.2.2.1.1.2 4 _ (xw_tQ v)).2
  have hca : cA = xw_ca v 4 := Option.some.inj (f1.symm.trans g4)
  subst hca
  have h9 := kk H1 locs lsC (xk_made hH had z1 o1 (xk_arrP rfl e1)) hL (xk_grow hS z1 o1)
  rw [had] at h9
  exact h9
theorem xj_objinit (hk : xk_Ok v κ y cc nL ret fr lo) {idx a : Nat} (hd : decode cc pc = .ok (.invokespecial idx, 3)) (hl : Cond.methodLink y.cls idx Lib.objectInit ∈ xw_tbl) (hi : Cond.instanceMethod Lib.objectInit ∈ xw_tbl) (hc : Cond.code Lib.objectInit ⟨#[0xb1]⟩ 1 none ∈ xw_tbl) (hr : 1 ≤ fr) (hlo : (st.map fun v => v.category).sum + 20 ≤ lo) (kk : xj v κ post z G (pc + 3) ls st) : xj v κ post z G pc ls (.ref a :: st) := fun H locs lsC hH hL hS =>
  W.objInit hk.1 hk.2.1 hk.2.2.2.2.1 (hk.2.2.2.2.2.1 _ hl) (hk.2.2.2.2.2.1 _ hi) (hk.2.2.2.2.2.1 _ hc) rfl hL.1 rfl hd (Nat.le_trans hr hk.2.2.2.2.2.2.2.2.1.1) (Nat.le_trans (by show 2 * 0 + _ + 12 ≤ lo; omega) hk.2.2.2.2.2.2.2.2.1.2) (kk H locs lsC hH hL hS)
theorem xj_aastore (hk : xk_Ok v κ y cc nL ret fr lo) {g i k g1 i1 : Nat} {j : Int32} {n9 : Nat} {f : Nat → Option Nat} {fs : List Value} {G2 : xw_G} (hd : decode cc pc = .ok (.aastore, 1)) (hc : (G g)[i]? = some (xw_eq v n9 f)) (hv : (G g1)[i1]? = some (xw_eo 0 fs)) (hj : xi j k n9) (he : xw_up G g ((G g).set i (xw_eq v n9 (xu f k (some (xw_ad v g1 i1))))) = G2) (kk : xj v κ post z G2 (pc + 1) ls st) : xj v κ post z G pc ls (.ref (xw_ad v g1 i1) :: .int j :: .ref (xw_ad v g i) :: st) := by
  subst he
  intro H locs lsC hH hL hS0
  obtain ⟨hz, dom, hdom, hP, hD⟩ := hH
  obtain ⟨q, hq, hw⟩ := xw_find (v := v) hdom hc
  obtain ⟨q2, hq2, hw2⟩ := xw_find (v := v) hdom hv
  have hK := hk.2.2.2.2.2.2.2.1.1
  have hcl : vwCl[0]? = some (RX0, TX0, 8) := rfl
  obtain ⟨r', hr', cellV, g1', g2', g3', -⟩ := hP q2 _ hw2
  have hcls := (hK.1 0 _ hcl).2
  obtain ⟨kA, comp, k1, k2, k3, -⟩ := (hK.2 4 _ (xw_tQ v)).2
  have hcomp : comp = (xk_D κ).1 0 := Option.some.inj (k3.symm.trans hcls.1)
  subst hcomp
  obtain ⟨kC, hkC, -⟩ := hcls.2
  have hlt : j.toNatClampNeg < n9 := by rw [hj.1]; exact hj.2.2
  refine W.aast hk.1 hk.2.1 (hP q _ hw) (fun q h => by cases h) (fun h => by cases h) k1 k2 rfl hkC ⟨hj.2.1, by show _ < (arrV _ _ _).slots.size; rw [arrV_size]; exact hlt⟩ g1' (fun q h => by rw [g3'] at h; cases h) (by rw [g2']; exact hkC) (by rw [g2']; exact va_assign hcls) rfl rfl hd fun H1 e z9 oq => ?_
  have hP2 := hP.set hD hw (e := xw_eq v n9 (xu f k (some (xw_ad v g1 i1)))) (by
    show H1[xw_ad v g i]? = some (vp_cell _ _)
    rw [e]
    show some ((vp_cell (xw_ca v 4) (n9, .inr (.inr (.inr (.inr f))))).setSlot _ _) = some (vp_cell (xw_ca v 4) (n9, .inr (.inr (.inr (.inr (xu f k (some (xw_ad v g1 i1))))))))
    rw [vp_cell_q, vp_cell_q, arrV_store]
    congr 2
    funext q9
    rw [hj.1]
    by_cases hq9 : q9 = k
    · subst hq9
      simp [updV, xu, va_rf]
    · simp [updV, xu, hq9]) oq
  have hD2 := hD.set (e := xw_eq v n9 (xu f k (some (xw_ad v g1 i1)))) hw
  rw [xw_put hD hq hc] at hP2 hD2
  exact kk H1 _ lsC ⟨z9.trans hz, dom, xw_dom hdom hc, hP2, hD2⟩ hL (hS0.put z9 oq (hD.2 q _ hw))
/-! the script -/
theorem xj_sclen (hk : xk_Ok v κ y cc nL ret fr lo) {b L : Nat} {xs : Nat → Int32} (hX : va_X b L xs (xk_s κ) (xk_s κ).heap) (hb : b < (xk_s κ).heap.size) (hbb : ¬ xk_b κ ≤ b) (hd : decode cc pc = .ok (.arraylength, 1)) (kk : xj v κ post z G (pc + 1) ls (.int (nI L) :: st)) : xj v κ post z G pc ls (.ref b :: st) := fun H locs lsC hH hL hS => va_slen hk.1 hk.2.1 hX hb hbb hS hd (kk H locs lsC hH hL hS)
theorem xj_scld (hk : xk_Ok v κ y cc nL ret fr lo) {b L k : Nat} {xs : Nat → Int32} {j : Int32} (hX : va_X b L xs (xk_s κ) (xk_s κ).heap) (hb : b < (xk_s κ).heap.size) (hbb : ¬ xk_b κ ≤ b) (hj : xi j k L) (hd : decode cc pc = .ok (.iaload, 1)) (kk : xj v κ post z G (pc + 1) ls (.int (xs k) :: st)) : xj v κ post z G pc ls (.int j :: .ref b :: st) := fun H locs lsC hH hL hS => by
  refine va_sld hk.1 hk.2.1 hX hb hbb hS (xi_in hj) hd ?_
  rw [hj.1]
  exact kk H locs lsC hH hL hS
end XM

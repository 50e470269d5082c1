/-! ===== the walker's own judgement: groups of cells, locals by place, contracts with words for all methods alike ===== -/
def xw_tbl : List Cond := lw_tbl.filter goodWord
def xw_isN : Cond → Bool
  | .fieldLinkNest _ _ _ _ _ _ => true
  | .methodLinkNest _ _ _ _ => true
  | _ => false
def xw_nst : List Cond := lw_tbl.filter xw_isN
theorem xw_in {w : Cond} (h : w ∈ lw_tbl) (g : goodWord w = true) : w ∈ xw_tbl := List.mem_filter.mpr ⟨h, g⟩
theorem xw_inN {w : Cond} (h : w ∈ lw_tbl) (g : xw_isN w = true) : w ∈ xw_nst := List.mem_filter.mpr ⟨h, g⟩
theorem xw_good : ∀ w ∈ xw_tbl, ((w.onTables && w.keeps) = true ∨ ∃ ty, w = .arrayClass ty) := fun _ h => good_of_word (List.mem_filter.mp h).2
abbrev xw_V : Type := (Nat → Nat → Nat) × (Nat → ClassId)
def xw_ad (v : xw_V) (g i : Nat) : Nat := v.1 g i
def xw_ca (v : xw_V) (k : Nat) : ClassId := v.2 k
abbrev xw_G : Type := Nat → List va_E
def xw_tys (v : xw_V) : List (ClassId × FieldType) := [(xw_ca v 0, .int), (xw_ca v 1, .long), (xw_ca v 2, .boolean), (xw_ca v 3, .byte), (xw_ca v 4, .object "BillTender$Book")]
/-- a row with one place changed -/
def xu {α : Type} (f : Nat → α) (k : Nat) (x : α) : Nat → α := fun j => if j = k then x else f j
theorem xu_s {α : Type} {f : Nat → α} {k : Nat} {x : α} : xu f k x k = x := by simp [xu]
theorem xu_n {α : Type} {f : Nat → α} {k j : Nat} {x : α} (h : j ≠ k) : xu f k x j = f j := by simp [xu, h]
def xw_ei (v : xw_V) (n : Nat) (f : Nat → Int32) : va_E := .inl (xw_ca v 0, n, .inl f)
def xw_el (v : xw_V) (n : Nat) (f : Nat → Int64) : va_E := .inl (xw_ca v 1, n, .inr (.inl f))
def xw_ez (v : xw_V) (n : Nat) (f : Nat → Int32) : va_E := .inl (xw_ca v 2, n, .inl f)
def xw_eb (v : xw_V) (n : Nat) (f : Nat → Int32) : va_E := .inl (xw_ca v 3, n, .inl f)
def xw_eq (v : xw_V) (n : Nat) (f : Nat → Option Nat) : va_E := .inl (xw_ca v 4, n, .inr (.inr (.inr (.inr f))))
def xw_eo (ci : Nat) (fs : List Value) : va_E := .inr (ci, fs)
def xw_cell (G : xw_G) (a : Nat × Nat) : Option va_E := (G a.1)[a.2]?
def xw_ws (v : xw_V) (G : xw_G) (dom : List (Nat × Nat)) : va_W := dom.map (fun a => (xw_ad v a.1 a.2, (xw_cell G a).getD (.inr (0, []))))
def xw_H (v : xw_V) (D : va_G) (base nn : Nat) (G : xw_G) (H : Heap) : Prop := H.size = base + nn ∧ ∃ dom : List (Nat × Nat), (∀ a, a ∈ dom ↔ (xw_cell G a).isSome = true) ∧ va_P D vwCl (xw_ws v G dom) H ∧ va_D (fun q => base ≤ q) (xw_ws v G dom)
def xw_up (G : xw_G) (g : Nat) (p : List va_E) : xw_G := fun k => if k = g then p else G k
theorem xw_up_s {G : xw_G} {g : Nat} {p : List va_E} : xw_up G g p g = p := by simp [xw_up]
theorem xw_up_n {G : xw_G} {g k : Nat} {p : List va_E} (h : k ≠ g) : xw_up G g p k = G k := by simp [xw_up, h]
theorem xw_up_u {G : xw_G} {g : Nat} {p q : List va_E} : xw_up (xw_up G g p) g q = xw_up G g q := by funext k; by_cases h : k = g <;> simp [xw_up, h]
theorem xw_up_same {G : xw_G} {g : Nat} {p : List va_E} (h : G g = p) : xw_up G g p = G := by funext k; by_cases e : k = g <;> simp [xw_up, e, h]
theorem xw_up_c {G : xw_G} {g k : Nat} {p q : List va_E} (h : g ≠ k) : xw_up (xw_up G g p) k q = xw_up (xw_up G k q) g p := by
  funext j
  by_cases h1 : j = g
  · subst h1; simp [xw_up, h]
  · by_cases h2 : j = k
    · subst h2; simp [xw_up, h1]
    · simp [xw_up, h1, h2]
theorem xw_at {G : xw_G} {g i : Nat} {p : List va_E} {c : va_E} (h : G g = p) (e : p[i]? = some c) : (G g)[i]? = some c := h ▸ e
theorem xw_wr {G : xw_G} {g i : Nat} {p p2 : List va_E} {c : va_E} (h : G g = p) (e : p.set i c = p2) : xw_up G g ((G g).set i c) = xw_up G g p2 := by rw [h, e]
theorem xw_wr2 {G : xw_G} {g i : Nat} {p p2 : List va_E} {c : va_E} (e : p.set i c = p2) : xw_up (xw_up G g p) g (((xw_up G g p) g).set i c) = xw_up G g p2 := by rw [xw_up_s, xw_up_u, e]
theorem xw_find {v : xw_V} {G : xw_G} {dom : List (Nat × Nat)} (hdom : ∀ a, a ∈ dom ↔ (xw_cell G a).isSome = true) {g i : Nat} {e : va_E} (h : (G g)[i]? = some e) : ∃ k : Nat, dom[k]? = some (g, i) ∧ (xw_ws v G dom)[k]? = some (xw_ad v g i, e) := by
  have hc : xw_cell G (g, i) = some e := h
  have hm : (g, i) ∈ dom := (hdom _).mpr (by rw [hc]; rfl)
  obtain ⟨k, hk⟩ := List.getElem?_of_mem hm
  exact ⟨k, hk, by simp [xw_ws, hk, hc]⟩
theorem xw_cell_set {G : xw_G} {g i : Nat} {e : va_E} {a : Nat × Nat} (h : a ≠ (g, i)) : xw_cell (xw_up G g ((G g).set i e)) a = xw_cell G a := by
  obtain ⟨a1, a2⟩ := a
  unfold xw_cell
  by_cases h1 : a1 = g
  · subst h1
    have h2 : i ≠ a2 := fun q => h (by rw [q])
    show (xw_up G a1 ((G a1).set i e) a1)[a2]? = _
    rw [xw_up_s, List.getElem?_set_ne h2]
  · show (xw_up G g ((G g).set i e) a1)[a2]? = _
    rw [xw_up_n h1]
theorem xw_cell_self {G : xw_G} {g i : Nat} {e0 e : va_E} (h : (G g)[i]? = some e0) : xw_cell (xw_up G g ((G g).set i e)) (g, i) = some e := by
  show (xw_up G g ((G g).set i e) g)[i]? = _
  rw [xw_up_s, List.getElem?_set_self (List.getElem?_eq_some_iff.mp h).1]
theorem xw_put {v : xw_V} {G : xw_G} {dom : List (Nat × Nat)} {A : Nat → Prop} {g i k : Nat} {e0 e : va_E} (hD : va_D A (xw_ws v G dom)) (hk : dom[k]? = some (g, i)) (h : (G g)[i]? = some e0) : (xw_ws v G dom).set k (xw_ad v g i, e) = xw_ws v (xw_up G g ((G g).set i e)) dom := by
  have hw : (xw_ws v G dom)[k]? = some (xw_ad v g i, e0) := by simp [xw_ws, hk, show xw_cell G (g, i) = some e0 from h]
  have hl := (List.getElem?_eq_some_iff.mp hw).1
  apply List.ext_getElem?
  intro j
  by_cases hj : j = k
  · subst hj
    rw [List.getElem?_set_self hl]
    simp [xw_ws, hk, xw_cell_self h]
  · rw [List.getElem?_set_ne (Ne.symm hj)]
    simp only [xw_ws, List.getElem?_map]
    cases hd : dom[j]? with
    | none => rfl
    | some a =>
      have hne : a ≠ (g, i) := by
        intro q
        subst q
        have hw2 : (xw_ws v G dom)[j]? = some (xw_ad v g i, e0) := by simp [xw_ws, hd, show xw_cell G (g, i) = some e0 from h]
        exact hj (hD.1 j k _ _ hw2 hw rfl)
      simp only [Option.map_some, xw_cell_set hne]
theorem xw_dom {G : xw_G} {dom : List (Nat × Nat)} (hdom : ∀ a, a ∈ dom ↔ (xw_cell G a).isSome = true) {g i : Nat} {e0 e : va_E} (h : (G g)[i]? = some e0) : ∀ a, a ∈ dom ↔ (xw_cell (xw_up G g ((G g).set i e)) a).isSome = true := by
  intro a
  rw [hdom a]
  by_cases hq : a = (g, i)
  · subst hq
    rw [xw_cell_self h, show xw_cell G (g, i) = some e0 from h]
    simp
  · rw [xw_cell_set hq]
/-- an index and its place -/
def xi (i : Int32) (k n : Nat) : Prop := i.toNatClampNeg = k ∧ ¬ i < 0 ∧ k < n
theorem xi_in {i : Int32} {k n : Nat} (h : xi i k n) : vp_in i n := fun q => by
  rcases q with q | q
  · exact h.2.1 q
  · exact absurd (h.1 ▸ h.2.2) (Nat.not_lt.mpr q)
theorem xi_n {k n : Nat} (h : k < n) (hn : n < 2 ^ 31) : xi (nI k) k n := ⟨nI_clamp (Nat.lt_trans h hn), nI_pos (Nat.lt_trans h hn), h⟩
/-! the locals, by their places -/
def xl_R (nL : Nat) (ls : List (Option Value)) (lsC : Array Slot) : Prop := lsC.size = nL ∧ lv_wf lsC ∧ ∀ (i : Nat) (v : Value), ls[i]? = some (some v) → lsC[i]? = some (.val v)
def xl_l (ls : List (Option Value)) : List (Nat × Value) := (List.range ls.length).filterMap (fun i => (ls.getD i none).map (fun v => (i, v)))
theorem xl_mem {ls : List (Option Value)} {i : Nat} {v : Value} : (i, v) ∈ xl_l ls ↔ ls[i]? = some (some v) := by
  unfold xl_l
  rw [List.mem_filterMap]
  constructor
  · rintro ⟨j, hj, h⟩
    have hl := List.mem_range.mp hj
    rw [List.getD_eq_getElem?_getD, List.getElem?_eq_getElem hl] at h
    simp only [Option.getD_some] at h
    cases hx : ls[j] with
    | none => rw [hx] at h; cases h
    | some x =>
      rw [hx] at h
      simp only [Option.map_some, Option.some.injEq, Prod.mk.injEq] at h
      obtain ⟨rfl, rfl⟩ := h
      rw [List.getElem?_eq_getElem hl, hx]
  · intro h
    have hl := (List.getElem?_eq_some_iff.mp h).1
    refine ⟨i, List.mem_range.mpr hl, ?_⟩
    rw [List.getD_eq_getElem?_getD, h]
    rfl
theorem xl_has {nL : Nat} {ls : List (Option Value)} {lsC : Array Slot} (h : xl_R nL ls lsC) : lv_has lsC nL (xl_l ls) := ⟨h.1, h.2.1, fun q hq => h.2.2 q.1 q.2 (xl_mem.mp hq)⟩
/-- the place below isn't a long's -/
def xl_ok (ls : List (Option Value)) (i : Nat) : Bool := match i with
  | 0 => true
  | j + 1 => match ls.getD j none with
    | some w => w.category == 1
    | none => true
theorem xl_ok_spec {ls : List (Option Value)} {i j : Nat} {w : Value} (h : xl_ok ls i = true) (hj : j + 1 = i) (hw : ls[j]? = some (some w)) : w.category = 1 := by
  subst hj
  simpa [xl_ok, hw] using h
theorem xl_st1 {nL : Nat} {ls : List (Option Value)} {lsC ls' : Array Slot} {i : Nat} {v : Value} (hok : xl_ok ls i = true) (h : lv_has ls' nL ((i, v) :: (xl_l ls).filter (fun q => !(q.1 == i) && !(q.1 + 1 == i && q.2.category == 2)))) : xl_R nL (ls.set i (some v)) ls' := by
  refine ⟨h.1, h.2.1, fun j w hj => ?_⟩
  by_cases e : j = i
  · subst e
    have hl : j < ls.length := by have := (List.getElem?_eq_some_iff.mp hj).1; simpa using this
    rw [List.getElem?_set_self hl] at hj
    cases hj
    exact h.2.2 (j, v) List.mem_cons_self
  · rw [List.getElem?_set_ne (Ne.symm e)] at hj
    refine h.2.2 (j, w) (List.mem_cons_of_mem _ (List.mem_filter.mpr ⟨xl_mem.mpr hj, ?_⟩))
    by_cases e1 : j + 1 = i
    · have hc := xl_ok_spec hok e1 hj
      simp [e, hc]
    · simp [e, e1]
theorem xl_st2 {nL : Nat} {ls : List (Option Value)} {lsC ls' : Array Slot} {i : Nat} {v : Value} (hok : xl_ok ls i = true) (h : lv_has ls' nL ((i, v) :: (xl_l ls).filter (fun q => !(q.1 == i) && (!(q.1 == i + 1) && !(q.1 + 1 == i && q.2.category == 2))))) : xl_R nL ((ls.set i (some v)).set (i + 1) none) ls' := by
  refine ⟨h.1, h.2.1, fun j w hj => ?_⟩
  by_cases e2 : j = i + 1
  · subst e2
    have hl := (List.getElem?_eq_some_iff.mp hj).1
    rw [List.getElem?_set_self (by simpa using hl)] at hj
    cases hj
  · rw [List.getElem?_set_ne (Ne.symm e2)] at hj
    by_cases e : j = i
    · subst e
      have hl : j < ls.length := by have := (List.getElem?_eq_some_iff.mp hj).1; simpa using this
      rw [List.getElem?_set_self hl] at hj
      cases hj
      exact h.2.2 (j, v) List.mem_cons_self
    · rw [List.getElem?_set_ne (Ne.symm e)] at hj
      refine h.2.2 (j, w) (List.mem_cons_of_mem _ (List.mem_filter.mpr ⟨xl_mem.mpr hj, ?_⟩))
      by_cases e1 : j + 1 = i
      · have hc := xl_ok_spec hok e1 hj
        simp [e, e2, hc]
      · simp [e, e1, e2]
/-- fewer locals known -/
def xl_le : List (Option Value) → List (Option Value) → Prop
  | [], _ => True
  | none :: a, _ :: b => xl_le a b
  | some v :: a, some w :: b => v = w ∧ xl_le a b
  | _, _ => False
theorem xl_le_get : ∀ (a b : List (Option Value)), xl_le a b → ∀ (i : Nat) (v : Value), a[i]? = some (some v) → b[i]? = some (some v)
  | [], _, _, i, v, h => by simp at h
  | none :: a, [], hl, _, _, _ => by simp [xl_le] at hl
  | none :: a, x :: b, hl, 0, v, h => by simp at h
  | none :: a, x :: b, hl, i + 1, v, h => by
    simp only [List.getElem?_cons_succ] at h ⊢
    exact xl_le_get a b hl i v h
  | some y :: a, [], hl, _, _, _ => by simp [xl_le] at hl
  | some y :: a, none :: b, hl, _, _, _ => by simp [xl_le] at hl
  | some y :: a, some x :: b, hl, 0, v, h => by
    simp only [List.getElem?_cons_zero, Option.some.injEq] at h ⊢
    rw [← h, hl.1]
  | some y :: a, some x :: b, hl, i + 1, v, h => by
    simp only [List.getElem?_cons_succ] at h ⊢
    exact xl_le_get a b hl.2 i v h
theorem xl_R.le {nL : Nat} {a b : List (Option Value)} {lsC : Array Slot} (h : xl_R nL b lsC) (hl : xl_le a b) : xl_R nL a lsC := ⟨h.1, h.2.1, fun i v hi => h.2.2 i v (xl_le_get a b hl i v hi)⟩
def xl_lay : List Value → List (Option Value)
  | [] => []
  | v :: vs => if v.category = 2 then some v :: none :: xl_lay vs else some v :: xl_lay vs
theorem xl_lay_args : ∀ (vs : List Value) (k i : Nat) (w : Value), (xl_lay vs)[i]? = some (some w) → (k + i, w) ∈ lv_args k vs
  | [], k, i, w, h => by simp [xl_lay] at h
  | v :: vs, k, i, w, h => by
    unfold xl_lay at h
    by_cases hc : v.category = 2
    · rw [if_pos hc] at h
      match i with
      | 0 =>
        simp only [List.getElem?_cons_zero, Option.some.injEq] at h
        simp [lv_args, h]
      | 1 => simp at h
      | j + 2 =>
        simp only [List.getElem?_cons_succ] at h
        have := xl_lay_args vs (k + 2) j w h
        simp only [lv_args, hc]
        refine List.mem_cons_of_mem _ ?_
        rw [show k + (j + 2) = k + 2 + j by omega]
        simpa [hc] using this
    · rw [if_neg hc] at h
      have hc1 : v.category = 1 := by rcases lv_cat v with q | q; exact q; exact absurd q hc
      match i with
      | 0 =>
        simp only [List.getElem?_cons_zero, Option.some.injEq] at h
        simp [lv_args, h]
      | j + 1 =>
        simp only [List.getElem?_cons_succ] at h
        have := xl_lay_args vs (k + 1) j w h
        simp only [lv_args, hc1]
        refine List.mem_cons_of_mem _ ?_
        rw [show k + (j + 1) = k + 1 + j by omega]
        simpa [hc1] using this
theorem xl_lay_len (vs : List Value) : (xl_lay vs).length = (lg_sl vs).length := by
  induction vs with
  | nil => rfl
  | cons v vs ih =>
    simp only [lg_sl, List.flatMap_cons, List.length_append] at ih ⊢
    unfold xl_lay
    by_cases hc : v.category = 2 <;> simp [hc, ih] <;> omega
def xl_ent (vs : List Value) (n : Nat) : List (Option Value) := xl_lay vs ++ List.replicate (n - (xl_lay vs).length) none
theorem xl_entry (vs : List Value) {n : Nat} (h : (xl_lay vs).length ≤ n) : xl_R n (xl_ent vs n) ((lg_sl vs ++ List.replicate (n - (lg_sl vs).length) Slot.unset).toArray) := by
  have h1 := lv_entry vs (n := n) (by rw [← xl_lay_len]; exact h)
  refine ⟨h1.1, h1.2.1, fun i v hi => ?_⟩
  unfold xl_ent at hi
  by_cases hl : i < (xl_lay vs).length
  · rw [List.getElem?_append_left hl] at hi
    have := xl_lay_args vs 0 i v hi
    rw [Nat.zero_add] at this
    exact h1.2.2 (i, v) this
  · rw [List.getElem?_append_right (Nat.not_lt.mp hl), List.getElem?_replicate] at hi
    split at hi <;> cases hi

def xk_stats : List (Nat × String × List Int32) := [(0, "FIRST", [100, 35, 20, 0, 999, 90, 0]), (1, "LEAST", [1, 1, 0, 0, 0, 1, 0]), (2, "MOST", [2000, 100, 100, 999, 999, 360, 1])]
def xk_strs : List (Nat × String × Nat × String × List Int32) := [(0, "BillTender$Reader", 48, "offer", [111, 102, 102, 101, 114]), (1, "BillTender$Reader", 58, "limit", [108, 105, 109, 105, 116]), (2, "BillTender$Reader", 60, "share", [115, 104, 97, 114, 101]), (3, "BillTender$Reader", 62, "yields", [121, 105, 101, 108, 100, 115]), (4, "BillTender$Reader", 117, "to", [116, 111]), (5, "BillTender$Reader", 67, "days", [100, 97, 121, 115]), (6, "BillTender$Reader", 69, "one", [111, 110, 101]), (7, "BillTender$Reader", 75, "own", [111, 119, 110]), (8, "BillTender$Reader", 77, "holds", [104, 111, 108, 100, 115]), (9, "BillTender$Reader", 85, "owner", [111, 119, 110, 101, 114]), (10, "BillTender$Reader", 90, "bid", [98, 105, 100]), (11, "BillTender$Reader", 123, "lots", [108, 111, 116, 115]), (12, "BillTender$Reader", 99, "plain", [112, 108, 97, 105, 110]), (13, "BillTender$Speller", 58, "offer ", [111, 102, 102, 101, 114, 32]), (14, "BillTender$Speller", 71, ";limit ", [59, 108, 105, 109, 105, 116, 32]), (15, "BillTender$Speller", 73, ";share ", [59, 115, 104, 97, 114, 101, 32]), (16, "BillTender$Speller", 75, ";yields ", [59, 121, 105, 101, 108, 100, 115, 32]), (17, "BillTender$Speller", 77, " to ", [32, 116, 111, 32]), (18, "BillTender$Speller", 79, ";days ", [59, 100, 97, 121, 115, 32]), (19, "BillTender$Speller", 81, ";own;", [59, 111, 119, 110, 59]), (20, "BillTender$Speller", 83, ";one;", [59, 111, 110, 101, 59]), (21, "BillTender$Speller", 31, "holds ", [104, 111, 108, 100, 115, 32]), (22, "BillTender$Speller", 85, " ", [32]), (23, "BillTender$Speller", 87, ";", [59]), (24, "BillTender$Speller", 40, "owner ", [111, 119, 110, 101, 114, 32]), (25, "BillTender$Speller", 89, "plain ", [112, 108, 97, 105, 110, 32]), (26, "BillTender$Speller", 91, "bid ", [98, 105, 100, 32]), (27, "BillTender$Speller", 93, " lots ", [32, 108, 111, 116, 115, 32])]
def xk_str (v : xw_V) (base j : Nat) (bs : List Int32) (U : State) (H : Heap) : Prop := va_O "java/lang/String" (xw_ad v (40 + j) 0) (fun q => base ≤ q) U H ∧ va_OF "java/lang/String" "coder" "B" (.int 0) (xw_ad v (40 + j) 0) (fun q => base ≤ q) U H ∧ va_OF "java/lang/String" "value" "[B" (.ref (xw_ad v (40 + j) 1)) (xw_ad v (40 + j) 0) (fun q => base ≤ q) U H ∧ va_T .byte (xw_ad v (40 + j) 1) bs.length (fun k => .int (bs.getD k 0)) (fun q => base ≤ q) U H
def xk_KX (v : xw_V) (base : Nat) (U : State) : Prop :=
  (∀ q ∈ xk_stats, va_Z "BillTender" q.2.1 "[I" (.ref (xw_ad v (30 + q.1) 0)) (fun a => base ≤ a) U U.heap ∧ va_T .int (xw_ad v (30 + q.1) 0) q.2.2.length (fun k => .int (q.2.2.getD k 0)) (fun a => base ≤ a) U U.heap) ∧
  (∀ q ∈ xk_strs, vk_R q.2.1 q.2.2.1 q.2.2.2.1 (xw_ad v (40 + q.1) 0) U ∧ xk_str v base q.1 q.2.2.2.2 U U.heap) ∧ va_Z "java/lang/String" "COMPACT_STRINGS" "Z" (.int 1) (fun a => base ≤ a) U U.heap ∧ va_Zq "jdk/internal/util/Preconditions" "SIOOBE_FORMATTER" "Ljava/util/function/BiFunction;" (fun a => base ≤ a) U U.heap ∧ va_AO "BillTender$Book" U
/-- where the groups of cells begin, by the order in which they are made -/
def xw_off (g : Nat) : Nat := [0, 1, 13, 21, 33, 41, 43, 55, 67, 79, 91, 103, 115, 127, 139, 151, 163, 175, 187, 189, 190, 191].getD g 0
def xw_tie (v : xw_V) (base : Nat) : Prop := ∀ g i : Nat, g < 22 → xw_ad v g i = base + xw_off g + i
def xk_KW (v : xw_V) (D : va_G) (base : Nat) (U : State) : Prop := va_K D vwCl (xw_tys v) U ∧ (∀ w ∈ xw_nst, va_Nw w U) ∧ xw_tie v base ∧ xk_KX v base U
theorem xw_nst_w {s U : State} (hW : s.WarmedH U.vm) {w : Cond} (hw : w ∈ xw_nst) (h : va_Nw w s) : va_Nw w U := by
  have hq := (List.mem_filter.mp hw).2
  cases w <;> first | exact va_Nw.warmF hW h | exact va_Nw.warmM hW h | (simp [xw_isN] at hq)
theorem xk_KW.to {v : xw_V} {D : va_G} {base : Nat} {s U : State} (hW : s.WarmedH U.vm) (hk : ∀ a : Nat, a < s.heap.size → ¬ base ≤ a → U.heap[a]? = s.heap[a]?) (h : xk_KW v D base s) : xk_KW v D base U := by
  obtain ⟨h1, h2, ht, h3, h4, h5, h6, h7⟩ := h
  refine ⟨va_K.moved hW.alike h1, fun w hw => xw_nst_w hW hw (h2 w hw), ht, fun q hq => ?_, fun q hq => ?_, ?_, (h6.kept hk).moved hW.alike, h7.moved hW.alike⟩
  · obtain ⟨a, b⟩ := h3 q hq
    exact ⟨(a.kept hk).moved hW.alike, (b.kept hk).moved hW.alike⟩
  · obtain ⟨a, b1, b2, b3, b4⟩ := h4 q hq
    exact ⟨a.warm hW, (b1.kept hk).moved hW.alike, (b2.kept hk).moved hW.alike, (b3.kept hk).moved hW.alike, (b4.kept hk).moved hW.alike⟩
  · exact (h5.kept hk).moved hW.alike
theorem xk_KW.same {v : xw_V} {D : va_G} {base : Nat} {s U : State} (hv : s.vm = U.vm) (hh : U.heap = s.heap) (h : xk_KW v D base s) : xk_KW v D base U := by
  have hA : s.vm.Alike U.vm := by rw [hv]; exact Vm.Alike.refl _
  have hk : ∀ a : Nat, a < s.heap.size → ¬ base ≤ a → U.heap[a]? = s.heap[a]? := fun a _ _ => by rw [hh]
  obtain ⟨h1, h2, ht, h3, h4, h5, h6, h7⟩ := h
  refine ⟨va_K.moved hA h1, fun w hw => ?_, ht, fun q hq => ?_, fun q hq => ?_, ?_, (h6.kept hk).moved hA, h7.moved hA⟩
  · have hq := (List.mem_filter.mp hw).2
    have h9 := h2 w hw
    cases w <;> first | exact va_Nw.same rfl hv h9 | (simp [xw_isN] at hq)
  · obtain ⟨a, b⟩ := h3 q hq
    exact ⟨(a.kept hk).moved hA, (b.kept hk).moved hA⟩
  · obtain ⟨a, b1, b2, b3, b4⟩ := h4 q hq
    exact ⟨a.same hv.symm, (b1.kept hk).moved hA, (b2.kept hk).moved hA, (b3.kept hk).moved hA, (b4.kept hk).moved hA⟩
  · exact (h5.kept hk).moved hA
/-! the judgement -/
abbrev xk_K : Type := Program × Launch × Env × Room × State × MethodId × Array Value × List Frame × Method × Code × va_G × Nat × (Nat × Nat × Nat)
abbrev xk_p (κ : xk_K) : Program := κ.1
abbrev xk_l (κ : xk_K) : Launch := κ.2.1
abbrev xk_e (κ : xk_K) : Env := κ.2.2.1
abbrev xk_R (κ : xk_K) : Room := κ.2.2.2.1
abbrev xk_s (κ : xk_K) : State := κ.2.2.2.2.1
abbrev xk_m (κ : xk_K) : MethodId := κ.2.2.2.2.2.1
abbrev xk_a (κ : xk_K) : Array Value := κ.2.2.2.2.2.2.1
abbrev xk_bl (κ : xk_K) : List Frame := κ.2.2.2.2.2.2.2.1
abbrev xk_me (κ : xk_K) : Method := κ.2.2.2.2.2.2.2.2.1
abbrev xk_c (κ : xk_K) : Code := κ.2.2.2.2.2.2.2.2.2.1
abbrev xk_D (κ : xk_K) : va_G := κ.2.2.2.2.2.2.2.2.2.2.1
abbrev xk_b (κ : xk_K) : Nat := κ.2.2.2.2.2.2.2.2.2.2.2.1
abbrev xk_zf (κ : xk_K) : Nat × Nat × Nat := κ.2.2.2.2.2.2.2.2.2.2.2.2
abbrev xk_W (κ : xk_K) (H : Heap) (locs : List Loc) (cells slots : Nat) (Q : State → Prop) (g : JFrame) : Prop := W (xk_p κ) (xk_l κ) (xk_e κ) (xk_R κ) (xk_s κ) (xk_m κ) (xk_a κ) (xk_bl κ) (xk_me κ) (xk_c κ) H locs cells slots Q g
def xw_Q (v : xw_V) (D : va_G) (base nn : Nat) (post : Option Value → xw_G → Prop) : Array Value → State → Outcome → State → Prop := fun _ st o t => (∃ (r : Option Value) (G' : xw_G), o = .returned r ∧ post r G' ∧ xw_H v D base nn G' t.heap) ∧ va_F (fun q => base ≤ q) st t
abbrev xk_Q (v : xw_V) (κ : xk_K) (post : Option Value → xw_G → Prop) : State → Prop := MQ (xk_bl κ) (xw_Q v (xk_D κ) (xk_b κ) (xk_zf κ).1 post) (xk_a κ) (xk_s κ) (xk_zf κ).2.1 (xk_zf κ).2.2 (fun q => xk_b κ ≤ q)
/-- from here the method comes to its end with post -/
def xj (v : xw_V) (κ : xk_K) (post : Option Value → xw_G → Prop) (z : Nat × Nat × Nat) (G : xw_G) (pc : Nat) (ls : List (Option Value)) (st : List Value) : Prop :=
  ∀ (H : Heap) (locs : List Loc) (lsC : Array Slot), xw_H v (xk_D κ) (xk_b κ) z.1 G H → xl_R (xk_c κ).maxLocals ls lsC → va_S (fun q => xk_b κ ≤ q) (xk_s κ).heap H locs → xk_W κ H locs z.2.1 z.2.2 (xk_Q v κ post) (F0 (xk_m κ) pc lsC st)
def xk_Ok (v : xw_V) (κ : xk_K) (y : MethodName) (cc : ByteArray) (nL : Nat) (ret : Option FieldType) (fr lo : Nat) : Prop :=
  (xk_p κ).tables.exec = Jvm.exec ∧ (xk_c κ).code = cc ∧ (xk_me κ).sig.returnType = ret ∧ (xk_c κ).maxLocals = nL ∧ (xk_s κ).vm.findClass y.cls = some (xk_m κ).cls ∧ (∀ w ∈ xw_tbl, w.before (xk_a κ) (xk_s κ) = true) ∧ (xk_me κ).locks = false ∧ xk_KW v (xk_D κ) (xk_b κ) (xk_s κ) ∧ (fr ≤ (xk_R κ).frames ∧ lo ≤ (xk_R κ).locals) ∧ xk_b κ ≤ (xk_s κ).heap.size ∧ (xk_me κ).name = y.name ∧ ((xk_zf κ).2.1 ≤ (xk_R κ).cells ∧ (xk_zf κ).2.2 ≤ (xk_R κ).slots)
/-- a contract: words and room as every method's; zi cells of the world before, zf = (cells of the world behind, made cells, made slots) -/
def xk_ConZ (v : xw_V) (y : MethodName) (cc : ByteArray) (nL : Nat) (ret : Option FieldType) (fr lo : Nat) (av : List Value) (zi mc ms : Nat) (G : xw_G) (post : Option Value → xw_G → Prop) : Prop :=
  ∀ (l : Launch) (D : va_G) (base : Nat), Met l y (Cond.code y cc nL ret :: xw_tbl) ({ frames := fr, cells := mc, slots := ms, locals := lo }) (va_Pc av (fun U => xw_H v D base zi G U.heap ∧ xk_KW v D base U)) (xw_Q v D base (zi + mc) post) mc ms (fun q => base ≤ q)
def xk_Con (v : xw_V) (y : MethodName) (cc : ByteArray) (nL : Nat) (ret : Option FieldType) (fr lo : Nat) (av : List Value) (G : xw_G) (post : Option Value → xw_G → Prop) : Prop := ∀ zi : Nat, xk_ConZ v y cc nL ret fr lo av zi 0 0 G post
/-- a plain answer -/
def xk_ret (r : Option Value) (G : xw_G) : Option Value → xw_G → Prop := fun a b => a = r ∧ b = G
set_option maxHeartbeats 1000000 in
theorem xk_ofZ {v : xw_V} {y : MethodName} {cc : ByteArray} {nL : Nat} {ret : Option FieldType} {fr lo : Nat} {av : List Value} {zi mc ms : Nat} {G : xw_G} {post : Option Value → xw_G → Prop} {ls0 : List (Option Value)} (hy : plainName y.cls = true) (he : xl_ent av nL = ls0) (hn : (xl_lay av).length ≤ nL)
    (body : ∀ (κ : xk_K), xk_Ok v κ y cc nL ret fr lo → xk_zf κ = (zi + mc, mc, ms) → xj v κ post (zi, 0, 0) G 0 ls0 []) : xk_ConZ v y cc nL ret fr lo av zi mc ms G post := by
  intro l D base
  refine Met.ofW (cc := cc) (maxL := nL) (ret := ret) hy rfl ?_
  intro p e s m args below meth c s₁ B hml hv
  obtain ⟨rfl, hH, hKW⟩ := hv
  have hts := atoms_spec (ws := Cond.code y cc nL ret :: xw_tbl) B.pre
  have hbs : base ≤ s.heap.size := by rw [hH.1]; exact Nat.le_add_right _ _
  have h0 := body (p, l, e, (headSpec (Cond.code y cc nL ret :: xw_tbl) ({ frames := fr, cells := mc, slots := ms, locals := lo })).room, s, m, av.toArray, below, meth, c, D, base, (zi + mc, mc, ms))
    ⟨B.exec, B.bytes, B.returns, hml, findClass_of_methodNamed B.named, fun w hw => hts w (List.mem_cons_of_mem _ hw), B.notSynchronized, hKW, ⟨Nat.le_refl _, Nat.le_refl _⟩, hbs, (name_of_methodNamed B.named B.method).1, ⟨Nat.le_refl _, Nat.le_refl _⟩⟩ rfl
  rw [lg_entry_eq]
  subst he
  exact h0 s.heap [] _ hH (by rw [show (xk_c (p, l, e, (headSpec (Cond.code y cc nL ret :: xw_tbl) ({ frames := fr, cells := mc, slots := ms, locals := lo })).room, s, m, av.toArray, below, meth, c, D, base, (zi + mc, mc, ms))).maxLocals = nL from hml]; exact xl_entry av hn) va_S.rf
theorem xk_of {v : xw_V} {y : MethodName} {cc : ByteArray} {nL : Nat} {ret : Option FieldType} {fr lo : Nat} {av : List Value} {G : xw_G} {post : Option Value → xw_G → Prop} {ls0 : List (Option Value)} (hy : plainName y.cls = true) (he : xl_ent av nL = ls0) (hn : (xl_lay av).length ≤ nL)
    (body : ∀ (κ : xk_K) (z : Nat × Nat × Nat), xk_Ok v κ y cc nL ret fr lo → xk_zf κ = z → xj v κ post z G 0 ls0 []) : xk_Con v y cc nL ret fr lo av G post :=
  fun zi => xk_ofZ hy he hn (fun κ h1 h2 => body κ (zi, 0, 0) h1 h2)
section XJ
variable {v : xw_V} {κ : xk_K} {post : Option Value → xw_G → Prop} {z : Nat × Nat × Nat} {G : xw_G} {pc : Nat} {ls : List (Option Value)} {st : List Value} {y : MethodName} {cc : ByteArray} {nL : Nat} {ret : Option FieldType} {fr lo : Nat}
theorem xj.le {ls' : List (Option Value)} (h : xl_le ls' ls) (kk : xj v κ post z G pc ls' st) : xj v κ post z G pc ls st := fun H locs lsC hH hL hS => kk H locs lsC hH (hL.le h) hS
theorem xj.eqG {G' : xw_G} (h : G = G') (kk : xj v κ post z G' pc ls st) : xj v κ post z G pc ls st := h ▸ kk
theorem xj.eqi {x x' : Int32} (h : x = x') (kk : xj v κ post z G pc ls (.int x' :: st)) : xj v κ post z G pc ls (.int x :: st) := h ▸ kk
theorem xj.eql {x x' : Int64} (h : x = x') (kk : xj v κ post z G pc ls (.long x' :: st)) : xj v κ post z G pc ls (.long x :: st) := h ▸ kk

theorem xj_iconst (hk : xk_Ok v κ y cc nL ret fr lo) {n : Int} {x : Int32} (hd : decode cc pc = .ok (.iconst n, 1)) (hv : Int32.ofInt n = x) (kk : xj v κ post z G (pc + 1) ls (.int x :: st)) : xj v κ post z G pc ls (st) := fun H locs lsC hH hL hS => lv_iconst hk.1 hk.2.1 hd hv (kk H locs lsC hH hL hS)
theorem xj_bipush (hk : xk_Ok v κ y cc nL ret fr lo) {n : Int} {x : Int32} (hd : decode cc pc = .ok (.bipush n, 2)) (hv : (Int8.ofInt n).toInt32 = x) (kk : xj v κ post z G (pc + 2) ls (.int x :: st)) : xj v κ post z G pc ls (st) := fun H locs lsC hH hL hS => lv_bipush hk.1 hk.2.1 hd hv (kk H locs lsC hH hL hS)
theorem xj_sipush (hk : xk_Ok v κ y cc nL ret fr lo) {n : Int} {x : Int32} (hd : decode cc pc = .ok (.sipush n, 3)) (hv : (Int16.ofInt n).toInt32 = x) (kk : xj v κ post z G (pc + 3) ls (.int x :: st)) : xj v κ post z G pc ls (st) := fun H locs lsC hH hL hS => lv_sipush hk.1 hk.2.1 hd hv (kk H locs lsC hH hL hS)
theorem xj_lconst (hk : xk_Ok v κ y cc nL ret fr lo) {n : Fin 2} {x : Int64} (hd : decode cc pc = .ok (.lconst n, 1)) (hv : Int64.ofNat (n : Nat) = x) (kk : xj v κ post z G (pc + 1) ls (.long x :: st)) : xj v κ post z G pc ls (st) := fun H locs lsC hH hL hS => lv_lconst hk.1 hk.2.1 hd hv (kk H locs lsC hH hL hS)
theorem xj_iload_n (hk : xk_Ok v κ y cc nL ret fr lo) {k : Fin 4} {i : Nat} {x : Int32} (hd : decode cc pc = .ok (.iload_n k, 1)) (hi : (k : Nat) = i) (hl : ls[i]? = some (some (.int x))) (kk : xj v κ post z G (pc + 1) ls (.int x :: st)) : xj v κ post z G pc ls (st) := fun H locs lsC hH hL hS => lv_iload_n hk.1 hk.2.1 hd hi (hL.2.2 _ _ hl) (kk H locs lsC hH hL hS)
theorem xj_iload (hk : xk_Ok v κ y cc nL ret fr lo) {i : Nat} {x : Int32} (hd : decode cc pc = .ok (.iload i, 2)) (hl : ls[i]? = some (some (.int x))) (kk : xj v κ post z G (pc + 2) ls (.int x :: st)) : xj v κ post z G pc ls (st) := fun H locs lsC hH hL hS => lv_iload hk.1 hk.2.1 hd (hL.2.2 _ _ hl) (kk H locs lsC hH hL hS)
theorem xj_lload_n (hk : xk_Ok v κ y cc nL ret fr lo) {k : Fin 4} {i : Nat} {x : Int64} (hd : decode cc pc = .ok (.lload_n k, 1)) (hi : (k : Nat) = i) (hl : ls[i]? = some (some (.long x))) (kk : xj v κ post z G (pc + 1) ls (.long x :: st)) : xj v κ post z G pc ls (st) := fun H locs lsC hH hL hS => lv_lload_n hk.1 hk.2.1 hd hi (hL.2.2 _ _ hl) (kk H locs lsC hH hL hS)
theorem xj_lload (hk : xk_Ok v κ y cc nL ret fr lo) {i : Nat} {x : Int64} (hd : decode cc pc = .ok (.lload i, 2)) (hl : ls[i]? = some (some (.long x))) (kk : xj v κ post z G (pc + 2) ls (.long x :: st)) : xj v κ post z G pc ls (st) := fun H locs lsC hH hL hS => lv_lload hk.1 hk.2.1 hd (hL.2.2 _ _ hl) (kk H locs lsC hH hL hS)
theorem xj_aload_n (hk : xk_Ok v κ y cc nL ret fr lo) {k : Fin 4} {i : Nat} {x : Nat} (hd : decode cc pc = .ok (.aload_n k, 1)) (hi : (k : Nat) = i) (hl : ls[i]? = some (some (.ref x))) (kk : xj v κ post z G (pc + 1) ls (.ref x :: st)) : xj v κ post z G pc ls (st) := fun H locs lsC hH hL hS => lv_aload_n hk.1 hk.2.1 hd hi (hL.2.2 _ _ hl) (kk H locs lsC hH hL hS)
theorem xj_aload (hk : xk_Ok v κ y cc nL ret fr lo) {i : Nat} {x : Nat} (hd : decode cc pc = .ok (.aload i, 2)) (hl : ls[i]? = some (some (.ref x))) (kk : xj v κ post z G (pc + 2) ls (.ref x :: st)) : xj v κ post z G pc ls (st) := fun H locs lsC hH hL hS => lv_aload hk.1 hk.2.1 hd (hL.2.2 _ _ hl) (kk H locs lsC hH hL hS)
theorem xj_iadd (hk : xk_Ok v κ y cc nL ret fr lo) {x1 x2 : Int32} (hd : decode cc pc = .ok (.iadd, 1)) (kk : xj v κ post z G (pc + 1) ls (.int (x1 + x2) :: st)) : xj v κ post z G pc ls (.int x2 :: .int x1 :: st) := fun H locs lsC hH hL hS => lv_iadd hk.1 hk.2.1 hd (kk H locs lsC hH hL hS)
theorem xj_isub (hk : xk_Ok v κ y cc nL ret fr lo) {x1 x2 : Int32} (hd : decode cc pc = .ok (.isub, 1)) (kk : xj v κ post z G (pc + 1) ls (.int (x1 - x2) :: st)) : xj v κ post z G pc ls (.int x2 :: .int x1 :: st) := fun H locs lsC hH hL hS => lv_isub hk.1 hk.2.1 hd (kk H locs lsC hH hL hS)
theorem xj_imul (hk : xk_Ok v κ y cc nL ret fr lo) {x1 x2 : Int32} (hd : decode cc pc = .ok (.imul, 1)) (kk : xj v κ post z G (pc + 1) ls (.int (x1 * x2) :: st)) : xj v κ post z G pc ls (.int x2 :: .int x1 :: st) := fun H locs lsC hH hL hS => lv_imul hk.1 hk.2.1 hd (kk H locs lsC hH hL hS)
theorem xj_iand (hk : xk_Ok v κ y cc nL ret fr lo) {x1 x2 : Int32} (hd : decode cc pc = .ok (.iand, 1)) (kk : xj v κ post z G (pc + 1) ls (.int (x1 &&& x2) :: st)) : xj v κ post z G pc ls (.int x2 :: .int x1 :: st) := fun H locs lsC hH hL hS => lv_iand hk.1 hk.2.1 hd (kk H locs lsC hH hL hS)
theorem xj_ladd (hk : xk_Ok v κ y cc nL ret fr lo) {x1 x2 : Int64} (hd : decode cc pc = .ok (.ladd, 1)) (kk : xj v κ post z G (pc + 1) ls (.long (x1 + x2) :: st)) : xj v κ post z G pc ls (.long x2 :: .long x1 :: st) := fun H locs lsC hH hL hS => lv_ladd hk.1 hk.2.1 hd (kk H locs lsC hH hL hS)
theorem xj_lmul (hk : xk_Ok v κ y cc nL ret fr lo) {x1 x2 : Int64} (hd : decode cc pc = .ok (.lmul, 1)) (kk : xj v κ post z G (pc + 1) ls (.long (x1 * x2) :: st)) : xj v κ post z G pc ls (.long x2 :: .long x1 :: st) := fun H locs lsC hH hL hS => lv_lmul hk.1 hk.2.1 hd (kk H locs lsC hH hL hS)
theorem xj_idiv (hk : xk_Ok v κ y cc nL ret fr lo) {x1 x2 : Int32} (hd : decode cc pc = .ok (.idiv, 1)) (hne : ¬ x2 = 0) (kk : xj v κ post z G (pc + 1) ls (.int (x1 / x2) :: st)) : xj v κ post z G pc ls (.int x2 :: .int x1 :: st) := fun H locs lsC hH hL hS => lv_idiv hk.1 hk.2.1 hd hne (kk H locs lsC hH hL hS)
theorem xj_irem (hk : xk_Ok v κ y cc nL ret fr lo) {x1 x2 : Int32} (hd : decode cc pc = .ok (.irem, 1)) (hne : ¬ x2 = 0) (kk : xj v κ post z G (pc + 1) ls (.int (x1 - x1 / x2 * x2) :: st)) : xj v κ post z G pc ls (.int x2 :: .int x1 :: st) := fun H locs lsC hH hL hS => lv_irem hk.1 hk.2.1 hd hne (kk H locs lsC hH hL hS)
theorem xj_ldiv (hk : xk_Ok v κ y cc nL ret fr lo) {x1 x2 : Int64} (hd : decode cc pc = .ok (.ldiv, 1)) (hne : ¬ x2 = 0) (kk : xj v κ post z G (pc + 1) ls (.long (x1 / x2) :: st)) : xj v κ post z G pc ls (.long x2 :: .long x1 :: st) := fun H locs lsC hH hL hS => lv_ldiv hk.1 hk.2.1 hd hne (kk H locs lsC hH hL hS)
theorem xj_ishr (hk : xk_Ok v κ y cc nL ret fr lo) {x1 x2 : Int32} (hd : decode cc pc = .ok (.ishr, 1)) (kk : xj v κ post z G (pc + 1) ls (.int (x1 >>> (x2 &&& 31)) :: st)) : xj v κ post z G pc ls (.int x2 :: .int x1 :: st) := fun H locs lsC hH hL hS => lv_ishr hk.1 hk.2.1 hd (kk H locs lsC hH hL hS)
theorem xj_iushr (hk : xk_Ok v κ y cc nL ret fr lo) {x1 x2 x : Int32} (hd : decode cc pc = .ok (.iushr, 1)) (hv : (x1.toUInt32 >>> (x2.toUInt32 &&& Int32.toUInt32 31)).toInt32 = x) (kk : xj v κ post z G (pc + 1) ls (.int x :: st)) : xj v κ post z G pc ls (.int x2 :: .int x1 :: st) := fun H locs lsC hH hL hS => lv_iushr hk.1 hk.2.1 hd hv (kk H locs lsC hH hL hS)
theorem xj_i2l (hk : xk_Ok v κ y cc nL ret fr lo) {x : Int32} (hd : decode cc pc = .ok (.i2l, 1)) (kk : xj v κ post z G (pc + 1) ls (.long (x.toInt64) :: st)) : xj v κ post z G pc ls (.int x :: st) := fun H locs lsC hH hL hS => lv_i2l hk.1 hk.2.1 hd rfl (kk H locs lsC hH hL hS)
theorem xj_lcmp (hk : xk_Ok v κ y cc nL ret fr lo) {x1 x2 : Int64} (hd : decode cc pc = .ok (.lcmp, 1)) (kk : xj v κ post z G (pc + 1) ls (.int (lg_cmp x1 x2) :: st)) : xj v κ post z G pc ls (.long x2 :: .long x1 :: st) := fun H locs lsC hH hL hS => W.lcmp hk.1 hk.2.1 hd (kk H locs lsC hH hL hS)
theorem xj_dup (hk : xk_Ok v κ y cc nL ret fr lo) {a : Value} (hd : decode cc pc = .ok (.dup, 1)) (h1 : a.category = 1) (kk : xj v κ post z G (pc + 1) ls (a :: a :: st)) : xj v κ post z G pc ls (a :: st) := fun H locs lsC hH hL hS => lv_dup hk.1 hk.2.1 hd h1 (kk H locs lsC hH hL hS)
theorem xj_pop (hk : xk_Ok v κ y cc nL ret fr lo) {a : Value} (hd : decode cc pc = .ok (.pop, 1)) (h1 : a.category = 1) (kk : xj v κ post z G (pc + 1) ls (st)) : xj v κ post z G pc ls (a :: st) := fun H locs lsC hH hL hS => lv_pop hk.1 hk.2.1 hd h1 (kk H locs lsC hH hL hS)
theorem xj_dup2 (hk : xk_Ok v κ y cc nL ret fr lo) {a b : Value} (hd : decode cc pc = .ok (.dup2, 1)) (h1 : a.category = 1) (h2 : b.category = 1) (kk : xj v κ post z G (pc + 1) ls (a :: b :: a :: b :: st)) : xj v κ post z G pc ls (a :: b :: st) := fun H locs lsC hH hL hS => lv_dup2_11 hk.1 hk.2.1 hd h1 h2 (kk H locs lsC hH hL hS)
theorem xj_ldc (hk : xk_Ok v κ y cc nL ret fr lo) {idx : Nat} {x : Int32} (hd : decode cc pc = .ok (.ldc idx, 2)) (hw : Cond.constant y.cls idx x ∈ xw_tbl) (kk : xj v κ post z G (pc + 2) ls (.int x :: st)) : xj v κ post z G pc ls st := fun H locs lsC hH hL hS => lv_ldc hk.1 hk.2.1 hk.2.2.2.2.1 (hk.2.2.2.2.2.1 _ hw) hd (kk H locs lsC hH hL hS)
theorem xj_ldc2 (hk : xk_Ok v κ y cc nL ret fr lo) {idx : Nat} {x : Int64} (hd : decode cc pc = .ok (.ldc2_w idx, 3)) (hw : Cond.constantLong y.cls idx x ∈ xw_tbl) (kk : xj v κ post z G (pc + 3) ls (.long x :: st)) : xj v κ post z G pc ls st := fun H locs lsC hH hL hS => lv_ldc2 hk.1 hk.2.1 hk.2.2.2.2.1 (hk.2.2.2.2.2.1 _ hw) hd (kk H locs lsC hH hL hS)
theorem xj_istore_n (hk : xk_Ok v κ y cc nL ret fr lo) {k : Fin 4} {i : Nat} {x : Int32} {ls2 : List (Option Value)} (hd : decode cc pc = .ok (.istore_n k, 1)) (hi : (k : Nat) = i) (hn : i < nL) (ho : xl_ok ls i = true) (he : ls.set i (some (.int x)) = ls2) (kk : xj v κ post z G (pc + 1) ls2 st) : xj v κ post z G pc ls (.int x :: st) := fun H locs lsC hH hL hS => lv_istore_n hk.1 hk.2.1 hd hi (xl_has hL) (by rw [hk.2.2.2.1]; exact hn) rfl (fun ls9 hl9 => kk H locs ls9 hH (he ▸ xl_st1 (lsC := lsC) ho hl9) hS)
theorem xj_istore (hk : xk_Ok v κ y cc nL ret fr lo) {i : Nat} {x : Int32} {ls2 : List (Option Value)} (hd : decode cc pc = .ok (.istore i, 2)) (hn : i < nL) (ho : xl_ok ls i = true) (he : ls.set i (some (.int x)) = ls2) (kk : xj v κ post z G (pc + 2) ls2 st) : xj v κ post z G pc ls (.int x :: st) := fun H locs lsC hH hL hS => lv_istore hk.1 hk.2.1 hd (xl_has hL) (by rw [hk.2.2.2.1]; exact hn) rfl (fun ls9 hl9 => kk H locs ls9 hH (he ▸ xl_st1 (lsC := lsC) ho hl9) hS)
theorem xj_astore_n (hk : xk_Ok v κ y cc nL ret fr lo) {k : Fin 4} {i : Nat} {x : Nat} {ls2 : List (Option Value)} (hd : decode cc pc = .ok (.astore_n k, 1)) (hi : (k : Nat) = i) (hn : i < nL) (ho : xl_ok ls i = true) (he : ls.set i (some (.ref x)) = ls2) (kk : xj v κ post z G (pc + 1) ls2 st) : xj v κ post z G pc ls (.ref x :: st) := fun H locs lsC hH hL hS => lv_astore_n hk.1 hk.2.1 hd hi (xl_has hL) (by rw [hk.2.2.2.1]; exact hn) rfl (fun ls9 hl9 => kk H locs ls9 hH (he ▸ xl_st1 (lsC := lsC) ho hl9) hS)
theorem xj_astore (hk : xk_Ok v κ y cc nL ret fr lo) {i : Nat} {x : Nat} {ls2 : List (Option Value)} (hd : decode cc pc = .ok (.astore i, 2)) (hn : i < nL) (ho : xl_ok ls i = true) (he : ls.set i (some (.ref x)) = ls2) (kk : xj v κ post z G (pc + 2) ls2 st) : xj v κ post z G pc ls (.ref x :: st) := fun H locs lsC hH hL hS => lv_astore hk.1 hk.2.1 hd (xl_has hL) (by rw [hk.2.2.2.1]; exact hn) rfl (fun ls9 hl9 => kk H locs ls9 hH (he ▸ xl_st1 (lsC := lsC) ho hl9) hS)
theorem xj_lstore_n (hk : xk_Ok v κ y cc nL ret fr lo) {k : Fin 4} {i : Nat} {x : Int64} {ls2 : List (Option Value)} (hd : decode cc pc = .ok (.lstore_n k, 1)) (hi : (k : Nat) = i) (hn : i + 1 < nL) (ho : xl_ok ls i = true) (he : (ls.set i (some (.long x))).set (i + 1) none = ls2) (kk : xj v κ post z G (pc + 1) ls2 st) : xj v κ post z G pc ls (.long x :: st) := fun H locs lsC hH hL hS => lv_lstore_n hk.1 hk.2.1 hd hi (xl_has hL) (by rw [hk.2.2.2.1]; exact hn) rfl (fun ls9 hl9 => kk H locs ls9 hH (he ▸ xl_st2 (lsC := lsC) ho hl9) hS)
theorem xj_lstore (hk : xk_Ok v κ y cc nL ret fr lo) {i : Nat} {x : Int64} {ls2 : List (Option Value)} (hd : decode cc pc = .ok (.lstore i, 2)) (hn : i + 1 < nL) (ho : xl_ok ls i = true) (he : (ls.set i (some (.long x))).set (i + 1) none = ls2) (kk : xj v κ post z G (pc + 2) ls2 st) : xj v κ post z G pc ls (.long x :: st) := fun H locs lsC hH hL hS => lv_lstore hk.1 hk.2.1 hd (xl_has hL) (by rw [hk.2.2.2.1]; exact hn) rfl (fun ls9 hl9 => kk H locs ls9 hH (he ▸ xl_st2 (lsC := lsC) ho hl9) hS)
theorem xj_iinc (hk : xk_Ok v κ y cc nL ret fr lo) {i : Nat} {n : Int} {x x2 : Int32} {ls2 : List (Option Value)} (hd : decode cc pc = .ok (.iinc i n, 3)) (hl : ls[i]? = some (some (.int x))) (hv : x + Int32.ofInt n = x2) (hn : i < nL) (ho : xl_ok ls i = true) (he : ls.set i (some (.int x2)) = ls2) (kk : xj v κ post z G (pc + 3) ls2 st) : xj v κ post z G pc ls st := fun H locs lsC hH hL hS => by
  obtain ⟨k, hk9⟩ := List.getElem?_of_mem (xl_mem.mpr hl)
  exact lv_iinc hk.1 hk.2.1 hd (xl_has hL) hk9 hv (by rw [hk.2.2.2.1]; exact hn) rfl (fun ls9 hl9 => kk H locs ls9 hH (he ▸ xl_st1 (lsC := lsC) ho hl9) hS)
theorem xj_if_eq (hk : xk_Ok v κ y cc nL ret fr lo) {x : Int32} {off : Int} {tgt : Nat} (hd : decode cc pc = .ok (.ifCond .eq off, 3)) (ht : (pc : Int) + off = (tgt : Int)) (k1 : x = 0 → xj v κ post z G tgt ls st) (k2 : ¬ (x = 0) → xj v κ post z G (pc + 3) ls st) : xj v κ post z G pc ls (.int x :: st) := fun H locs lsC hH hL hS => lv_if_eq hk.1 hk.2.1 hd ht (fun q => k1 q H locs lsC hH hL hS) (fun q => k2 q H locs lsC hH hL hS)
theorem xj_icmp_eq (hk : xk_Ok v κ y cc nL ret fr lo) {x1 x2 : Int32} {off : Int} {tgt : Nat} (hd : decode cc pc = .ok (.if_icmp .eq off, 3)) (ht : (pc : Int) + off = (tgt : Int)) (k1 : x1 = x2 → xj v κ post z G tgt ls st) (k2 : ¬ (x1 = x2) → xj v κ post z G (pc + 3) ls st) : xj v κ post z G pc ls (.int x2 :: .int x1 :: st) := fun H locs lsC hH hL hS => lv_icmp_eq hk.1 hk.2.1 hd ht (fun q => k1 q H locs lsC hH hL hS) (fun q => k2 q H locs lsC hH hL hS)
theorem xj_if_ne (hk : xk_Ok v κ y cc nL ret fr lo) {x : Int32} {off : Int} {tgt : Nat} (hd : decode cc pc = .ok (.ifCond .ne off, 3)) (ht : (pc : Int) + off = (tgt : Int)) (k1 : ¬ x = 0 → xj v κ post z G tgt ls st) (k2 : x = 0 → xj v κ post z G (pc + 3) ls st) : xj v κ post z G pc ls (.int x :: st) := fun H locs lsC hH hL hS => lv_if_ne hk.1 hk.2.1 hd ht (fun q => k1 q H locs lsC hH hL hS) (fun q => k2 q H locs lsC hH hL hS)
theorem xj_icmp_ne (hk : xk_Ok v κ y cc nL ret fr lo) {x1 x2 : Int32} {off : Int} {tgt : Nat} (hd : decode cc pc = .ok (.if_icmp .ne off, 3)) (ht : (pc : Int) + off = (tgt : Int)) (k1 : ¬ x1 = x2 → xj v κ post z G tgt ls st) (k2 : x1 = x2 → xj v κ post z G (pc + 3) ls st) : xj v κ post z G pc ls (.int x2 :: .int x1 :: st) := fun H locs lsC hH hL hS => lv_icmp_ne hk.1 hk.2.1 hd ht (fun q => k1 q H locs lsC hH hL hS) (fun q => k2 q H locs lsC hH hL hS)
theorem xj_if_lt (hk : xk_Ok v κ y cc nL ret fr lo) {x : Int32} {off : Int} {tgt : Nat} (hd : decode cc pc = .ok (.ifCond .lt off, 3)) (ht : (pc : Int) + off = (tgt : Int)) (k1 : x < 0 → xj v κ post z G tgt ls st) (k2 : ¬ (x < 0) → xj v κ post z G (pc + 3) ls st) : xj v κ post z G pc ls (.int x :: st) := fun H locs lsC hH hL hS => lv_if_lt hk.1 hk.2.1 hd ht (fun q => k1 q H locs lsC hH hL hS) (fun q => k2 q H locs lsC hH hL hS)
theorem xj_icmp_lt (hk : xk_Ok v κ y cc nL ret fr lo) {x1 x2 : Int32} {off : Int} {tgt : Nat} (hd : decode cc pc = .ok (.if_icmp .lt off, 3)) (ht : (pc : Int) + off = (tgt : Int)) (k1 : x1 < x2 → xj v κ post z G tgt ls st) (k2 : ¬ (x1 < x2) → xj v κ post z G (pc + 3) ls st) : xj v κ post z G pc ls (.int x2 :: .int x1 :: st) := fun H locs lsC hH hL hS => lv_icmp_lt hk.1 hk.2.1 hd ht (fun q => k1 q H locs lsC hH hL hS) (fun q => k2 q H locs lsC hH hL hS)
theorem xj_if_ge (hk : xk_Ok v κ y cc nL ret fr lo) {x : Int32} {off : Int} {tgt : Nat} (hd : decode cc pc = .ok (.ifCond .ge off, 3)) (ht : (pc : Int) + off = (tgt : Int)) (k1 : 0 ≤ x → xj v κ post z G tgt ls st) (k2 : ¬ (0 ≤ x) → xj v κ post z G (pc + 3) ls st) : xj v κ post z G pc ls (.int x :: st) := fun H locs lsC hH hL hS => lv_if_ge hk.1 hk.2.1 hd ht (fun q => k1 q H locs lsC hH hL hS) (fun q => k2 q H locs lsC hH hL hS)
theorem xj_icmp_ge (hk : xk_Ok v κ y cc nL ret fr lo) {x1 x2 : Int32} {off : Int} {tgt : Nat} (hd : decode cc pc = .ok (.if_icmp .ge off, 3)) (ht : (pc : Int) + off = (tgt : Int)) (k1 : x2 ≤ x1 → xj v κ post z G tgt ls st) (k2 : ¬ (x2 ≤ x1) → xj v κ post z G (pc + 3) ls st) : xj v κ post z G pc ls (.int x2 :: .int x1 :: st) := fun H locs lsC hH hL hS => lv_icmp_ge hk.1 hk.2.1 hd ht (fun q => k1 q H locs lsC hH hL hS) (fun q => k2 q H locs lsC hH hL hS)
theorem xj_if_gt (hk : xk_Ok v κ y cc nL ret fr lo) {x : Int32} {off : Int} {tgt : Nat} (hd : decode cc pc = .ok (.ifCond .gt off, 3)) (ht : (pc : Int) + off = (tgt : Int)) (k1 : 0 < x → xj v κ post z G tgt ls st) (k2 : ¬ (0 < x) → xj v κ post z G (pc + 3) ls st) : xj v κ post z G pc ls (.int x :: st) := fun H locs lsC hH hL hS => lv_if_gt hk.1 hk.2.1 hd ht (fun q => k1 q H locs lsC hH hL hS) (fun q => k2 q H locs lsC hH hL hS)
theorem xj_icmp_gt (hk : xk_Ok v κ y cc nL ret fr lo) {x1 x2 : Int32} {off : Int} {tgt : Nat} (hd : decode cc pc = .ok (.if_icmp .gt off, 3)) (ht : (pc : Int) + off = (tgt : Int)) (k1 : x2 < x1 → xj v κ post z G tgt ls st) (k2 : ¬ (x2 < x1) → xj v κ post z G (pc + 3) ls st) : xj v κ post z G pc ls (.int x2 :: .int x1 :: st) := fun H locs lsC hH hL hS => lv_icmp_gt hk.1 hk.2.1 hd ht (fun q => k1 q H locs lsC hH hL hS) (fun q => k2 q H locs lsC hH hL hS)
theorem xj_if_le (hk : xk_Ok v κ y cc nL ret fr lo) {x : Int32} {off : Int} {tgt : Nat} (hd : decode cc pc = .ok (.ifCond .le off, 3)) (ht : (pc : Int) + off = (tgt : Int)) (k1 : x ≤ 0 → xj v κ post z G tgt ls st) (k2 : ¬ (x ≤ 0) → xj v κ post z G (pc + 3) ls st) : xj v κ post z G pc ls (.int x :: st) := fun H locs lsC hH hL hS => lv_if_le hk.1 hk.2.1 hd ht (fun q => k1 q H locs lsC hH hL hS) (fun q => k2 q H locs lsC hH hL hS)
theorem xj_icmp_le (hk : xk_Ok v κ y cc nL ret fr lo) {x1 x2 : Int32} {off : Int} {tgt : Nat} (hd : decode cc pc = .ok (.if_icmp .le off, 3)) (ht : (pc : Int) + off = (tgt : Int)) (k1 : x1 ≤ x2 → xj v κ post z G tgt ls st) (k2 : ¬ (x1 ≤ x2) → xj v κ post z G (pc + 3) ls st) : xj v κ post z G pc ls (.int x2 :: .int x1 :: st) := fun H locs lsC hH hL hS => lv_icmp_le hk.1 hk.2.1 hd ht (fun q => k1 q H locs lsC hH hL hS) (fun q => k2 q H locs lsC hH hL hS)
theorem xj_goto (hk : xk_Ok v κ y cc nL ret fr lo) {off : Int} {tgt : Nat} (hd : decode cc pc = .ok (.goto off, 3)) (ht : (pc : Int) + off = (tgt : Int)) (kk : xj v κ post z G tgt ls st) : xj v κ post z G pc ls st := fun H locs lsC hH hL hS => lv_goto hk.1 hk.2.1 hd ht (kk H locs lsC hH hL hS)
theorem xj_ifnonnull (hk : xk_Ok v κ y cc nL ret fr lo) {x : Nat} {off : Int} {tgt : Nat} (hd : decode cc pc = .ok (.ifnonnull off, 3)) (ht : (pc : Int) + off = (tgt : Int)) (kk : xj v κ post z G tgt ls st) : xj v κ post z G pc ls (.ref x :: st) := fun H locs lsC hH hL hS => lv_ifnonnull hk.1 hk.2.1 hd ht (kk H locs lsC hH hL hS)
end XJ

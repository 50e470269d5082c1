/-! ===== what the start gives ===== -/
theorem gv_in {args : Array Value} {s : State} (hgv : (Jvm.Cond.and given_1 narrow_1).before args s = true) {w : Cond} (i : Nat) (h : (flatC (Jvm.Cond.and given_1 narrow_1))[i]? = some w) : w.before args s = true := flat_of_before _ hgv w (List.mem_of_getElem? h)
theorem tb_in {args : Array Value} {s : State} (hts : ∀ w ∈ lw_tbl, w.before args s = true) {w : Cond} (i : Nat) (h : lw_tbl[i]? = some w) : w.before args s = true := hts w (List.mem_of_getElem? h)
set_option maxRecDepth 100000 in
theorem gs_FIRST {args : Array Value} {s : State} (hts : ∀ w ∈ lw_tbl, w.before args s = true) (hgv : (Jvm.Cond.and given_1 narrow_1).before args s = true) : ∃ t : Nat, va_Z "BillTender" "FIRST" "[I" (.ref t) (fun a => s.heap.size ≤ a) s s.heap ∧ va_T .int t 7 (fun k => .int (([100, 35, 20, 0, 999, 90, 0] : List Int32).getD k 0)) (fun a => s.heap.size ≤ a) s s.heap := by
  have hA : ∀ a : Nat, a < s.heap.size → ¬ s.heap.size ≤ a := fun a h => Nat.not_le.mpr h
  obtain ⟨t, ht, hT⟩ := va_Tof (tm := .static "BillTender" "FIRST" "[I") (ty := .int) (N := 7) (f := fun k => .int (([100, 35, 20, 0, 999, 90, 0] : List Int32).getD k 0)) (A := fun a => s.heap.size ≤ a) (by decide) (gv_in hgv 5 (by decide +kernel)) (va_eqt (gv_in hgv 6 (by decide +kernel))) (fun j hj => by
    match j, hj with
    | 0, _ => exact va_eqt (gv_in hgv 7 (by decide +kernel))
    | 1, _ => exact va_eqt (gv_in hgv 8 (by decide +kernel))
    | 2, _ => exact va_eqt (gv_in hgv 9 (by decide +kernel))
    | 3, _ => exact va_eqt (gv_in hgv 10 (by decide +kernel))
    | 4, _ => exact va_eqt (gv_in hgv 11 (by decide +kernel))
    | 5, _ => exact va_eqt (gv_in hgv 12 (by decide +kernel))
    | 6, _ => exact va_eqt (gv_in hgv 13 (by decide +kernel))
    | k + 7, h => exact absurd h (by omega)) hA
  exact ⟨t, va_Zref (tb_in hts 200 (by decide +kernel)) (tb_in hts 137 (by decide +kernel)) ht hA, hT⟩
set_option maxRecDepth 100000 in
theorem gs_LEAST {args : Array Value} {s : State} (hts : ∀ w ∈ lw_tbl, w.before args s = true) (hgv : (Jvm.Cond.and given_1 narrow_1).before args s = true) : ∃ t : Nat, va_Z "BillTender" "LEAST" "[I" (.ref t) (fun a => s.heap.size ≤ a) s s.heap ∧ va_T .int t 7 (fun k => .int (([1, 1, 0, 0, 0, 1, 0] : List Int32).getD k 0)) (fun a => s.heap.size ≤ a) s s.heap := by
  have hA : ∀ a : Nat, a < s.heap.size → ¬ s.heap.size ≤ a := fun a h => Nat.not_le.mpr h
  obtain ⟨t, ht, hT⟩ := va_Tof (tm := .static "BillTender" "LEAST" "[I") (ty := .int) (N := 7) (f := fun k => .int (([1, 1, 0, 0, 0, 1, 0] : List Int32).getD k 0)) (A := fun a => s.heap.size ≤ a) (by decide) (gv_in hgv 20 (by decide +kernel)) (va_eqt (gv_in hgv 21 (by decide +kernel))) (fun j hj => by
    match j, hj with
    | 0, _ => exact va_eqt (gv_in hgv 22 (by decide +kernel))
    | 1, _ => exact va_eqt (gv_in hgv 23 (by decide +kernel))
    | 2, _ => exact va_eqt (gv_in hgv 24 (by decide +kernel))
    | 3, _ => exact va_eqt (gv_in hgv 25 (by decide +kernel))
    | 4, _ => exact va_eqt (gv_in hgv 26 (by decide +kernel))
    | 5, _ => exact va_eqt (gv_in hgv 27 (by decide +kernel))
    | 6, _ => exact va_eqt (gv_in hgv 28 (by decide +kernel))
    | k + 7, h => exact absurd h (by omega)) hA
  exact ⟨t, va_Zref (tb_in hts 533 (by decide +kernel)) (tb_in hts 137 (by decide +kernel)) ht hA, hT⟩
set_option maxRecDepth 100000 in
theorem gs_MOST {args : Array Value} {s : State} (hts : ∀ w ∈ lw_tbl, w.before args s = true) (hgv : (Jvm.Cond.and given_1 narrow_1).before args s = true) : ∃ t : Nat, va_Z "BillTender" "MOST" "[I" (.ref t) (fun a => s.heap.size ≤ a) s s.heap ∧ va_T .int t 7 (fun k => .int (([2000, 100, 100, 999, 999, 360, 1] : List Int32).getD k 0)) (fun a => s.heap.size ≤ a) s s.heap := by
  have hA : ∀ a : Nat, a < s.heap.size → ¬ s.heap.size ≤ a := fun a h => Nat.not_le.mpr h
  obtain ⟨t, ht, hT⟩ := va_Tof (tm := .static "BillTender" "MOST" "[I") (ty := .int) (N := 7) (f := fun k => .int (([2000, 100, 100, 999, 999, 360, 1] : List Int32).getD k 0)) (A := fun a => s.heap.size ≤ a) (by decide) (gv_in hgv 30 (by decide +kernel)) (va_eqt (gv_in hgv 31 (by decide +kernel))) (fun j hj => by
    match j, hj with
    | 0, _ => exact va_eqt (gv_in hgv 32 (by decide +kernel))
    | 1, _ => exact va_eqt (gv_in hgv 33 (by decide +kernel))
    | 2, _ => exact va_eqt (gv_in hgv 34 (by decide +kernel))
    | 3, _ => exact va_eqt (gv_in hgv 35 (by decide +kernel))
    | 4, _ => exact va_eqt (gv_in hgv 36 (by decide +kernel))
    | 5, _ => exact va_eqt (gv_in hgv 37 (by decide +kernel))
    | 6, _ => exact va_eqt (gv_in hgv 38 (by decide +kernel))
    | k + 7, h => exact absurd h (by omega)) hA
  exact ⟨t, va_Zref (tb_in hts 535 (by decide +kernel)) (tb_in hts 137 (by decide +kernel)) ht hA, hT⟩
def strF (args : Array Value) (s : State) (own : String) (k : Nat) (tx : String) (bs : List Int32) : Prop := (Cond.stringRef own k tx).before args s = true ∧ (Cond.exactly (.string own k) "java/lang/String").before args s = true ∧ (Cond.eq (.field (.string own k) "java/lang/String" "coder" "B") (.int 0)).before args s = true ∧ (Cond.arrayOf (.field (.string own k) "java/lang/String" "value" "[B") .byte).before args s = true ∧ (Cond.eq (.length (.field (.string own k) "java/lang/String" "value" "[B")) (.int (Int32.ofNat bs.length))).before args s = true ∧ ∀ j, j < bs.length → (Cond.eq (.elem (.field (.string own k) "java/lang/String" "value" "[B") (.int (Int32.ofNat j))) (.int (bs.getD j 0))).before args s = true
theorem str_of {args : Array Value} {s : State} {own tx : String} {k : Nat} {bs : List Int32} (hN : bs.length < 2 ^ 31) (h : strF args s own k tx bs) : ∃ p : Nat × Nat, vk_R own k tx p.1 s ∧ va_O "java/lang/String" p.1 (fun a => s.heap.size ≤ a) s s.heap ∧ va_OF "java/lang/String" "coder" "B" (.int 0) p.1 (fun a => s.heap.size ≤ a) s s.heap ∧ va_OF "java/lang/String" "value" "[B" (.ref p.2) p.1 (fun a => s.heap.size ≤ a) s s.heap ∧ va_T .byte p.2 bs.length (fun j => .int (bs.getD j 0)) (fun a => s.heap.size ≤ a) s s.heap := by
  have hA : ∀ a : Nat, a < s.heap.size → ¬ s.heap.size ≤ a := fun a h => Nat.not_le.mpr h
  obtain ⟨h1, h2, h3, h4, h5, h6⟩ := h
  obtain ⟨a, c, cA, kA, q1, q2, q3, q4, q5, q6, -⟩ := Cond.exactly_spec (args := args) (first := s) (o := none) (s := s) (idx := []) (t := .string own k) (cls := "java/lang/String") h2
  obtain ⟨t, ht, hT⟩ := va_Tof (f := fun j => .int (bs.getD j 0)) (A := fun a => s.heap.size ≤ a) hN h4 (va_eqt h5) (fun j hj => va_eqt (h6 j hj)) hA
  exact ⟨(a, t), vk_R.of h1 q1, ⟨cA, q3, q5, by rw [q6]; exact q2, hA a (Array.getElem?_eq_some_iff.mp q3).1⟩, vk_OFof q1 (va_eqt h3) hA, vk_OFof q1 ht hA, hT⟩
set_option maxRecDepth 100000 in
theorem gt_0 {args : Array Value} {s : State} (hts : ∀ w ∈ lw_tbl, w.before args s = true) (hgv : (Jvm.Cond.and given_1 narrow_1).before args s = true) : strF args s "BillTender$Reader" 48 "offer" [111, 102, 102, 101, 114] := ⟨tb_in hts 475 (by decide +kernel), gv_in hgv 39 (by decide +kernel), gv_in hgv 40 (by decide +kernel), gv_in hgv 41 (by decide +kernel), gv_in hgv 42 (by decide +kernel), fun j hj => by
  match j, hj with
  | 0, _ => exact gv_in hgv 43 (by decide +kernel)
  | 1, _ => exact gv_in hgv 44 (by decide +kernel)
  | 2, _ => exact gv_in hgv 45 (by decide +kernel)
  | 3, _ => exact gv_in hgv 46 (by decide +kernel)
  | 4, _ => exact gv_in hgv 47 (by decide +kernel)
  | k + 5, h => exact absurd h (by simp)⟩
set_option maxRecDepth 100000 in
theorem gt_1 {args : Array Value} {s : State} (hts : ∀ w ∈ lw_tbl, w.before args s = true) (hgv : (Jvm.Cond.and given_1 narrow_1).before args s = true) : strF args s "BillTender$Reader" 58 "limit" [108, 105, 109, 105, 116] := ⟨tb_in hts 544 (by decide +kernel), gv_in hgv 48 (by decide +kernel), gv_in hgv 49 (by decide +kernel), gv_in hgv 50 (by decide +kernel), gv_in hgv 51 (by decide +kernel), fun j hj => by
  match j, hj with
  | 0, _ => exact gv_in hgv 52 (by decide +kernel)
  | 1, _ => exact gv_in hgv 53 (by decide +kernel)
  | 2, _ => exact gv_in hgv 54 (by decide +kernel)
  | 3, _ => exact gv_in hgv 55 (by decide +kernel)
  | 4, _ => exact gv_in hgv 56 (by decide +kernel)
  | k + 5, h => exact absurd h (by simp)⟩
set_option maxRecDepth 100000 in
theorem gt_2 {args : Array Value} {s : State} (hts : ∀ w ∈ lw_tbl, w.before args s = true) (hgv : (Jvm.Cond.and given_1 narrow_1).before args s = true) : strF args s "BillTender$Reader" 60 "share" [115, 104, 97, 114, 101] := ⟨tb_in hts 545 (by decide +kernel), gv_in hgv 57 (by decide +kernel), gv_in hgv 58 (by decide +kernel), gv_in hgv 59 (by decide +kernel), gv_in hgv 60 (by decide +kernel), fun j hj => by
  match j, hj with
  | 0, _ => exact gv_in hgv 61 (by decide +kernel)
  | 1, _ => exact gv_in hgv 62 (by decide +kernel)
  | 2, _ => exact gv_in hgv 63 (by decide +kernel)
  | 3, _ => exact gv_in hgv 64 (by decide +kernel)
  | 4, _ => exact gv_in hgv 65 (by decide +kernel)
  | k + 5, h => exact absurd h (by simp)⟩
set_option maxRecDepth 100000 in
theorem gt_3 {args : Array Value} {s : State} (hts : ∀ w ∈ lw_tbl, w.before args s = true) (hgv : (Jvm.Cond.and given_1 narrow_1).before args s = true) : strF args s "BillTender$Reader" 62 "yields" [121, 105, 101, 108, 100, 115] := ⟨tb_in hts 546 (by decide +kernel), gv_in hgv 66 (by decide +kernel), gv_in hgv 67 (by decide +kernel), gv_in hgv 68 (by decide +kernel), gv_in hgv 69 (by decide +kernel), fun j hj => by
  match j, hj with
  | 0, _ => exact gv_in hgv 70 (by decide +kernel)
  | 1, _ => exact gv_in hgv 71 (by decide +kernel)
  | 2, _ => exact gv_in hgv 72 (by decide +kernel)
  | 3, _ => exact gv_in hgv 73 (by decide +kernel)
  | 4, _ => exact gv_in hgv 74 (by decide +kernel)
  | 5, _ => exact gv_in hgv 75 (by decide +kernel)
  | k + 6, h => exact absurd h (by simp)⟩
set_option maxRecDepth 100000 in
theorem gt_4 {args : Array Value} {s : State} (hts : ∀ w ∈ lw_tbl, w.before args s = true) (hgv : (Jvm.Cond.and given_1 narrow_1).before args s = true) : strF args s "BillTender$Reader" 117 "to" [116, 111] := ⟨tb_in hts 551 (by decide +kernel), gv_in hgv 76 (by decide +kernel), gv_in hgv 77 (by decide +kernel), gv_in hgv 78 (by decide +kernel), gv_in hgv 79 (by decide +kernel), fun j hj => by
  match j, hj with
  | 0, _ => exact gv_in hgv 80 (by decide +kernel)
  | 1, _ => exact gv_in hgv 81 (by decide +kernel)
  | k + 2, h => exact absurd h (by simp)⟩
set_option maxRecDepth 100000 in
theorem gt_5 {args : Array Value} {s : State} (hts : ∀ w ∈ lw_tbl, w.before args s = true) (hgv : (Jvm.Cond.and given_1 narrow_1).before args s = true) : strF args s "BillTender$Reader" 67 "days" [100, 97, 121, 115] := ⟨tb_in hts 556 (by decide +kernel), gv_in hgv 82 (by decide +kernel), gv_in hgv 83 (by decide +kernel), gv_in hgv 84 (by decide +kernel), gv_in hgv 85 (by decide +kernel), fun j hj => by
  match j, hj with
  | 0, _ => exact gv_in hgv 86 (by decide +kernel)
  | 1, _ => exact gv_in hgv 87 (by decide +kernel)
  | 2, _ => exact gv_in hgv 88 (by decide +kernel)
  | 3, _ => exact gv_in hgv 89 (by decide +kernel)
  | k + 4, h => exact absurd h (by simp)⟩
set_option maxRecDepth 100000 in
theorem gt_6 {args : Array Value} {s : State} (hts : ∀ w ∈ lw_tbl, w.before args s = true) (hgv : (Jvm.Cond.and given_1 narrow_1).before args s = true) : strF args s "BillTender$Reader" 69 "one" [111, 110, 101] := ⟨tb_in hts 557 (by decide +kernel), gv_in hgv 90 (by decide +kernel), gv_in hgv 91 (by decide +kernel), gv_in hgv 92 (by decide +kernel), gv_in hgv 93 (by decide +kernel), fun j hj => by
  match j, hj with
  | 0, _ => exact gv_in hgv 94 (by decide +kernel)
  | 1, _ => exact gv_in hgv 95 (by decide +kernel)
  | 2, _ => exact gv_in hgv 96 (by decide +kernel)
  | k + 3, h => exact absurd h (by simp)⟩
set_option maxRecDepth 100000 in
theorem gt_7 {args : Array Value} {s : State} (hts : ∀ w ∈ lw_tbl, w.before args s = true) (hgv : (Jvm.Cond.and given_1 narrow_1).before args s = true) : strF args s "BillTender$Reader" 75 "own" [111, 119, 110] := ⟨tb_in hts 558 (by decide +kernel), gv_in hgv 97 (by decide +kernel), gv_in hgv 98 (by decide +kernel), gv_in hgv 99 (by decide +kernel), gv_in hgv 100 (by decide +kernel), fun j hj => by
  match j, hj with
  | 0, _ => exact gv_in hgv 101 (by decide +kernel)
  | 1, _ => exact gv_in hgv 102 (by decide +kernel)
  | 2, _ => exact gv_in hgv 103 (by decide +kernel)
  | k + 3, h => exact absurd h (by simp)⟩
set_option maxRecDepth 100000 in
theorem gt_8 {args : Array Value} {s : State} (hts : ∀ w ∈ lw_tbl, w.before args s = true) (hgv : (Jvm.Cond.and given_1 narrow_1).before args s = true) : strF args s "BillTender$Reader" 77 "holds" [104, 111, 108, 100, 115] := ⟨tb_in hts 559 (by decide +kernel), gv_in hgv 104 (by decide +kernel), gv_in hgv 105 (by decide +kernel), gv_in hgv 106 (by decide +kernel), gv_in hgv 107 (by decide +kernel), fun j hj => by
  match j, hj with
  | 0, _ => exact gv_in hgv 108 (by decide +kernel)
  | 1, _ => exact gv_in hgv 109 (by decide +kernel)
  | 2, _ => exact gv_in hgv 110 (by decide +kernel)
  | 3, _ => exact gv_in hgv 111 (by decide +kernel)
  | 4, _ => exact gv_in hgv 112 (by decide +kernel)
  | k + 5, h => exact absurd h (by simp)⟩
set_option maxRecDepth 100000 in
theorem gt_9 {args : Array Value} {s : State} (hts : ∀ w ∈ lw_tbl, w.before args s = true) (hgv : (Jvm.Cond.and given_1 narrow_1).before args s = true) : strF args s "BillTender$Reader" 85 "owner" [111, 119, 110, 101, 114] := ⟨tb_in hts 564 (by decide +kernel), gv_in hgv 113 (by decide +kernel), gv_in hgv 114 (by decide +kernel), gv_in hgv 115 (by decide +kernel), gv_in hgv 116 (by decide +kernel), fun j hj => by
  match j, hj with
  | 0, _ => exact gv_in hgv 117 (by decide +kernel)
  | 1, _ => exact gv_in hgv 118 (by decide +kernel)
  | 2, _ => exact gv_in hgv 119 (by decide +kernel)
  | 3, _ => exact gv_in hgv 120 (by decide +kernel)
  | 4, _ => exact gv_in hgv 121 (by decide +kernel)
  | k + 5, h => exact absurd h (by simp)⟩
set_option maxRecDepth 100000 in
theorem gt_10 {args : Array Value} {s : State} (hts : ∀ w ∈ lw_tbl, w.before args s = true) (hgv : (Jvm.Cond.and given_1 narrow_1).before args s = true) : strF args s "BillTender$Reader" 90 "bid" [98, 105, 100] := ⟨tb_in hts 565 (by decide +kernel), gv_in hgv 122 (by decide +kernel), gv_in hgv 123 (by decide +kernel), gv_in hgv 124 (by decide +kernel), gv_in hgv 125 (by decide +kernel), fun j hj => by
  match j, hj with
  | 0, _ => exact gv_in hgv 126 (by decide +kernel)
  | 1, _ => exact gv_in hgv 127 (by decide +kernel)
  | 2, _ => exact gv_in hgv 128 (by decide +kernel)
  | k + 3, h => exact absurd h (by simp)⟩
set_option maxRecDepth 100000 in
theorem gt_11 {args : Array Value} {s : State} (hts : ∀ w ∈ lw_tbl, w.before args s = true) (hgv : (Jvm.Cond.and given_1 narrow_1).before args s = true) : strF args s "BillTender$Reader" 123 "lots" [108, 111, 116, 115] := ⟨tb_in hts 570 (by decide +kernel), gv_in hgv 129 (by decide +kernel), gv_in hgv 130 (by decide +kernel), gv_in hgv 131 (by decide +kernel), gv_in hgv 132 (by decide +kernel), fun j hj => by
  match j, hj with
  | 0, _ => exact gv_in hgv 133 (by decide +kernel)
  | 1, _ => exact gv_in hgv 134 (by decide +kernel)
  | 2, _ => exact gv_in hgv 135 (by decide +kernel)
  | 3, _ => exact gv_in hgv 136 (by decide +kernel)
  | k + 4, h => exact absurd h (by simp)⟩
set_option maxRecDepth 100000 in
theorem gt_12 {args : Array Value} {s : State} (hts : ∀ w ∈ lw_tbl, w.before args s = true) (hgv : (Jvm.Cond.and given_1 narrow_1).before args s = true) : strF args s "BillTender$Reader" 99 "plain" [112, 108, 97, 105, 110] := ⟨tb_in hts 575 (by decide +kernel), gv_in hgv 137 (by decide +kernel), gv_in hgv 138 (by decide +kernel), gv_in hgv 139 (by decide +kernel), gv_in hgv 140 (by decide +kernel), fun j hj => by
  match j, hj with
  | 0, _ => exact gv_in hgv 141 (by decide +kernel)
  | 1, _ => exact gv_in hgv 142 (by decide +kernel)
  | 2, _ => exact gv_in hgv 143 (by decide +kernel)
  | 3, _ => exact gv_in hgv 144 (by decide +kernel)
  | 4, _ => exact gv_in hgv 145 (by decide +kernel)
  | k + 5, h => exact absurd h (by simp)⟩
set_option maxRecDepth 100000 in
theorem gt_13 {args : Array Value} {s : State} (hts : ∀ w ∈ lw_tbl, w.before args s = true) (hgv : (Jvm.Cond.and given_1 narrow_1).before args s = true) : strF args s "BillTender$Speller" 58 "offer " [111, 102, 102, 101, 114, 32] := ⟨tb_in hts 1024 (by decide +kernel), gv_in hgv 146 (by decide +kernel), gv_in hgv 147 (by decide +kernel), gv_in hgv 148 (by decide +kernel), gv_in hgv 149 (by decide +kernel), fun j hj => by
  match j, hj with
  | 0, _ => exact gv_in hgv 150 (by decide +kernel)
  | 1, _ => exact gv_in hgv 151 (by decide +kernel)
  | 2, _ => exact gv_in hgv 152 (by decide +kernel)
  | 3, _ => exact gv_in hgv 153 (by decide +kernel)
  | 4, _ => exact gv_in hgv 154 (by decide +kernel)
  | 5, _ => exact gv_in hgv 155 (by decide +kernel)
  | k + 6, h => exact absurd h (by simp)⟩
set_option maxRecDepth 100000 in
theorem gt_14 {args : Array Value} {s : State} (hts : ∀ w ∈ lw_tbl, w.before args s = true) (hgv : (Jvm.Cond.and given_1 narrow_1).before args s = true) : strF args s "BillTender$Speller" 71 ";limit " [59, 108, 105, 109, 105, 116, 32] := ⟨tb_in hts 1039 (by decide +kernel), gv_in hgv 156 (by decide +kernel), gv_in hgv 157 (by decide +kernel), gv_in hgv 158 (by decide +kernel), gv_in hgv 159 (by decide +kernel), fun j hj => by
  match j, hj with
  | 0, _ => exact gv_in hgv 160 (by decide +kernel)
  | 1, _ => exact gv_in hgv 161 (by decide +kernel)
  | 2, _ => exact gv_in hgv 162 (by decide +kernel)
  | 3, _ => exact gv_in hgv 163 (by decide +kernel)
  | 4, _ => exact gv_in hgv 164 (by decide +kernel)
  | 5, _ => exact gv_in hgv 165 (by decide +kernel)
  | 6, _ => exact gv_in hgv 166 (by decide +kernel)
  | k + 7, h => exact absurd h (by simp)⟩
set_option maxRecDepth 100000 in
theorem gt_15 {args : Array Value} {s : State} (hts : ∀ w ∈ lw_tbl, w.before args s = true) (hgv : (Jvm.Cond.and given_1 narrow_1).before args s = true) : strF args s "BillTender$Speller" 73 ";share " [59, 115, 104, 97, 114, 101, 32] := ⟨tb_in hts 1040 (by decide +kernel), gv_in hgv 167 (by decide +kernel), gv_in hgv 168 (by decide +kernel), gv_in hgv 169 (by decide +kernel), gv_in hgv 170 (by decide +kernel), fun j hj => by
  match j, hj with
  | 0, _ => exact gv_in hgv 171 (by decide +kernel)
  | 1, _ => exact gv_in hgv 172 (by decide +kernel)
  | 2, _ => exact gv_in hgv 173 (by decide +kernel)
  | 3, _ => exact gv_in hgv 174 (by decide +kernel)
  | 4, _ => exact gv_in hgv 175 (by decide +kernel)
  | 5, _ => exact gv_in hgv 176 (by decide +kernel)
  | 6, _ => exact gv_in hgv 177 (by decide +kernel)
  | k + 7, h => exact absurd h (by simp)⟩
set_option maxRecDepth 100000 in
theorem gt_16 {args : Array Value} {s : State} (hts : ∀ w ∈ lw_tbl, w.before args s = true) (hgv : (Jvm.Cond.and given_1 narrow_1).before args s = true) : strF args s "BillTender$Speller" 75 ";yields " [59, 121, 105, 101, 108, 100, 115, 32] := ⟨tb_in hts 1041 (by decide +kernel), gv_in hgv 178 (by decide +kernel), gv_in hgv 179 (by decide +kernel), gv_in hgv 180 (by decide +kernel), gv_in hgv 181 (by decide +kernel), fun j hj => by
  match j, hj with
  | 0, _ => exact gv_in hgv 182 (by decide +kernel)
  | 1, _ => exact gv_in hgv 183 (by decide +kernel)
  | 2, _ => exact gv_in hgv 184 (by decide +kernel)
  | 3, _ => exact gv_in hgv 185 (by decide +kernel)
  | 4, _ => exact gv_in hgv 186 (by decide +kernel)
  | 5, _ => exact gv_in hgv 187 (by decide +kernel)
  | 6, _ => exact gv_in hgv 188 (by decide +kernel)
  | 7, _ => exact gv_in hgv 189 (by decide +kernel)
  | k + 8, h => exact absurd h (by simp)⟩
set_option maxRecDepth 100000 in
theorem gt_17 {args : Array Value} {s : State} (hts : ∀ w ∈ lw_tbl, w.before args s = true) (hgv : (Jvm.Cond.and given_1 narrow_1).before args s = true) : strF args s "BillTender$Speller" 77 " to " [32, 116, 111, 32] := ⟨tb_in hts 1042 (by decide +kernel), gv_in hgv 190 (by decide +kernel), gv_in hgv 191 (by decide +kernel), gv_in hgv 192 (by decide +kernel), gv_in hgv 193 (by decide +kernel), fun j hj => by
  match j, hj with
  | 0, _ => exact gv_in hgv 194 (by decide +kernel)
  | 1, _ => exact gv_in hgv 195 (by decide +kernel)
  | 2, _ => exact gv_in hgv 196 (by decide +kernel)
  | 3, _ => exact gv_in hgv 197 (by decide +kernel)
  | k + 4, h => exact absurd h (by simp)⟩
set_option maxRecDepth 100000 in
theorem gt_18 {args : Array Value} {s : State} (hts : ∀ w ∈ lw_tbl, w.before args s = true) (hgv : (Jvm.Cond.and given_1 narrow_1).before args s = true) : strF args s "BillTender$Speller" 79 ";days " [59, 100, 97, 121, 115, 32] := ⟨tb_in hts 1043 (by decide +kernel), gv_in hgv 198 (by decide +kernel), gv_in hgv 199 (by decide +kernel), gv_in hgv 200 (by decide +kernel), gv_in hgv 201 (by decide +kernel), fun j hj => by
  match j, hj with
  | 0, _ => exact gv_in hgv 202 (by decide +kernel)
  | 1, _ => exact gv_in hgv 203 (by decide +kernel)
  | 2, _ => exact gv_in hgv 204 (by decide +kernel)
  | 3, _ => exact gv_in hgv 205 (by decide +kernel)
  | 4, _ => exact gv_in hgv 206 (by decide +kernel)
  | 5, _ => exact gv_in hgv 207 (by decide +kernel)
  | k + 6, h => exact absurd h (by simp)⟩
set_option maxRecDepth 100000 in
theorem gt_19 {args : Array Value} {s : State} (hts : ∀ w ∈ lw_tbl, w.before args s = true) (hgv : (Jvm.Cond.and given_1 narrow_1).before args s = true) : strF args s "BillTender$Speller" 81 ";own;" [59, 111, 119, 110, 59] := ⟨tb_in hts 1044 (by decide +kernel), gv_in hgv 208 (by decide +kernel), gv_in hgv 209 (by decide +kernel), gv_in hgv 210 (by decide +kernel), gv_in hgv 211 (by decide +kernel), fun j hj => by
  match j, hj with
  | 0, _ => exact gv_in hgv 212 (by decide +kernel)
  | 1, _ => exact gv_in hgv 213 (by decide +kernel)
  | 2, _ => exact gv_in hgv 214 (by decide +kernel)
  | 3, _ => exact gv_in hgv 215 (by decide +kernel)
  | 4, _ => exact gv_in hgv 216 (by decide +kernel)
  | k + 5, h => exact absurd h (by simp)⟩
set_option maxRecDepth 100000 in
theorem gt_20 {args : Array Value} {s : State} (hts : ∀ w ∈ lw_tbl, w.before args s = true) (hgv : (Jvm.Cond.and given_1 narrow_1).before args s = true) : strF args s "BillTender$Speller" 83 ";one;" [59, 111, 110, 101, 59] := ⟨tb_in hts 1045 (by decide +kernel), gv_in hgv 217 (by decide +kernel), gv_in hgv 218 (by decide +kernel), gv_in hgv 219 (by decide +kernel), gv_in hgv 220 (by decide +kernel), fun j hj => by
  match j, hj with
  | 0, _ => exact gv_in hgv 221 (by decide +kernel)
  | 1, _ => exact gv_in hgv 222 (by decide +kernel)
  | 2, _ => exact gv_in hgv 223 (by decide +kernel)
  | 3, _ => exact gv_in hgv 224 (by decide +kernel)
  | 4, _ => exact gv_in hgv 225 (by decide +kernel)
  | k + 5, h => exact absurd h (by simp)⟩
set_option maxRecDepth 100000 in
theorem gt_21 {args : Array Value} {s : State} (hts : ∀ w ∈ lw_tbl, w.before args s = true) (hgv : (Jvm.Cond.and given_1 narrow_1).before args s = true) : strF args s "BillTender$Speller" 31 "holds " [104, 111, 108, 100, 115, 32] := ⟨tb_in hts 1046 (by decide +kernel), gv_in hgv 226 (by decide +kernel), gv_in hgv 227 (by decide +kernel), gv_in hgv 228 (by decide +kernel), gv_in hgv 229 (by decide +kernel), fun j hj => by
  match j, hj with
  | 0, _ => exact gv_in hgv 230 (by decide +kernel)
  | 1, _ => exact gv_in hgv 231 (by decide +kernel)
  | 2, _ => exact gv_in hgv 232 (by decide +kernel)
  | 3, _ => exact gv_in hgv 233 (by decide +kernel)
  | 4, _ => exact gv_in hgv 234 (by decide +kernel)
  | 5, _ => exact gv_in hgv 235 (by decide +kernel)
  | k + 6, h => exact absurd h (by simp)⟩
set_option maxRecDepth 100000 in
theorem gt_22 {args : Array Value} {s : State} (hts : ∀ w ∈ lw_tbl, w.before args s = true) (hgv : (Jvm.Cond.and given_1 narrow_1).before args s = true) : strF args s "BillTender$Speller" 85 " " [32] := ⟨tb_in hts 1051 (by decide +kernel), gv_in hgv 236 (by decide +kernel), gv_in hgv 237 (by decide +kernel), gv_in hgv 238 (by decide +kernel), gv_in hgv 239 (by decide +kernel), fun j hj => by
  match j, hj with
  | 0, _ => exact gv_in hgv 240 (by decide +kernel)
  | k + 1, h => exact absurd h (by simp)⟩
set_option maxRecDepth 100000 in
theorem gt_23 {args : Array Value} {s : State} (hts : ∀ w ∈ lw_tbl, w.before args s = true) (hgv : (Jvm.Cond.and given_1 narrow_1).before args s = true) : strF args s "BillTender$Speller" 87 ";" [59] := ⟨tb_in hts 1052 (by decide +kernel), gv_in hgv 241 (by decide +kernel), gv_in hgv 242 (by decide +kernel), gv_in hgv 243 (by decide +kernel), gv_in hgv 244 (by decide +kernel), fun j hj => by
  match j, hj with
  | 0, _ => exact gv_in hgv 245 (by decide +kernel)
  | k + 1, h => exact absurd h (by simp)⟩
set_option maxRecDepth 100000 in
theorem gt_24 {args : Array Value} {s : State} (hts : ∀ w ∈ lw_tbl, w.before args s = true) (hgv : (Jvm.Cond.and given_1 narrow_1).before args s = true) : strF args s "BillTender$Speller" 40 "owner " [111, 119, 110, 101, 114, 32] := ⟨tb_in hts 1053 (by decide +kernel), gv_in hgv 246 (by decide +kernel), gv_in hgv 247 (by decide +kernel), gv_in hgv 248 (by decide +kernel), gv_in hgv 249 (by decide +kernel), fun j hj => by
  match j, hj with
  | 0, _ => exact gv_in hgv 250 (by decide +kernel)
  | 1, _ => exact gv_in hgv 251 (by decide +kernel)
  | 2, _ => exact gv_in hgv 252 (by decide +kernel)
  | 3, _ => exact gv_in hgv 253 (by decide +kernel)
  | 4, _ => exact gv_in hgv 254 (by decide +kernel)
  | 5, _ => exact gv_in hgv 255 (by decide +kernel)
  | k + 6, h => exact absurd h (by simp)⟩
set_option maxRecDepth 100000 in
theorem gt_25 {args : Array Value} {s : State} (hts : ∀ w ∈ lw_tbl, w.before args s = true) (hgv : (Jvm.Cond.and given_1 narrow_1).before args s = true) : strF args s "BillTender$Speller" 89 "plain " [112, 108, 97, 105, 110, 32] := ⟨tb_in hts 1058 (by decide +kernel), gv_in hgv 256 (by decide +kernel), gv_in hgv 257 (by decide +kernel), gv_in hgv 258 (by decide +kernel), gv_in hgv 259 (by decide +kernel), fun j hj => by
  match j, hj with
  | 0, _ => exact gv_in hgv 260 (by decide +kernel)
  | 1, _ => exact gv_in hgv 261 (by decide +kernel)
  | 2, _ => exact gv_in hgv 262 (by decide +kernel)
  | 3, _ => exact gv_in hgv 263 (by decide +kernel)
  | 4, _ => exact gv_in hgv 264 (by decide +kernel)
  | 5, _ => exact gv_in hgv 265 (by decide +kernel)
  | k + 6, h => exact absurd h (by simp)⟩
set_option maxRecDepth 100000 in
theorem gt_26 {args : Array Value} {s : State} (hts : ∀ w ∈ lw_tbl, w.before args s = true) (hgv : (Jvm.Cond.and given_1 narrow_1).before args s = true) : strF args s "BillTender$Speller" 91 "bid " [98, 105, 100, 32] := ⟨tb_in hts 1059 (by decide +kernel), gv_in hgv 266 (by decide +kernel), gv_in hgv 267 (by decide +kernel), gv_in hgv 268 (by decide +kernel), gv_in hgv 269 (by decide +kernel), fun j hj => by
  match j, hj with
  | 0, _ => exact gv_in hgv 270 (by decide +kernel)
  | 1, _ => exact gv_in hgv 271 (by decide +kernel)
  | 2, _ => exact gv_in hgv 272 (by decide +kernel)
  | 3, _ => exact gv_in hgv 273 (by decide +kernel)
  | k + 4, h => exact absurd h (by simp)⟩
set_option maxRecDepth 100000 in
theorem gt_27 {args : Array Value} {s : State} (hts : ∀ w ∈ lw_tbl, w.before args s = true) (hgv : (Jvm.Cond.and given_1 narrow_1).before args s = true) : strF args s "BillTender$Speller" 93 " lots " [32, 108, 111, 116, 115, 32] := ⟨tb_in hts 1060 (by decide +kernel), gv_in hgv 274 (by decide +kernel), gv_in hgv 275 (by decide +kernel), gv_in hgv 276 (by decide +kernel), gv_in hgv 277 (by decide +kernel), fun j hj => by
  match j, hj with
  | 0, _ => exact gv_in hgv 278 (by decide +kernel)
  | 1, _ => exact gv_in hgv 279 (by decide +kernel)
  | 2, _ => exact gv_in hgv 280 (by decide +kernel)
  | 3, _ => exact gv_in hgv 281 (by decide +kernel)
  | 4, _ => exact gv_in hgv 282 (by decide +kernel)
  | 5, _ => exact gv_in hgv 283 (by decide +kernel)
  | k + 6, h => exact absurd h (by simp)⟩
theorem gt_all {args : Array Value} {s : State} (hts : ∀ w ∈ lw_tbl, w.before args s = true) (hgv : (Jvm.Cond.and given_1 narrow_1).before args s = true) : ∀ q ∈ xk_strs, strF args s q.2.1 q.2.2.1 q.2.2.2.1 q.2.2.2.2 := by
  intro q hq
  simp only [xk_strs, List.mem_cons, List.not_mem_nil, or_false] at hq
  rcases hq with rfl | rfl | rfl | rfl | rfl | rfl | rfl | rfl | rfl | rfl | rfl | rfl | rfl | rfl | rfl | rfl | rfl | rfl | rfl | rfl | rfl | rfl | rfl | rfl | rfl | rfl | rfl | rfl
  · exact gt_0 hts hgv
  · exact gt_1 hts hgv
  · exact gt_2 hts hgv
  · exact gt_3 hts hgv
  · exact gt_4 hts hgv
  · exact gt_5 hts hgv
  · exact gt_6 hts hgv
  · exact gt_7 hts hgv
  · exact gt_8 hts hgv
  · exact gt_9 hts hgv
  · exact gt_10 hts hgv
  · exact gt_11 hts hgv
  · exact gt_12 hts hgv
  · exact gt_13 hts hgv
  · exact gt_14 hts hgv
  · exact gt_15 hts hgv
  · exact gt_16 hts hgv
  · exact gt_17 hts hgv
  · exact gt_18 hts hgv
  · exact gt_19 hts hgv
  · exact gt_20 hts hgv
  · exact gt_21 hts hgv
  · exact gt_22 hts hgv
  · exact gt_23 hts hgv
  · exact gt_24 hts hgv
  · exact gt_25 hts hgv
  · exact gt_26 hts hgv
  · exact gt_27 hts hgv
theorem strs_at : ∀ q ∈ xk_strs, xk_strs[q.1]? = some q ∧ q.2.2.2.2.length < 100 := by
  intro q hq
  simp only [xk_strs, List.mem_cons, List.not_mem_nil, or_false] at hq
  rcases hq with rfl | rfl | rfl | rfl | rfl | rfl | rfl | rfl | rfl | rfl | rfl | rfl | rfl | rfl | rfl | rfl | rfl | rfl | rfl | rfl | rfl | rfl | rfl | rfl | rfl | rfl | rfl | rfl <;> exact ⟨rfl, Nat.le_of_ble_eq_true rfl⟩
theorem mn_all {ci : Nat} {C : String} {T : u_T} {N : Nat} (h : vwCl[ci]? = some (C, T, N)) : Cond.instantiable C N ∈ xw_tbl := by
  match ci, h with
  | 0, h => cases h; exact mn_X0.1
  | 1, h => cases h; exact mn_X1.1
  | 2, h => cases h; exact mn_X2.1
  | 3, h => cases h; exact mn_X3.1
  | 4, h => cases h; exact mn_X4.1
  | 5, h => cases h; exact mn_X5.1
  | 6, h => cases h; exact mn_X6.1
  | 7, h => cases h; exact mn_X7.1
  | 8, h => cases h; exact mn_X8.1
  | k + 9, h => simp [vwCl] at h
def vAd (base t0 t1 t2 : Nat) (ad : Nat → Nat × Nat) (g i : Nat) : Nat := if g < 22 then base + xw_off g + i else if g < 40 then (if g = 30 then t0 else if g = 31 then t1 else t2) else if i = 0 then (ad (g - 40)).1 else (ad (g - 40)).2
theorem vAd_k {base t0 t1 t2 : Nat} {ad : Nat → Nat × Nat} {j : Nat} : vAd base t0 t1 t2 ad (40 + j) 0 = (ad j).1 := by
  unfold vAd; rw [if_neg (by omega), if_neg (by omega), if_pos rfl, show 40 + j - 40 = j by omega]
theorem vAd_v {base t0 t1 t2 : Nat} {ad : Nat → Nat × Nat} {j : Nat} : vAd base t0 t1 t2 ad (40 + j) 1 = (ad j).2 := by
  simp only [vAd]; rw [if_neg (by omega), if_neg (by omega), if_neg (by decide), show 40 + j - 40 = j by omega]
set_option maxHeartbeats 1000000 in
set_option maxRecDepth 100000 in
theorem kw_ex {args : Array Value} {s : State} (hts : ∀ w ∈ lw_tbl, w.before args s = true) (hgv : (Jvm.Cond.and given_1 narrow_1).before args s = true) : ∃ (v : xw_V) (D : va_G), xk_KW v D s.heap.size s := by
  have hA : ∀ a : Nat, a < s.heap.size → ¬ s.heap.size ≤ a := fun a h => Nat.not_le.mpr h
  have hx : ∀ w ∈ xw_tbl, w.before args s = true := fun w hw => hts w (List.mem_filter.mp hw).1
  have hD : ∀ c : Nat, ∃ p : ClassId × (Nat → Nat), ∀ q, vwCl[c]? = some q → u_Kn s q.1 q.2.1 q.2.2 p.1 p.2 := by
    intro c
    cases h : vwCl[c]? with
    | none => exact ⟨(0, fun _ => 0), fun q hq => by cases hq⟩
    | some q =>
      obtain ⟨C, T, N⟩ := q
      obtain ⟨hin, -⟩ := xk_cl h
      obtain ⟨cC, iS, hu⟩ := u_known (ws := xw_tbl) hx hin (hx _ (mn_all h))
      exact ⟨(cC, iS), fun q hq => by cases hq; exact hu⟩
  obtain ⟨D0, hD0⟩ := Classical.axiomOfChoice hD
  obtain ⟨cI, kI, oI, i1, i2, i3⟩ := Cond.arrayClass_spec (hx _ ac_i)
  obtain ⟨cJ, kJ, oJ, j1, j2, j3⟩ := Cond.arrayClass_spec (hx _ ac_l)
  obtain ⟨cZ, kZ, oZ, z1, z2, z3⟩ := Cond.arrayClass_spec (hx _ ac_z)
  obtain ⟨cB, kB, oB, b1, b2, b3⟩ := Cond.arrayClass_spec (hx _ ac_b)
  have hao : (Cond.arrayOver (.object "BillTender$Book")).before args s = true := tb_in hts 328 (by decide +kernel)
  obtain ⟨comp, cQ, kQ, q1, q2, q3, q4, q5⟩ := Cond.arrayOver_spec hao
  obtain ⟨t0, s01, s02⟩ := gs_FIRST hts hgv
  obtain ⟨t1, s11, s12⟩ := gs_LEAST hts hgv
  obtain ⟨t2, s21, s22⟩ := gs_MOST hts hgv
  have hS : ∀ j : Nat, ∃ p : Nat × Nat, ∀ q, xk_strs[j]? = some q → vk_R q.2.1 q.2.2.1 q.2.2.2.1 p.1 s ∧ va_O "java/lang/String" p.1 (fun a => s.heap.size ≤ a) s s.heap ∧ va_OF "java/lang/String" "coder" "B" (.int 0) p.1 (fun a => s.heap.size ≤ a) s s.heap ∧ va_OF "java/lang/String" "value" "[B" (.ref p.2) p.1 (fun a => s.heap.size ≤ a) s s.heap ∧ va_T .byte p.2 q.2.2.2.2.length (fun j => .int (q.2.2.2.2.getD j 0)) (fun a => s.heap.size ≤ a) s s.heap := by
    intro j
    cases h : xk_strs[j]? with
    | none => exact ⟨(0, 0), fun q hq => by cases hq⟩
    | some q =>
      have hm := List.mem_of_getElem? h
      obtain ⟨p, hp⟩ := str_of (Nat.lt_trans (strs_at q hm).2 (by decide)) (gt_all hts hgv q hm)
      exact ⟨p, fun q' hq' => by cases hq'; exact hp⟩
  obtain ⟨ad, had⟩ := Classical.axiomOfChoice hS
  refine ⟨(vAd s.heap.size t0 t1 t2 ad, fun k => if k = 0 then cI else if k = 1 then cJ else if k = 2 then cZ else if k = 3 then cB else cQ), (fun c => (D0 c).1, fun c => (D0 c).2), ⟨fun c q hq => hD0 c q hq, fun k q hq => ?_⟩, fun w hw => ?_, fun g i hg => if_pos hg, ⟨fun q hq => ?_, fun q hq => ?_, ?_, ?_, va_AO.of hao⟩⟩
  · match k, hq with
    | 0, hq => cases hq; exact ⟨fun n z => ⟨fun k h => (by cases h), kI, i2, oI, i3⟩, i1⟩
    | 1, hq => cases hq; exact ⟨fun n z => ⟨fun k h => (by cases h), kJ, j2, oJ, j3⟩, j1⟩
    | 2, hq => cases hq; exact ⟨fun n z => ⟨fun k h => (by cases h), kZ, z2, oZ, z3⟩, z1⟩
    | 3, hq => cases hq; exact ⟨fun n z => ⟨fun k h => (by cases h), kB, b2, oB, b3⟩, b1⟩
    | 4, hq => cases hq; exact ⟨fun n z => ⟨fun k h => (by cases h), kQ, q3, comp, q4⟩, kQ, comp, q3, q4, q1, q5⟩
    | k + 5, hq => simp [xw_tys] at hq
  · have hq := (List.mem_filter.mp hw).2
    have h9 := hts w (List.mem_filter.mp hw).1
    cases w <;> first | exact va_tabs rfl rfl h9 | (simp [xw_isN] at hq)
  · simp only [xk_stats, List.mem_cons, List.not_mem_nil, or_false] at hq
    rcases hq with rfl | rfl | rfl
    · exact ⟨s01, s02⟩
    · exact ⟨s11, s12⟩
    · exact ⟨s21, s22⟩
  · obtain ⟨r1, r2, r3, r4, r5⟩ := had q.1 q (strs_at q hq).1
    have e1 : xw_ad (vAd s.heap.size t0 t1 t2 ad, fun k => if k = 0 then cI else if k = 1 then cJ else if k = 2 then cZ else if k = 3 then cB else cQ) (40 + q.1) 0 = (ad q.1).1 := vAd_k
    have e2 : xw_ad (vAd s.heap.size t0 t1 t2 ad, fun k => if k = 0 then cI else if k = 1 then cJ else if k = 2 then cZ else if k = 3 then cB else cQ) (40 + q.1) 1 = (ad q.1).2 := vAd_v
    simp only [xk_str]
    rw [e1, e2]
    exact ⟨r1, r2, r3, r4, r5⟩
  · exact va_Zof (tb_in hts 489 (by decide +kernel)) (tb_in hts 146 (by decide +kernel)) (va_eqt (gv_in hgv 14 (by decide +kernel))) hA
  · exact va_Zqof (tb_in hts 505 (by decide +kernel)) (tb_in hts 148 (by decide +kernel)) (gv_in hgv 15 (by decide +kernel)) hA

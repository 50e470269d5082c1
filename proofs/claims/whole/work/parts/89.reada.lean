/-! ===== reading a tape ===== -/
def tAt (f : Nat → Int32) (l : Nat) (x : Int32) : Int32 := if x < 0 then -1 else if nI l ≤ x then -1 else f (xn x)
def isLet (x : Int32) : Bool := !(decide (x < 97)) && !(decide (122 < x))
def isDig (x : Int32) : Bool := !(decide (x < 48)) && !(decide (57 < x))
def isBlk (x : Int32) : Bool := decide (x = 32) || decide (x = 10)
theorem tAt_nI {f : Nat → Int32} {l p : Nat} (hp : p < 2 ^ 31) (hl : l < 2 ^ 31) : tAt f l (nI p) = if p < l then f p else -1 := by
  simp only [tAt]
  rw [if_neg (nI_pos hp)]
  by_cases c : p < l
  · rw [if_neg (fun q => absurd ((nI_leI hl hp).mp q) (by omega)), if_pos c, xn_nI hp]
  · rw [if_pos ((nI_leI hl hp).mpr (by omega)), if_neg c]
/-- the end of a run of bytes of a kind -/
def run (f : Nat → Int32) (l : Nat) (g : Int32 → Bool) (p : Nat) : Nat := p + fnd (fun i => !(g (f (p + i)))) (l - p)
theorem run_ge (f : Nat → Int32) (l : Nat) (g : Int32 → Bool) (p : Nat) : p ≤ run f l g p := Nat.le_add_right _ _
theorem run_le {f : Nat → Int32} {l : Nat} {g : Int32 → Bool} {p : Nat} (h : p ≤ l) : run f l g p ≤ l := by
  have := fnd_le (fun i => !(g (f (p + i)))) (l - p)
  simp only [run]; omega
def glu (f : Nat → Int32) (b : Nat) : Bool := decide (0 < b) && (isLet (f (b - 1)) || isDig (f (b - 1)))
def sbk (f : Nat → Int32) (l p : Nat) : Nat := run f l isBlk p
/-- the number that is spelt from b on, by its first five digits -/
def nv (f : Nat → Int32) (b : Nat) : Nat → Int32
  | 0 => 0
  | k + 1 => if k < 5 then nv f b k * 10 + f (b + k) - 48 else nv f b k
set_option maxHeartbeats 1000000 in
set_option maxRecDepth 10000 in
theorem c_X6_at {v : xw_V} {G : xw_G} {t : tp_T} {l : Nat} (g18 : G 18 = pc_T v t) (htl : tp_le t = nI l) (hl7 : l ≤ 700) (x : Int32) : xk_Con v yX6_at cX6_at 2 (some .int) 0 0 [.ref (xw_ad v 18 0), .int x] G (xk_ret (some (.int (tAt (tp_by t) l x))) G) := by
  refine xk_of (ls0 := [some (.ref (xw_ad v 18 0)), some (.int x)]) (by decide) rfl (Nat.le_of_ble_eq_true rfl) ?_
  intro κ z hk hz
  refine xj_iload_n (i := 1) hk dX6_at_0 rfl rfl ?_
  refine xj_if_lt (tgt := 21) hk dX6_at_1 (by decide) (fun c1 => ?_) (fun c1 => ?_)
  · refine xj_iconst (x := (-1)) hk dX6_at_21 (by decide) ?_
    refine xj_ireturn hk hz dX6_at_22 ?_
    simp only [tAt]; rw [if_pos c1]; exact ⟨rfl, rfl⟩
  · refine xj_iload_n (i := 1) hk dX6_at_4 rfl rfl ?_
    refine xj_aload_n (i := 0) hk dX6_at_5 rfl rfl ?_
    refine xj_getfield hk dX6_at_6 fl_X6_15 (xw_at g18 rfl) rfl ?_
    refine xj.eqi (x' := nI l) htl ?_
    refine xj_icmp_ge (tgt := 21) hk dX6_at_9 (by decide) (fun c9 => ?_) (fun c9 => ?_)
    · refine xj_iconst (x := (-1)) hk dX6_at_21 (by decide) ?_
      refine xj_ireturn hk hz dX6_at_22 ?_
      simp only [tAt]; rw [if_neg c1, if_pos c9]; exact ⟨rfl, rfl⟩
    · have hxi : xi x (xn x) 700 := by
        refine ⟨rfl, c1, ?_⟩
        obtain ⟨j, hj, rfl⟩ := nI_of c1
        rw [xn_nI hj]
        rcases Nat.lt_or_ge j l with q | q
        · omega
        · exact absurd ((nI_leI (a := l) (b := j) (by omega) hj).mpr q) c9
      refine xj_aload_n (i := 0) hk dX6_at_12 rfl rfl ?_
      refine xj_getfield hk dX6_at_13 fl_X6_9 (xw_at g18 rfl) rfl ?_
      refine xj_iload_n (i := 1) hk dX6_at_16 rfl rfl ?_
      refine xj_iaload (k := xn x) hk dX6_at_17 (xw_at g18 rfl) hxi ?_
      refine xj_goto (tgt := 22) hk dX6_at_18 (by decide) ?_
      refine xj_ireturn hk hz dX6_at_22 ?_
      simp only [tAt]; rw [if_neg c1, if_neg c9]; exact ⟨rfl, rfl⟩

set_option maxHeartbeats 1000000 in
set_option maxRecDepth 10000 in
theorem c_X7_isLetter {v : xw_V} {G : xw_G}  (x : Int32) : xk_Con v yX7_isLetter cX7_isLetter 1 (some .boolean) 0 0 [.int x] G (xk_ret (some (.int (xb (isLet x)))) G) := by
  refine xk_of (ls0 := [some (.int x)]) (by decide) rfl (Nat.le_of_ble_eq_true rfl) ?_
  intro κ z hk hz
  refine xj_iload_n (i := 0) hk dX7_isLetter_0 rfl rfl ?_
  refine xj_bipush (x := 97) hk dX7_isLetter_1 (by decide) ?_
  refine xj_icmp_lt (tgt := 16) hk dX7_isLetter_3 (by decide) (fun c3 => ?_) (fun c3 => ?_)
  · refine xj_iconst (x := 0) hk dX7_isLetter_16 (by decide) ?_
    refine xj_zreturn hk hz dX7_isLetter_17 (by decide) ?_
    exact ⟨by simp [isLet, xb, *], rfl⟩
  · refine xj_iload_n (i := 0) hk dX7_isLetter_6 rfl rfl ?_
    refine xj_bipush (x := 122) hk dX7_isLetter_7 (by decide) ?_
    refine xj_icmp_gt (tgt := 16) hk dX7_isLetter_9 (by decide) (fun c9 => ?_) (fun c9 => ?_)
    · refine xj_iconst (x := 0) hk dX7_isLetter_16 (by decide) ?_
      refine xj_zreturn hk hz dX7_isLetter_17 (by decide) ?_
      exact ⟨by simp [isLet, xb, *], rfl⟩
    · refine xj_iconst (x := 1) hk dX7_isLetter_12 (by decide) ?_
      refine xj_goto (tgt := 17) hk dX7_isLetter_13 (by decide) ?_
      refine xj_zreturn hk hz dX7_isLetter_17 (by decide) ?_
      exact ⟨by simp [isLet, xb, *], rfl⟩

set_option maxHeartbeats 1000000 in
set_option maxRecDepth 10000 in
theorem c_X7_isDigit {v : xw_V} {G : xw_G}  (x : Int32) : xk_Con v yX7_isDigit cX7_isDigit 1 (some .boolean) 0 0 [.int x] G (xk_ret (some (.int (xb (isDig x)))) G) := by
  refine xk_of (ls0 := [some (.int x)]) (by decide) rfl (Nat.le_of_ble_eq_true rfl) ?_
  intro κ z hk hz
  refine xj_iload_n (i := 0) hk dX7_isDigit_0 rfl rfl ?_
  refine xj_bipush (x := 48) hk dX7_isDigit_1 (by decide) ?_
  refine xj_icmp_lt (tgt := 16) hk dX7_isDigit_3 (by decide) (fun c3 => ?_) (fun c3 => ?_)
  · refine xj_iconst (x := 0) hk dX7_isDigit_16 (by decide) ?_
    refine xj_zreturn hk hz dX7_isDigit_17 (by decide) ?_
    exact ⟨by simp [isDig, xb, *], rfl⟩
  · refine xj_iload_n (i := 0) hk dX7_isDigit_6 rfl rfl ?_
    refine xj_bipush (x := 57) hk dX7_isDigit_7 (by decide) ?_
    refine xj_icmp_gt (tgt := 16) hk dX7_isDigit_9 (by decide) (fun c9 => ?_) (fun c9 => ?_)
    · refine xj_iconst (x := 0) hk dX7_isDigit_16 (by decide) ?_
      refine xj_zreturn hk hz dX7_isDigit_17 (by decide) ?_
      exact ⟨by simp [isDig, xb, *], rfl⟩
    · refine xj_iconst (x := 1) hk dX7_isDigit_12 (by decide) ?_
      refine xj_goto (tgt := 17) hk dX7_isDigit_13 (by decide) ?_
      refine xj_zreturn hk hz dX7_isDigit_17 (by decide) ?_
      exact ⟨by simp [isDig, xb, *], rfl⟩

set_option maxHeartbeats 1000000 in
set_option maxRecDepth 10000 in
theorem c_X7_isBlank {v : xw_V} {G : xw_G}  (x : Int32) : xk_Con v yX7_isBlank cX7_isBlank 1 (some .boolean) 0 0 [.int x] G (xk_ret (some (.int (xb (isBlk x)))) G) := by
  refine xk_of (ls0 := [some (.int x)]) (by decide) rfl (Nat.le_of_ble_eq_true rfl) ?_
  intro κ z hk hz
  refine xj_iload_n (i := 0) hk dX7_isBlank_0 rfl rfl ?_
  refine xj_bipush (x := 32) hk dX7_isBlank_1 (by decide) ?_
  refine xj_icmp_eq (tgt := 12) hk dX7_isBlank_3 (by decide) (fun c3 => ?_) (fun c3 => ?_)
  · refine xj_iconst (x := 1) hk dX7_isBlank_12 (by decide) ?_
    refine xj_goto (tgt := 17) hk dX7_isBlank_13 (by decide) ?_
    refine xj_zreturn hk hz dX7_isBlank_17 (by decide) ?_
    exact ⟨by simp [isBlk, xb, *], rfl⟩
  · refine xj_iload_n (i := 0) hk dX7_isBlank_6 rfl rfl ?_
    refine xj_bipush (x := 10) hk dX7_isBlank_7 (by decide) ?_
    refine xj_icmp_ne (tgt := 16) hk dX7_isBlank_9 (by decide) (fun c9 => ?_) (fun c9 => ?_)
    · refine xj_iconst (x := 0) hk dX7_isBlank_16 (by decide) ?_
      refine xj_zreturn hk hz dX7_isBlank_17 (by decide) ?_
      exact ⟨by simp [isBlk, xb, *], rfl⟩
    · refine xj_iconst (x := 1) hk dX7_isBlank_12 (by decide) ?_
      refine xj_goto (tgt := 17) hk dX7_isBlank_13 (by decide) ?_
      refine xj_zreturn hk hz dX7_isBlank_17 (by decide) ?_
      exact ⟨by simp [isBlk, xb, *], rfl⟩

set_option maxHeartbeats 1000000 in
set_option maxRecDepth 10000 in
theorem l_X3_skipBlanks {v : xw_V} {κ : xk_K} {post : Option Value → xw_G → Prop} {z : Nat × Nat × Nat} {G : xw_G} {t : tp_T} {l : Nat} {p : Nat} {ws fa : Int32} (hk : xk_Ok v κ yX3_skipBlanks cX3_skipBlanks 1 none 1 21) (hz : xk_zf κ = z) (g18 : G 18 = pc_T v t) (htl : tp_le t = nI l) (hl7 : l ≤ 700) (g19 : G 19 = pR v (nI p) ws fa) (hp : p ≤ l) (kx : xj v κ post z (xw_up G 19 (pR v (nI (run (tp_by t) l isBlk p)) ws fa)) 44 [some (.ref (xw_ad v 19 0))] []) : ∀ (m : Nat) (i : Nat), l - p - i < m → i ≤ l - p → fnd (fun i => !(isBlk (tp_by t (p + i)))) i = i → xj v κ post z (xw_up G 19 (pR v (nI (p + i)) ws fa)) 0 [some (.ref (xw_ad v 19 0))] [] := by
  intro m
  induction m with
  | zero => intro i h; exact absurd h (Nat.not_lt_zero _)
  | succ m ih =>
    intro i hm hi hf
    refine xj_aload_n (i := 0) hk dX3_skipBlanks_0 rfl rfl ?_
    refine xj_getfield hk dX3_skipBlanks_1 fl_X3_24 (xw_at xw_up_s rfl) rfl ?_
    refine xj_aload_n (i := 0) hk dX3_skipBlanks_4 rfl rfl ?_
    refine xj_getfield hk dX3_skipBlanks_5 fl_X3_9 (xw_at xw_up_s rfl) rfl ?_
    refine xj_getfield hk dX3_skipBlanks_8 fl_X3_34 (xw_at (show (xw_up G 19 (pR v (nI (p + i)) ws fa)) 18 = pc_T v t from by rw [xw_up_n (by decide), g18]) rfl) rfl ?_
    refine xj.eqi (x' := nI l) htl ?_
    refine xj_icmp_ge (tgt := 44) hk dX3_skipBlanks_11 (by decide) (fun c11 => ?_) (fun c11 => ?_)
    · have c11 : l ≤ p + i := (nI_leI (a := l) (b := p + i) (by omega) (by omega)).mp c11
      have e9 : run (tp_by t) l isBlk p = p + i := by simp only [run]; rw [show l - p = i by omega, hf]
      rw [← e9]
      exact kx
    · have c11 : ¬ l ≤ p + i := fun q => c11 ((nI_leI (a := l) (b := p + i) (by omega) (by omega)).mpr q)
      refine xj_aload_n (i := 0) hk dX3_skipBlanks_14 rfl rfl ?_
      refine xj_getfield hk dX3_skipBlanks_15 fl_X3_9 (xw_at xw_up_s rfl) rfl ?_
      refine xj_aload_n (i := 0) hk dX3_skipBlanks_18 rfl rfl ?_
      refine xj_getfield hk dX3_skipBlanks_19 fl_X3_24 (xw_at xw_up_s rfl) rfl ?_
      refine xj_callV hk hz (fr1 := 0) (lo1 := 0) (r1 := some (.int (tAt (tp_by t) l (nI (p + i))))) (As := [.int (nI (p + i))]) (st := []) (st2 := [.int (tAt (tp_by t) l (nI (p + i)))]) (G1 := xw_up G 19 (pR v (nI (p + i)) ws fa)) ml_X3_129 (c_X6_at (show (xw_up G 19 (pR v (nI (p + i)) ws fa)) 18 = pc_T v t from (show (xw_up G 19 (pR v (nI (p + i)) ws fa)) 18 = pc_T v t from by rw [xw_up_n (by decide), g18])) htl hl7 (nI (p + i))) (xw_at (show (xw_up G 19 (pR v (nI (p + i)) ws fa)) 18 = pc_T v t from by rw [xw_up_n (by decide), g18]) rfl) rfl dX3_skipBlanks_22 ⟨Nat.le_of_ble_eq_true rfl, Nat.le_of_ble_eq_true rfl⟩ rfl (Nat.le_of_ble_eq_true rfl) rfl rfl ?_
      refine xj_callS hk hz (fr1 := 0) (lo1 := 0) (r1 := some (.int (xb (isBlk (tAt (tp_by t) l (nI (p + i))))))) (As := [.int (tAt (tp_by t) l (nI (p + i)))]) (st := []) (st2 := [.int (xb (isBlk (tAt (tp_by t) l (nI (p + i)))))]) (G1 := xw_up G 19 (pR v (nI (p + i)) ws fa)) ml_X3_152 (c_X7_isBlank (tAt (tp_by t) l (nI (p + i)))) dX3_skipBlanks_25 ⟨Nat.le_of_ble_eq_true rfl, Nat.le_of_ble_eq_true rfl⟩ rfl (Nat.le_of_ble_eq_true rfl) rfl rfl ?_
      refine xj_ifb_eq (tgt := 44) hk dX3_skipBlanks_28 (by decide) (fun c28 => ?_) (fun c28 => ?_)
      · have c28' : isBlk (tp_by t (p + i)) = false := by rw [tAt_nI (by omega) (by omega), if_pos (by omega)] at c28; exact c28
        have e9 : run (tp_by t) l isBlk p = p + i := by simp only [run]; rw [fnd_at hf (show (!(isBlk (tp_by t (p + i)))) = true from by rw [c28']; rfl) (l - p) (by omega)]
        rw [← e9]
        exact kx
      · have c28' : isBlk (tp_by t (p + i)) = true := by rw [tAt_nI (by omega) (by omega), if_pos (by omega)] at c28; exact c28
        refine xj_aload_n (i := 0) hk dX3_skipBlanks_31 rfl rfl ?_
        refine xj_dup hk dX3_skipBlanks_32 rfl ?_
        refine xj_getfield hk dX3_skipBlanks_33 fl_X3_24 (xw_at xw_up_s rfl) rfl ?_
        refine xj_iconst (x := 1) hk dX3_skipBlanks_36 (by decide) ?_
        refine xj_iadd hk dX3_skipBlanks_37 ?_
        refine xj.eqi (x' := nI (p + (i + 1))) (nI_1 (p + i)) ?_
        refine xj_putfield (G2 := xw_up G 19 (pR v (nI (p + (i + 1))) ws fa)) hk dX3_skipBlanks_38 fl_X3_24 rfl rfl (xw_at xw_up_s rfl) (Nat.le_of_ble_eq_true rfl) (xw_wr2 rfl) ?_
        refine xj_goto (tgt := 0) hk dX3_skipBlanks_41 (by decide) ?_
        refine xj.eqG (G' := xw_up G 19 (pR v (nI (p + (i + 1))) ws fa)) (by rfl) (ih (i + 1) (by omega) (by omega) (fnd_no hf (show (!(isBlk (tp_by t (p + i)))) = false from by rw [c28']; rfl)))

set_option maxHeartbeats 1000000 in
set_option maxRecDepth 10000 in
theorem c_X3_skipBlanks {v : xw_V} {G : xw_G} {t : tp_T} {l : Nat} {p : Nat} {ws fa : Int32} (g18 : G 18 = pc_T v t) (htl : tp_le t = nI l) (hl7 : l ≤ 700) (g19 : G 19 = pR v (nI p) ws fa) (hp : p ≤ l) : xk_Con v yX3_skipBlanks cX3_skipBlanks 1 none 1 21 [.ref (xw_ad v 19 0)] G (xk_ret none (xw_up G 19 (pR v (nI (sbk (tp_by t) l p)) ws fa))) := by
  refine xk_of (ls0 := [some (.ref (xw_ad v 19 0))]) (by decide) rfl (Nat.le_of_ble_eq_true rfl) ?_
  intro κ z hk hz
  refine xj.eqG (G' := xw_up G 19 (pR v (nI (p + 0)) ws fa)) (by rw [Nat.add_zero]; exact (xw_up_same g19).symm) ?_
  refine l_X3_skipBlanks hk hz g18 htl hl7 g19 hp ?_ (l - p + 1) 0 (by omega) (by omega) rfl
  refine xj_return hk hz dX3_skipBlanks_44 ?_
  exact ⟨rfl, rfl⟩


/-- the first n places are another row's -/
def cpN {α : Type} (n : Nat) (f' f : Nat → α) : Nat → α := fun j => if j < n then f' j else f j
theorem cp_0 {α : Type} (f' f : Nat → α) : cpN 0 f' f = f := by funext j; simp [cpN]
theorem cp_s {α : Type} (n : Nat) (f' f : Nat → α) : xu (cpN n f' f) n (f' n) = cpN (n + 1) f' f := by
  funext j
  simp only [xu, cpN]
  by_cases h : j = n
  · subst h; simp
  · by_cases h2 : j < n
    · simp [h, h2, Nat.lt_succ_of_lt h2]
    · simp [h, h2, show ¬ j < n + 1 by omega]
theorem cp_sc {α : Type} (n : Nat) (x : α) (f : Nat → α) : xu (cpN n (fun _ => x) f) n x = cpN (n + 1) (fun _ => x) f := cp_s n (fun _ => x) f
/-- shifted up from place a to place b, by one -/
def shU {α : Type} (a b : Nat) (f : Nat → α) : Nat → α := fun j => if a < j ∧ j ≤ b then f (j - 1) else f j
theorem shU_0 {α : Type} (b : Nat) (f : Nat → α) : shU b b f = f := by funext j; simp only [shU]; rw [if_neg (by omega)]
theorem shU_s {α : Type} {a b : Nat} (f : Nat → α) (h : 0 < a) (h2 : a ≤ b) : xu (shU a b f) a (shU a b f (a - 1)) = shU (a - 1) b f := by
  funext j
  simp only [xu, shU]
  by_cases h3 : j = a
  · subst h3
    rw [if_pos rfl, if_neg (by omega), if_pos (by omega)]
  · rw [if_neg h3]
    by_cases h4 : a < j ∧ j ≤ b
    · rw [if_pos h4, if_pos (by omega)]
    · rw [if_neg h4, if_neg (by omega)]
/-- shifted down from place a on, up to place b -/
def shD {α : Type} (a b : Nat) (f : Nat → α) : Nat → α := fun j => if a ≤ j ∧ j < b then f (j + 1) else f j
theorem shD_0 {α : Type} (a : Nat) (f : Nat → α) : shD a a f = f := by funext j; simp only [shD]; rw [if_neg (by omega)]
theorem shD_s {α : Type} {a b : Nat} (f : Nat → α) (h : a ≤ b) : xu (shD a b f) b (shD a b f (b + 1)) = shD a (b + 1) f := by
  funext j
  simp only [xu, shD]
  by_cases h3 : j = b
  · subst h3
    rw [if_pos rfl, if_neg (by omega), if_pos (by omega)]
  · rw [if_neg h3]
    by_cases h4 : a ≤ j ∧ j < b
    · rw [if_pos h4, if_pos (by omega)]
    · rw [if_neg h4, if_neg (by omega)]
def st_FIRST : Nat → Int32 := fun k => ([100, 35, 20, 0, 999, 90, 0] : List Int32).getD k 0
def st_LEAST : Nat → Int32 := fun k => ([1, 1, 0, 0, 0, 1, 0] : List Int32).getD k 0
def st_MOST : Nat → Int32 := fun k => ([2000, 100, 100, 999, 999, 360, 1] : List Int32).getD k 0
/-- the last place that differs from -2: least, greatest, mean -/
def gst (f : Nat → Int32) : Nat → Int32
  | 0 => -2
  | k + 1 => if gst f k < f k then f k else gst f k
def lst (f : Nat → Int32) : Nat → Int32
  | 0 => -2
  | k + 1 => if ¬ f k = -2 ∧ (lst f k = -2 ∨ ¬ lst f k ≤ f k) then f k else lst f k
def nz2 (f : Nat → Int32) : Nat → Int32 := fun k => if f k = -2 then 0 else f k
def ct2 (f : Nat → Int32) : Nat → Int32 := fun k => if f k = -2 then 0 else 1
def mst (f : Nat → Int32) (n : Nat) : Int32 := if sm (ct2 f) n ≤ 0 then -2 else sm (nz2 f) n / sm (ct2 f) n
set_option maxHeartbeats 1000000 in
set_option maxRecDepth 10000 in
theorem c_X1_hasLine {v : xw_V} {G : xw_G} {g : Nat} {B : bk_T} (hB : G g = pc_B v g B) (x : Int32) : xk_Con v yX1_hasLine cX1_hasLine 2 (some .boolean) 0 0 [.ref (xw_ad v g 7), .int x] G (xk_ret (some (.int (xb (hasB (bk_ln B) x)))) G) := by
  refine xk_of (ls0 := [some (.ref (xw_ad v g 7)), some (.int x)]) (by decide) rfl (Nat.le_of_ble_eq_true rfl) ?_
  intro κ z hk hz
  refine xj_iload_n (i := 1) hk dX1_hasLine_0 rfl rfl ?_
  refine xj_if_lt (tgt := 16) hk dX1_hasLine_1 (by decide) (fun c1 => ?_) (fun c1 => ?_)
  · refine xj_iconst (x := 0) hk dX1_hasLine_16 (by decide) ?_
    refine xj_zreturn hk hz dX1_hasLine_17 (by decide) ?_
    exact ⟨by simp [hasB, xb, *], rfl⟩
  · refine xj_iload_n (i := 1) hk dX1_hasLine_4 rfl rfl ?_
    refine xj_aload_n (i := 0) hk dX1_hasLine_5 rfl rfl ?_
    refine xj_getfield hk dX1_hasLine_6 fl_X1_25 (xw_at hB rfl) rfl ?_
    refine xj_icmp_ge (tgt := 16) hk dX1_hasLine_9 (by decide) (fun c9 => ?_) (fun c9 => ?_)
    · refine xj_iconst (x := 0) hk dX1_hasLine_16 (by decide) ?_
      refine xj_zreturn hk hz dX1_hasLine_17 (by decide) ?_
      exact ⟨by simp [hasB, xb, *], rfl⟩
    · refine xj_iconst (x := 1) hk dX1_hasLine_12 (by decide) ?_
      refine xj_goto (tgt := 17) hk dX1_hasLine_13 (by decide) ?_
      refine xj_zreturn hk hz dX1_hasLine_17 (by decide) ?_
      exact ⟨by simp [hasB, xb, *], rfl⟩

set_option maxHeartbeats 1000000 in
set_option maxRecDepth 10000 in
theorem l_X1_soldInAll_4 {v : xw_V} {κ : xk_K} {post : Option Value → xw_G → Prop} {z : Nat × Nat × Nat} {G : xw_G} {g : Nat} {B : bk_T} {r : Nat} (hk : xk_Ok v κ yX1_soldInAll cX1_soldInAll 3 (some .int) 0 0) (hz : xk_zf κ = z) (hB : G g = pc_B v g B) (hr : bk_ln B = nI r) (hr8 : r ≤ 8) (kx : xj v κ post z G 27 [some (.ref (xw_ad v g 7)), some (.int (sm (bk_so B) r)), some (.int (nI r))] []) : ∀ (m : Nat) (k : Nat), r - k < m → k ≤ r → xj v κ post z G 4 [some (.ref (xw_ad v g 7)), some (.int (sm (bk_so B) k)), some (.int (nI k))] [] := by
  intro m
  induction m with
  | zero => intro k h; exact absurd h (Nat.not_lt_zero _)
  | succ m ih =>
    intro k hm hi
    refine xj_iload_n (i := 2) hk dX1_soldInAll_4 rfl rfl ?_
    refine xj_aload_n (i := 0) hk dX1_soldInAll_5 rfl rfl ?_
    refine xj_getfield hk dX1_soldInAll_6 fl_X1_25 (xw_at hB rfl) rfl ?_
    refine xj.eqi (x' := nI r) hr ?_
    refine xj_icmp_ge (tgt := 27) hk dX1_soldInAll_9 (by decide) (fun c9 => ?_) (fun c9 => ?_)
    · have c9 : r ≤ k := (nI_leI (a := r) (b := k) (by omega) (by omega)).mp c9
      have e9 : k = r := by omega
      subst e9
      exact kx
    · have c9 : ¬ r ≤ k := fun q => c9 ((nI_leI (a := r) (b := k) (by omega) (by omega)).mpr q)
      refine xj_iload_n (i := 1) hk dX1_soldInAll_12 rfl rfl ?_
      refine xj_aload_n (i := 0) hk dX1_soldInAll_13 rfl rfl ?_
      refine xj_getfield hk dX1_soldInAll_14 fl_X1_18 (xw_at hB rfl) rfl ?_
      refine xj_iload_n (i := 2) hk dX1_soldInAll_17 rfl rfl ?_
      refine xj_iaload (k := k) hk dX1_soldInAll_18 (xw_at hB rfl) (xi_n (by omega) (by decide)) ?_
      refine xj_iadd hk dX1_soldInAll_19 ?_
      refine xj_istore_n (i := 1) (ls2 := [some (.ref (xw_ad v g 7)), some (.int ((sm (bk_so B) k) + (bk_so B k))), some (.int (nI k))]) hk dX1_soldInAll_20 rfl (by decide) rfl rfl ?_
      refine xj_iinc (i := 2) (x2 := nI (k + 1)) (ls2 := [some (.ref (xw_ad v g 7)), some (.int ((sm (bk_so B) k) + (bk_so B k))), some (.int (nI (k + 1)))]) hk dX1_soldInAll_21 rfl (nI_1 k) (by decide) rfl rfl ?_
      refine xj_goto (tgt := 4) hk dX1_soldInAll_24 (by decide) ?_
      refine xj.to (ls' := [some (.ref (xw_ad v g 7)), some (.int (sm (bk_so B) ((k + 1)))), some (.int (nI ((k + 1))))]) (by simp [sm, *]) (ih (k + 1) (by omega) (by omega))

set_option maxHeartbeats 1000000 in
set_option maxRecDepth 10000 in
theorem c_X1_soldInAll {v : xw_V} {G : xw_G} {g : Nat} {B : bk_T} {r : Nat} (hB : G g = pc_B v g B) (hr : bk_ln B = nI r) (hr8 : r ≤ 8) : xk_Con v yX1_soldInAll cX1_soldInAll 3 (some .int) 0 0 [.ref (xw_ad v g 7)] G (xk_ret (some (.int (sm (bk_so B) r))) G) := by
  refine xk_of (ls0 := [some (.ref (xw_ad v g 7)), none, none]) (by decide) rfl (Nat.le_of_ble_eq_true rfl) ?_
  intro κ z hk hz
  refine xj_iconst (x := 0) hk dX1_soldInAll_0 (by decide) ?_
  refine xj_istore_n (i := 1) (ls2 := [some (.ref (xw_ad v g 7)), some (.int 0), none]) hk dX1_soldInAll_1 rfl (by decide) rfl rfl ?_
  refine xj_iconst (x := 0) hk dX1_soldInAll_2 (by decide) ?_
  refine xj_istore_n (i := 2) (ls2 := [some (.ref (xw_ad v g 7)), some (.int 0), some (.int 0)]) hk dX1_soldInAll_3 rfl (by decide) rfl rfl ?_
  refine l_X1_soldInAll_4 hk hz hB hr hr8 ?_ (r + 1) 0 (by omega) (by omega)
  refine xj_iload_n (i := 1) hk dX1_soldInAll_27 rfl rfl ?_
  refine xj_ireturn hk hz dX1_soldInAll_28 ?_
  exact ⟨rfl, rfl⟩

set_option maxHeartbeats 1000000 in
set_option maxRecDepth 10000 in
theorem l_X1_greatestStop_5 {v : xw_V} {κ : xk_K} {post : Option Value → xw_G → Prop} {z : Nat × Nat × Nat} {G : xw_G} {g : Nat} {B : bk_T} {r : Nat} (hk : xk_Ok v κ yX1_greatestStop cX1_greatestStop 3 (some .int) 1 21) (hz : xk_zf κ = z) (hB : G g = pc_B v g B) (hr : bk_ln B = nI r) (hr8 : r ≤ 8) (kx : xj v κ post z G 30 [some (.ref (xw_ad v g 7)), some (.int (gst (bk_st B) r)), some (.int (nI r))] []) : ∀ (m : Nat) (k : Nat), r - k < m → k ≤ r → xj v κ post z G 5 [some (.ref (xw_ad v g 7)), some (.int (gst (bk_st B) k)), some (.int (nI k))] [] := by
  intro m
  induction m with
  | zero => intro k h; exact absurd h (Nat.not_lt_zero _)
  | succ m ih =>
    intro k hm hi
    refine xj_iload_n (i := 2) hk dX1_greatestStop_5 rfl rfl ?_
    refine xj_aload_n (i := 0) hk dX1_greatestStop_6 rfl rfl ?_
    refine xj_getfield hk dX1_greatestStop_7 fl_X1_25 (xw_at hB rfl) rfl ?_
    refine xj.eqi (x' := nI r) hr ?_
    refine xj_icmp_ge (tgt := 30) hk dX1_greatestStop_10 (by decide) (fun c10 => ?_) (fun c10 => ?_)
    · have c10 : r ≤ k := (nI_leI (a := r) (b := k) (by omega) (by omega)).mp c10
      have e9 : k = r := by omega
      subst e9
      exact kx
    · have c10 : ¬ r ≤ k := fun q => c10 ((nI_leI (a := r) (b := k) (by omega) (by omega)).mpr q)
      refine xj_iload_n (i := 1) hk dX1_greatestStop_13 rfl rfl ?_
      refine xj_aload_n (i := 0) hk dX1_greatestStop_14 rfl rfl ?_
      refine xj_getfield hk dX1_greatestStop_15 fl_X1_9 (xw_at hB rfl) rfl ?_
      refine xj_iload_n (i := 2) hk dX1_greatestStop_18 rfl rfl ?_
      refine xj_iaload (k := k) hk dX1_greatestStop_19 (xw_at hB rfl) (xi_n (by omega) (by decide)) ?_
      refine xj_max hk hz dX1_greatestStop_20 mm_X1_35 (by decide) (Nat.le_of_ble_eq_true rfl) mm_max.1 mm_max.2.1 mm_max.2.2 ?_
      refine xj_istore_n (i := 1) (ls2 := [some (.ref (xw_ad v g 7)), some (.int (if gst (bk_st B) k < bk_st B k then bk_st B k else gst (bk_st B) k)), some (.int (nI k))]) hk dX1_greatestStop_23 rfl (by decide) rfl rfl ?_
      refine xj_iinc (i := 2) (x2 := nI (k + 1)) (ls2 := [some (.ref (xw_ad v g 7)), some (.int (if gst (bk_st B) k < bk_st B k then bk_st B k else gst (bk_st B) k)), some (.int (nI (k + 1)))]) hk dX1_greatestStop_24 rfl (nI_1 k) (by decide) rfl rfl ?_
      refine xj_goto (tgt := 5) hk dX1_greatestStop_27 (by decide) ?_
      refine xj.to (ls' := [some (.ref (xw_ad v g 7)), some (.int (gst (bk_st B) ((k + 1)))), some (.int (nI ((k + 1))))]) (by simp [sm, gst, *]) (ih (k + 1) (by omega) (by omega))

set_option maxHeartbeats 1000000 in
set_option maxRecDepth 10000 in
theorem c_X1_greatestStop {v : xw_V} {G : xw_G} {g : Nat} {B : bk_T} {r : Nat} (hB : G g = pc_B v g B) (hr : bk_ln B = nI r) (hr8 : r ≤ 8) : xk_Con v yX1_greatestStop cX1_greatestStop 3 (some .int) 1 21 [.ref (xw_ad v g 7)] G (xk_ret (some (.int (gst (bk_st B) r))) G) := by
  refine xk_of (ls0 := [some (.ref (xw_ad v g 7)), none, none]) (by decide) rfl (Nat.le_of_ble_eq_true rfl) ?_
  intro κ z hk hz
  refine xj_bipush (x := (-2)) hk dX1_greatestStop_0 (by decide) ?_
  refine xj_istore_n (i := 1) (ls2 := [some (.ref (xw_ad v g 7)), some (.int ((-2))), none]) hk dX1_greatestStop_2 rfl (by decide) rfl rfl ?_
  refine xj_iconst (x := 0) hk dX1_greatestStop_3 (by decide) ?_
  refine xj_istore_n (i := 2) (ls2 := [some (.ref (xw_ad v g 7)), some (.int ((-2))), some (.int 0)]) hk dX1_greatestStop_4 rfl (by decide) rfl rfl ?_
  refine l_X1_greatestStop_5 hk hz hB hr hr8 ?_ (r + 1) 0 (by omega) (by omega)
  refine xj_iload_n (i := 1) hk dX1_greatestStop_30 rfl rfl ?_
  refine xj_ireturn hk hz dX1_greatestStop_31 ?_
  exact ⟨rfl, rfl⟩

set_option maxHeartbeats 1000000 in
set_option maxRecDepth 10000 in
theorem l_X1_leastStop_5 {v : xw_V} {κ : xk_K} {post : Option Value → xw_G → Prop} {z : Nat × Nat × Nat} {G : xw_G} {g : Nat} {B : bk_T} {r : Nat} (hk : xk_Ok v κ yX1_leastStop cX1_leastStop 3 (some .int) 0 0) (hz : xk_zf κ = z) (hB : G g = pc_B v g B) (hr : bk_ln B = nI r) (hr8 : r ≤ 8) (kx : xj v κ post z G 53 [some (.ref (xw_ad v g 7)), some (.int (lst (bk_st B) r)), some (.int (nI r))] []) : ∀ (m : Nat) (k : Nat), r - k < m → k ≤ r → xj v κ post z G 5 [some (.ref (xw_ad v g 7)), some (.int (lst (bk_st B) k)), some (.int (nI k))] [] := by
  intro m
  induction m with
  | zero => intro k h; exact absurd h (Nat.not_lt_zero _)
  | succ m ih =>
    intro k hm hi
    refine xj_iload_n (i := 2) hk dX1_leastStop_5 rfl rfl ?_
    refine xj_aload_n (i := 0) hk dX1_leastStop_6 rfl rfl ?_
    refine xj_getfield hk dX1_leastStop_7 fl_X1_25 (xw_at hB rfl) rfl ?_
    refine xj.eqi (x' := nI r) hr ?_
    refine xj_icmp_ge (tgt := 53) hk dX1_leastStop_10 (by decide) (fun c10 => ?_) (fun c10 => ?_)
    · have c10 : r ≤ k := (nI_leI (a := r) (b := k) (by omega) (by omega)).mp c10
      have e9 : k = r := by omega
      subst e9
      exact kx
    · have c10 : ¬ r ≤ k := fun q => c10 ((nI_leI (a := r) (b := k) (by omega) (by omega)).mpr q)
      refine xj_aload_n (i := 0) hk dX1_leastStop_13 rfl rfl ?_
      refine xj_getfield hk dX1_leastStop_14 fl_X1_9 (xw_at hB rfl) rfl ?_
      refine xj_iload_n (i := 2) hk dX1_leastStop_17 rfl rfl ?_
      refine xj_iaload (k := k) hk dX1_leastStop_18 (xw_at hB rfl) (xi_n (by omega) (by decide)) ?_
      refine xj_bipush (x := (-2)) hk dX1_leastStop_19 (by decide) ?_
      refine xj_icmp_eq (tgt := 47) hk dX1_leastStop_21 (by decide) (fun c21 => ?_) (fun c21 => ?_)
      · refine xj_iinc (i := 2) (x2 := nI (k + 1)) (ls2 := [some (.ref (xw_ad v g 7)), some (.int (lst (bk_st B) k)), some (.int (nI (k + 1)))]) hk dX1_leastStop_47 rfl (nI_1 k) (by decide) rfl rfl ?_
        refine xj_goto (tgt := 5) hk dX1_leastStop_50 (by decide) ?_
        refine xj.to (ls' := [some (.ref (xw_ad v g 7)), some (.int (lst (bk_st B) ((k + 1)))), some (.int (nI ((k + 1))))]) (by simp [sm, lst, *]) (ih (k + 1) (by omega) (by omega))
      · refine xj_iload_n (i := 1) hk dX1_leastStop_24 rfl rfl ?_
        refine xj_bipush (x := (-2)) hk dX1_leastStop_25 (by decide) ?_
        refine xj_icmp_eq (tgt := 40) hk dX1_leastStop_27 (by decide) (fun c27 => ?_) (fun c27 => ?_)
        · refine xj_aload_n (i := 0) hk dX1_leastStop_40 rfl rfl ?_
          refine xj_getfield hk dX1_leastStop_41 fl_X1_9 (xw_at hB rfl) rfl ?_
          refine xj_iload_n (i := 2) hk dX1_leastStop_44 rfl rfl ?_
          refine xj_iaload (k := k) hk dX1_leastStop_45 (xw_at hB rfl) (xi_n (by omega) (by decide)) ?_
          refine xj_istore_n (i := 1) (ls2 := [some (.ref (xw_ad v g 7)), some (.int (bk_st B k)), some (.int (nI k))]) hk dX1_leastStop_46 rfl (by decide) rfl rfl ?_
          refine xj_iinc (i := 2) (x2 := nI (k + 1)) (ls2 := [some (.ref (xw_ad v g 7)), some (.int (bk_st B k)), some (.int (nI (k + 1)))]) hk dX1_leastStop_47 rfl (nI_1 k) (by decide) rfl rfl ?_
          refine xj_goto (tgt := 5) hk dX1_leastStop_50 (by decide) ?_
          refine xj.to (ls' := [some (.ref (xw_ad v g 7)), some (.int (lst (bk_st B) ((k + 1)))), some (.int (nI ((k + 1))))]) (by simp [sm, lst, *]) (ih (k + 1) (by omega) (by omega))
        · refine xj_aload_n (i := 0) hk dX1_leastStop_30 rfl rfl ?_
          refine xj_getfield hk dX1_leastStop_31 fl_X1_9 (xw_at hB rfl) rfl ?_
          refine xj_iload_n (i := 2) hk dX1_leastStop_34 rfl rfl ?_
          refine xj_iaload (k := k) hk dX1_leastStop_35 (xw_at hB rfl) (xi_n (by omega) (by decide)) ?_
          refine xj_iload_n (i := 1) hk dX1_leastStop_36 rfl rfl ?_
          refine xj_icmp_ge (tgt := 47) hk dX1_leastStop_37 (by decide) (fun c37 => ?_) (fun c37 => ?_)
          · refine xj_iinc (i := 2) (x2 := nI (k + 1)) (ls2 := [some (.ref (xw_ad v g 7)), some (.int (lst (bk_st B) k)), some (.int (nI (k + 1)))]) hk dX1_leastStop_47 rfl (nI_1 k) (by decide) rfl rfl ?_
            refine xj_goto (tgt := 5) hk dX1_leastStop_50 (by decide) ?_
            refine xj.to (ls' := [some (.ref (xw_ad v g 7)), some (.int (lst (bk_st B) ((k + 1)))), some (.int (nI ((k + 1))))]) (by simp [sm, lst, *]) (ih (k + 1) (by omega) (by omega))
          · refine xj_aload_n (i := 0) hk dX1_leastStop_40 rfl rfl ?_
            refine xj_getfield hk dX1_leastStop_41 fl_X1_9 (xw_at hB rfl) rfl ?_
            refine xj_iload_n (i := 2) hk dX1_leastStop_44 rfl rfl ?_
            refine xj_iaload (k := k) hk dX1_leastStop_45 (xw_at hB rfl) (xi_n (by omega) (by decide)) ?_
            refine xj_istore_n (i := 1) (ls2 := [some (.ref (xw_ad v g 7)), some (.int (bk_st B k)), some (.int (nI k))]) hk dX1_leastStop_46 rfl (by decide) rfl rfl ?_
            refine xj_iinc (i := 2) (x2 := nI (k + 1)) (ls2 := [some (.ref (xw_ad v g 7)), some (.int (bk_st B k)), some (.int (nI (k + 1)))]) hk dX1_leastStop_47 rfl (nI_1 k) (by decide) rfl rfl ?_
            refine xj_goto (tgt := 5) hk dX1_leastStop_50 (by decide) ?_
            refine xj.to (ls' := [some (.ref (xw_ad v g 7)), some (.int (lst (bk_st B) ((k + 1)))), some (.int (nI ((k + 1))))]) (by simp [sm, lst, *]) (ih (k + 1) (by omega) (by omega))

set_option maxHeartbeats 1000000 in
set_option maxRecDepth 10000 in
theorem c_X1_leastStop {v : xw_V} {G : xw_G} {g : Nat} {B : bk_T} {r : Nat} (hB : G g = pc_B v g B) (hr : bk_ln B = nI r) (hr8 : r ≤ 8) : xk_Con v yX1_leastStop cX1_leastStop 3 (some .int) 0 0 [.ref (xw_ad v g 7)] G (xk_ret (some (.int (lst (bk_st B) r))) G) := by
  refine xk_of (ls0 := [some (.ref (xw_ad v g 7)), none, none]) (by decide) rfl (Nat.le_of_ble_eq_true rfl) ?_
  intro κ z hk hz
  refine xj_bipush (x := (-2)) hk dX1_leastStop_0 (by decide) ?_
  refine xj_istore_n (i := 1) (ls2 := [some (.ref (xw_ad v g 7)), some (.int ((-2))), none]) hk dX1_leastStop_2 rfl (by decide) rfl rfl ?_
  refine xj_iconst (x := 0) hk dX1_leastStop_3 (by decide) ?_
  refine xj_istore_n (i := 2) (ls2 := [some (.ref (xw_ad v g 7)), some (.int ((-2))), some (.int 0)]) hk dX1_leastStop_4 rfl (by decide) rfl rfl ?_
  refine l_X1_leastStop_5 hk hz hB hr hr8 ?_ (r + 1) 0 (by omega) (by omega)
  refine xj_iload_n (i := 1) hk dX1_leastStop_53 rfl rfl ?_
  refine xj_ireturn hk hz dX1_leastStop_54 ?_
  exact ⟨rfl, rfl⟩

set_option maxHeartbeats 1000000 in
set_option maxRecDepth 10000 in
theorem l_X1_meanStop_6 {v : xw_V} {κ : xk_K} {post : Option Value → xw_G → Prop} {z : Nat × Nat × Nat} {G : xw_G} {g : Nat} {B : bk_T} {r : Nat} (hk : xk_Ok v κ yX1_meanStop cX1_meanStop 4 (some .int) 0 0) (hz : xk_zf κ = z) (hB : G g = pc_B v g B) (hr : bk_ln B = nI r) (hr8 : r ≤ 8) (kx : xj v κ post z G 43 [some (.ref (xw_ad v g 7)), some (.int (sm (nz2 (bk_st B)) r)), some (.int (sm (ct2 (bk_st B)) r)), some (.int (nI r))] []) : ∀ (m : Nat) (k : Nat), r - k < m → k ≤ r → xj v κ post z G 6 [some (.ref (xw_ad v g 7)), some (.int (sm (nz2 (bk_st B)) k)), some (.int (sm (ct2 (bk_st B)) k)), some (.int (nI k))] [] := by
  intro m
  induction m with
  | zero => intro k h; exact absurd h (Nat.not_lt_zero _)
  | succ m ih =>
    intro k hm hi
    refine xj_iload_n (i := 3) hk dX1_meanStop_6 rfl rfl ?_
    refine xj_aload_n (i := 0) hk dX1_meanStop_7 rfl rfl ?_
    refine xj_getfield hk dX1_meanStop_8 fl_X1_25 (xw_at hB rfl) rfl ?_
    refine xj.eqi (x' := nI r) hr ?_
    refine xj_icmp_ge (tgt := 43) hk dX1_meanStop_11 (by decide) (fun c11 => ?_) (fun c11 => ?_)
    · have c11 : r ≤ k := (nI_leI (a := r) (b := k) (by omega) (by omega)).mp c11
      have e9 : k = r := by omega
      subst e9
      exact kx
    · have c11 : ¬ r ≤ k := fun q => c11 ((nI_leI (a := r) (b := k) (by omega) (by omega)).mpr q)
      refine xj_aload_n (i := 0) hk dX1_meanStop_14 rfl rfl ?_
      refine xj_getfield hk dX1_meanStop_15 fl_X1_9 (xw_at hB rfl) rfl ?_
      refine xj_iload_n (i := 3) hk dX1_meanStop_18 rfl rfl ?_
      refine xj_iaload (k := k) hk dX1_meanStop_19 (xw_at hB rfl) (xi_n (by omega) (by decide)) ?_
      refine xj_bipush (x := (-2)) hk dX1_meanStop_20 (by decide) ?_
      refine xj_icmp_eq (tgt := 37) hk dX1_meanStop_22 (by decide) (fun c22 => ?_) (fun c22 => ?_)
      · refine xj_iinc (i := 3) (x2 := nI (k + 1)) (ls2 := [some (.ref (xw_ad v g 7)), some (.int (sm (nz2 (bk_st B)) k)), some (.int (sm (ct2 (bk_st B)) k)), some (.int (nI (k + 1)))]) hk dX1_meanStop_37 rfl (nI_1 k) (by decide) rfl rfl ?_
        refine xj_goto (tgt := 6) hk dX1_meanStop_40 (by decide) ?_
        refine xj.to (ls' := [some (.ref (xw_ad v g 7)), some (.int (sm (nz2 (bk_st B)) ((k + 1)))), some (.int (sm (ct2 (bk_st B)) ((k + 1)))), some (.int (nI ((k + 1))))]) (by simp [sm, nz2, ct2, *]) (ih (k + 1) (by omega) (by omega))
      · refine xj_iload_n (i := 1) hk dX1_meanStop_25 rfl rfl ?_
        refine xj_aload_n (i := 0) hk dX1_meanStop_26 rfl rfl ?_
        refine xj_getfield hk dX1_meanStop_27 fl_X1_9 (xw_at hB rfl) rfl ?_
        refine xj_iload_n (i := 3) hk dX1_meanStop_30 rfl rfl ?_
        refine xj_iaload (k := k) hk dX1_meanStop_31 (xw_at hB rfl) (xi_n (by omega) (by decide)) ?_
        refine xj_iadd hk dX1_meanStop_32 ?_
        refine xj_istore_n (i := 1) (ls2 := [some (.ref (xw_ad v g 7)), some (.int ((sm (nz2 (bk_st B)) k) + (bk_st B k))), some (.int (sm (ct2 (bk_st B)) k)), some (.int (nI k))]) hk dX1_meanStop_33 rfl (by decide) rfl rfl ?_
        refine xj_iinc (i := 2) (x2 := (sm (ct2 (bk_st B)) k) + 1) (ls2 := [some (.ref (xw_ad v g 7)), some (.int ((sm (nz2 (bk_st B)) k) + (bk_st B k))), some (.int ((sm (ct2 (bk_st B)) k) + 1)), some (.int (nI k))]) hk dX1_meanStop_34 rfl rfl (by decide) rfl rfl ?_
        refine xj_iinc (i := 3) (x2 := nI (k + 1)) (ls2 := [some (.ref (xw_ad v g 7)), some (.int ((sm (nz2 (bk_st B)) k) + (bk_st B k))), some (.int ((sm (ct2 (bk_st B)) k) + 1)), some (.int (nI (k + 1)))]) hk dX1_meanStop_37 rfl (nI_1 k) (by decide) rfl rfl ?_
        refine xj_goto (tgt := 6) hk dX1_meanStop_40 (by decide) ?_
        refine xj.to (ls' := [some (.ref (xw_ad v g 7)), some (.int (sm (nz2 (bk_st B)) ((k + 1)))), some (.int (sm (ct2 (bk_st B)) ((k + 1)))), some (.int (nI ((k + 1))))]) (by simp [sm, nz2, ct2, *]) (ih (k + 1) (by omega) (by omega))

set_option maxHeartbeats 1000000 in
set_option maxRecDepth 10000 in
theorem c_X1_meanStop {v : xw_V} {G : xw_G} {g : Nat} {B : bk_T} {r : Nat} (hB : G g = pc_B v g B) (hr : bk_ln B = nI r) (hr8 : r ≤ 8) : xk_Con v yX1_meanStop cX1_meanStop 4 (some .int) 0 0 [.ref (xw_ad v g 7)] G (xk_ret (some (.int (mst (bk_st B) r))) G) := by
  refine xk_of (ls0 := [some (.ref (xw_ad v g 7)), none, none, none]) (by decide) rfl (Nat.le_of_ble_eq_true rfl) ?_
  intro κ z hk hz
  refine xj_iconst (x := 0) hk dX1_meanStop_0 (by decide) ?_
  refine xj_istore_n (i := 1) (ls2 := [some (.ref (xw_ad v g 7)), some (.int 0), none, none]) hk dX1_meanStop_1 rfl (by decide) rfl rfl ?_
  refine xj_iconst (x := 0) hk dX1_meanStop_2 (by decide) ?_
  refine xj_istore_n (i := 2) (ls2 := [some (.ref (xw_ad v g 7)), some (.int 0), some (.int 0), none]) hk dX1_meanStop_3 rfl (by decide) rfl rfl ?_
  refine xj_iconst (x := 0) hk dX1_meanStop_4 (by decide) ?_
  refine xj_istore_n (i := 3) (ls2 := [some (.ref (xw_ad v g 7)), some (.int 0), some (.int 0), some (.int 0)]) hk dX1_meanStop_5 rfl (by decide) rfl rfl ?_
  refine l_X1_meanStop_6 hk hz hB hr hr8 ?_ (r + 1) 0 (by omega) (by omega)
  refine xj_iload_n (i := 2) hk dX1_meanStop_43 rfl rfl ?_
  refine xj_if_le (tgt := 53) hk dX1_meanStop_44 (by decide) (fun c44 => ?_) (fun c44 => ?_)
  · refine xj_bipush (x := (-2)) hk dX1_meanStop_53 (by decide) ?_
    refine xj_ireturn hk hz dX1_meanStop_55 ?_
    exact ⟨by simp [mst, *], rfl⟩
  · refine xj_iload_n (i := 1) hk dX1_meanStop_47 rfl rfl ?_
    refine xj_iload_n (i := 2) hk dX1_meanStop_48 rfl rfl ?_
    refine xj_idiv hk dX1_meanStop_49 (fun q => c44 (by rw [q]; decide)) ?_
    refine xj_goto (tgt := 55) hk dX1_meanStop_50 (by decide) ?_
    refine xj_ireturn hk hz dX1_meanStop_55 ?_
    exact ⟨by simp [mst, *], rfl⟩

set_option maxHeartbeats 1000000 in
set_option maxRecDepth 10000 in
theorem l_X1_copyFrom_10 {v : xw_V} {κ : xk_K} {post : Option Value → xw_G → Prop} {z : Nat × Nat × Nat} {G : xw_G} {g q : Nat} {B A : bk_T} (hk : xk_Ok v κ yX1_copyFrom cX1_copyFrom 3 none 0 0) (hz : xk_zf κ = z) (hB : G g = pc_B v g B) (hA : G q = pc_B v q A) (hgq : g ≠ q) (kx : xj v κ post z (xw_up G g (pB v g (bk_te B) (bk_ho B) (bk_ow B) (bk_hs B) (bk_ra B) (bk_lo B) (bk_bi B) (cpN 8 (bk_st A) (bk_st B)) (cpN 8 (bk_av A) (bk_av B)) (cpN 8 (bk_so A) (bk_so B)) (cpN 8 (bk_pa A) (bk_pa B)) (bk_ln A))) 70 [some (.ref (xw_ad v g 7)), some (.ref (xw_ad v q 7)), some (.int (nI 8))] []) : ∀ (m : Nat) (k : Nat), 8 - k < m → k ≤ 8 → xj v κ post z (xw_up G g (pB v g (bk_te B) (bk_ho B) (bk_ow B) (bk_hs B) (bk_ra B) (bk_lo B) (bk_bi B) (cpN k (bk_st A) (bk_st B)) (cpN k (bk_av A) (bk_av B)) (cpN k (bk_so A) (bk_so B)) (cpN k (bk_pa A) (bk_pa B)) (bk_ln A))) 10 [some (.ref (xw_ad v g 7)), some (.ref (xw_ad v q 7)), some (.int (nI k))] [] := by
  intro m
  induction m with
  | zero => intro k h; exact absurd h (Nat.not_lt_zero _)
  | succ m ih =>
    intro k hm hi
    refine xj_iload_n (i := 2) hk dX1_copyFrom_10 rfl rfl ?_
    refine xj_bipush (x := 8) hk dX1_copyFrom_11 (by decide) ?_
    refine xj_icmp_ge (tgt := 70) hk dX1_copyFrom_13 (by decide) (fun c13 => ?_) (fun c13 => ?_)
    · have c13 : 8 ≤ k := (nI_leI (a := 8) (b := k) (by omega) (by omega)).mp c13
      have e9 : k = 8 := by omega
      subst e9
      exact kx
    · have c13 : ¬ 8 ≤ k := fun q => c13 ((nI_leI (a := 8) (b := k) (by omega) (by omega)).mpr q)
      refine xj_aload_n (i := 0) hk dX1_copyFrom_16 rfl rfl ?_
      refine xj_getfield hk dX1_copyFrom_17 fl_X1_9 (xw_at xw_up_s rfl) rfl ?_
      refine xj_iload_n (i := 2) hk dX1_copyFrom_20 rfl rfl ?_
      refine xj_aload_n (i := 1) hk dX1_copyFrom_21 rfl rfl ?_
      refine xj_getfield hk dX1_copyFrom_22 fl_X1_9 (xw_at (show (xw_up G g (pB v g (bk_te B) (bk_ho B) (bk_ow B) (bk_hs B) (bk_ra B) (bk_lo B) (bk_bi B) (cpN k (bk_st A) (bk_st B)) (cpN k (bk_av A) (bk_av B)) (cpN k (bk_so A) (bk_so B)) (cpN k (bk_pa A) (bk_pa B)) (bk_ln A))) q = pc_B v q A from by rw [xw_up_n (Ne.symm hgq), hA]) rfl) rfl ?_
      refine xj_iload_n (i := 2) hk dX1_copyFrom_25 rfl rfl ?_
      refine xj_iaload (k := k) hk dX1_copyFrom_26 (xw_at (show (xw_up G g (pB v g (bk_te B) (bk_ho B) (bk_ow B) (bk_hs B) (bk_ra B) (bk_lo B) (bk_bi B) (cpN k (bk_st A) (bk_st B)) (cpN k (bk_av A) (bk_av B)) (cpN k (bk_so A) (bk_so B)) (cpN k (bk_pa A) (bk_pa B)) (bk_ln A))) q = pc_B v q A from by rw [xw_up_n (Ne.symm hgq), hA]) rfl) (xi_n (by omega) (by decide)) ?_
      refine xj_iastore (k := k) (G2 := xw_up G g (pB v g (bk_te B) (bk_ho B) (bk_ow B) (bk_hs B) (bk_ra B) (bk_lo B) (bk_bi B) (xu (cpN k (bk_st A) (bk_st B)) k (bk_st A k)) (cpN k (bk_av A) (bk_av B)) (cpN k (bk_so A) (bk_so B)) (cpN k (bk_pa A) (bk_pa B)) (bk_ln A))) hk dX1_copyFrom_27 (xw_at xw_up_s rfl) (xi_n (by omega) (by decide)) (xw_wr2 rfl) ?_
      refine xj_aload_n (i := 0) hk dX1_copyFrom_28 rfl rfl ?_
      refine xj_getfield hk dX1_copyFrom_29 fl_X1_15 (xw_at xw_up_s rfl) rfl ?_
      refine xj_iload_n (i := 2) hk dX1_copyFrom_32 rfl rfl ?_
      refine xj_aload_n (i := 1) hk dX1_copyFrom_33 rfl rfl ?_
      refine xj_getfield hk dX1_copyFrom_34 fl_X1_15 (xw_at (show (xw_up G g (pB v g (bk_te B) (bk_ho B) (bk_ow B) (bk_hs B) (bk_ra B) (bk_lo B) (bk_bi B) (xu (cpN k (bk_st A) (bk_st B)) k (bk_st A k)) (cpN k (bk_av A) (bk_av B)) (cpN k (bk_so A) (bk_so B)) (cpN k (bk_pa A) (bk_pa B)) (bk_ln A))) q = pc_B v q A from by rw [xw_up_n (Ne.symm hgq), hA]) rfl) rfl ?_
      refine xj_iload_n (i := 2) hk dX1_copyFrom_37 rfl rfl ?_
      refine xj_iaload (k := k) hk dX1_copyFrom_38 (xw_at (show (xw_up G g (pB v g (bk_te B) (bk_ho B) (bk_ow B) (bk_hs B) (bk_ra B) (bk_lo B) (bk_bi B) (xu (cpN k (bk_st A) (bk_st B)) k (bk_st A k)) (cpN k (bk_av A) (bk_av B)) (cpN k (bk_so A) (bk_so B)) (cpN k (bk_pa A) (bk_pa B)) (bk_ln A))) q = pc_B v q A from by rw [xw_up_n (Ne.symm hgq), hA]) rfl) (xi_n (by omega) (by decide)) ?_
      refine xj_iastore (k := k) (G2 := xw_up G g (pB v g (bk_te B) (bk_ho B) (bk_ow B) (bk_hs B) (bk_ra B) (bk_lo B) (bk_bi B) (xu (cpN k (bk_st A) (bk_st B)) k (bk_st A k)) (xu (cpN k (bk_av A) (bk_av B)) k (bk_av A k)) (cpN k (bk_so A) (bk_so B)) (cpN k (bk_pa A) (bk_pa B)) (bk_ln A))) hk dX1_copyFrom_39 (xw_at xw_up_s rfl) (xi_n (by omega) (by decide)) (xw_wr2 rfl) ?_
      refine xj_aload_n (i := 0) hk dX1_copyFrom_40 rfl rfl ?_
      refine xj_getfield hk dX1_copyFrom_41 fl_X1_18 (xw_at xw_up_s rfl) rfl ?_
      refine xj_iload_n (i := 2) hk dX1_copyFrom_44 rfl rfl ?_
      refine xj_aload_n (i := 1) hk dX1_copyFrom_45 rfl rfl ?_
      refine xj_getfield hk dX1_copyFrom_46 fl_X1_18 (xw_at (show (xw_up G g (pB v g (bk_te B) (bk_ho B) (bk_ow B) (bk_hs B) (bk_ra B) (bk_lo B) (bk_bi B) (xu (cpN k (bk_st A) (bk_st B)) k (bk_st A k)) (xu (cpN k (bk_av A) (bk_av B)) k (bk_av A k)) (cpN k (bk_so A) (bk_so B)) (cpN k (bk_pa A) (bk_pa B)) (bk_ln A))) q = pc_B v q A from by rw [xw_up_n (Ne.symm hgq), hA]) rfl) rfl ?_
      refine xj_iload_n (i := 2) hk dX1_copyFrom_49 rfl rfl ?_
      refine xj_iaload (k := k) hk dX1_copyFrom_50 (xw_at (show (xw_up G g (pB v g (bk_te B) (bk_ho B) (bk_ow B) (bk_hs B) (bk_ra B) (bk_lo B) (bk_bi B) (xu (cpN k (bk_st A) (bk_st B)) k (bk_st A k)) (xu (cpN k (bk_av A) (bk_av B)) k (bk_av A k)) (cpN k (bk_so A) (bk_so B)) (cpN k (bk_pa A) (bk_pa B)) (bk_ln A))) q = pc_B v q A from by rw [xw_up_n (Ne.symm hgq), hA]) rfl) (xi_n (by omega) (by decide)) ?_
      refine xj_iastore (k := k) (G2 := xw_up G g (pB v g (bk_te B) (bk_ho B) (bk_ow B) (bk_hs B) (bk_ra B) (bk_lo B) (bk_bi B) (xu (cpN k (bk_st A) (bk_st B)) k (bk_st A k)) (xu (cpN k (bk_av A) (bk_av B)) k (bk_av A k)) (xu (cpN k (bk_so A) (bk_so B)) k (bk_so A k)) (cpN k (bk_pa A) (bk_pa B)) (bk_ln A))) hk dX1_copyFrom_51 (xw_at xw_up_s rfl) (xi_n (by omega) (by decide)) (xw_wr2 rfl) ?_
      refine xj_aload_n (i := 0) hk dX1_copyFrom_52 rfl rfl ?_
      refine xj_getfield hk dX1_copyFrom_53 fl_X1_21 (xw_at xw_up_s rfl) rfl ?_
      refine xj_iload_n (i := 2) hk dX1_copyFrom_56 rfl rfl ?_
      refine xj_aload_n (i := 1) hk dX1_copyFrom_57 rfl rfl ?_
      refine xj_getfield hk dX1_copyFrom_58 fl_X1_21 (xw_at (show (xw_up G g (pB v g (bk_te B) (bk_ho B) (bk_ow B) (bk_hs B) (bk_ra B) (bk_lo B) (bk_bi B) (xu (cpN k (bk_st A) (bk_st B)) k (bk_st A k)) (xu (cpN k (bk_av A) (bk_av B)) k (bk_av A k)) (xu (cpN k (bk_so A) (bk_so B)) k (bk_so A k)) (cpN k (bk_pa A) (bk_pa B)) (bk_ln A))) q = pc_B v q A from by rw [xw_up_n (Ne.symm hgq), hA]) rfl) rfl ?_
      refine xj_iload_n (i := 2) hk dX1_copyFrom_61 rfl rfl ?_
      refine xj_laload (k := k) hk dX1_copyFrom_62 (xw_at (show (xw_up G g (pB v g (bk_te B) (bk_ho B) (bk_ow B) (bk_hs B) (bk_ra B) (bk_lo B) (bk_bi B) (xu (cpN k (bk_st A) (bk_st B)) k (bk_st A k)) (xu (cpN k (bk_av A) (bk_av B)) k (bk_av A k)) (xu (cpN k (bk_so A) (bk_so B)) k (bk_so A k)) (cpN k (bk_pa A) (bk_pa B)) (bk_ln A))) q = pc_B v q A from by rw [xw_up_n (Ne.symm hgq), hA]) rfl) (xi_n (by omega) (by decide)) ?_
      refine xj_lastore (k := k) (G2 := xw_up G g (pB v g (bk_te B) (bk_ho B) (bk_ow B) (bk_hs B) (bk_ra B) (bk_lo B) (bk_bi B) (xu (cpN k (bk_st A) (bk_st B)) k (bk_st A k)) (xu (cpN k (bk_av A) (bk_av B)) k (bk_av A k)) (xu (cpN k (bk_so A) (bk_so B)) k (bk_so A k)) (xu (cpN k (bk_pa A) (bk_pa B)) k (bk_pa A k)) (bk_ln A))) hk dX1_copyFrom_63 (xw_at xw_up_s rfl) (xi_n (by omega) (by decide)) (xw_wr2 rfl) ?_
      refine xj_iinc (i := 2) (x2 := nI (k + 1)) (ls2 := [some (.ref (xw_ad v g 7)), some (.ref (xw_ad v q 7)), some (.int (nI (k + 1)))]) hk dX1_copyFrom_64 rfl (nI_1 k) (by decide) rfl rfl ?_
      refine xj_goto (tgt := 10) hk dX1_copyFrom_67 (by decide) ?_
      refine xj.eqG (G' := xw_up G g (pB v g (bk_te B) (bk_ho B) (bk_ow B) (bk_hs B) (bk_ra B) (bk_lo B) (bk_bi B) (cpN ((k + 1)) (bk_st A) (bk_st B)) (cpN ((k + 1)) (bk_av A) (bk_av B)) (cpN ((k + 1)) (bk_so A) (bk_so B)) (cpN ((k + 1)) (bk_pa A) (bk_pa B)) (bk_ln A))) (by simp only [cp_s]) (ih (k + 1) (by omega) (by omega))

set_option maxHeartbeats 1000000 in
set_option maxRecDepth 10000 in
theorem c_X1_copyFrom {v : xw_V} {G : xw_G} {g q : Nat} {B A : bk_T} (hB : G g = pc_B v g B) (hA : G q = pc_B v q A) (hgq : g ≠ q) : xk_Con v yX1_copyFrom cX1_copyFrom 3 none 0 0 [.ref (xw_ad v g 7), .ref (xw_ad v q 7)] G (xk_ret none (xw_up G g (pB v g (bk_te B) (bk_ho B) (bk_ow B) (bk_hs B) (bk_ra B) (bk_lo B) (bk_bi B) (cpN 8 (bk_st A) (bk_st B)) (cpN 8 (bk_av A) (bk_av B)) (cpN 8 (bk_so A) (bk_so B)) (cpN 8 (bk_pa A) (bk_pa B)) (bk_ln A)))) := by
  refine xk_of (ls0 := [some (.ref (xw_ad v g 7)), some (.ref (xw_ad v q 7)), none]) (by decide) rfl (Nat.le_of_ble_eq_true rfl) ?_
  intro κ z hk hz
  refine xj_aload_n (i := 0) hk dX1_copyFrom_0 rfl rfl ?_
  refine xj_aload_n (i := 1) hk dX1_copyFrom_1 rfl rfl ?_
  refine xj_getfield hk dX1_copyFrom_2 fl_X1_25 (xw_at hA rfl) rfl ?_
  refine xj_putfield (G2 := xw_up G g (pB v g (bk_te B) (bk_ho B) (bk_ow B) (bk_hs B) (bk_ra B) (bk_lo B) (bk_bi B) (bk_st B) (bk_av B) (bk_so B) (bk_pa B) (bk_ln A))) hk dX1_copyFrom_5 fl_X1_25 rfl rfl (xw_at hB rfl) (Nat.le_of_ble_eq_true rfl) (xw_wr hB rfl) ?_
  refine xj_iconst (x := 0) hk dX1_copyFrom_8 (by decide) ?_
  refine xj_istore_n (i := 2) (ls2 := [some (.ref (xw_ad v g 7)), some (.ref (xw_ad v q 7)), some (.int 0)]) hk dX1_copyFrom_9 rfl (by decide) rfl rfl ?_
  refine xj.eqG (G' := xw_up G g (pB v g (bk_te B) (bk_ho B) (bk_ow B) (bk_hs B) (bk_ra B) (bk_lo B) (bk_bi B) (cpN 0 (bk_st A) (bk_st B)) (cpN 0 (bk_av A) (bk_av B)) (cpN 0 (bk_so A) (bk_so B)) (cpN 0 (bk_pa A) (bk_pa B)) (bk_ln A))) (by simp only [cp_0]) ?_
  refine l_X1_copyFrom_10 hk hz hB hA hgq ?_ (8 + 1) 0 (by omega) (by omega)
  refine xj_return hk hz dX1_copyFrom_70 ?_
  exact ⟨rfl, rfl⟩

set_option maxHeartbeats 1000000 in
set_option maxRecDepth 10000 in
theorem l_X1_add {v : xw_V} {κ : xk_K} {post : Option Value → xw_G → Prop} {z : Nat × Nat × Nat} {G : xw_G} {g : Nat} {B : bk_T} {x1 x2 x3 : Int32} {x4 : Int64} (hk : xk_Ok v κ yX1_add cX1_add 7 none 1 21) (hz : xk_zf κ = z) (hB : G g = pc_B v g B) (kx : xj v κ post z (xw_up G g (pB v g (bk_te B) (bk_ho B) (bk_ow B) (bk_hs B) (bk_ra B) (bk_lo B) (bk_bi B) (shU 0 7 (bk_st B)) (shU 0 7 (bk_av B)) (shU 0 7 (bk_so B)) (shU 0 7 (bk_pa B)) (bk_ln B))) 79 [some (.ref (xw_ad v g 7)), some (.int x1), some (.int x2), some (.int x3), some (.long (x4)), none, some (.int (nI 0))] []) : ∀ (m : Nat) (k : Nat), k < m → k ≤ 7 → xj v κ post z (xw_up G g (pB v g (bk_te B) (bk_ho B) (bk_ow B) (bk_hs B) (bk_ra B) (bk_lo B) (bk_bi B) (shU k 7 (bk_st B)) (shU k 7 (bk_av B)) (shU k 7 (bk_so B)) (shU k 7 (bk_pa B)) (bk_ln B))) 4 [some (.ref (xw_ad v g 7)), some (.int x1), some (.int x2), some (.int x3), some (.long (x4)), none, some (.int (nI k))] [] := by
  intro m
  induction m with
  | zero => intro k h; exact absurd h (Nat.not_lt_zero _)
  | succ m ih =>
    intro k hm hi
    refine xj_iload hk dX1_add_4 rfl ?_
    refine xj_if_le (tgt := 79) hk dX1_add_6 (by decide) (fun c6 => ?_) (fun c6 => ?_)
    · have c6 : k ≤ 0 := (nI_leI (a := k) (b := 0) (by omega) (by omega)).mp c6
      have e9 : k = 0 := by omega
      subst e9
      exact kx
    · have c6 : ¬ k ≤ 0 := fun q => c6 ((nI_leI (a := k) (b := 0) (by omega) (by omega)).mpr q)
      refine xj_aload_n (i := 0) hk dX1_add_9 rfl rfl ?_
      refine xj_getfield hk dX1_add_10 fl_X1_9 (xw_at xw_up_s rfl) rfl ?_
      refine xj_iload hk dX1_add_13 rfl ?_
      refine xj_aload_n (i := 0) hk dX1_add_15 rfl rfl ?_
      refine xj_getfield hk dX1_add_16 fl_X1_9 (xw_at xw_up_s rfl) rfl ?_
      refine xj_iload hk dX1_add_19 rfl ?_
      refine xj_iconst (x := 1) hk dX1_add_21 (by decide) ?_
      refine xj_isub hk dX1_add_22 ?_
      refine xj.eqi (x' := nI (k - 1)) (nI_sub1 (by omega)) ?_
      refine xj_iaload (k := k - 1) hk dX1_add_23 (xw_at xw_up_s rfl) (xi_n (by omega) (by decide)) ?_
      refine xj_iastore (k := k) (G2 := xw_up G g (pB v g (bk_te B) (bk_ho B) (bk_ow B) (bk_hs B) (bk_ra B) (bk_lo B) (bk_bi B) (xu (shU k 7 (bk_st B)) k ((shU k 7 (bk_st B)) (k - 1))) (shU k 7 (bk_av B)) (shU k 7 (bk_so B)) (shU k 7 (bk_pa B)) (bk_ln B))) hk dX1_add_24 (xw_at xw_up_s rfl) (xi_n (by omega) (by decide)) (xw_wr2 rfl) ?_
      refine xj_aload_n (i := 0) hk dX1_add_25 rfl rfl ?_
      refine xj_getfield hk dX1_add_26 fl_X1_15 (xw_at xw_up_s rfl) rfl ?_
      refine xj_iload hk dX1_add_29 rfl ?_
      refine xj_aload_n (i := 0) hk dX1_add_31 rfl rfl ?_
      refine xj_getfield hk dX1_add_32 fl_X1_15 (xw_at xw_up_s rfl) rfl ?_
      refine xj_iload hk dX1_add_35 rfl ?_
      refine xj_iconst (x := 1) hk dX1_add_37 (by decide) ?_
      refine xj_isub hk dX1_add_38 ?_
      refine xj.eqi (x' := nI (k - 1)) (nI_sub1 (by omega)) ?_
      refine xj_iaload (k := k - 1) hk dX1_add_39 (xw_at xw_up_s rfl) (xi_n (by omega) (by decide)) ?_
      refine xj_iastore (k := k) (G2 := xw_up G g (pB v g (bk_te B) (bk_ho B) (bk_ow B) (bk_hs B) (bk_ra B) (bk_lo B) (bk_bi B) (xu (shU k 7 (bk_st B)) k ((shU k 7 (bk_st B)) (k - 1))) (xu (shU k 7 (bk_av B)) k ((shU k 7 (bk_av B)) (k - 1))) (shU k 7 (bk_so B)) (shU k 7 (bk_pa B)) (bk_ln B))) hk dX1_add_40 (xw_at xw_up_s rfl) (xi_n (by omega) (by decide)) (xw_wr2 rfl) ?_
      refine xj_aload_n (i := 0) hk dX1_add_41 rfl rfl ?_
      refine xj_getfield hk dX1_add_42 fl_X1_18 (xw_at xw_up_s rfl) rfl ?_
      refine xj_iload hk dX1_add_45 rfl ?_
      refine xj_aload_n (i := 0) hk dX1_add_47 rfl rfl ?_
      refine xj_getfield hk dX1_add_48 fl_X1_18 (xw_at xw_up_s rfl) rfl ?_
      refine xj_iload hk dX1_add_51 rfl ?_
      refine xj_iconst (x := 1) hk dX1_add_53 (by decide) ?_
      refine xj_isub hk dX1_add_54 ?_
      refine xj.eqi (x' := nI (k - 1)) (nI_sub1 (by omega)) ?_
      refine xj_iaload (k := k - 1) hk dX1_add_55 (xw_at xw_up_s rfl) (xi_n (by omega) (by decide)) ?_
      refine xj_iastore (k := k) (G2 := xw_up G g (pB v g (bk_te B) (bk_ho B) (bk_ow B) (bk_hs B) (bk_ra B) (bk_lo B) (bk_bi B) (xu (shU k 7 (bk_st B)) k ((shU k 7 (bk_st B)) (k - 1))) (xu (shU k 7 (bk_av B)) k ((shU k 7 (bk_av B)) (k - 1))) (xu (shU k 7 (bk_so B)) k ((shU k 7 (bk_so B)) (k - 1))) (shU k 7 (bk_pa B)) (bk_ln B))) hk dX1_add_56 (xw_at xw_up_s rfl) (xi_n (by omega) (by decide)) (xw_wr2 rfl) ?_
      refine xj_aload_n (i := 0) hk dX1_add_57 rfl rfl ?_
      refine xj_getfield hk dX1_add_58 fl_X1_21 (xw_at xw_up_s rfl) rfl ?_
      refine xj_iload hk dX1_add_61 rfl ?_
      refine xj_aload_n (i := 0) hk dX1_add_63 rfl rfl ?_
      refine xj_getfield hk dX1_add_64 fl_X1_21 (xw_at xw_up_s rfl) rfl ?_
      refine xj_iload hk dX1_add_67 rfl ?_
      refine xj_iconst (x := 1) hk dX1_add_69 (by decide) ?_
      refine xj_isub hk dX1_add_70 ?_
      refine xj.eqi (x' := nI (k - 1)) (nI_sub1 (by omega)) ?_
      refine xj_laload (k := k - 1) hk dX1_add_71 (xw_at xw_up_s rfl) (xi_n (by omega) (by decide)) ?_
      refine xj_lastore (k := k) (G2 := xw_up G g (pB v g (bk_te B) (bk_ho B) (bk_ow B) (bk_hs B) (bk_ra B) (bk_lo B) (bk_bi B) (xu (shU k 7 (bk_st B)) k ((shU k 7 (bk_st B)) (k - 1))) (xu (shU k 7 (bk_av B)) k ((shU k 7 (bk_av B)) (k - 1))) (xu (shU k 7 (bk_so B)) k ((shU k 7 (bk_so B)) (k - 1))) (xu (shU k 7 (bk_pa B)) k ((shU k 7 (bk_pa B)) (k - 1))) (bk_ln B))) hk dX1_add_72 (xw_at xw_up_s rfl) (xi_n (by omega) (by decide)) (xw_wr2 rfl) ?_
      refine xj_iinc (i := 6) (x2 := nI (k - 1)) (ls2 := [some (.ref (xw_ad v g 7)), some (.int x1), some (.int x2), some (.int x3), some (.long (x4)), none, some (.int (nI (k - 1)))]) hk dX1_add_73 rfl (nI_dec (by omega)) (by decide) rfl rfl ?_
      refine xj_goto (tgt := 4) hk dX1_add_76 (by decide) ?_
      refine xj.eqG (G' := xw_up G g (pB v g (bk_te B) (bk_ho B) (bk_ow B) (bk_hs B) (bk_ra B) (bk_lo B) (bk_bi B) (shU ((k - 1)) 7 (bk_st B)) (shU ((k - 1)) 7 (bk_av B)) (shU ((k - 1)) 7 (bk_so B)) (shU ((k - 1)) 7 (bk_pa B)) (bk_ln B))) (by simp only [shU_s _ (show 0 < k by omega) (show k ≤ 7 by omega)]) (ih (k - 1) (by omega) (by omega))

def shL {α : Type} (x : α) (f : Nat → α) : Nat → α := xu (shU 0 7 f) 0 x
set_option maxHeartbeats 1000000 in
set_option maxRecDepth 10000 in
theorem c_X1_add {v : xw_V} {G : xw_G} {g : Nat} {B : bk_T} (hB : G g = pc_B v g B) (x1 x2 x3 : Int32) (x4 : Int64) : xk_Con v yX1_add cX1_add 7 none 1 21 [.ref (xw_ad v g 7), .int x1, .int x2, .int x3, .long (x4)] G (xk_ret none (xw_up G g (pB v g (bk_te B) (bk_ho B) (bk_ow B) (bk_hs B) (bk_ra B) (bk_lo B) (bk_bi B) (shL x1 (bk_st B)) (shL x2 (bk_av B)) (shL x3 (bk_so B)) (shL x4 (bk_pa B)) (if bk_ln B + 1 < 8 then bk_ln B + 1 else 8)))) := by
  refine xk_of (ls0 := [some (.ref (xw_ad v g 7)), some (.int x1), some (.int x2), some (.int x3), some (.long (x4)), none, none]) (by decide) rfl (Nat.le_of_ble_eq_true rfl) ?_
  intro κ z hk hz
  refine xj_bipush (x := 7) hk dX1_add_0 (by decide) ?_
  refine xj_istore (i := 6) (ls2 := [some (.ref (xw_ad v g 7)), some (.int x1), some (.int x2), some (.int x3), some (.long (x4)), none, some (.int 7)]) hk dX1_add_2 (by decide) rfl rfl ?_
  refine xj.eqG (G' := xw_up G g (pB v g (bk_te B) (bk_ho B) (bk_ow B) (bk_hs B) (bk_ra B) (bk_lo B) (bk_bi B) (shU 7 7 (bk_st B)) (shU 7 7 (bk_av B)) (shU 7 7 (bk_so B)) (shU 7 7 (bk_pa B)) (bk_ln B))) (by simp only [shU_0]; exact (xw_up_same hB).symm) ?_
  refine l_X1_add hk hz hB ?_ 8 7 (by omega) (by omega)
  refine xj_aload_n (i := 0) hk dX1_add_79 rfl rfl ?_
  refine xj_getfield hk dX1_add_80 fl_X1_9 (xw_at xw_up_s rfl) rfl ?_
  refine xj_iconst (x := 0) hk dX1_add_83 (by decide) ?_
  refine xj_iload_n (i := 1) hk dX1_add_84 rfl rfl ?_
  refine xj_iastore (k := 0) (G2 := xw_up G g (pB v g (bk_te B) (bk_ho B) (bk_ow B) (bk_hs B) (bk_ra B) (bk_lo B) (bk_bi B) (xu (shU 0 7 (bk_st B)) 0 x1) (shU 0 7 (bk_av B)) (shU 0 7 (bk_so B)) (shU 0 7 (bk_pa B)) (bk_ln B))) hk dX1_add_85 (xw_at xw_up_s rfl) (xi_d 0 8 (by decide)) (xw_wr2 rfl) ?_
  refine xj_aload_n (i := 0) hk dX1_add_86 rfl rfl ?_
  refine xj_getfield hk dX1_add_87 fl_X1_15 (xw_at xw_up_s rfl) rfl ?_
  refine xj_iconst (x := 0) hk dX1_add_90 (by decide) ?_
  refine xj_iload_n (i := 2) hk dX1_add_91 rfl rfl ?_
  refine xj_iastore (k := 0) (G2 := xw_up G g (pB v g (bk_te B) (bk_ho B) (bk_ow B) (bk_hs B) (bk_ra B) (bk_lo B) (bk_bi B) (xu (shU 0 7 (bk_st B)) 0 x1) (xu (shU 0 7 (bk_av B)) 0 x2) (shU 0 7 (bk_so B)) (shU 0 7 (bk_pa B)) (bk_ln B))) hk dX1_add_92 (xw_at xw_up_s rfl) (xi_d 0 8 (by decide)) (xw_wr2 rfl) ?_
  refine xj_aload_n (i := 0) hk dX1_add_93 rfl rfl ?_
  refine xj_getfield hk dX1_add_94 fl_X1_18 (xw_at xw_up_s rfl) rfl ?_
  refine xj_iconst (x := 0) hk dX1_add_97 (by decide) ?_
  refine xj_iload_n (i := 3) hk dX1_add_98 rfl rfl ?_
  refine xj_iastore (k := 0) (G2 := xw_up G g (pB v g (bk_te B) (bk_ho B) (bk_ow B) (bk_hs B) (bk_ra B) (bk_lo B) (bk_bi B) (xu (shU 0 7 (bk_st B)) 0 x1) (xu (shU 0 7 (bk_av B)) 0 x2) (xu (shU 0 7 (bk_so B)) 0 x3) (shU 0 7 (bk_pa B)) (bk_ln B))) hk dX1_add_99 (xw_at xw_up_s rfl) (xi_d 0 8 (by decide)) (xw_wr2 rfl) ?_
  refine xj_aload_n (i := 0) hk dX1_add_100 rfl rfl ?_
  refine xj_getfield hk dX1_add_101 fl_X1_21 (xw_at xw_up_s rfl) rfl ?_
  refine xj_iconst (x := 0) hk dX1_add_104 (by decide) ?_
  refine xj_lload hk dX1_add_105 rfl ?_
  refine xj_lastore (k := 0) (G2 := xw_up G g (pB v g (bk_te B) (bk_ho B) (bk_ow B) (bk_hs B) (bk_ra B) (bk_lo B) (bk_bi B) (xu (shU 0 7 (bk_st B)) 0 x1) (xu (shU 0 7 (bk_av B)) 0 x2) (xu (shU 0 7 (bk_so B)) 0 x3) (xu (shU 0 7 (bk_pa B)) 0 x4) (bk_ln B))) hk dX1_add_107 (xw_at xw_up_s rfl) (xi_d 0 8 (by decide)) (xw_wr2 rfl) ?_
  refine xj_aload_n (i := 0) hk dX1_add_108 rfl rfl ?_
  refine xj_bipush (x := 8) hk dX1_add_109 (by decide) ?_
  refine xj_aload_n (i := 0) hk dX1_add_111 rfl rfl ?_
  refine xj_getfield hk dX1_add_112 fl_X1_25 (xw_at xw_up_s rfl) rfl ?_
  refine xj_iconst (x := 1) hk dX1_add_115 (by decide) ?_
  refine xj_iadd hk dX1_add_116 ?_
  refine xj_min hk hz dX1_add_117 mm_X1_29 (by decide) (Nat.le_of_ble_eq_true rfl) mm_min.1 mm_min.2.1 mm_min.2.2 ?_
  refine xj_putfield (G2 := xw_up G g (pB v g (bk_te B) (bk_ho B) (bk_ow B) (bk_hs B) (bk_ra B) (bk_lo B) (bk_bi B) (xu (shU 0 7 (bk_st B)) 0 x1) (xu (shU 0 7 (bk_av B)) 0 x2) (xu (shU 0 7 (bk_so B)) 0 x3) (xu (shU 0 7 (bk_pa B)) 0 x4) (if (bk_ln B) + 1 < 8 then (bk_ln B) + 1 else 8))) hk dX1_add_120 fl_X1_25 rfl rfl (xw_at xw_up_s rfl) (Nat.le_of_ble_eq_true rfl) (xw_wr2 rfl) ?_
  refine xj_return hk hz dX1_add_123 ?_
  exact ⟨rfl, rfl⟩


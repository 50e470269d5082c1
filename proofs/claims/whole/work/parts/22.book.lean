/-- the least place below n with p, n if there is none -/
def fnd (p : Nat → Bool) : Nat → Nat
  | 0 => 0
  | n + 1 => if fnd p n < n then fnd p n else if p n then n else n + 1
theorem fnd_le (p : Nat → Bool) (n : Nat) : fnd p n ≤ n := by
  induction n with
  | zero => simp [fnd]
  | succ n ih => simp only [fnd]; split <;> (try split) <;> omega
theorem fnd_at {p : Nat → Bool} {k : Nat} (h : fnd p k = k) (hp : p k = true) : ∀ n, k < n → fnd p n = k := by
  intro n
  induction n with
  | zero => intro h2; omega
  | succ n ih =>
    intro h2
    simp only [fnd]
    by_cases e : k = n
    · subst e; rw [if_neg (by omega), if_pos hp]
    · have := ih (by omega)
      rw [if_pos (by omega), this]
theorem fnd_no {p : Nat → Bool} {k : Nat} (h : fnd p k = k) (hp : p k = false) : fnd p (k + 1) = k + 1 := by simp [fnd, h, hp]
theorem fnd_spec {p : Nat → Bool} {n : Nat} (h : fnd p n < n) : p (fnd p n) = true := by
  induction n with
  | zero => simp [fnd] at h
  | succ n ih =>
    simp only [fnd] at h ⊢
    split
    · rename_i h2; exact ih h2
    · split
      · rename_i h3; exact h3
      · rename_i h2 h3; rw [if_neg h2, if_neg h3] at h; omega
theorem fnd_min {p : Nat → Bool} {n j : Nat} (h : j < fnd p n) : p j = false := by
  induction n with
  | zero => simp [fnd] at h
  | succ n ih =>
    simp only [fnd] at h
    split at h
    · exact ih h
    · rename_i h2
      have h4 : fnd p n = n := by have := fnd_le p n; omega
      split at h
      · exact ih (by omega)
      · rename_i h3
        by_cases e : j = n
        · subst e; simpa using h3
        · exact ih (by omega)
def like (hs ra : Nat → Int32) (b : Nat) : Nat → Bool := fun i => decide (hs i = hs b) && decide (ra i = ra b)
/-- Book.termFits -/
def tfit (te : Nat → Int32) (w x : Int32) : Bool := if w < 0 then false else if 7 ≤ w then false else if x < st_LEAST (xn w) then false else if ¬ x ≤ st_MOST (xn w) then false else if w = 3 then !(decide (te 4 < x)) else if w = 4 then !(decide (x < te 3)) else true
def pric (te : Nat → Int32) (r : Int32) : Int32 := 1000000 - r * te 5 * 100 / 360
/-- bids: how many, houses, rates, lots -/
abbrev bd_T : Type := Nat × (Nat → Int32) × (Nat → Int32) × (Nat → Int32)
def bd_rm (t : bd_T) (a : Nat) : bd_T := (t.1 - 1, shD a (t.1 - 1) t.2.1, shD a (t.1 - 1) t.2.2.1, shD a (t.1 - 1) t.2.2.2)
def bd_rmA (h : Int32) : Nat → bd_T → bd_T
  | 0, t => t
  | i + 1, t => bd_rmA h i (if t.2.1 i = h then bd_rm t i else t)
def mn1 (x : Int32) : Int32 := if x < 1000 then x else 1000
def bd_jn (h : Int32) : Nat → bd_T → bd_T
  | 0, t => t
  | 1, t => t
  | i + 2, t => bd_jn h (i + 1) (if t.2.1 (i + 1) = h ∧ fnd (like t.2.1 t.2.2.1 (i + 1)) (i + 1) < i + 1 then bd_rm (t.1, t.2.1, t.2.2.1, xu t.2.2.2 (fnd (like t.2.1 t.2.2.1 (i + 1)) (i + 1)) (mn1 (t.2.2.2 (fnd (like t.2.1 t.2.2.1 (i + 1)) (i + 1)) + t.2.2.2 (i + 1)))) (i + 1) else t)
theorem nI_m1 {i : Nat} (h : 0 < i) : nI i - 1 = nI (i - 1) := nI_sub1 h
theorem nI_neg {i : Nat} (h : i < 2 ^ 31) : nI i - 1 < 0 ↔ i = 0 := by
  constructor
  · intro q
    rcases Nat.eq_zero_or_pos i with e | e
    · exact e
    · rw [nI_m1 e] at q; exact absurd q (nI_pos (by omega))
  · rintro rfl; decide
theorem nI_le0 {i : Nat} (h : i < 2 ^ 31) : nI i - 1 ≤ 0 ↔ i ≤ 1 := by
  constructor
  · intro q
    rcases Nat.lt_or_ge 1 i with e | e
    · rw [nI_m1 (by omega)] at q; exact absurd q (nI_nle (by omega) (by omega))
    · exact e
  · intro q
    have : i = 0 ∨ i = 1 := by omega
    rcases this with rfl | rfl <;> decide
set_option maxHeartbeats 1000000 in
set_option maxRecDepth 10000 in
theorem l_X0_begin_2 {v : xw_V} {κ : xk_K} {post : Option Value → xw_G → Prop} {z : Nat × Nat × Nat} {G : xw_G} {g : Nat} {B : bk_T} (hk : xk_Ok v κ yX0_begin cX0_begin 2 none 0 0) (hz : xk_zf κ = z) (hB : G g = pc_B v g B) (kx : xj v κ post z (xw_up G g (pB v g (cpN 7 st_FIRST (bk_te B)) (bk_ho B) (bk_ow B) (bk_hs B) (bk_ra B) (bk_lo B) (bk_bi B) (bk_st B) (bk_av B) (bk_so B) (bk_pa B) (bk_ln B))) 25 [some (.ref (xw_ad v g 0)), some (.int (nI 7))] []) : ∀ (m : Nat) (k : Nat), 7 - k < m → k ≤ 7 → xj v κ post z (xw_up G g (pB v g (cpN k st_FIRST (bk_te B)) (bk_ho B) (bk_ow B) (bk_hs B) (bk_ra B) (bk_lo B) (bk_bi B) (bk_st B) (bk_av B) (bk_so B) (bk_pa B) (bk_ln B))) 2 [some (.ref (xw_ad v g 0)), some (.int (nI k))] [] := by
  intro m
  induction m with
  | zero => intro k h; exact absurd h (Nat.not_lt_zero _)
  | succ m ih =>
    intro k hm hi
    refine xj_iload_n (i := 1) hk dX0_begin_2 rfl rfl ?_
    refine xj_bipush (x := 7) hk dX0_begin_3 (by decide) ?_
    refine xj_icmp_ge (tgt := 25) hk dX0_begin_5 (by decide) (fun c5 => ?_) (fun c5 => ?_)
    · have c5 : 7 ≤ k := (nI_leI (a := 7) (b := k) (by omega) (by omega)).mp c5
      have e9 : k = 7 := by omega
      subst e9
      exact kx
    · have c5 : ¬ 7 ≤ k := fun q => c5 ((nI_leI (a := 7) (b := k) (by omega) (by omega)).mpr q)
      refine xj_aload_n (i := 0) hk dX0_begin_8 rfl rfl ?_
      refine xj_getfield hk dX0_begin_9 fl_X0_9 (xw_at xw_up_s rfl) rfl ?_
      refine xj_iload_n (i := 1) hk dX0_begin_12 rfl rfl ?_
      refine xj_getstat (q := xk_stats[0]) hk (List.getElem_mem _) dX0_begin_13 sl_X0_44 ?_
      refine xj_iload_n (i := 1) hk dX0_begin_16 rfl rfl ?_
      refine xj_staload (q := xk_stats[0]) (k := k) hk (List.getElem_mem _) dX0_begin_17 (show xi (nI k) k 7 from (xi_n (by omega) (by decide))) ?_
      refine xj.eqi (x' := st_FIRST k) rfl ?_
      refine xj_iastore (k := k) (G2 := xw_up G g (pB v g (xu (cpN k st_FIRST (bk_te B)) k (st_FIRST k)) (bk_ho B) (bk_ow B) (bk_hs B) (bk_ra B) (bk_lo B) (bk_bi B) (bk_st B) (bk_av B) (bk_so B) (bk_pa B) (bk_ln B))) hk dX0_begin_18 (xw_at xw_up_s rfl) (xi_n (by omega) (by decide)) (xw_wr2 rfl) ?_
      refine xj_iinc (i := 1) (x2 := nI (k + 1)) (ls2 := [some (.ref (xw_ad v g 0)), some (.int (nI (k + 1)))]) hk dX0_begin_19 rfl (nI_1 k) (by decide) rfl rfl ?_
      refine xj_goto (tgt := 2) hk dX0_begin_22 (by decide) ?_
      refine xj.eqG (G' := xw_up G g (pB v g (cpN ((k + 1)) st_FIRST (bk_te B)) (bk_ho B) (bk_ow B) (bk_hs B) (bk_ra B) (bk_lo B) (bk_bi B) (bk_st B) (bk_av B) (bk_so B) (bk_pa B) (bk_ln B))) (by simp only [cp_s]) (ih (k + 1) (by omega) (by omega))

set_option maxHeartbeats 1000000 in
set_option maxRecDepth 10000 in
theorem l_X0_begin_27 {v : xw_V} {κ : xk_K} {post : Option Value → xw_G → Prop} {z : Nat × Nat × Nat} {G : xw_G} {g : Nat} {B : bk_T} (hk : xk_Ok v κ yX0_begin cX0_begin 2 none 0 0) (hz : xk_zf κ = z) (hB : G g = pc_B v g B) (kx : xj v κ post z (xw_up G g (pB v g (cpN 7 st_FIRST (bk_te B)) (cpN 8 (fun _ => 0) (bk_ho B)) (cpN 8 nI (bk_ow B)) (bk_hs B) (bk_ra B) (bk_lo B) (bk_bi B) (bk_st B) (bk_av B) (bk_so B) (bk_pa B) (bk_ln B))) 53 [some (.ref (xw_ad v g 0)), some (.int (nI 8))] []) : ∀ (m : Nat) (k : Nat), 8 - k < m → k ≤ 8 → xj v κ post z (xw_up G g (pB v g (cpN 7 st_FIRST (bk_te B)) (cpN k (fun _ => 0) (bk_ho B)) (cpN k nI (bk_ow B)) (bk_hs B) (bk_ra B) (bk_lo B) (bk_bi B) (bk_st B) (bk_av B) (bk_so B) (bk_pa B) (bk_ln B))) 27 [some (.ref (xw_ad v g 0)), some (.int (nI k))] [] := by
  intro m
  induction m with
  | zero => intro k h; exact absurd h (Nat.not_lt_zero _)
  | succ m ih =>
    intro k hm hi
    refine xj_iload_n (i := 1) hk dX0_begin_27 rfl rfl ?_
    refine xj_bipush (x := 8) hk dX0_begin_28 (by decide) ?_
    refine xj_icmp_ge (tgt := 53) hk dX0_begin_30 (by decide) (fun c30 => ?_) (fun c30 => ?_)
    · have c30 : 8 ≤ k := (nI_leI (a := 8) (b := k) (by omega) (by omega)).mp c30
      have e9 : k = 8 := by omega
      subst e9
      exact kx
    · have c30 : ¬ 8 ≤ k := fun q => c30 ((nI_leI (a := 8) (b := k) (by omega) (by omega)).mpr q)
      refine xj_aload_n (i := 0) hk dX0_begin_33 rfl rfl ?_
      refine xj_getfield hk dX0_begin_34 fl_X0_15 (xw_at xw_up_s rfl) rfl ?_
      refine xj_iload_n (i := 1) hk dX0_begin_37 rfl rfl ?_
      refine xj_iconst (x := 0) hk dX0_begin_38 (by decide) ?_
      refine xj_iastore (k := k) (G2 := xw_up G g (pB v g (cpN 7 st_FIRST (bk_te B)) (xu (cpN k (fun _ => 0) (bk_ho B)) k 0) (cpN k nI (bk_ow B)) (bk_hs B) (bk_ra B) (bk_lo B) (bk_bi B) (bk_st B) (bk_av B) (bk_so B) (bk_pa B) (bk_ln B))) hk dX0_begin_39 (xw_at xw_up_s rfl) (xi_n (by omega) (by decide)) (xw_wr2 rfl) ?_
      refine xj_aload_n (i := 0) hk dX0_begin_40 rfl rfl ?_
      refine xj_getfield hk dX0_begin_41 fl_X0_18 (xw_at xw_up_s rfl) rfl ?_
      refine xj_iload_n (i := 1) hk dX0_begin_44 rfl rfl ?_
      refine xj_iload_n (i := 1) hk dX0_begin_45 rfl rfl ?_
      refine xj_iastore (k := k) (G2 := xw_up G g (pB v g (cpN 7 st_FIRST (bk_te B)) (xu (cpN k (fun _ => 0) (bk_ho B)) k 0) (xu (cpN k nI (bk_ow B)) k (nI k)) (bk_hs B) (bk_ra B) (bk_lo B) (bk_bi B) (bk_st B) (bk_av B) (bk_so B) (bk_pa B) (bk_ln B))) hk dX0_begin_46 (xw_at xw_up_s rfl) (xi_n (by omega) (by decide)) (xw_wr2 rfl) ?_
      refine xj_iinc (i := 1) (x2 := nI (k + 1)) (ls2 := [some (.ref (xw_ad v g 0)), some (.int (nI (k + 1)))]) hk dX0_begin_47 rfl (nI_1 k) (by decide) rfl rfl ?_
      refine xj_goto (tgt := 27) hk dX0_begin_50 (by decide) ?_
      refine xj.eqG (G' := xw_up G g (pB v g (cpN 7 st_FIRST (bk_te B)) (cpN ((k + 1)) (fun _ => 0) (bk_ho B)) (cpN ((k + 1)) nI (bk_ow B)) (bk_hs B) (bk_ra B) (bk_lo B) (bk_bi B) (bk_st B) (bk_av B) (bk_so B) (bk_pa B) (bk_ln B))) (by simp only [cp_sc, cp_s]) (ih (k + 1) (by omega) (by omega))

set_option maxHeartbeats 1000000 in
set_option maxRecDepth 10000 in
theorem c_X0_begin {v : xw_V} {G : xw_G} {g : Nat} {B : bk_T} (hB : G g = pc_B v g B) : xk_Con v yX0_begin cX0_begin 2 none 0 0 [.ref (xw_ad v g 0)] G (xk_ret none (xw_up G g (pB v g (cpN 7 st_FIRST (bk_te B)) (cpN 8 (fun _ => 0) (bk_ho B)) (cpN 8 nI (bk_ow B)) (bk_hs B) (bk_ra B) (bk_lo B) 0 (bk_st B) (bk_av B) (bk_so B) (bk_pa B) 0))) := by
  refine xk_of (ls0 := [some (.ref (xw_ad v g 0)), none]) (by decide) rfl (Nat.le_of_ble_eq_true rfl) ?_
  intro κ z hk hz
  refine xj_iconst (x := 0) hk dX0_begin_0 (by decide) ?_
  refine xj_istore_n (i := 1) (ls2 := [some (.ref (xw_ad v g 0)), some (.int 0)]) hk dX0_begin_1 rfl (by decide) rfl rfl ?_
  refine xj.eqG (G' := xw_up G g (pB v g (cpN 0 st_FIRST (bk_te B)) (bk_ho B) (bk_ow B) (bk_hs B) (bk_ra B) (bk_lo B) (bk_bi B) (bk_st B) (bk_av B) (bk_so B) (bk_pa B) (bk_ln B))) (by simp only [cp_0]; exact (xw_up_same hB).symm) ?_
  refine l_X0_begin_2 hk hz hB ?_ (7 + 1) 0 (by omega) (by omega)
  refine xj_iconst (x := 0) hk dX0_begin_25 (by decide) ?_
  refine xj_istore_n (i := 1) (ls2 := [some (.ref (xw_ad v g 0)), some (.int 0)]) hk dX0_begin_26 rfl (by decide) rfl rfl ?_
  refine xj.eqG (G' := xw_up G g (pB v g (cpN 7 st_FIRST (bk_te B)) (cpN 0 (fun _ => 0) (bk_ho B)) (cpN 0 nI (bk_ow B)) (bk_hs B) (bk_ra B) (bk_lo B) (bk_bi B) (bk_st B) (bk_av B) (bk_so B) (bk_pa B) (bk_ln B))) (by simp only [cp_0]) ?_
  refine l_X0_begin_27 hk hz hB ?_ (8 + 1) 0 (by omega) (by omega)
  refine xj_aload_n (i := 0) hk dX0_begin_53 rfl rfl ?_
  refine xj_iconst (x := 0) hk dX0_begin_54 (by decide) ?_
  refine xj_putfield (G2 := xw_up G g (pB v g (cpN 7 st_FIRST (bk_te B)) (cpN 8 (fun _ => 0) (bk_ho B)) (cpN 8 nI (bk_ow B)) (bk_hs B) (bk_ra B) (bk_lo B) 0 (bk_st B) (bk_av B) (bk_so B) (bk_pa B) (bk_ln B))) hk dX0_begin_55 fl_X0_37 rfl rfl (xw_at xw_up_s rfl) (Nat.le_of_ble_eq_true rfl) (xw_wr2 rfl) ?_
  refine xj_aload_n (i := 0) hk dX0_begin_58 rfl rfl ?_
  refine xj_getfield hk dX0_begin_59 fl_X0_33 (xw_at xw_up_s rfl) rfl ?_
  refine xj_iconst (x := 0) hk dX0_begin_62 (by decide) ?_
  refine xj_putfield (G2 := xw_up G g (pB v g (cpN 7 st_FIRST (bk_te B)) (cpN 8 (fun _ => 0) (bk_ho B)) (cpN 8 nI (bk_ow B)) (bk_hs B) (bk_ra B) (bk_lo B) 0 (bk_st B) (bk_av B) (bk_so B) (bk_pa B) 0)) hk dX0_begin_63 fl_X0_47 rfl rfl (xw_at xw_up_s rfl) (Nat.le_of_ble_eq_true rfl) (xw_wr2 rfl) ?_
  refine xj_return hk hz dX0_begin_66 ?_
  exact ⟨rfl, rfl⟩

set_option maxHeartbeats 1000000 in
set_option maxRecDepth 10000 in
theorem l_X0_copyFrom_2 {v : xw_V} {κ : xk_K} {post : Option Value → xw_G → Prop} {z : Nat × Nat × Nat} {G : xw_G} {g q : Nat} {B A : bk_T} {n : Nat} (hk : xk_Ok v κ yX0_copyFrom cX0_copyFrom 3 none 1 22) (hz : xk_zf κ = z) (hB : G g = pc_B v g B) (hA : G q = pc_B v q A) (hgq : g ≠ q) (hn : bk_bi A = nI n) (hn30 : n ≤ 30) (kx : xj v κ post z (xw_up G g (pB v g (cpN 7 (bk_te A) (bk_te B)) (bk_ho B) (bk_ow B) (bk_hs B) (bk_ra B) (bk_lo B) (bk_bi B) (bk_st B) (bk_av B) (bk_so B) (bk_pa B) (bk_ln B))) 26 [some (.ref (xw_ad v g 0)), some (.ref (xw_ad v q 0)), some (.int (nI 7))] []) : ∀ (m : Nat) (k : Nat), 7 - k < m → k ≤ 7 → xj v κ post z (xw_up G g (pB v g (cpN k (bk_te A) (bk_te B)) (bk_ho B) (bk_ow B) (bk_hs B) (bk_ra B) (bk_lo B) (bk_bi B) (bk_st B) (bk_av B) (bk_so B) (bk_pa B) (bk_ln B))) 2 [some (.ref (xw_ad v g 0)), some (.ref (xw_ad v q 0)), some (.int (nI k))] [] := by
  intro m
  induction m with
  | zero => intro k h; exact absurd h (Nat.not_lt_zero _)
  | succ m ih =>
    intro k hm hi
    refine xj_iload_n (i := 2) hk dX0_copyFrom_2 rfl rfl ?_
    refine xj_bipush (x := 7) hk dX0_copyFrom_3 (by decide) ?_
    refine xj_icmp_ge (tgt := 26) hk dX0_copyFrom_5 (by decide) (fun c5 => ?_) (fun c5 => ?_)
    · have c5 : 7 ≤ k := (nI_leI (a := 7) (b := k) (by omega) (by omega)).mp c5
      have e9 : k = 7 := by omega
      subst e9
      exact kx
    · have c5 : ¬ 7 ≤ k := fun q => c5 ((nI_leI (a := 7) (b := k) (by omega) (by omega)).mpr q)
      refine xj_aload_n (i := 0) hk dX0_copyFrom_8 rfl rfl ?_
      refine xj_getfield hk dX0_copyFrom_9 fl_X0_9 (xw_at xw_up_s rfl) rfl ?_
      refine xj_iload_n (i := 2) hk dX0_copyFrom_12 rfl rfl ?_
      refine xj_aload_n (i := 1) hk dX0_copyFrom_13 rfl rfl ?_
      refine xj_getfield hk dX0_copyFrom_14 fl_X0_9 (xw_at (show (xw_up G g (pB v g (cpN k (bk_te A) (bk_te B)) (bk_ho B) (bk_ow B) (bk_hs B) (bk_ra B) (bk_lo B) (bk_bi B) (bk_st B) (bk_av B) (bk_so B) (bk_pa B) (bk_ln B))) q = pc_B v q A from by rw [xw_up_n (Ne.symm hgq), hA]) rfl) rfl ?_
      refine xj_iload_n (i := 2) hk dX0_copyFrom_17 rfl rfl ?_
      refine xj_iaload (k := k) hk dX0_copyFrom_18 (xw_at (show (xw_up G g (pB v g (cpN k (bk_te A) (bk_te B)) (bk_ho B) (bk_ow B) (bk_hs B) (bk_ra B) (bk_lo B) (bk_bi B) (bk_st B) (bk_av B) (bk_so B) (bk_pa B) (bk_ln B))) q = pc_B v q A from by rw [xw_up_n (Ne.symm hgq), hA]) rfl) (xi_n (by omega) (by decide)) ?_
      refine xj_iastore (k := k) (G2 := xw_up G g (pB v g (xu (cpN k (bk_te A) (bk_te B)) k (bk_te A k)) (bk_ho B) (bk_ow B) (bk_hs B) (bk_ra B) (bk_lo B) (bk_bi B) (bk_st B) (bk_av B) (bk_so B) (bk_pa B) (bk_ln B))) hk dX0_copyFrom_19 (xw_at xw_up_s rfl) (xi_n (by omega) (by decide)) (xw_wr2 rfl) ?_
      refine xj_iinc (i := 2) (x2 := nI (k + 1)) (ls2 := [some (.ref (xw_ad v g 0)), some (.ref (xw_ad v q 0)), some (.int (nI (k + 1)))]) hk dX0_copyFrom_20 rfl (nI_1 k) (by decide) rfl rfl ?_
      refine xj_goto (tgt := 2) hk dX0_copyFrom_23 (by decide) ?_
      refine xj.eqG (G' := xw_up G g (pB v g (cpN ((k + 1)) (bk_te A) (bk_te B)) (bk_ho B) (bk_ow B) (bk_hs B) (bk_ra B) (bk_lo B) (bk_bi B) (bk_st B) (bk_av B) (bk_so B) (bk_pa B) (bk_ln B))) (by simp only [cp_s]) (ih (k + 1) (by omega) (by omega))

set_option maxHeartbeats 1000000 in
set_option maxRecDepth 10000 in
theorem l_X0_copyFrom_28 {v : xw_V} {κ : xk_K} {post : Option Value → xw_G → Prop} {z : Nat × Nat × Nat} {G : xw_G} {g q : Nat} {B A : bk_T} {n : Nat} (hk : xk_Ok v κ yX0_copyFrom cX0_copyFrom 3 none 1 22) (hz : xk_zf κ = z) (hB : G g = pc_B v g B) (hA : G q = pc_B v q A) (hgq : g ≠ q) (hn : bk_bi A = nI n) (hn30 : n ≤ 30) (kx : xj v κ post z (xw_up G g (pB v g (cpN 7 (bk_te A) (bk_te B)) (cpN 8 (bk_ho A) (bk_ho B)) (cpN 8 (bk_ow A) (bk_ow B)) (bk_hs B) (bk_ra B) (bk_lo B) (bk_bi B) (bk_st B) (bk_av B) (bk_so B) (bk_pa B) (bk_ln B))) 64 [some (.ref (xw_ad v g 0)), some (.ref (xw_ad v q 0)), some (.int (nI 8))] []) : ∀ (m : Nat) (k : Nat), 8 - k < m → k ≤ 8 → xj v κ post z (xw_up G g (pB v g (cpN 7 (bk_te A) (bk_te B)) (cpN k (bk_ho A) (bk_ho B)) (cpN k (bk_ow A) (bk_ow B)) (bk_hs B) (bk_ra B) (bk_lo B) (bk_bi B) (bk_st B) (bk_av B) (bk_so B) (bk_pa B) (bk_ln B))) 28 [some (.ref (xw_ad v g 0)), some (.ref (xw_ad v q 0)), some (.int (nI k))] [] := by
  intro m
  induction m with
  | zero => intro k h; exact absurd h (Nat.not_lt_zero _)
  | succ m ih =>
    intro k hm hi
    refine xj_iload_n (i := 2) hk dX0_copyFrom_28 rfl rfl ?_
    refine xj_bipush (x := 8) hk dX0_copyFrom_29 (by decide) ?_
    refine xj_icmp_ge (tgt := 64) hk dX0_copyFrom_31 (by decide) (fun c31 => ?_) (fun c31 => ?_)
    · have c31 : 8 ≤ k := (nI_leI (a := 8) (b := k) (by omega) (by omega)).mp c31
      have e9 : k = 8 := by omega
      subst e9
      exact kx
    · have c31 : ¬ 8 ≤ k := fun q => c31 ((nI_leI (a := 8) (b := k) (by omega) (by omega)).mpr q)
      refine xj_aload_n (i := 0) hk dX0_copyFrom_34 rfl rfl ?_
      refine xj_getfield hk dX0_copyFrom_35 fl_X0_15 (xw_at xw_up_s rfl) rfl ?_
      refine xj_iload_n (i := 2) hk dX0_copyFrom_38 rfl rfl ?_
      refine xj_aload_n (i := 1) hk dX0_copyFrom_39 rfl rfl ?_
      refine xj_getfield hk dX0_copyFrom_40 fl_X0_15 (xw_at (show (xw_up G g (pB v g (cpN 7 (bk_te A) (bk_te B)) (cpN k (bk_ho A) (bk_ho B)) (cpN k (bk_ow A) (bk_ow B)) (bk_hs B) (bk_ra B) (bk_lo B) (bk_bi B) (bk_st B) (bk_av B) (bk_so B) (bk_pa B) (bk_ln B))) q = pc_B v q A from by rw [xw_up_n (Ne.symm hgq), hA]) rfl) rfl ?_
      refine xj_iload_n (i := 2) hk dX0_copyFrom_43 rfl rfl ?_
      refine xj_iaload (k := k) hk dX0_copyFrom_44 (xw_at (show (xw_up G g (pB v g (cpN 7 (bk_te A) (bk_te B)) (cpN k (bk_ho A) (bk_ho B)) (cpN k (bk_ow A) (bk_ow B)) (bk_hs B) (bk_ra B) (bk_lo B) (bk_bi B) (bk_st B) (bk_av B) (bk_so B) (bk_pa B) (bk_ln B))) q = pc_B v q A from by rw [xw_up_n (Ne.symm hgq), hA]) rfl) (xi_n (by omega) (by decide)) ?_
      refine xj_iastore (k := k) (G2 := xw_up G g (pB v g (cpN 7 (bk_te A) (bk_te B)) (xu (cpN k (bk_ho A) (bk_ho B)) k (bk_ho A k)) (cpN k (bk_ow A) (bk_ow B)) (bk_hs B) (bk_ra B) (bk_lo B) (bk_bi B) (bk_st B) (bk_av B) (bk_so B) (bk_pa B) (bk_ln B))) hk dX0_copyFrom_45 (xw_at xw_up_s rfl) (xi_n (by omega) (by decide)) (xw_wr2 rfl) ?_
      refine xj_aload_n (i := 0) hk dX0_copyFrom_46 rfl rfl ?_
      refine xj_getfield hk dX0_copyFrom_47 fl_X0_18 (xw_at xw_up_s rfl) rfl ?_
      refine xj_iload_n (i := 2) hk dX0_copyFrom_50 rfl rfl ?_
      refine xj_aload_n (i := 1) hk dX0_copyFrom_51 rfl rfl ?_
      refine xj_getfield hk dX0_copyFrom_52 fl_X0_18 (xw_at (show (xw_up G g (pB v g (cpN 7 (bk_te A) (bk_te B)) (xu (cpN k (bk_ho A) (bk_ho B)) k (bk_ho A k)) (cpN k (bk_ow A) (bk_ow B)) (bk_hs B) (bk_ra B) (bk_lo B) (bk_bi B) (bk_st B) (bk_av B) (bk_so B) (bk_pa B) (bk_ln B))) q = pc_B v q A from by rw [xw_up_n (Ne.symm hgq), hA]) rfl) rfl ?_
      refine xj_iload_n (i := 2) hk dX0_copyFrom_55 rfl rfl ?_
      refine xj_iaload (k := k) hk dX0_copyFrom_56 (xw_at (show (xw_up G g (pB v g (cpN 7 (bk_te A) (bk_te B)) (xu (cpN k (bk_ho A) (bk_ho B)) k (bk_ho A k)) (cpN k (bk_ow A) (bk_ow B)) (bk_hs B) (bk_ra B) (bk_lo B) (bk_bi B) (bk_st B) (bk_av B) (bk_so B) (bk_pa B) (bk_ln B))) q = pc_B v q A from by rw [xw_up_n (Ne.symm hgq), hA]) rfl) (xi_n (by omega) (by decide)) ?_
      refine xj_iastore (k := k) (G2 := xw_up G g (pB v g (cpN 7 (bk_te A) (bk_te B)) (xu (cpN k (bk_ho A) (bk_ho B)) k (bk_ho A k)) (xu (cpN k (bk_ow A) (bk_ow B)) k (bk_ow A k)) (bk_hs B) (bk_ra B) (bk_lo B) (bk_bi B) (bk_st B) (bk_av B) (bk_so B) (bk_pa B) (bk_ln B))) hk dX0_copyFrom_57 (xw_at xw_up_s rfl) (xi_n (by omega) (by decide)) (xw_wr2 rfl) ?_
      refine xj_iinc (i := 2) (x2 := nI (k + 1)) (ls2 := [some (.ref (xw_ad v g 0)), some (.ref (xw_ad v q 0)), some (.int (nI (k + 1)))]) hk dX0_copyFrom_58 rfl (nI_1 k) (by decide) rfl rfl ?_
      refine xj_goto (tgt := 28) hk dX0_copyFrom_61 (by decide) ?_
      refine xj.eqG (G' := xw_up G g (pB v g (cpN 7 (bk_te A) (bk_te B)) (cpN ((k + 1)) (bk_ho A) (bk_ho B)) (cpN ((k + 1)) (bk_ow A) (bk_ow B)) (bk_hs B) (bk_ra B) (bk_lo B) (bk_bi B) (bk_st B) (bk_av B) (bk_so B) (bk_pa B) (bk_ln B))) (by simp only [cp_s]) (ih (k + 1) (by omega) (by omega))

set_option maxHeartbeats 1000000 in
set_option maxRecDepth 10000 in
theorem l_X0_copyFrom_74 {v : xw_V} {κ : xk_K} {post : Option Value → xw_G → Prop} {z : Nat × Nat × Nat} {G : xw_G} {g q : Nat} {B A : bk_T} {n : Nat} (hk : xk_Ok v κ yX0_copyFrom cX0_copyFrom 3 none 1 22) (hz : xk_zf κ = z) (hB : G g = pc_B v g B) (hA : G q = pc_B v q A) (hgq : g ≠ q) (hn : bk_bi A = nI n) (hn30 : n ≤ 30) (kx : xj v κ post z (xw_up G g (pB v g (cpN 7 (bk_te A) (bk_te B)) (cpN 8 (bk_ho A) (bk_ho B)) (cpN 8 (bk_ow A) (bk_ow B)) (cpN n (bk_hs A) (bk_hs B)) (cpN n (bk_ra A) (bk_ra B)) (cpN n (bk_lo A) (bk_lo B)) (nI n) (bk_st B) (bk_av B) (bk_so B) (bk_pa B) (bk_ln B))) 124 [some (.ref (xw_ad v g 0)), some (.ref (xw_ad v q 0)), some (.int (nI n))] []) : ∀ (m : Nat) (k : Nat), n - k < m → k ≤ n → xj v κ post z (xw_up G g (pB v g (cpN 7 (bk_te A) (bk_te B)) (cpN 8 (bk_ho A) (bk_ho B)) (cpN 8 (bk_ow A) (bk_ow B)) (cpN k (bk_hs A) (bk_hs B)) (cpN k (bk_ra A) (bk_ra B)) (cpN k (bk_lo A) (bk_lo B)) (nI n) (bk_st B) (bk_av B) (bk_so B) (bk_pa B) (bk_ln B))) 74 [some (.ref (xw_ad v g 0)), some (.ref (xw_ad v q 0)), some (.int (nI k))] [] := by
  intro m
  induction m with
  | zero => intro k h; exact absurd h (Nat.not_lt_zero _)
  | succ m ih =>
    intro k hm hi
    refine xj_iload_n (i := 2) hk dX0_copyFrom_74 rfl rfl ?_
    refine xj_aload_n (i := 0) hk dX0_copyFrom_75 rfl rfl ?_
    refine xj_getfield hk dX0_copyFrom_76 fl_X0_37 (xw_at xw_up_s rfl) rfl ?_
    refine xj_icmp_ge (tgt := 124) hk dX0_copyFrom_79 (by decide) (fun c79 => ?_) (fun c79 => ?_)
    · have c79 : n ≤ k := (nI_leI (a := n) (b := k) (by omega) (by omega)).mp c79
      have e9 : k = n := by omega
      subst e9
      exact kx
    · have c79 : ¬ n ≤ k := fun q => c79 ((nI_leI (a := n) (b := k) (by omega) (by omega)).mpr q)
      refine xj_aload_n (i := 0) hk dX0_copyFrom_82 rfl rfl ?_
      refine xj_getfield hk dX0_copyFrom_83 fl_X0_21 (xw_at xw_up_s rfl) rfl ?_
      refine xj_iload_n (i := 2) hk dX0_copyFrom_86 rfl rfl ?_
      refine xj_aload_n (i := 1) hk dX0_copyFrom_87 rfl rfl ?_
      refine xj_getfield hk dX0_copyFrom_88 fl_X0_21 (xw_at (show (xw_up G g (pB v g (cpN 7 (bk_te A) (bk_te B)) (cpN 8 (bk_ho A) (bk_ho B)) (cpN 8 (bk_ow A) (bk_ow B)) (cpN k (bk_hs A) (bk_hs B)) (cpN k (bk_ra A) (bk_ra B)) (cpN k (bk_lo A) (bk_lo B)) (nI n) (bk_st B) (bk_av B) (bk_so B) (bk_pa B) (bk_ln B))) q = pc_B v q A from by rw [xw_up_n (Ne.symm hgq), hA]) rfl) rfl ?_
      refine xj_iload_n (i := 2) hk dX0_copyFrom_91 rfl rfl ?_
      refine xj_iaload (k := k) hk dX0_copyFrom_92 (xw_at (show (xw_up G g (pB v g (cpN 7 (bk_te A) (bk_te B)) (cpN 8 (bk_ho A) (bk_ho B)) (cpN 8 (bk_ow A) (bk_ow B)) (cpN k (bk_hs A) (bk_hs B)) (cpN k (bk_ra A) (bk_ra B)) (cpN k (bk_lo A) (bk_lo B)) (nI n) (bk_st B) (bk_av B) (bk_so B) (bk_pa B) (bk_ln B))) q = pc_B v q A from by rw [xw_up_n (Ne.symm hgq), hA]) rfl) (xi_n (by omega) (by decide)) ?_
      refine xj_iastore (k := k) (G2 := xw_up G g (pB v g (cpN 7 (bk_te A) (bk_te B)) (cpN 8 (bk_ho A) (bk_ho B)) (cpN 8 (bk_ow A) (bk_ow B)) (xu (cpN k (bk_hs A) (bk_hs B)) k (bk_hs A k)) (cpN k (bk_ra A) (bk_ra B)) (cpN k (bk_lo A) (bk_lo B)) (nI n) (bk_st B) (bk_av B) (bk_so B) (bk_pa B) (bk_ln B))) hk dX0_copyFrom_93 (xw_at xw_up_s rfl) (xi_n (by omega) (by decide)) (xw_wr2 rfl) ?_
      refine xj_aload_n (i := 0) hk dX0_copyFrom_94 rfl rfl ?_
      refine xj_getfield hk dX0_copyFrom_95 fl_X0_24 (xw_at xw_up_s rfl) rfl ?_
      refine xj_iload_n (i := 2) hk dX0_copyFrom_98 rfl rfl ?_
      refine xj_aload_n (i := 1) hk dX0_copyFrom_99 rfl rfl ?_
      refine xj_getfield hk dX0_copyFrom_100 fl_X0_24 (xw_at (show (xw_up G g (pB v g (cpN 7 (bk_te A) (bk_te B)) (cpN 8 (bk_ho A) (bk_ho B)) (cpN 8 (bk_ow A) (bk_ow B)) (xu (cpN k (bk_hs A) (bk_hs B)) k (bk_hs A k)) (cpN k (bk_ra A) (bk_ra B)) (cpN k (bk_lo A) (bk_lo B)) (nI n) (bk_st B) (bk_av B) (bk_so B) (bk_pa B) (bk_ln B))) q = pc_B v q A from by rw [xw_up_n (Ne.symm hgq), hA]) rfl) rfl ?_
      refine xj_iload_n (i := 2) hk dX0_copyFrom_103 rfl rfl ?_
      refine xj_iaload (k := k) hk dX0_copyFrom_104 (xw_at (show (xw_up G g (pB v g (cpN 7 (bk_te A) (bk_te B)) (cpN 8 (bk_ho A) (bk_ho B)) (cpN 8 (bk_ow A) (bk_ow B)) (xu (cpN k (bk_hs A) (bk_hs B)) k (bk_hs A k)) (cpN k (bk_ra A) (bk_ra B)) (cpN k (bk_lo A) (bk_lo B)) (nI n) (bk_st B) (bk_av B) (bk_so B) (bk_pa B) (bk_ln B))) q = pc_B v q A from by rw [xw_up_n (Ne.symm hgq), hA]) rfl) (xi_n (by omega) (by decide)) ?_
      refine xj_iastore (k := k) (G2 := xw_up G g (pB v g (cpN 7 (bk_te A) (bk_te B)) (cpN 8 (bk_ho A) (bk_ho B)) (cpN 8 (bk_ow A) (bk_ow B)) (xu (cpN k (bk_hs A) (bk_hs B)) k (bk_hs A k)) (xu (cpN k (bk_ra A) (bk_ra B)) k (bk_ra A k)) (cpN k (bk_lo A) (bk_lo B)) (nI n) (bk_st B) (bk_av B) (bk_so B) (bk_pa B) (bk_ln B))) hk dX0_copyFrom_105 (xw_at xw_up_s rfl) (xi_n (by omega) (by decide)) (xw_wr2 rfl) ?_
      refine xj_aload_n (i := 0) hk dX0_copyFrom_106 rfl rfl ?_
      refine xj_getfield hk dX0_copyFrom_107 fl_X0_27 (xw_at xw_up_s rfl) rfl ?_
      refine xj_iload_n (i := 2) hk dX0_copyFrom_110 rfl rfl ?_
      refine xj_aload_n (i := 1) hk dX0_copyFrom_111 rfl rfl ?_
      refine xj_getfield hk dX0_copyFrom_112 fl_X0_27 (xw_at (show (xw_up G g (pB v g (cpN 7 (bk_te A) (bk_te B)) (cpN 8 (bk_ho A) (bk_ho B)) (cpN 8 (bk_ow A) (bk_ow B)) (xu (cpN k (bk_hs A) (bk_hs B)) k (bk_hs A k)) (xu (cpN k (bk_ra A) (bk_ra B)) k (bk_ra A k)) (cpN k (bk_lo A) (bk_lo B)) (nI n) (bk_st B) (bk_av B) (bk_so B) (bk_pa B) (bk_ln B))) q = pc_B v q A from by rw [xw_up_n (Ne.symm hgq), hA]) rfl) rfl ?_
      refine xj_iload_n (i := 2) hk dX0_copyFrom_115 rfl rfl ?_
      refine xj_iaload (k := k) hk dX0_copyFrom_116 (xw_at (show (xw_up G g (pB v g (cpN 7 (bk_te A) (bk_te B)) (cpN 8 (bk_ho A) (bk_ho B)) (cpN 8 (bk_ow A) (bk_ow B)) (xu (cpN k (bk_hs A) (bk_hs B)) k (bk_hs A k)) (xu (cpN k (bk_ra A) (bk_ra B)) k (bk_ra A k)) (cpN k (bk_lo A) (bk_lo B)) (nI n) (bk_st B) (bk_av B) (bk_so B) (bk_pa B) (bk_ln B))) q = pc_B v q A from by rw [xw_up_n (Ne.symm hgq), hA]) rfl) (xi_n (by omega) (by decide)) ?_
      refine xj_iastore (k := k) (G2 := xw_up G g (pB v g (cpN 7 (bk_te A) (bk_te B)) (cpN 8 (bk_ho A) (bk_ho B)) (cpN 8 (bk_ow A) (bk_ow B)) (xu (cpN k (bk_hs A) (bk_hs B)) k (bk_hs A k)) (xu (cpN k (bk_ra A) (bk_ra B)) k (bk_ra A k)) (xu (cpN k (bk_lo A) (bk_lo B)) k (bk_lo A k)) (nI n) (bk_st B) (bk_av B) (bk_so B) (bk_pa B) (bk_ln B))) hk dX0_copyFrom_117 (xw_at xw_up_s rfl) (xi_n (by omega) (by decide)) (xw_wr2 rfl) ?_
      refine xj_iinc (i := 2) (x2 := nI (k + 1)) (ls2 := [some (.ref (xw_ad v g 0)), some (.ref (xw_ad v q 0)), some (.int (nI (k + 1)))]) hk dX0_copyFrom_118 rfl (nI_1 k) (by decide) rfl rfl ?_
      refine xj_goto (tgt := 74) hk dX0_copyFrom_121 (by decide) ?_
      refine xj.eqG (G' := xw_up G g (pB v g (cpN 7 (bk_te A) (bk_te B)) (cpN 8 (bk_ho A) (bk_ho B)) (cpN 8 (bk_ow A) (bk_ow B)) (cpN ((k + 1)) (bk_hs A) (bk_hs B)) (cpN ((k + 1)) (bk_ra A) (bk_ra B)) (cpN ((k + 1)) (bk_lo A) (bk_lo B)) (nI n) (bk_st B) (bk_av B) (bk_so B) (bk_pa B) (bk_ln B))) (by simp only [cp_s]) (ih (k + 1) (by omega) (by omega))

set_option maxHeartbeats 1000000 in
set_option maxRecDepth 10000 in
theorem c_X0_copyFrom {v : xw_V} {G : xw_G} {g q : Nat} {B A : bk_T} {n : Nat} (hB : G g = pc_B v g B) (hA : G q = pc_B v q A) (hgq : g ≠ q) (hn : bk_bi A = nI n) (hn30 : n ≤ 30) : xk_Con v yX0_copyFrom cX0_copyFrom 3 none 1 22 [.ref (xw_ad v g 0), .ref (xw_ad v q 0)] G (xk_ret none (xw_up G g (pB v g (cpN 7 (bk_te A) (bk_te B)) (cpN 8 (bk_ho A) (bk_ho B)) (cpN 8 (bk_ow A) (bk_ow B)) (cpN n (bk_hs A) (bk_hs B)) (cpN n (bk_ra A) (bk_ra B)) (cpN n (bk_lo A) (bk_lo B)) (nI n) (cpN 8 (bk_st A) (bk_st B)) (cpN 8 (bk_av A) (bk_av B)) (cpN 8 (bk_so A) (bk_so B)) (cpN 8 (bk_pa A) (bk_pa B)) (bk_ln A)))) := by
  refine xk_of (ls0 := [some (.ref (xw_ad v g 0)), some (.ref (xw_ad v q 0)), none]) (by decide) rfl (Nat.le_of_ble_eq_true rfl) ?_
  intro κ z hk hz
  refine xj_iconst (x := 0) hk dX0_copyFrom_0 (by decide) ?_
  refine xj_istore_n (i := 2) (ls2 := [some (.ref (xw_ad v g 0)), some (.ref (xw_ad v q 0)), some (.int 0)]) hk dX0_copyFrom_1 rfl (by decide) rfl rfl ?_
  refine xj.eqG (G' := xw_up G g (pB v g (cpN 0 (bk_te A) (bk_te B)) (bk_ho B) (bk_ow B) (bk_hs B) (bk_ra B) (bk_lo B) (bk_bi B) (bk_st B) (bk_av B) (bk_so B) (bk_pa B) (bk_ln B))) (by simp only [cp_0]; exact (xw_up_same hB).symm) ?_
  refine l_X0_copyFrom_2 hk hz hB hA hgq hn hn30 ?_ (7 + 1) 0 (by omega) (by omega)
  refine xj_iconst (x := 0) hk dX0_copyFrom_26 (by decide) ?_
  refine xj_istore_n (i := 2) (ls2 := [some (.ref (xw_ad v g 0)), some (.ref (xw_ad v q 0)), some (.int 0)]) hk dX0_copyFrom_27 rfl (by decide) rfl rfl ?_
  refine xj.eqG (G' := xw_up G g (pB v g (cpN 7 (bk_te A) (bk_te B)) (cpN 0 (bk_ho A) (bk_ho B)) (cpN 0 (bk_ow A) (bk_ow B)) (bk_hs B) (bk_ra B) (bk_lo B) (bk_bi B) (bk_st B) (bk_av B) (bk_so B) (bk_pa B) (bk_ln B))) (by simp only [cp_0]) ?_
  refine l_X0_copyFrom_28 hk hz hB hA hgq hn hn30 ?_ (8 + 1) 0 (by omega) (by omega)
  refine xj_aload_n (i := 0) hk dX0_copyFrom_64 rfl rfl ?_
  refine xj_aload_n (i := 1) hk dX0_copyFrom_65 rfl rfl ?_
  refine xj_getfield hk dX0_copyFrom_66 fl_X0_37 (xw_at (show (xw_up G g (pB v g (cpN 7 (bk_te A) (bk_te B)) (cpN 8 (bk_ho A) (bk_ho B)) (cpN 8 (bk_ow A) (bk_ow B)) (bk_hs B) (bk_ra B) (bk_lo B) (bk_bi B) (bk_st B) (bk_av B) (bk_so B) (bk_pa B) (bk_ln B))) q = pc_B v q A from by rw [xw_up_n (Ne.symm hgq), hA]) rfl) rfl ?_
  refine xj.eqi (x' := nI n) hn ?_
  refine xj_putfield (G2 := xw_up G g (pB v g (cpN 7 (bk_te A) (bk_te B)) (cpN 8 (bk_ho A) (bk_ho B)) (cpN 8 (bk_ow A) (bk_ow B)) (bk_hs B) (bk_ra B) (bk_lo B) (nI n) (bk_st B) (bk_av B) (bk_so B) (bk_pa B) (bk_ln B))) hk dX0_copyFrom_69 fl_X0_37 rfl rfl (xw_at xw_up_s rfl) (Nat.le_of_ble_eq_true rfl) (xw_wr2 rfl) ?_
  refine xj_iconst (x := 0) hk dX0_copyFrom_72 (by decide) ?_
  refine xj_istore_n (i := 2) (ls2 := [some (.ref (xw_ad v g 0)), some (.ref (xw_ad v q 0)), some (.int 0)]) hk dX0_copyFrom_73 rfl (by decide) rfl rfl ?_
  refine xj.eqG (G' := xw_up G g (pB v g (cpN 7 (bk_te A) (bk_te B)) (cpN 8 (bk_ho A) (bk_ho B)) (cpN 8 (bk_ow A) (bk_ow B)) (cpN 0 (bk_hs A) (bk_hs B)) (cpN 0 (bk_ra A) (bk_ra B)) (cpN 0 (bk_lo A) (bk_lo B)) (nI n) (bk_st B) (bk_av B) (bk_so B) (bk_pa B) (bk_ln B))) (by simp only [cp_0]) ?_
  refine l_X0_copyFrom_74 hk hz hB hA hgq hn hn30 ?_ (n + 1) 0 (by omega) (by omega)
  refine xj_aload_n (i := 0) hk dX0_copyFrom_124 rfl rfl ?_
  refine xj_getfield hk dX0_copyFrom_125 fl_X0_33 (xw_at xw_up_s rfl) rfl ?_
  refine xj_aload_n (i := 1) hk dX0_copyFrom_128 rfl rfl ?_
  refine xj_getfield hk dX0_copyFrom_129 fl_X0_33 (xw_at (show (xw_up G g (pB v g (cpN 7 (bk_te A) (bk_te B)) (cpN 8 (bk_ho A) (bk_ho B)) (cpN 8 (bk_ow A) (bk_ow B)) (cpN n (bk_hs A) (bk_hs B)) (cpN n (bk_ra A) (bk_ra B)) (cpN n (bk_lo A) (bk_lo B)) (nI n) (bk_st B) (bk_av B) (bk_so B) (bk_pa B) (bk_ln B))) q = pc_B v q A from by rw [xw_up_n (Ne.symm hgq), hA]) rfl) rfl ?_
  refine xj_callV hk hz (fr1 := 0) (lo1 := 0) (r1 := none) (As := [.ref (xw_ad v q 7)]) (st := []) (st2 := []) (G1 := xw_up G g (pB v g (cpN 7 (bk_te A) (bk_te B)) (cpN 8 (bk_ho A) (bk_ho B)) (cpN 8 (bk_ow A) (bk_ow B)) (cpN n (bk_hs A) (bk_hs B)) (cpN n (bk_ra A) (bk_ra B)) (cpN n (bk_lo A) (bk_lo B)) (nI n) (cpN 8 (bk_st A) (bk_st B)) (cpN 8 (bk_av A) (bk_av B)) (cpN 8 (bk_so A) (bk_so B)) (cpN 8 (bk_pa A) (bk_pa B)) (bk_ln A))) ml_X0_50 (xk_cg (by rw [xw_up_u] <;> rfl) (c_X1_copyFrom (show (xw_up G g (pB v g (cpN 7 (bk_te A) (bk_te B)) (cpN 8 (bk_ho A) (bk_ho B)) (cpN 8 (bk_ow A) (bk_ow B)) (cpN n (bk_hs A) (bk_hs B)) (cpN n (bk_ra A) (bk_ra B)) (cpN n (bk_lo A) (bk_lo B)) (nI n) (bk_st B) (bk_av B) (bk_so B) (bk_pa B) (bk_ln B))) g = pc_B v g (cpN 7 (bk_te A) (bk_te B), cpN 8 (bk_ho A) (bk_ho B), cpN 8 (bk_ow A) (bk_ow B), cpN n (bk_hs A) (bk_hs B), cpN n (bk_ra A) (bk_ra B), cpN n (bk_lo A) (bk_lo B), nI n, bk_st B, bk_av B, bk_so B, bk_pa B, bk_ln B) from xw_up_s) (show (xw_up G g (pB v g (cpN 7 (bk_te A) (bk_te B)) (cpN 8 (bk_ho A) (bk_ho B)) (cpN 8 (bk_ow A) (bk_ow B)) (cpN n (bk_hs A) (bk_hs B)) (cpN n (bk_ra A) (bk_ra B)) (cpN n (bk_lo A) (bk_lo B)) (nI n) (bk_st B) (bk_av B) (bk_so B) (bk_pa B) (bk_ln B))) q = pc_B v q A from (show (xw_up G g (pB v g (cpN 7 (bk_te A) (bk_te B)) (cpN 8 (bk_ho A) (bk_ho B)) (cpN 8 (bk_ow A) (bk_ow B)) (cpN n (bk_hs A) (bk_hs B)) (cpN n (bk_ra A) (bk_ra B)) (cpN n (bk_lo A) (bk_lo B)) (nI n) (bk_st B) (bk_av B) (bk_so B) (bk_pa B) (bk_ln B))) q = pc_B v q A from by rw [xw_up_n (Ne.symm hgq), hA])) hgq)) (xw_at xw_up_s rfl) rfl dX0_copyFrom_132 ⟨Nat.le_of_ble_eq_true rfl, Nat.le_of_ble_eq_true rfl⟩ rfl (Nat.le_of_ble_eq_true rfl) rfl rfl ?_
  refine xj_return hk hz dX0_copyFrom_135 ?_
  exact ⟨rfl, rfl⟩

theorem xi_7 {w : Int32} (h1 : ¬ w < 0) (h2 : ¬ 7 ≤ w) : xi w (xn w) 7 := by
  refine ⟨rfl, h1, ?_⟩
  have h3 := Int32.not_le.mp h2
  rw [Int32.lt_iff_toInt_lt] at h3
  have h4 : w.toInt < 7 := h3
  show w.toInt.toNat < 7
  omega
set_option maxHeartbeats 1000000 in
set_option maxRecDepth 10000 in
theorem c_X0_termFits {v : xw_V} {G : xw_G} {g : Nat} {B : bk_T} (hB : G g = pc_B v g B) (w x : Int32) : xk_Con v yX0_termFits cX0_termFits 3 (some .boolean) 0 0 [.ref (xw_ad v g 0), .int w, .int x] G (xk_ret (some (.int (xb (tfit (bk_te B) w x)))) G) := by
  refine xk_of (ls0 := [some (.ref (xw_ad v g 0)), some (.int w), some (.int x)]) (by decide) rfl (Nat.le_of_ble_eq_true rfl) ?_
  intro κ z hk hz
  refine xj_iload_n (i := 1) hk dX0_termFits_0 rfl rfl ?_
  refine xj_if_lt (tgt := 28) hk dX0_termFits_1 (by decide) (fun c1 => ?_) (fun c1 => ?_)
  · refine xj_iconst (x := 0) hk dX0_termFits_28 (by decide) ?_
    refine xj_zreturn hk hz dX0_termFits_29 (by decide) ?_
    refine ⟨?_, rfl⟩
    first | (subst c32; simp [tfit, xb, *]; done) | (subst c53; simp [tfit, xb, *]; done) | (simp [tfit, xb, *]; done)
  · refine xj_iload_n (i := 1) hk dX0_termFits_4 rfl rfl ?_
    refine xj_bipush (x := 7) hk dX0_termFits_5 (by decide) ?_
    refine xj_icmp_ge (tgt := 28) hk dX0_termFits_7 (by decide) (fun c7 => ?_) (fun c7 => ?_)
    · refine xj_iconst (x := 0) hk dX0_termFits_28 (by decide) ?_
      refine xj_zreturn hk hz dX0_termFits_29 (by decide) ?_
      refine ⟨?_, rfl⟩
      first | (subst c32; simp [tfit, xb, *]; done) | (subst c53; simp [tfit, xb, *]; done) | (simp [tfit, xb, *]; done)
    · refine xj_iload_n (i := 2) hk dX0_termFits_10 rfl rfl ?_
      refine xj_getstat (q := xk_stats[1]) hk (List.getElem_mem _) dX0_termFits_11 sl_X0_54 ?_
      refine xj_iload_n (i := 1) hk dX0_termFits_14 rfl rfl ?_
      refine xj_staload (q := xk_stats[1]) (k := xn w) hk (List.getElem_mem _) dX0_termFits_15 (show xi w (xn w) 7 from (xi_7 c1 c7)) ?_
      refine xj.eqi (x' := st_LEAST (xn w)) rfl ?_
      refine xj_icmp_lt (tgt := 28) hk dX0_termFits_16 (by decide) (fun c16 => ?_) (fun c16 => ?_)
      · refine xj_iconst (x := 0) hk dX0_termFits_28 (by decide) ?_
        refine xj_zreturn hk hz dX0_termFits_29 (by decide) ?_
        refine ⟨?_, rfl⟩
        first | (subst c32; simp [tfit, xb, *]; done) | (subst c53; simp [tfit, xb, *]; done) | (simp [tfit, xb, *]; done)
      · refine xj_iload_n (i := 2) hk dX0_termFits_19 rfl rfl ?_
        refine xj_getstat (q := xk_stats[2]) hk (List.getElem_mem _) dX0_termFits_20 sl_X0_57 ?_
        refine xj_iload_n (i := 1) hk dX0_termFits_23 rfl rfl ?_
        refine xj_staload (q := xk_stats[2]) (k := xn w) hk (List.getElem_mem _) dX0_termFits_24 (show xi w (xn w) 7 from (xi_7 c1 c7)) ?_
        refine xj.eqi (x' := st_MOST (xn w)) rfl ?_
        refine xj_icmp_le (tgt := 30) hk dX0_termFits_25 (by decide) (fun c25 => ?_) (fun c25 => ?_)
        · refine xj_iload_n (i := 1) hk dX0_termFits_30 rfl rfl ?_
          refine xj_iconst (x := 3) hk dX0_termFits_31 (by decide) ?_
          refine xj_icmp_ne (tgt := 51) hk dX0_termFits_32 (by decide) (fun c32 => ?_) (fun c32 => ?_)
          · refine xj_iload_n (i := 1) hk dX0_termFits_51 rfl rfl ?_
            refine xj_iconst (x := 4) hk dX0_termFits_52 (by decide) ?_
            refine xj_icmp_ne (tgt := 66) hk dX0_termFits_53 (by decide) (fun c53 => ?_) (fun c53 => ?_)
            · refine xj_iconst (x := 1) hk dX0_termFits_66 (by decide) ?_
              refine xj_goto (tgt := 71) hk dX0_termFits_67 (by decide) ?_
              refine xj_zreturn hk hz dX0_termFits_71 (by decide) ?_
              refine ⟨?_, rfl⟩
              first | (subst c32; simp [tfit, xb, *]; done) | (subst c53; simp [tfit, xb, *]; done) | (simp [tfit, xb, *]; done)
            · refine xj_iload_n (i := 2) hk dX0_termFits_56 rfl rfl ?_
              refine xj_aload_n (i := 0) hk dX0_termFits_57 rfl rfl ?_
              refine xj_getfield hk dX0_termFits_58 fl_X0_9 (xw_at hB rfl) rfl ?_
              refine xj_iconst (x := 3) hk dX0_termFits_61 (by decide) ?_
              refine xj_iaload (k := 3) hk dX0_termFits_62 (xw_at hB rfl) (xi_d 3 7 (by decide)) ?_
              refine xj_icmp_lt (tgt := 70) hk dX0_termFits_63 (by decide) (fun c63 => ?_) (fun c63 => ?_)
              · refine xj_iconst (x := 0) hk dX0_termFits_70 (by decide) ?_
                refine xj_zreturn hk hz dX0_termFits_71 (by decide) ?_
                refine ⟨?_, rfl⟩
                first | (subst c32; simp [tfit, xb, *]; done) | (subst c53; simp [tfit, xb, *]; done) | (simp [tfit, xb, *]; done)
              · refine xj_iconst (x := 1) hk dX0_termFits_66 (by decide) ?_
                refine xj_goto (tgt := 71) hk dX0_termFits_67 (by decide) ?_
                refine xj_zreturn hk hz dX0_termFits_71 (by decide) ?_
                refine ⟨?_, rfl⟩
                first | (subst c32; simp [tfit, xb, *]; done) | (subst c53; simp [tfit, xb, *]; done) | (simp [tfit, xb, *]; done)
          · refine xj_iload_n (i := 2) hk dX0_termFits_35 rfl rfl ?_
            refine xj_aload_n (i := 0) hk dX0_termFits_36 rfl rfl ?_
            refine xj_getfield hk dX0_termFits_37 fl_X0_9 (xw_at hB rfl) rfl ?_
            refine xj_iconst (x := 4) hk dX0_termFits_40 (by decide) ?_
            refine xj_iaload (k := 4) hk dX0_termFits_41 (xw_at hB rfl) (xi_d 4 7 (by decide)) ?_
            refine xj_icmp_gt (tgt := 49) hk dX0_termFits_42 (by decide) (fun c42 => ?_) (fun c42 => ?_)
            · refine xj_iconst (x := 0) hk dX0_termFits_49 (by decide) ?_
              refine xj_zreturn hk hz dX0_termFits_50 (by decide) ?_
              refine ⟨?_, rfl⟩
              first | (subst c32; simp [tfit, xb, *]; done) | (subst c53; simp [tfit, xb, *]; done) | (simp [tfit, xb, *]; done)
            · refine xj_iconst (x := 1) hk dX0_termFits_45 (by decide) ?_
              refine xj_goto (tgt := 50) hk dX0_termFits_46 (by decide) ?_
              refine xj_zreturn hk hz dX0_termFits_50 (by decide) ?_
              refine ⟨?_, rfl⟩
              first | (subst c32; simp [tfit, xb, *]; done) | (subst c53; simp [tfit, xb, *]; done) | (simp [tfit, xb, *]; done)
        · refine xj_iconst (x := 0) hk dX0_termFits_28 (by decide) ?_
          refine xj_zreturn hk hz dX0_termFits_29 (by decide) ?_
          refine ⟨?_, rfl⟩
          first | (subst c32; simp [tfit, xb, *]; done) | (subst c53; simp [tfit, xb, *]; done) | (simp [tfit, xb, *]; done)

set_option maxHeartbeats 1000000 in
set_option maxRecDepth 10000 in
theorem c_X0_priceAt {v : xw_V} {G : xw_G} {g : Nat} {B : bk_T} (hB : G g = pc_B v g B) (x : Int32) : xk_Con v yX0_priceAt cX0_priceAt 2 (some .int) 0 0 [.ref (xw_ad v g 0), .int x] G (xk_ret (some (.int (pric (bk_te B) x))) G) := by
  refine xk_of (ls0 := [some (.ref (xw_ad v g 0)), some (.int x)]) (by decide) rfl (Nat.le_of_ble_eq_true rfl) ?_
  intro κ z hk hz
  refine xj_ldc (x := 1000000) hk dX0_priceAt_0 kl_X0_78 ?_
  refine xj_iload_n (i := 1) hk dX0_priceAt_2 rfl rfl ?_
  refine xj_aload_n (i := 0) hk dX0_priceAt_3 rfl rfl ?_
  refine xj_getfield hk dX0_priceAt_4 fl_X0_9 (xw_at hB rfl) rfl ?_
  refine xj_iconst (x := 5) hk dX0_priceAt_7 (by decide) ?_
  refine xj_iaload (k := 5) hk dX0_priceAt_8 (xw_at hB rfl) (xi_d 5 7 (by decide)) ?_
  refine xj_imul hk dX0_priceAt_9 ?_
  refine xj_bipush (x := 100) hk dX0_priceAt_10 (by decide) ?_
  refine xj_imul hk dX0_priceAt_12 ?_
  refine xj_sipush (x := 360) hk dX0_priceAt_13 (by decide) ?_
  refine xj_idiv hk dX0_priceAt_16 (by decide) ?_
  refine xj_isub hk dX0_priceAt_17 ?_
  refine xj_ireturn hk hz dX0_priceAt_18 ?_
  exact ⟨rfl, rfl⟩

set_option maxHeartbeats 1000000 in
set_option maxRecDepth 10000 in
theorem c_X0_lotsOf {v : xw_V} {G : xw_G} {g : Nat} {B : bk_T} {n : Nat} (hB : G g = pc_B v g B) (hn : bk_bi B = nI n) (hn30 : n ≤ 30) (x : Int32) : xk_Con v yX0_lotsOf cX0_lotsOf 2 (some .int) 1 25 [.ref (xw_ad v g 0), .int x] G (xk_ret (some (.int (sm (sel (bk_hs B) x (bk_lo B)) n))) G) := by
  refine xk_of (ls0 := [some (.ref (xw_ad v g 0)), some (.int x)]) (by decide) rfl (Nat.le_of_ble_eq_true rfl) ?_
  intro κ z hk hz
  refine xj_aload_n (i := 0) hk dX0_lotsOf_0 rfl rfl ?_
  refine xj_getfield hk dX0_lotsOf_1 fl_X0_27 (xw_at hB rfl) rfl ?_
  refine xj_aload_n (i := 0) hk dX0_lotsOf_4 rfl rfl ?_
  refine xj_getfield hk dX0_lotsOf_5 fl_X0_21 (xw_at hB rfl) rfl ?_
  refine xj_iload_n (i := 1) hk dX0_lotsOf_8 rfl rfl ?_
  refine xj_aload_n (i := 0) hk dX0_lotsOf_9 rfl rfl ?_
  refine xj_getfield hk dX0_lotsOf_10 fl_X0_37 (xw_at hB rfl) rfl ?_
  refine xj.eqi (x' := nI n) hn ?_
  refine xj_callS hk hz (fr1 := 0) (lo1 := 0) (r1 := some (.int (sm (sel (bk_hs B) x (bk_lo B)) n))) (As := [.ref (xw_ad v g 6), .ref (xw_ad v g 4), .int x, .int (nI n)]) (st := []) (st2 := [.int (sm (sel (bk_hs B) x (bk_lo B)) n)]) (G1 := G) ml_X0_79 (c_X7_sumWhere (n := n) (xw_at (c := xw_ei v 30 (bk_lo B)) hB rfl) (xw_at (c := xw_ei v 30 (bk_hs B)) hB rfl) (by omega) (by omega) (by omega) (by omega) (by omega)) dX0_lotsOf_13 ⟨Nat.le_of_ble_eq_true rfl, Nat.le_of_ble_eq_true rfl⟩ rfl (Nat.le_of_ble_eq_true rfl) rfl rfl ?_
  refine xj_ireturn hk hz dX0_lotsOf_16 ?_
  exact ⟨rfl, rfl⟩

set_option maxHeartbeats 1000000 in
set_option maxRecDepth 10000 in
theorem l_X0_ownersInAll_4 {v : xw_V} {κ : xk_K} {post : Option Value → xw_G → Prop} {z : Nat × Nat × Nat} {G : xw_G} {g : Nat} {B : bk_T} (hk : xk_Ok v κ yX0_ownersInAll cX0_ownersInAll 3 (some .int) 1 23) (hz : xk_zf κ = z) (hB : G g = pc_B v g B) (kx : xj v κ post z G 27 [some (.ref (xw_ad v g 0)), some (.int (sm (fun j => if ownd (bk_ow B) (nI j) ≤ 0 then 0 else 1) 8)), some (.int (nI 8))] []) : ∀ (m : Nat) (k : Nat), 8 - k < m → k ≤ 8 → xj v κ post z G 4 [some (.ref (xw_ad v g 0)), some (.int (sm (fun j => if ownd (bk_ow B) (nI j) ≤ 0 then 0 else 1) k)), some (.int (nI k))] [] := by
  intro m
  induction m with
  | zero => intro k h; exact absurd h (Nat.not_lt_zero _)
  | succ m ih =>
    intro k hm hi
    refine xj_iload_n (i := 2) hk dX0_ownersInAll_4 rfl rfl ?_
    refine xj_bipush (x := 8) hk dX0_ownersInAll_5 (by decide) ?_
    refine xj_icmp_ge (tgt := 27) hk dX0_ownersInAll_7 (by decide) (fun c7 => ?_) (fun c7 => ?_)
    · have c7 : 8 ≤ k := (nI_leI (a := 8) (b := k) (by omega) (by omega)).mp c7
      have e9 : k = 8 := by omega
      subst e9
      exact kx
    · have c7 : ¬ 8 ≤ k := fun q => c7 ((nI_leI (a := 8) (b := k) (by omega) (by omega)).mpr q)
      refine xj_aload_n (i := 0) hk dX0_ownersInAll_10 rfl rfl ?_
      refine xj_iload_n (i := 2) hk dX0_ownersInAll_11 rfl rfl ?_
      refine xj_callV hk hz (fr1 := 0) (lo1 := 0) (r1 := some (.int (ownd (bk_ow B) (nI k)))) (As := [.int (nI k)]) (st := []) (st2 := [.int (ownd (bk_ow B) (nI k))]) (G1 := G) ml_X0_83 (c_X0_ownedBy (show G g = pc_B v g B from hB) (nI k)) (xw_at hB rfl) rfl dX0_ownersInAll_12 ⟨Nat.le_of_ble_eq_true rfl, Nat.le_of_ble_eq_true rfl⟩ rfl (Nat.le_of_ble_eq_true rfl) rfl rfl ?_
      refine xj_if_le (tgt := 21) hk dX0_ownersInAll_15 (by decide) (fun c15 => ?_) (fun c15 => ?_)
      · refine xj_iinc (i := 2) (x2 := nI (k + 1)) (ls2 := [some (.ref (xw_ad v g 0)), some (.int (sm (fun j => if ownd (bk_ow B) (nI j) ≤ 0 then 0 else 1) k)), some (.int (nI (k + 1)))]) hk dX0_ownersInAll_21 rfl (nI_1 k) (by decide) rfl rfl ?_
        refine xj_goto (tgt := 4) hk dX0_ownersInAll_24 (by decide) ?_
        refine xj.to (ls' := [some (.ref (xw_ad v g 0)), some (.int (sm (fun j => if ownd (bk_ow B) (nI j) ≤ 0 then 0 else 1) ((k + 1)))), some (.int (nI ((k + 1))))]) (by simp [sm, *]) (ih (k + 1) (by omega) (by omega))
      · refine xj_iinc (i := 1) (x2 := (sm (fun j => if ownd (bk_ow B) (nI j) ≤ 0 then 0 else 1) k) + 1) (ls2 := [some (.ref (xw_ad v g 0)), some (.int ((sm (fun j => if ownd (bk_ow B) (nI j) ≤ 0 then 0 else 1) k) + 1)), some (.int (nI k))]) hk dX0_ownersInAll_18 rfl rfl (by decide) rfl rfl ?_
        refine xj_iinc (i := 2) (x2 := nI (k + 1)) (ls2 := [some (.ref (xw_ad v g 0)), some (.int ((sm (fun j => if ownd (bk_ow B) (nI j) ≤ 0 then 0 else 1) k) + 1)), some (.int (nI (k + 1)))]) hk dX0_ownersInAll_21 rfl (nI_1 k) (by decide) rfl rfl ?_
        refine xj_goto (tgt := 4) hk dX0_ownersInAll_24 (by decide) ?_
        refine xj.to (ls' := [some (.ref (xw_ad v g 0)), some (.int (sm (fun j => if ownd (bk_ow B) (nI j) ≤ 0 then 0 else 1) ((k + 1)))), some (.int (nI ((k + 1))))]) (by simp [sm, *]) (ih (k + 1) (by omega) (by omega))

set_option maxHeartbeats 1000000 in
set_option maxRecDepth 10000 in
theorem c_X0_ownersInAll {v : xw_V} {G : xw_G} {g : Nat} {B : bk_T} (hB : G g = pc_B v g B) : xk_Con v yX0_ownersInAll cX0_ownersInAll 3 (some .int) 1 23 [.ref (xw_ad v g 0)] G (xk_ret (some (.int (sm (fun j => if ownd (bk_ow B) (nI j) ≤ 0 then 0 else 1) 8))) G) := by
  refine xk_of (ls0 := [some (.ref (xw_ad v g 0)), none, none]) (by decide) rfl (Nat.le_of_ble_eq_true rfl) ?_
  intro κ z hk hz
  refine xj_iconst (x := 0) hk dX0_ownersInAll_0 (by decide) ?_
  refine xj_istore_n (i := 1) (ls2 := [some (.ref (xw_ad v g 0)), some (.int 0), none]) hk dX0_ownersInAll_1 rfl (by decide) rfl rfl ?_
  refine xj_iconst (x := 0) hk dX0_ownersInAll_2 (by decide) ?_
  refine xj_istore_n (i := 2) (ls2 := [some (.ref (xw_ad v g 0)), some (.int 0), some (.int 0)]) hk dX0_ownersInAll_3 rfl (by decide) rfl rfl ?_
  refine l_X0_ownersInAll_4 hk hz hB ?_ (8 + 1) 0 (by omega) (by omega)
  refine xj_iload_n (i := 1) hk dX0_ownersInAll_27 rfl rfl ?_
  refine xj_ireturn hk hz dX0_ownersInAll_28 ?_
  exact ⟨rfl, rfl⟩

set_option maxHeartbeats 1000000 in
set_option maxRecDepth 10000 in
theorem l_X0_housesWithBids_4 {v : xw_V} {κ : xk_K} {post : Option Value → xw_G → Prop} {z : Nat × Nat × Nat} {G : xw_G} {g : Nat} {B : bk_T} {n : Nat} (hk : xk_Ok v κ yX0_housesWithBids cX0_housesWithBids 3 (some .int) 2 46) (hz : xk_zf κ = z) (hB : G g = pc_B v g B) (hn : bk_bi B = nI n) (hn30 : n ≤ 30) (kx : xj v κ post z G 27 [some (.ref (xw_ad v g 0)), some (.int (sm (fun j => if sm (sel (bk_hs B) (nI j) (bk_lo B)) n ≤ 0 then 0 else 1) 8)), some (.int (nI 8))] []) : ∀ (m : Nat) (k : Nat), 8 - k < m → k ≤ 8 → xj v κ post z G 4 [some (.ref (xw_ad v g 0)), some (.int (sm (fun j => if sm (sel (bk_hs B) (nI j) (bk_lo B)) n ≤ 0 then 0 else 1) k)), some (.int (nI k))] [] := by
  intro m
  induction m with
  | zero => intro k h; exact absurd h (Nat.not_lt_zero _)
  | succ m ih =>
    intro k hm hi
    refine xj_iload_n (i := 2) hk dX0_housesWithBids_4 rfl rfl ?_
    refine xj_bipush (x := 8) hk dX0_housesWithBids_5 (by decide) ?_
    refine xj_icmp_ge (tgt := 27) hk dX0_housesWithBids_7 (by decide) (fun c7 => ?_) (fun c7 => ?_)
    · have c7 : 8 ≤ k := (nI_leI (a := 8) (b := k) (by omega) (by omega)).mp c7
      have e9 : k = 8 := by omega
      subst e9
      exact kx
    · have c7 : ¬ 8 ≤ k := fun q => c7 ((nI_leI (a := 8) (b := k) (by omega) (by omega)).mpr q)
      refine xj_aload_n (i := 0) hk dX0_housesWithBids_10 rfl rfl ?_
      refine xj_iload_n (i := 2) hk dX0_housesWithBids_11 rfl rfl ?_
      refine xj_callV hk hz (fr1 := 1) (lo1 := 25) (r1 := some (.int (sm (sel (bk_hs B) (nI k) (bk_lo B)) n))) (As := [.int (nI k)]) (st := []) (st2 := [.int (sm (sel (bk_hs B) (nI k) (bk_lo B)) n)]) (G1 := G) ml_X0_86 (c_X0_lotsOf (n := n) (show G g = pc_B v g B from hB) hn hn30 (nI k)) (xw_at hB rfl) rfl dX0_housesWithBids_12 ⟨Nat.le_of_ble_eq_true rfl, Nat.le_of_ble_eq_true rfl⟩ rfl (Nat.le_of_ble_eq_true rfl) rfl rfl ?_
      refine xj_if_le (tgt := 21) hk dX0_housesWithBids_15 (by decide) (fun c15 => ?_) (fun c15 => ?_)
      · refine xj_iinc (i := 2) (x2 := nI (k + 1)) (ls2 := [some (.ref (xw_ad v g 0)), some (.int (sm (fun j => if sm (sel (bk_hs B) (nI j) (bk_lo B)) n ≤ 0 then 0 else 1) k)), some (.int (nI (k + 1)))]) hk dX0_housesWithBids_21 rfl (nI_1 k) (by decide) rfl rfl ?_
        refine xj_goto (tgt := 4) hk dX0_housesWithBids_24 (by decide) ?_
        refine xj.to (ls' := [some (.ref (xw_ad v g 0)), some (.int (sm (fun j => if sm (sel (bk_hs B) (nI j) (bk_lo B)) n ≤ 0 then 0 else 1) ((k + 1)))), some (.int (nI ((k + 1))))]) (by simp [sm, *]) (ih (k + 1) (by omega) (by omega))
      · refine xj_iinc (i := 1) (x2 := (sm (fun j => if sm (sel (bk_hs B) (nI j) (bk_lo B)) n ≤ 0 then 0 else 1) k) + 1) (ls2 := [some (.ref (xw_ad v g 0)), some (.int ((sm (fun j => if sm (sel (bk_hs B) (nI j) (bk_lo B)) n ≤ 0 then 0 else 1) k) + 1)), some (.int (nI k))]) hk dX0_housesWithBids_18 rfl rfl (by decide) rfl rfl ?_
        refine xj_iinc (i := 2) (x2 := nI (k + 1)) (ls2 := [some (.ref (xw_ad v g 0)), some (.int ((sm (fun j => if sm (sel (bk_hs B) (nI j) (bk_lo B)) n ≤ 0 then 0 else 1) k) + 1)), some (.int (nI (k + 1)))]) hk dX0_housesWithBids_21 rfl (nI_1 k) (by decide) rfl rfl ?_
        refine xj_goto (tgt := 4) hk dX0_housesWithBids_24 (by decide) ?_
        refine xj.to (ls' := [some (.ref (xw_ad v g 0)), some (.int (sm (fun j => if sm (sel (bk_hs B) (nI j) (bk_lo B)) n ≤ 0 then 0 else 1) ((k + 1)))), some (.int (nI ((k + 1))))]) (by simp [sm, *]) (ih (k + 1) (by omega) (by omega))

set_option maxHeartbeats 1000000 in
set_option maxRecDepth 10000 in
theorem c_X0_housesWithBids {v : xw_V} {G : xw_G} {g : Nat} {B : bk_T} {n : Nat} (hB : G g = pc_B v g B) (hn : bk_bi B = nI n) (hn30 : n ≤ 30) : xk_Con v yX0_housesWithBids cX0_housesWithBids 3 (some .int) 2 46 [.ref (xw_ad v g 0)] G (xk_ret (some (.int (sm (fun j => if sm (sel (bk_hs B) (nI j) (bk_lo B)) n ≤ 0 then 0 else 1) 8))) G) := by
  refine xk_of (ls0 := [some (.ref (xw_ad v g 0)), none, none]) (by decide) rfl (Nat.le_of_ble_eq_true rfl) ?_
  intro κ z hk hz
  refine xj_iconst (x := 0) hk dX0_housesWithBids_0 (by decide) ?_
  refine xj_istore_n (i := 1) (ls2 := [some (.ref (xw_ad v g 0)), some (.int 0), none]) hk dX0_housesWithBids_1 rfl (by decide) rfl rfl ?_
  refine xj_iconst (x := 0) hk dX0_housesWithBids_2 (by decide) ?_
  refine xj_istore_n (i := 2) (ls2 := [some (.ref (xw_ad v g 0)), some (.int 0), some (.int 0)]) hk dX0_housesWithBids_3 rfl (by decide) rfl rfl ?_
  refine l_X0_housesWithBids_4 hk hz hB hn hn30 ?_ (8 + 1) 0 (by omega) (by omega)
  refine xj_iload_n (i := 1) hk dX0_housesWithBids_27 rfl rfl ?_
  refine xj_ireturn hk hz dX0_housesWithBids_28 ?_
  exact ⟨rfl, rfl⟩

set_option maxHeartbeats 1000000 in
set_option maxRecDepth 10000 in
theorem l_X0_plainBids_4 {v : xw_V} {κ : xk_K} {post : Option Value → xw_G → Prop} {z : Nat × Nat × Nat} {G : xw_G} {g : Nat} {B : bk_T} {n : Nat} (hk : xk_Ok v κ yX0_plainBids cX0_plainBids 3 (some .int) 0 0) (hz : xk_zf κ = z) (hB : G g = pc_B v g B) (hn : bk_bi B = nI n) (hn30 : n ≤ 30) (kx : xj v κ post z G 31 [some (.ref (xw_ad v g 0)), some (.int (sm (fun j => if bk_ra B j = -1 then 1 else 0) n)), some (.int (nI n))] []) : ∀ (m : Nat) (k : Nat), n - k < m → k ≤ n → xj v κ post z G 4 [some (.ref (xw_ad v g 0)), some (.int (sm (fun j => if bk_ra B j = -1 then 1 else 0) k)), some (.int (nI k))] [] := by
  intro m
  induction m with
  | zero => intro k h; exact absurd h (Nat.not_lt_zero _)
  | succ m ih =>
    intro k hm hi
    refine xj_iload_n (i := 2) hk dX0_plainBids_4 rfl rfl ?_
    refine xj_aload_n (i := 0) hk dX0_plainBids_5 rfl rfl ?_
    refine xj_getfield hk dX0_plainBids_6 fl_X0_37 (xw_at hB rfl) rfl ?_
    refine xj.eqi (x' := nI n) hn ?_
    refine xj_icmp_ge (tgt := 31) hk dX0_plainBids_9 (by decide) (fun c9 => ?_) (fun c9 => ?_)
    · have c9 : n ≤ k := (nI_leI (a := n) (b := k) (by omega) (by omega)).mp c9
      have e9 : k = n := by omega
      subst e9
      exact kx
    · have c9 : ¬ n ≤ k := fun q => c9 ((nI_leI (a := n) (b := k) (by omega) (by omega)).mpr q)
      refine xj_aload_n (i := 0) hk dX0_plainBids_12 rfl rfl ?_
      refine xj_getfield hk dX0_plainBids_13 fl_X0_24 (xw_at hB rfl) rfl ?_
      refine xj_iload_n (i := 2) hk dX0_plainBids_16 rfl rfl ?_
      refine xj_iaload (k := k) hk dX0_plainBids_17 (xw_at hB rfl) (xi_n (by omega) (by decide)) ?_
      refine xj_iconst (x := (-1)) hk dX0_plainBids_18 (by decide) ?_
      refine xj_icmp_ne (tgt := 25) hk dX0_plainBids_19 (by decide) (fun c19 => ?_) (fun c19 => ?_)
      · refine xj_iinc (i := 2) (x2 := nI (k + 1)) (ls2 := [some (.ref (xw_ad v g 0)), some (.int (sm (fun j => if bk_ra B j = -1 then 1 else 0) k)), some (.int (nI (k + 1)))]) hk dX0_plainBids_25 rfl (nI_1 k) (by decide) rfl rfl ?_
        refine xj_goto (tgt := 4) hk dX0_plainBids_28 (by decide) ?_
        refine xj.to (ls' := [some (.ref (xw_ad v g 0)), some (.int (sm (fun j => if bk_ra B j = -1 then 1 else 0) ((k + 1)))), some (.int (nI ((k + 1))))]) (by simp [sm, *]) (ih (k + 1) (by omega) (by omega))
      · refine xj_iinc (i := 1) (x2 := (sm (fun j => if bk_ra B j = -1 then 1 else 0) k) + 1) (ls2 := [some (.ref (xw_ad v g 0)), some (.int ((sm (fun j => if bk_ra B j = -1 then 1 else 0) k) + 1)), some (.int (nI k))]) hk dX0_plainBids_22 rfl rfl (by decide) rfl rfl ?_
        refine xj_iinc (i := 2) (x2 := nI (k + 1)) (ls2 := [some (.ref (xw_ad v g 0)), some (.int ((sm (fun j => if bk_ra B j = -1 then 1 else 0) k) + 1)), some (.int (nI (k + 1)))]) hk dX0_plainBids_25 rfl (nI_1 k) (by decide) rfl rfl ?_
        refine xj_goto (tgt := 4) hk dX0_plainBids_28 (by decide) ?_
        refine xj.to (ls' := [some (.ref (xw_ad v g 0)), some (.int (sm (fun j => if bk_ra B j = -1 then 1 else 0) ((k + 1)))), some (.int (nI ((k + 1))))]) (by simp [sm, *]) (ih (k + 1) (by omega) (by omega))

set_option maxHeartbeats 1000000 in
set_option maxRecDepth 10000 in
theorem c_X0_plainBids {v : xw_V} {G : xw_G} {g : Nat} {B : bk_T} {n : Nat} (hB : G g = pc_B v g B) (hn : bk_bi B = nI n) (hn30 : n ≤ 30) : xk_Con v yX0_plainBids cX0_plainBids 3 (some .int) 0 0 [.ref (xw_ad v g 0)] G (xk_ret (some (.int (sm (fun j => if bk_ra B j = -1 then 1 else 0) n))) G) := by
  refine xk_of (ls0 := [some (.ref (xw_ad v g 0)), none, none]) (by decide) rfl (Nat.le_of_ble_eq_true rfl) ?_
  intro κ z hk hz
  refine xj_iconst (x := 0) hk dX0_plainBids_0 (by decide) ?_
  refine xj_istore_n (i := 1) (ls2 := [some (.ref (xw_ad v g 0)), some (.int 0), none]) hk dX0_plainBids_1 rfl (by decide) rfl rfl ?_
  refine xj_iconst (x := 0) hk dX0_plainBids_2 (by decide) ?_
  refine xj_istore_n (i := 2) (ls2 := [some (.ref (xw_ad v g 0)), some (.int 0), some (.int 0)]) hk dX0_plainBids_3 rfl (by decide) rfl rfl ?_
  refine l_X0_plainBids_4 hk hz hB hn hn30 ?_ (n + 1) 0 (by omega) (by omega)
  refine xj_iload_n (i := 1) hk dX0_plainBids_31 rfl rfl ?_
  refine xj_ireturn hk hz dX0_plainBids_32 ?_
  exact ⟨rfl, rfl⟩

set_option maxHeartbeats 1000000 in
set_option maxRecDepth 10000 in
theorem l_X0_firstLike_2 {v : xw_V} {κ : xk_K} {post : Option Value → xw_G → Prop} {z : Nat × Nat × Nat} {G : xw_G} {g : Nat} {B : bk_T} {b : Nat} (hk : xk_Ok v κ yX0_firstLike cX0_firstLike 3 (some .int) 0 0) (hz : xk_zf κ = z) (hB : G g = pc_B v g B) (hb : b < 30) (kx : fnd (like (bk_hs B) (bk_ra B) b) b = b → xj v κ post z G 45 [some (.ref (xw_ad v g 0)), some (.int (nI b)), some (.int (nI b))] []) (kr : ∀ k : Nat, k < b → fnd (like (bk_hs B) (bk_ra B) b) b = k → xj v κ post z G 37 [some (.ref (xw_ad v g 0)), some (.int (nI b)), some (.int (nI k))] []) : ∀ (m : Nat) (k : Nat), b - k < m → k ≤ b → fnd (like (bk_hs B) (bk_ra B) b) k = k → xj v κ post z G 2 [some (.ref (xw_ad v g 0)), some (.int (nI b)), some (.int (nI k))] [] := by
  intro m
  induction m with
  | zero => intro k h; exact absurd h (Nat.not_lt_zero _)
  | succ m ih =>
    intro k hm hi hf
    refine xj_iload_n (i := 2) hk dX0_firstLike_2 rfl rfl ?_
    refine xj_iload_n (i := 1) hk dX0_firstLike_3 rfl rfl ?_
    refine xj_icmp_ge (tgt := 45) hk dX0_firstLike_4 (by decide) (fun c4 => ?_) (fun c4 => ?_)
    · have c4 : b ≤ k := (nI_leI (a := b) (b := k) (by omega) (by omega)).mp c4
      have e9 : k = b := by omega
      subst e9
      exact kx hf
    · have c4 : ¬ b ≤ k := fun q => c4 ((nI_leI (a := b) (b := k) (by omega) (by omega)).mpr q)
      refine xj_aload_n (i := 0) hk dX0_firstLike_7 rfl rfl ?_
      refine xj_getfield hk dX0_firstLike_8 fl_X0_21 (xw_at hB rfl) rfl ?_
      refine xj_iload_n (i := 2) hk dX0_firstLike_11 rfl rfl ?_
      refine xj_iaload (k := k) hk dX0_firstLike_12 (xw_at hB rfl) (xi_n (by omega) (by decide)) ?_
      refine xj_aload_n (i := 0) hk dX0_firstLike_13 rfl rfl ?_
      refine xj_getfield hk dX0_firstLike_14 fl_X0_21 (xw_at hB rfl) rfl ?_
      refine xj_iload_n (i := 1) hk dX0_firstLike_17 rfl rfl ?_
      refine xj_iaload (k := b) hk dX0_firstLike_18 (xw_at hB rfl) (xi_n (by omega) (by decide)) ?_
      refine xj_icmp_ne (tgt := 39) hk dX0_firstLike_19 (by decide) (fun c19 => ?_) (fun c19 => ?_)
      · refine xj_iinc (i := 2) (x2 := nI (k + 1)) (ls2 := [some (.ref (xw_ad v g 0)), some (.int (nI b)), some (.int (nI (k + 1)))]) hk dX0_firstLike_39 rfl (nI_1 k) (by decide) rfl rfl ?_
        refine xj_goto (tgt := 2) hk dX0_firstLike_42 (by decide) ?_
        exact ih (k + 1) (by omega) (by omega) (fnd_no hf (by simp [like, *]))
      · refine xj_aload_n (i := 0) hk dX0_firstLike_22 rfl rfl ?_
        refine xj_getfield hk dX0_firstLike_23 fl_X0_24 (xw_at hB rfl) rfl ?_
        refine xj_iload_n (i := 2) hk dX0_firstLike_26 rfl rfl ?_
        refine xj_iaload (k := k) hk dX0_firstLike_27 (xw_at hB rfl) (xi_n (by omega) (by decide)) ?_
        refine xj_aload_n (i := 0) hk dX0_firstLike_28 rfl rfl ?_
        refine xj_getfield hk dX0_firstLike_29 fl_X0_24 (xw_at hB rfl) rfl ?_
        refine xj_iload_n (i := 1) hk dX0_firstLike_32 rfl rfl ?_
        refine xj_iaload (k := b) hk dX0_firstLike_33 (xw_at hB rfl) (xi_n (by omega) (by decide)) ?_
        refine xj_icmp_ne (tgt := 39) hk dX0_firstLike_34 (by decide) (fun c34 => ?_) (fun c34 => ?_)
        · refine xj_iinc (i := 2) (x2 := nI (k + 1)) (ls2 := [some (.ref (xw_ad v g 0)), some (.int (nI b)), some (.int (nI (k + 1)))]) hk dX0_firstLike_39 rfl (nI_1 k) (by decide) rfl rfl ?_
          refine xj_goto (tgt := 2) hk dX0_firstLike_42 (by decide) ?_
          exact ih (k + 1) (by omega) (by omega) (fnd_no hf (by simp [like, *]))
        · exact kr k (by omega) (fnd_at hf (by simp [like, *]) b (by omega))

set_option maxHeartbeats 1000000 in
set_option maxRecDepth 10000 in
theorem c_X0_firstLike {v : xw_V} {G : xw_G} {g : Nat} {B : bk_T} {b : Nat} (hB : G g = pc_B v g B) (hb : b < 30) : xk_Con v yX0_firstLike cX0_firstLike 3 (some .int) 0 0 [.ref (xw_ad v g 0), .int (nI b)] G (xk_ret (some (.int (nI (fnd (like (bk_hs B) (bk_ra B) b) b)))) G) := by
  refine xk_of (ls0 := [some (.ref (xw_ad v g 0)), some (.int (nI b)), none]) (by decide) rfl (Nat.le_of_ble_eq_true rfl) ?_
  intro κ z hk hz
  refine xj_iconst (x := 0) hk dX0_firstLike_0 (by decide) ?_
  refine xj_istore_n (i := 2) (ls2 := [some (.ref (xw_ad v g 0)), some (.int (nI b)), some (.int 0)]) hk dX0_firstLike_1 rfl (by decide) rfl rfl ?_
  refine l_X0_firstLike_2 hk hz hB hb (fun q9 => ?_) (fun k hk9 q9 => ?_) (b + 1) 0 (by omega) (by omega) rfl
  · refine xj_iload_n (i := 1) hk dX0_firstLike_45 rfl rfl ?_
    refine xj_ireturn hk hz dX0_firstLike_46 ?_
    exact ⟨by rw [q9], rfl⟩
  · refine xj_iload_n (i := 2) hk dX0_firstLike_37 rfl rfl ?_
    refine xj_ireturn hk hz dX0_firstLike_38 ?_
    exact ⟨by rw [q9], rfl⟩

set_option maxHeartbeats 1000000 in
set_option maxRecDepth 10000 in
theorem l_X0_insert_28 {v : xw_V} {κ : xk_K} {post : Option Value → xw_G → Prop} {z : Nat × Nat × Nat} {G : xw_G} {g : Nat} {B : bk_T} {n a : Nat} (hk : xk_Ok v κ yX0_insert cX0_insert 6 none 0 0) (hz : xk_zf κ = z) (hB : G g = pc_B v g B) (hn : bk_bi B = nI n) (hn30 : n < 30) (ha : a ≤ n) (x1 x2 x3 : Int32) (kx : xj v κ post z (xw_up G g (pB v g (bk_te B) (bk_ho B) (bk_ow B) (shU a n (bk_hs B)) (shU a n (bk_ra B)) (shU a n (bk_lo B)) (bk_bi B) (bk_st B) (bk_av B) (bk_so B) (bk_pa B) (bk_ln B))) 88 [some (.ref (xw_ad v g 0)), some (.int (nI a)), some (.int x1), some (.int x2), some (.int x3), some (.int (nI a))] []) : ∀ (m : Nat) (k : Nat), k < m → k ≤ n → a ≤ k → xj v κ post z (xw_up G g (pB v g (bk_te B) (bk_ho B) (bk_ow B) (shU k n (bk_hs B)) (shU k n (bk_ra B)) (shU k n (bk_lo B)) (bk_bi B) (bk_st B) (bk_av B) (bk_so B) (bk_pa B) (bk_ln B))) 28 [some (.ref (xw_ad v g 0)), some (.int (nI a)), some (.int x1), some (.int x2), some (.int x3), some (.int (nI k))] [] := by
  intro m
  induction m with
  | zero => intro k h; exact absurd h (Nat.not_lt_zero _)
  | succ m ih =>
    intro k hm hi hj
    refine xj_iload hk dX0_insert_28 rfl ?_
    refine xj_iload_n (i := 1) hk dX0_insert_30 rfl rfl ?_
    refine xj_icmp_le (tgt := 88) hk dX0_insert_31 (by decide) (fun c31 => ?_) (fun c31 => ?_)
    · have c31 : k ≤ a := (nI_leI (a := k) (b := a) (by omega) (by omega)).mp c31
      have e9 : k = a := by omega
      subst e9
      exact kx
    · have c31 : ¬ k ≤ a := fun q => c31 ((nI_leI (a := k) (b := a) (by omega) (by omega)).mpr q)
      refine xj_aload_n (i := 0) hk dX0_insert_34 rfl rfl ?_
      refine xj_getfield hk dX0_insert_35 fl_X0_21 (xw_at xw_up_s rfl) rfl ?_
      refine xj_iload hk dX0_insert_38 rfl ?_
      refine xj_aload_n (i := 0) hk dX0_insert_40 rfl rfl ?_
      refine xj_getfield hk dX0_insert_41 fl_X0_21 (xw_at xw_up_s rfl) rfl ?_
      refine xj_iload hk dX0_insert_44 rfl ?_
      refine xj_iconst (x := 1) hk dX0_insert_46 (by decide) ?_
      refine xj_isub hk dX0_insert_47 ?_
      refine xj.eqi (x' := nI (k - 1)) (nI_sub1 (by omega)) ?_
      refine xj_iaload (k := k - 1) hk dX0_insert_48 (xw_at xw_up_s rfl) (xi_n (by omega) (by decide)) ?_
      refine xj_iastore (k := k) (G2 := xw_up G g (pB v g (bk_te B) (bk_ho B) (bk_ow B) (xu (shU k n (bk_hs B)) k ((shU k n (bk_hs B)) (k - 1))) (shU k n (bk_ra B)) (shU k n (bk_lo B)) (bk_bi B) (bk_st B) (bk_av B) (bk_so B) (bk_pa B) (bk_ln B))) hk dX0_insert_49 (xw_at xw_up_s rfl) (xi_n (by omega) (by decide)) (xw_wr2 rfl) ?_
      refine xj_aload_n (i := 0) hk dX0_insert_50 rfl rfl ?_
      refine xj_getfield hk dX0_insert_51 fl_X0_24 (xw_at xw_up_s rfl) rfl ?_
      refine xj_iload hk dX0_insert_54 rfl ?_
      refine xj_aload_n (i := 0) hk dX0_insert_56 rfl rfl ?_
      refine xj_getfield hk dX0_insert_57 fl_X0_24 (xw_at xw_up_s rfl) rfl ?_
      refine xj_iload hk dX0_insert_60 rfl ?_
      refine xj_iconst (x := 1) hk dX0_insert_62 (by decide) ?_
      refine xj_isub hk dX0_insert_63 ?_
      refine xj.eqi (x' := nI (k - 1)) (nI_sub1 (by omega)) ?_
      refine xj_iaload (k := k - 1) hk dX0_insert_64 (xw_at xw_up_s rfl) (xi_n (by omega) (by decide)) ?_
      refine xj_iastore (k := k) (G2 := xw_up G g (pB v g (bk_te B) (bk_ho B) (bk_ow B) (xu (shU k n (bk_hs B)) k ((shU k n (bk_hs B)) (k - 1))) (xu (shU k n (bk_ra B)) k ((shU k n (bk_ra B)) (k - 1))) (shU k n (bk_lo B)) (bk_bi B) (bk_st B) (bk_av B) (bk_so B) (bk_pa B) (bk_ln B))) hk dX0_insert_65 (xw_at xw_up_s rfl) (xi_n (by omega) (by decide)) (xw_wr2 rfl) ?_
      refine xj_aload_n (i := 0) hk dX0_insert_66 rfl rfl ?_
      refine xj_getfield hk dX0_insert_67 fl_X0_27 (xw_at xw_up_s rfl) rfl ?_
      refine xj_iload hk dX0_insert_70 rfl ?_
      refine xj_aload_n (i := 0) hk dX0_insert_72 rfl rfl ?_
      refine xj_getfield hk dX0_insert_73 fl_X0_27 (xw_at xw_up_s rfl) rfl ?_
      refine xj_iload hk dX0_insert_76 rfl ?_
      refine xj_iconst (x := 1) hk dX0_insert_78 (by decide) ?_
      refine xj_isub hk dX0_insert_79 ?_
      refine xj.eqi (x' := nI (k - 1)) (nI_sub1 (by omega)) ?_
      refine xj_iaload (k := k - 1) hk dX0_insert_80 (xw_at xw_up_s rfl) (xi_n (by omega) (by decide)) ?_
      refine xj_iastore (k := k) (G2 := xw_up G g (pB v g (bk_te B) (bk_ho B) (bk_ow B) (xu (shU k n (bk_hs B)) k ((shU k n (bk_hs B)) (k - 1))) (xu (shU k n (bk_ra B)) k ((shU k n (bk_ra B)) (k - 1))) (xu (shU k n (bk_lo B)) k ((shU k n (bk_lo B)) (k - 1))) (bk_bi B) (bk_st B) (bk_av B) (bk_so B) (bk_pa B) (bk_ln B))) hk dX0_insert_81 (xw_at xw_up_s rfl) (xi_n (by omega) (by decide)) (xw_wr2 rfl) ?_
      refine xj_iinc (i := 5) (x2 := nI (k - 1)) (ls2 := [some (.ref (xw_ad v g 0)), some (.int (nI a)), some (.int x1), some (.int x2), some (.int x3), some (.int (nI (k - 1)))]) hk dX0_insert_82 rfl (nI_dec (by omega)) (by decide) rfl rfl ?_
      refine xj_goto (tgt := 28) hk dX0_insert_85 (by decide) ?_
      refine xj.eqG (G' := xw_up G g (pB v g (bk_te B) (bk_ho B) (bk_ow B) (shU ((k - 1)) n (bk_hs B)) (shU ((k - 1)) n (bk_ra B)) (shU ((k - 1)) n (bk_lo B)) (bk_bi B) (bk_st B) (bk_av B) (bk_so B) (bk_pa B) (bk_ln B))) (by simp only [shU_s _ (show 0 < k by omega) (show k ≤ n by omega)]) (ih (k - 1) (by omega) (by omega) (by omega))

def insR (a n : Nat) (x : Int32) (f : Nat → Int32) : Nat → Int32 := xu (shU a n f) a x
set_option maxHeartbeats 1000000 in
set_option maxRecDepth 10000 in
theorem c_X0_insert {v : xw_V} {G : xw_G} {g : Nat} {B : bk_T} {n a : Nat} (hB : G g = pc_B v g B) (hn : bk_bi B = nI n) (hn30 : n < 30) (ha : a ≤ n) (x1 x2 x3 : Int32) : xk_Con v yX0_insert cX0_insert 6 none 0 0 [.ref (xw_ad v g 0), .int (nI a), .int x1, .int x2, .int x3] G (xk_ret none (xw_up G g (pB v g (bk_te B) (bk_ho B) (bk_ow B) (insR a n x1 (bk_hs B)) (insR a n x2 (bk_ra B)) (insR a n x3 (bk_lo B)) (nI (n + 1)) (bk_st B) (bk_av B) (bk_so B) (bk_pa B) (bk_ln B)))) := by
  refine xk_of (ls0 := [some (.ref (xw_ad v g 0)), some (.int (nI a)), some (.int x1), some (.int x2), some (.int x3), none]) (by decide) rfl (Nat.le_of_ble_eq_true rfl) ?_
  intro κ z hk hz
  refine xj_iload_n (i := 1) hk dX0_insert_0 rfl rfl ?_
  refine xj_if_lt (tgt := 21) hk dX0_insert_1 (by decide) (fun c1 => ?_) (fun c1 => ?_)
  · have c1 : a < 0 := (nI_ltI (a := a) (b := 0) (by omega) (by omega)).mp c1; exact absurd c1 (by omega)
  · have c1 : ¬ a < 0 := fun q => c1 ((nI_ltI (a := a) (b := 0) (by omega) (by omega)).mpr q)
    refine xj_iload_n (i := 1) hk dX0_insert_4 rfl rfl ?_
    refine xj_aload_n (i := 0) hk dX0_insert_5 rfl rfl ?_
    refine xj_getfield hk dX0_insert_6 fl_X0_37 (xw_at hB rfl) rfl ?_
    refine xj.eqi (x' := nI n) hn ?_
    refine xj_icmp_gt (tgt := 21) hk dX0_insert_9 (by decide) (fun c9 => ?_) (fun c9 => ?_)
    · have c9 : n < a := (nI_ltI (a := n) (b := a) (by omega) (by omega)).mp c9; exact absurd c9 (by omega)
    · have c9 : ¬ n < a := fun q => c9 ((nI_ltI (a := n) (b := a) (by omega) (by omega)).mpr q)
      refine xj_aload_n (i := 0) hk dX0_insert_12 rfl rfl ?_
      refine xj_getfield hk dX0_insert_13 fl_X0_37 (xw_at hB rfl) rfl ?_
      refine xj.eqi (x' := nI n) hn ?_
      refine xj_bipush (x := 30) hk dX0_insert_16 (by decide) ?_
      refine xj_icmp_lt (tgt := 22) hk dX0_insert_18 (by decide) (fun c18 => ?_) (fun c18 => ?_)
      · have c18 : n < 30 := (nI_ltI (a := n) (b := 30) (by omega) (by omega)).mp c18
        refine xj_aload_n (i := 0) hk dX0_insert_22 rfl rfl ?_
        refine xj_getfield hk dX0_insert_23 fl_X0_37 (xw_at hB rfl) rfl ?_
        refine xj.eqi (x' := nI n) hn ?_
        refine xj_istore (i := 5) (ls2 := [some (.ref (xw_ad v g 0)), some (.int (nI a)), some (.int x1), some (.int x2), some (.int x3), some (.int (nI n))]) hk dX0_insert_26 (by decide) rfl rfl ?_
        refine xj.eqG (G' := xw_up G g (pB v g (bk_te B) (bk_ho B) (bk_ow B) (shU n n (bk_hs B)) (shU n n (bk_ra B)) (shU n n (bk_lo B)) (bk_bi B) (bk_st B) (bk_av B) (bk_so B) (bk_pa B) (bk_ln B))) (by simp only [shU_0]; exact (xw_up_same hB).symm) ?_
        refine l_X0_insert_28 hk hz hB hn hn30 ha x1 x2 x3 ?_ (n + 1) n (by omega) (by omega) (by omega)
        refine xj_aload_n (i := 0) hk dX0_insert_88 rfl rfl ?_
        refine xj_getfield hk dX0_insert_89 fl_X0_21 (xw_at xw_up_s rfl) rfl ?_
        refine xj_iload_n (i := 1) hk dX0_insert_92 rfl rfl ?_
        refine xj_iload_n (i := 2) hk dX0_insert_93 rfl rfl ?_
        refine xj_iastore (k := a) (G2 := xw_up G g (pB v g (bk_te B) (bk_ho B) (bk_ow B) (xu (shU a n (bk_hs B)) a x1) (shU a n (bk_ra B)) (shU a n (bk_lo B)) (bk_bi B) (bk_st B) (bk_av B) (bk_so B) (bk_pa B) (bk_ln B))) hk dX0_insert_94 (xw_at xw_up_s rfl) (xi_n (by omega) (by decide)) (xw_wr2 rfl) ?_
        refine xj_aload_n (i := 0) hk dX0_insert_95 rfl rfl ?_
        refine xj_getfield hk dX0_insert_96 fl_X0_24 (xw_at xw_up_s rfl) rfl ?_
        refine xj_iload_n (i := 1) hk dX0_insert_99 rfl rfl ?_
        refine xj_iload_n (i := 3) hk dX0_insert_100 rfl rfl ?_
        refine xj_iastore (k := a) (G2 := xw_up G g (pB v g (bk_te B) (bk_ho B) (bk_ow B) (xu (shU a n (bk_hs B)) a x1) (xu (shU a n (bk_ra B)) a x2) (shU a n (bk_lo B)) (bk_bi B) (bk_st B) (bk_av B) (bk_so B) (bk_pa B) (bk_ln B))) hk dX0_insert_101 (xw_at xw_up_s rfl) (xi_n (by omega) (by decide)) (xw_wr2 rfl) ?_
        refine xj_aload_n (i := 0) hk dX0_insert_102 rfl rfl ?_
        refine xj_getfield hk dX0_insert_103 fl_X0_27 (xw_at xw_up_s rfl) rfl ?_
        refine xj_iload_n (i := 1) hk dX0_insert_106 rfl rfl ?_
        refine xj_iload hk dX0_insert_107 rfl ?_
        refine xj_iastore (k := a) (G2 := xw_up G g (pB v g (bk_te B) (bk_ho B) (bk_ow B) (xu (shU a n (bk_hs B)) a x1) (xu (shU a n (bk_ra B)) a x2) (xu (shU a n (bk_lo B)) a x3) (bk_bi B) (bk_st B) (bk_av B) (bk_so B) (bk_pa B) (bk_ln B))) hk dX0_insert_109 (xw_at xw_up_s rfl) (xi_n (by omega) (by decide)) (xw_wr2 rfl) ?_
        refine xj_aload_n (i := 0) hk dX0_insert_110 rfl rfl ?_
        refine xj_dup hk dX0_insert_111 rfl ?_
        refine xj_getfield hk dX0_insert_112 fl_X0_37 (xw_at xw_up_s rfl) rfl ?_
        refine xj.eqi (x' := nI n) hn ?_
        refine xj_iconst (x := 1) hk dX0_insert_115 (by decide) ?_
        refine xj_iadd hk dX0_insert_116 ?_
        refine xj.eqi (x' := nI (n + 1)) (nI_1 n) ?_
        refine xj_putfield (G2 := xw_up G g (pB v g (bk_te B) (bk_ho B) (bk_ow B) (xu (shU a n (bk_hs B)) a x1) (xu (shU a n (bk_ra B)) a x2) (xu (shU a n (bk_lo B)) a x3) (nI (n + 1)) (bk_st B) (bk_av B) (bk_so B) (bk_pa B) (bk_ln B))) hk dX0_insert_117 fl_X0_37 rfl rfl (xw_at xw_up_s rfl) (Nat.le_of_ble_eq_true rfl) (xw_wr2 rfl) ?_
        refine xj_return hk hz dX0_insert_120 ?_
        exact ⟨rfl, rfl⟩
      · have c18 : ¬ n < 30 := fun q => c18 ((nI_ltI (a := n) (b := 30) (by omega) (by omega)).mpr q); exact absurd c18 (by omega)

set_option maxHeartbeats 1000000 in
set_option maxRecDepth 10000 in
theorem l_X0_remove_21 {v : xw_V} {κ : xk_K} {post : Option Value → xw_G → Prop} {z : Nat × Nat × Nat} {G : xw_G} {g : Nat} {B : bk_T} {n a : Nat} (hk : xk_Ok v κ yX0_remove cX0_remove 3 none 1 21) (hz : xk_zf κ = z) (hB : G g = pc_B v g B) (hn : bk_bi B = nI n) (hn30 : n ≤ 30) (ha : a < n) (kx : xj v κ post z (xw_up G g (pB v g (bk_te B) (bk_ho B) (bk_ow B) (shD a ((n - 1)) (bk_hs B)) (shD a ((n - 1)) (bk_ra B)) (shD a ((n - 1)) (bk_lo B)) (nI (n - 1)) (bk_st B) (bk_av B) (bk_so B) (bk_pa B) (bk_ln B))) 77 [some (.ref (xw_ad v g 0)), some (.int (nI a)), some (.int (nI ((n - 1))))] []) : ∀ (m : Nat) (k : Nat), n - k < m → k ≤ n - 1 → a ≤ k → xj v κ post z (xw_up G g (pB v g (bk_te B) (bk_ho B) (bk_ow B) (shD a k (bk_hs B)) (shD a k (bk_ra B)) (shD a k (bk_lo B)) (nI (n - 1)) (bk_st B) (bk_av B) (bk_so B) (bk_pa B) (bk_ln B))) 21 [some (.ref (xw_ad v g 0)), some (.int (nI a)), some (.int (nI k))] [] := by
  intro m
  induction m with
  | zero => intro k h; exact absurd h (Nat.not_lt_zero _)
  | succ m ih =>
    intro k hm hi hj
    refine xj_iload_n (i := 2) hk dX0_remove_21 rfl rfl ?_
    refine xj_aload_n (i := 0) hk dX0_remove_22 rfl rfl ?_
    refine xj_getfield hk dX0_remove_23 fl_X0_37 (xw_at xw_up_s rfl) rfl ?_
    refine xj_icmp_ge (tgt := 77) hk dX0_remove_26 (by decide) (fun c26 => ?_) (fun c26 => ?_)
    · have c26 : n - 1 ≤ k := (nI_leI (a := n - 1) (b := k) (by omega) (by omega)).mp c26
      have e9 : k = n - 1 := by omega
      subst e9
      exact kx
    · have c26 : ¬ n - 1 ≤ k := fun q => c26 ((nI_leI (a := n - 1) (b := k) (by omega) (by omega)).mpr q)
      refine xj_aload_n (i := 0) hk dX0_remove_29 rfl rfl ?_
      refine xj_getfield hk dX0_remove_30 fl_X0_21 (xw_at xw_up_s rfl) rfl ?_
      refine xj_iload_n (i := 2) hk dX0_remove_33 rfl rfl ?_
      refine xj_aload_n (i := 0) hk dX0_remove_34 rfl rfl ?_
      refine xj_getfield hk dX0_remove_35 fl_X0_21 (xw_at xw_up_s rfl) rfl ?_
      refine xj_iload_n (i := 2) hk dX0_remove_38 rfl rfl ?_
      refine xj_iconst (x := 1) hk dX0_remove_39 (by decide) ?_
      refine xj_iadd hk dX0_remove_40 ?_
      refine xj.eqi (x' := nI (k + 1)) (nI_1 k) ?_
      refine xj_iaload (k := k + 1) hk dX0_remove_41 (xw_at xw_up_s rfl) (xi_n (by omega) (by decide)) ?_
      refine xj_iastore (k := k) (G2 := xw_up G g (pB v g (bk_te B) (bk_ho B) (bk_ow B) (xu (shD a k (bk_hs B)) k ((shD a k (bk_hs B)) (k + 1))) (shD a k (bk_ra B)) (shD a k (bk_lo B)) (nI (n - 1)) (bk_st B) (bk_av B) (bk_so B) (bk_pa B) (bk_ln B))) hk dX0_remove_42 (xw_at xw_up_s rfl) (xi_n (by omega) (by decide)) (xw_wr2 rfl) ?_
      refine xj_aload_n (i := 0) hk dX0_remove_43 rfl rfl ?_
      refine xj_getfield hk dX0_remove_44 fl_X0_24 (xw_at xw_up_s rfl) rfl ?_
      refine xj_iload_n (i := 2) hk dX0_remove_47 rfl rfl ?_
      refine xj_aload_n (i := 0) hk dX0_remove_48 rfl rfl ?_
      refine xj_getfield hk dX0_remove_49 fl_X0_24 (xw_at xw_up_s rfl) rfl ?_
      refine xj_iload_n (i := 2) hk dX0_remove_52 rfl rfl ?_
      refine xj_iconst (x := 1) hk dX0_remove_53 (by decide) ?_
      refine xj_iadd hk dX0_remove_54 ?_
      refine xj.eqi (x' := nI (k + 1)) (nI_1 k) ?_
      refine xj_iaload (k := k + 1) hk dX0_remove_55 (xw_at xw_up_s rfl) (xi_n (by omega) (by decide)) ?_
      refine xj_iastore (k := k) (G2 := xw_up G g (pB v g (bk_te B) (bk_ho B) (bk_ow B) (xu (shD a k (bk_hs B)) k ((shD a k (bk_hs B)) (k + 1))) (xu (shD a k (bk_ra B)) k ((shD a k (bk_ra B)) (k + 1))) (shD a k (bk_lo B)) (nI (n - 1)) (bk_st B) (bk_av B) (bk_so B) (bk_pa B) (bk_ln B))) hk dX0_remove_56 (xw_at xw_up_s rfl) (xi_n (by omega) (by decide)) (xw_wr2 rfl) ?_
      refine xj_aload_n (i := 0) hk dX0_remove_57 rfl rfl ?_
      refine xj_getfield hk dX0_remove_58 fl_X0_27 (xw_at xw_up_s rfl) rfl ?_
      refine xj_iload_n (i := 2) hk dX0_remove_61 rfl rfl ?_
      refine xj_aload_n (i := 0) hk dX0_remove_62 rfl rfl ?_
      refine xj_getfield hk dX0_remove_63 fl_X0_27 (xw_at xw_up_s rfl) rfl ?_
      refine xj_iload_n (i := 2) hk dX0_remove_66 rfl rfl ?_
      refine xj_iconst (x := 1) hk dX0_remove_67 (by decide) ?_
      refine xj_iadd hk dX0_remove_68 ?_
      refine xj.eqi (x' := nI (k + 1)) (nI_1 k) ?_
      refine xj_iaload (k := k + 1) hk dX0_remove_69 (xw_at xw_up_s rfl) (xi_n (by omega) (by decide)) ?_
      refine xj_iastore (k := k) (G2 := xw_up G g (pB v g (bk_te B) (bk_ho B) (bk_ow B) (xu (shD a k (bk_hs B)) k ((shD a k (bk_hs B)) (k + 1))) (xu (shD a k (bk_ra B)) k ((shD a k (bk_ra B)) (k + 1))) (xu (shD a k (bk_lo B)) k ((shD a k (bk_lo B)) (k + 1))) (nI (n - 1)) (bk_st B) (bk_av B) (bk_so B) (bk_pa B) (bk_ln B))) hk dX0_remove_70 (xw_at xw_up_s rfl) (xi_n (by omega) (by decide)) (xw_wr2 rfl) ?_
      refine xj_iinc (i := 2) (x2 := nI (k + 1)) (ls2 := [some (.ref (xw_ad v g 0)), some (.int (nI a)), some (.int (nI (k + 1)))]) hk dX0_remove_71 rfl (nI_1 k) (by decide) rfl rfl ?_
      refine xj_goto (tgt := 21) hk dX0_remove_74 (by decide) ?_
      refine xj.eqG (G' := xw_up G g (pB v g (bk_te B) (bk_ho B) (bk_ow B) (shD a ((k + 1)) (bk_hs B)) (shD a ((k + 1)) (bk_ra B)) (shD a ((k + 1)) (bk_lo B)) (nI (n - 1)) (bk_st B) (bk_av B) (bk_so B) (bk_pa B) (bk_ln B))) (by simp only [shD_s _ (show a ≤ k by omega)]) (ih (k + 1) (by omega) (by omega) (by omega))

set_option maxHeartbeats 1000000 in
set_option maxRecDepth 10000 in
theorem c_X0_remove {v : xw_V} {G : xw_G} {g : Nat} {B : bk_T} {n a : Nat} (hB : G g = pc_B v g B) (hn : bk_bi B = nI n) (hn30 : n ≤ 30) (ha : a < n) : xk_Con v yX0_remove cX0_remove 3 none 1 21 [.ref (xw_ad v g 0), .int (nI a)] G (xk_ret none (xw_up G g (pB v g (bk_te B) (bk_ho B) (bk_ow B) (shD a ((n - 1)) (bk_hs B)) (shD a ((n - 1)) (bk_ra B)) (shD a ((n - 1)) (bk_lo B)) (nI (n - 1)) (bk_st B) (bk_av B) (bk_so B) (bk_pa B) (bk_ln B)))) := by
  refine xk_of (ls0 := [some (.ref (xw_ad v g 0)), some (.int (nI a)), none]) (by decide) rfl (Nat.le_of_ble_eq_true rfl) ?_
  intro κ z hk hz
  refine xj_aload_n (i := 0) hk dX0_remove_0 rfl rfl ?_
  refine xj_iload_n (i := 1) hk dX0_remove_1 rfl rfl ?_
  refine xj_callV hk hz (fr1 := 0) (lo1 := 0) (r1 := some (.int (xb (hasB (bk_bi B) (nI a))))) (As := [.int (nI a)]) (st := []) (st2 := [.int (xb (hasB (bk_bi B) (nI a)))]) (G1 := G) ml_X0_60 (c_X0_hasBid (show G g = pc_B v g B from hB) (nI a)) (xw_at hB rfl) rfl dX0_remove_2 ⟨Nat.le_of_ble_eq_true rfl, Nat.le_of_ble_eq_true rfl⟩ rfl (Nat.le_of_ble_eq_true rfl) rfl rfl ?_
  refine xj_ifb_ne (tgt := 9) hk dX0_remove_5 (by decide) (fun c5 => ?_) (fun c5 => ?_)
  · refine xj_aload_n (i := 0) hk dX0_remove_9 rfl rfl ?_
    refine xj_dup hk dX0_remove_10 rfl ?_
    refine xj_getfield hk dX0_remove_11 fl_X0_37 (xw_at hB rfl) rfl ?_
    refine xj.eqi (x' := nI n) hn ?_
    refine xj_iconst (x := 1) hk dX0_remove_14 (by decide) ?_
    refine xj_isub hk dX0_remove_15 ?_
    refine xj.eqi (x' := nI (n - 1)) (nI_sub1 (by omega)) ?_
    refine xj_putfield (G2 := xw_up G g (pB v g (bk_te B) (bk_ho B) (bk_ow B) (bk_hs B) (bk_ra B) (bk_lo B) (nI (n - 1)) (bk_st B) (bk_av B) (bk_so B) (bk_pa B) (bk_ln B))) hk dX0_remove_16 fl_X0_37 rfl rfl (xw_at hB rfl) (Nat.le_of_ble_eq_true rfl) (xw_wr hB rfl) ?_
    refine xj_iload_n (i := 1) hk dX0_remove_19 rfl rfl ?_
    refine xj_istore_n (i := 2) (ls2 := [some (.ref (xw_ad v g 0)), some (.int (nI a)), some (.int (nI a))]) hk dX0_remove_20 rfl (by decide) rfl rfl ?_
    refine xj.eqG (G' := xw_up G g (pB v g (bk_te B) (bk_ho B) (bk_ow B) (shD a a (bk_hs B)) (shD a a (bk_ra B)) (shD a a (bk_lo B)) (nI (n - 1)) (bk_st B) (bk_av B) (bk_so B) (bk_pa B) (bk_ln B))) (by simp only [shD_0]) ?_
    refine l_X0_remove_21 hk hz hB hn hn30 ha ?_ (n + 1) a (by omega) (by omega) (by omega)
    refine xj_return hk hz dX0_remove_77 ?_
    exact ⟨rfl, rfl⟩
  · exact absurd c5 (by simp [hasB, hn, nI_nlt (a := a) (b := 0) (by omega) (by omega), nI_ge ha (by omega), nI_pos (show a < 2 ^ 31 by omega)])


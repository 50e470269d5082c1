def isH (x : Int32) : Bool := !(decide (x < 0)) && !(decide (8 ≤ x))
def isR (x : Int32) : Bool := !(decide (x < 0)) && !(decide (999 < x))
def isL (x : Int32) : Bool := !(decide (x < 1)) && !(decide (1000 < x))
def hasB (n x : Int32) : Bool := !(decide (x < 0)) && !(decide (n ≤ x))
theorem sw_out4 {x : Int32} (h0 : ¬ x = 0) (h1 : ¬ x = 1) (h2 : ¬ x = 2) (h3 : ¬ x = 3) : x.toInt < 0 ∨ 3 < x.toInt := by
  simp only [← Int32.toInt_inj] at h0 h1 h2 h3
  simp at h0 h1 h2 h3
  omega
/-- a choice under a key, by places -/
def sel (ks : Nat → Int32) (key : Int32) (f : Nat → Int32) : Nat → Int32 := fun k => if ks k = key then f k else 0
set_option maxHeartbeats 1000000 in
set_option maxRecDepth 10000 in
theorem c_X7_isHouse {v : xw_V} {G : xw_G}  (x : Int32) : xk_Con v yX7_isHouse cX7_isHouse 1 (some .boolean) 0 0 [.int x] G (xk_ret (some (.int (xb (isH x)))) G) := by
  refine xk_of (ls0 := [some (.int x)]) (by decide) rfl (Nat.le_of_ble_eq_true rfl) ?_
  intro κ z hk hz
  refine xj_iload_n (i := 0) hk dX7_isHouse_0 rfl rfl ?_
  refine xj_if_lt (tgt := 14) hk dX7_isHouse_1 (by decide) (fun c1 => ?_) (fun c1 => ?_)
  · refine xj_iconst (x := 0) hk dX7_isHouse_14 (by decide) ?_
    refine xj_zreturn hk hz dX7_isHouse_15 (by decide) ?_
    exact ⟨by simp [isH, xb, *], rfl⟩
  · refine xj_iload_n (i := 0) hk dX7_isHouse_4 rfl rfl ?_
    refine xj_bipush (x := 8) hk dX7_isHouse_5 (by decide) ?_
    refine xj_icmp_ge (tgt := 14) hk dX7_isHouse_7 (by decide) (fun c7 => ?_) (fun c7 => ?_)
    · refine xj_iconst (x := 0) hk dX7_isHouse_14 (by decide) ?_
      refine xj_zreturn hk hz dX7_isHouse_15 (by decide) ?_
      exact ⟨by simp [isH, xb, *], rfl⟩
    · refine xj_iconst (x := 1) hk dX7_isHouse_10 (by decide) ?_
      refine xj_goto (tgt := 15) hk dX7_isHouse_11 (by decide) ?_
      refine xj_zreturn hk hz dX7_isHouse_15 (by decide) ?_
      exact ⟨by simp [isH, xb, *], rfl⟩

set_option maxHeartbeats 1000000 in
set_option maxRecDepth 10000 in
theorem c_X7_isRate {v : xw_V} {G : xw_G}  (x : Int32) : xk_Con v yX7_isRate cX7_isRate 1 (some .boolean) 0 0 [.int x] G (xk_ret (some (.int (xb (isR x)))) G) := by
  refine xk_of (ls0 := [some (.int x)]) (by decide) rfl (Nat.le_of_ble_eq_true rfl) ?_
  intro κ z hk hz
  refine xj_iload_n (i := 0) hk dX7_isRate_0 rfl rfl ?_
  refine xj_if_lt (tgt := 15) hk dX7_isRate_1 (by decide) (fun c1 => ?_) (fun c1 => ?_)
  · refine xj_iconst (x := 0) hk dX7_isRate_15 (by decide) ?_
    refine xj_zreturn hk hz dX7_isRate_16 (by decide) ?_
    exact ⟨by simp [isR, xb, *], rfl⟩
  · refine xj_iload_n (i := 0) hk dX7_isRate_4 rfl rfl ?_
    refine xj_sipush (x := 999) hk dX7_isRate_5 (by decide) ?_
    refine xj_icmp_gt (tgt := 15) hk dX7_isRate_8 (by decide) (fun c8 => ?_) (fun c8 => ?_)
    · refine xj_iconst (x := 0) hk dX7_isRate_15 (by decide) ?_
      refine xj_zreturn hk hz dX7_isRate_16 (by decide) ?_
      exact ⟨by simp [isR, xb, *], rfl⟩
    · refine xj_iconst (x := 1) hk dX7_isRate_11 (by decide) ?_
      refine xj_goto (tgt := 16) hk dX7_isRate_12 (by decide) ?_
      refine xj_zreturn hk hz dX7_isRate_16 (by decide) ?_
      exact ⟨by simp [isR, xb, *], rfl⟩

set_option maxHeartbeats 1000000 in
set_option maxRecDepth 10000 in
theorem c_X7_isLots {v : xw_V} {G : xw_G}  (x : Int32) : xk_Con v yX7_isLots cX7_isLots 1 (some .boolean) 0 0 [.int x] G (xk_ret (some (.int (xb (isL x)))) G) := by
  refine xk_of (ls0 := [some (.int x)]) (by decide) rfl (Nat.le_of_ble_eq_true rfl) ?_
  intro κ z hk hz
  refine xj_iload_n (i := 0) hk dX7_isLots_0 rfl rfl ?_
  refine xj_iconst (x := 1) hk dX7_isLots_1 (by decide) ?_
  refine xj_icmp_lt (tgt := 16) hk dX7_isLots_2 (by decide) (fun c2 => ?_) (fun c2 => ?_)
  · refine xj_iconst (x := 0) hk dX7_isLots_16 (by decide) ?_
    refine xj_zreturn hk hz dX7_isLots_17 (by decide) ?_
    exact ⟨by simp [isL, xb, *], rfl⟩
  · refine xj_iload_n (i := 0) hk dX7_isLots_5 rfl rfl ?_
    refine xj_sipush (x := 1000) hk dX7_isLots_6 (by decide) ?_
    refine xj_icmp_gt (tgt := 16) hk dX7_isLots_9 (by decide) (fun c9 => ?_) (fun c9 => ?_)
    · refine xj_iconst (x := 0) hk dX7_isLots_16 (by decide) ?_
      refine xj_zreturn hk hz dX7_isLots_17 (by decide) ?_
      exact ⟨by simp [isL, xb, *], rfl⟩
    · refine xj_iconst (x := 1) hk dX7_isLots_12 (by decide) ?_
      refine xj_goto (tgt := 17) hk dX7_isLots_13 (by decide) ?_
      refine xj_zreturn hk hz dX7_isLots_17 (by decide) ?_
      exact ⟨by simp [isL, xb, *], rfl⟩

set_option maxHeartbeats 1000000 in
set_option maxRecDepth 10000 in
theorem l_X7_sumWhere {v : xw_V} {κ : xk_K} {post : Option Value → xw_G → Prop} {z : Nat × Nat × Nat} {G : xw_G} {g1 i1 n1 g2 i2 n2 n : Nat} {f ks : Nat → Int32} {key : Int32} (hk : xk_Ok v κ yX7_sumWhere cX7_sumWhere 6 (some .int) 0 0) (hz : xk_zf κ = z) (h1 : (G g1)[i1]? = some (xw_ei v n1 f)) (h2 : (G g2)[i2]? = some (xw_ei v n2 ks)) (hn : n < 2 ^ 31) (hn1 : n ≤ n1) (hn2 : n ≤ n2) (hb1 : n1 < 2 ^ 31) (hb2 : n2 < 2 ^ 31) (kx : xj v κ post z G 49 [some (.ref (xw_ad v g1 i1)), some (.ref (xw_ad v g2 i2)), some (.int key), some (.int (nI n)), some (.int (sm (sel ks key f) n)), some (.int (nI n))] []) : ∀ (m : Nat) (k : Nat), n - k < m → k ≤ n → xj v κ post z G 6 [some (.ref (xw_ad v g1 i1)), some (.ref (xw_ad v g2 i2)), some (.int key), some (.int (nI n)), some (.int (sm (sel ks key f) k)), some (.int (nI k))] [] := by
  intro m
  induction m with
  | zero => intro k h; exact absurd h (Nat.not_lt_zero _)
  | succ m ih =>
    intro k hm hi
    refine xj_iload hk dX7_sumWhere_6 rfl ?_
    refine xj_iload_n (i := 3) hk dX7_sumWhere_8 rfl rfl ?_
    refine xj_icmp_ge (tgt := 49) hk dX7_sumWhere_9 (by decide) (fun c9 => ?_) (fun c9 => ?_)
    · have c9 : n ≤ k := (nI_leI (a := n) (b := k) (by omega) (by omega)).mp c9
      have e : k = n := by omega
      subst e
      exact kx
    · have c9 : ¬ n ≤ k := fun q => c9 ((nI_leI (a := n) (b := k) (by omega) (by omega)).mpr q)
      refine xj_iload hk dX7_sumWhere_12 rfl ?_
      refine xj_aload_n (i := 0) hk dX7_sumWhere_14 rfl rfl ?_
      refine xj_alen hk dX7_sumWhere_15 h1 ?_
      refine xj_icmp_ge (tgt := 49) hk dX7_sumWhere_16 (by decide) (fun c16 => ?_) (fun c16 => ?_)
      · have c16 : n1 ≤ k := (nI_leI (a := n1) (b := k) (by omega) (by omega)).mp c16
        have e : k = n := by omega
        subst e
        exact kx
      · have c16 : ¬ n1 ≤ k := fun q => c16 ((nI_leI (a := n1) (b := k) (by omega) (by omega)).mpr q)
        refine xj_iload hk dX7_sumWhere_19 rfl ?_
        refine xj_aload_n (i := 1) hk dX7_sumWhere_21 rfl rfl ?_
        refine xj_alen hk dX7_sumWhere_22 h2 ?_
        refine xj_icmp_ge (tgt := 49) hk dX7_sumWhere_23 (by decide) (fun c23 => ?_) (fun c23 => ?_)
        · have c23 : n2 ≤ k := (nI_leI (a := n2) (b := k) (by omega) (by omega)).mp c23
          have e : k = n := by omega
          subst e
          exact kx
        · have c23 : ¬ n2 ≤ k := fun q => c23 ((nI_leI (a := n2) (b := k) (by omega) (by omega)).mpr q)
          refine xj_aload_n (i := 1) hk dX7_sumWhere_26 rfl rfl ?_
          refine xj_iload hk dX7_sumWhere_27 rfl ?_
          refine xj_iaload (k := k) hk dX7_sumWhere_29 h2 (xi_n (by omega) hb2) ?_
          refine xj_iload_n (i := 2) hk dX7_sumWhere_30 rfl rfl ?_
          refine xj_icmp_ne (tgt := 43) hk dX7_sumWhere_31 (by decide) (fun c31 => ?_) (fun c31 => ?_)
          · refine xj_iinc (i := 5) (x2 := nI (k + 1)) (ls2 := [some (.ref (xw_ad v g1 i1)), some (.ref (xw_ad v g2 i2)), some (.int key), some (.int (nI n)), some (.int (sm (sel ks key f) k)), some (.int (nI (k + 1)))]) hk dX7_sumWhere_43 rfl (nI_1 k) (by decide) rfl rfl ?_
            refine xj_goto (tgt := 6) hk dX7_sumWhere_46 (by decide) ?_
            refine xj.to (ls' := [some (.ref (xw_ad v g1 i1)), some (.ref (xw_ad v g2 i2)), some (.int key), some (.int (nI n)), some (.int (sm (sel ks key f) (k + 1))), some (.int (nI ((k + 1))))]) (by simp [sm, sel, *]) (ih (k + 1) (by omega) (by omega))
          · refine xj_iload hk dX7_sumWhere_34 rfl ?_
            refine xj_aload_n (i := 0) hk dX7_sumWhere_36 rfl rfl ?_
            refine xj_iload hk dX7_sumWhere_37 rfl ?_
            refine xj_iaload (k := k) hk dX7_sumWhere_39 h1 (xi_n (by omega) hb1) ?_
            refine xj_iadd hk dX7_sumWhere_40 ?_
            refine xj_istore (i := 4) (ls2 := [some (.ref (xw_ad v g1 i1)), some (.ref (xw_ad v g2 i2)), some (.int key), some (.int (nI n)), some (.int ((sm (sel ks key f) k) + (f k))), some (.int (nI k))]) hk dX7_sumWhere_41 (by decide) rfl rfl ?_
            refine xj_iinc (i := 5) (x2 := nI (k + 1)) (ls2 := [some (.ref (xw_ad v g1 i1)), some (.ref (xw_ad v g2 i2)), some (.int key), some (.int (nI n)), some (.int ((sm (sel ks key f) k) + (f k))), some (.int (nI (k + 1)))]) hk dX7_sumWhere_43 rfl (nI_1 k) (by decide) rfl rfl ?_
            refine xj_goto (tgt := 6) hk dX7_sumWhere_46 (by decide) ?_
            refine xj.to (ls' := [some (.ref (xw_ad v g1 i1)), some (.ref (xw_ad v g2 i2)), some (.int key), some (.int (nI n)), some (.int (sm (sel ks key f) (k + 1))), some (.int (nI ((k + 1))))]) (by simp [sm, sel, *]) (ih (k + 1) (by omega) (by omega))

set_option maxHeartbeats 1000000 in
set_option maxRecDepth 10000 in
theorem c_X7_sumWhere {v : xw_V} {G : xw_G} {g1 i1 n1 g2 i2 n2 n : Nat} {f ks : Nat → Int32} {key : Int32} (h1 : (G g1)[i1]? = some (xw_ei v n1 f)) (h2 : (G g2)[i2]? = some (xw_ei v n2 ks)) (hn : n < 2 ^ 31) (hn1 : n ≤ n1) (hn2 : n ≤ n2) (hb1 : n1 < 2 ^ 31) (hb2 : n2 < 2 ^ 31) : xk_Con v yX7_sumWhere cX7_sumWhere 6 (some .int) 0 0 [.ref (xw_ad v g1 i1), .ref (xw_ad v g2 i2), .int key, .int (nI n)] G (xk_ret (some (.int (sm (sel ks key f) n))) G) := by
  refine xk_of (ls0 := [some (.ref (xw_ad v g1 i1)), some (.ref (xw_ad v g2 i2)), some (.int key), some (.int (nI n)), none, none]) (by decide) rfl (Nat.le_of_ble_eq_true rfl) ?_
  intro κ z hk hz
  refine xj_iconst (x := 0) hk dX7_sumWhere_0 (by decide) ?_
  refine xj_istore (i := 4) (ls2 := [some (.ref (xw_ad v g1 i1)), some (.ref (xw_ad v g2 i2)), some (.int key), some (.int (nI n)), some (.int 0), none]) hk dX7_sumWhere_1 (by decide) rfl rfl ?_
  refine xj_iconst (x := 0) hk dX7_sumWhere_3 (by decide) ?_
  refine xj_istore (i := 5) (ls2 := [some (.ref (xw_ad v g1 i1)), some (.ref (xw_ad v g2 i2)), some (.int key), some (.int (nI n)), some (.int 0), some (.int 0)]) hk dX7_sumWhere_4 (by decide) rfl rfl ?_
  refine l_X7_sumWhere hk hz h1 h2 hn hn1 hn2 hb1 hb2 ?_ (n + 1) 0 (by omega) (by omega)
  refine xj_iload hk dX7_sumWhere_49 rfl ?_
  refine xj_ireturn hk hz dX7_sumWhere_51 ?_
  exact ⟨rfl, rfl⟩

set_option maxHeartbeats 1000000 in
set_option maxRecDepth 10000 in
theorem c_X0_hasBid {v : xw_V} {G : xw_G} {g : Nat} {B : bk_T} (hB : G g = pc_B v g B) (x : Int32) : xk_Con v yX0_hasBid cX0_hasBid 2 (some .boolean) 0 0 [.ref (xw_ad v g 0), .int x] G (xk_ret (some (.int (xb (hasB (bk_bi B) x)))) G) := by
  refine xk_of (ls0 := [some (.ref (xw_ad v g 0)), some (.int x)]) (by decide) rfl (Nat.le_of_ble_eq_true rfl) ?_
  intro κ z hk hz
  refine xj_iload_n (i := 1) hk dX0_hasBid_0 rfl rfl ?_
  refine xj_if_lt (tgt := 16) hk dX0_hasBid_1 (by decide) (fun c1 => ?_) (fun c1 => ?_)
  · refine xj_iconst (x := 0) hk dX0_hasBid_16 (by decide) ?_
    refine xj_zreturn hk hz dX0_hasBid_17 (by decide) ?_
    exact ⟨by simp [hasB, xb, *], rfl⟩
  · refine xj_iload_n (i := 1) hk dX0_hasBid_4 rfl rfl ?_
    refine xj_aload_n (i := 0) hk dX0_hasBid_5 rfl rfl ?_
    refine xj_getfield hk dX0_hasBid_6 fl_X0_37 (xw_at hB rfl) rfl ?_
    refine xj_icmp_ge (tgt := 16) hk dX0_hasBid_9 (by decide) (fun c9 => ?_) (fun c9 => ?_)
    · refine xj_iconst (x := 0) hk dX0_hasBid_16 (by decide) ?_
      refine xj_zreturn hk hz dX0_hasBid_17 (by decide) ?_
      exact ⟨by simp [hasB, xb, *], rfl⟩
    · refine xj_iconst (x := 1) hk dX0_hasBid_12 (by decide) ?_
      refine xj_goto (tgt := 17) hk dX0_hasBid_13 (by decide) ?_
      refine xj_zreturn hk hz dX0_hasBid_17 (by decide) ?_
      exact ⟨by simp [hasB, xb, *], rfl⟩

def ownd (ow : Nat → Int32) (x : Int32) : Int32 := sm (fun j => if ow j = x then 1 else 0) 8
set_option maxHeartbeats 1000000 in
set_option maxRecDepth 10000 in
theorem l_X0_ownedBy {v : xw_V} {κ : xk_K} {post : Option Value → xw_G → Prop} {z : Nat × Nat × Nat} {G : xw_G} {g : Nat} {B : bk_T} {x : Int32} (hk : xk_Ok v κ yX0_ownedBy cX0_ownedBy 4 (some .int) 0 0) (hz : xk_zf κ = z) (hB : G g = pc_B v g B) (kx : xj v κ post z G 29 [some (.ref (xw_ad v g 0)), some (.int x), some (.int (sm (fun j => if bk_ow B j = x then 1 else 0) 8)), some (.int (nI 8))] []) : ∀ (m : Nat) (k : Nat), 8 - k < m → k ≤ 8 → xj v κ post z G 4 [some (.ref (xw_ad v g 0)), some (.int x), some (.int (sm (fun j => if bk_ow B j = x then 1 else 0) k)), some (.int (nI k))] [] := by
  intro m
  induction m with
  | zero => intro k h; exact absurd h (Nat.not_lt_zero _)
  | succ m ih =>
    intro k hm hi
    refine xj_iload_n (i := 3) hk dX0_ownedBy_4 rfl rfl ?_
    refine xj_bipush (x := 8) hk dX0_ownedBy_5 (by decide) ?_
    refine xj_icmp_ge (tgt := 29) hk dX0_ownedBy_7 (by decide) (fun c7 => ?_) (fun c7 => ?_)
    · have c7 : 8 ≤ k := (nI_leI (a := 8) (b := k) (by omega) (by omega)).mp c7
      have e : k = 8 := by omega
      subst e
      exact kx
    · have c7 : ¬ 8 ≤ k := fun q => c7 ((nI_leI (a := 8) (b := k) (by omega) (by omega)).mpr q)
      refine xj_aload_n (i := 0) hk dX0_ownedBy_10 rfl rfl ?_
      refine xj_getfield hk dX0_ownedBy_11 fl_X0_18 (xw_at hB rfl) rfl ?_
      refine xj_iload_n (i := 3) hk dX0_ownedBy_14 rfl rfl ?_
      refine xj_iaload (k := k) hk dX0_ownedBy_15 (xw_at hB rfl) (xi_n (by omega) (by decide)) ?_
      refine xj_iload_n (i := 1) hk dX0_ownedBy_16 rfl rfl ?_
      refine xj_icmp_ne (tgt := 23) hk dX0_ownedBy_17 (by decide) (fun c17 => ?_) (fun c17 => ?_)
      · refine xj_iinc (i := 3) (x2 := nI (k + 1)) (ls2 := [some (.ref (xw_ad v g 0)), some (.int x), some (.int (sm (fun j => if bk_ow B j = x then 1 else 0) k)), some (.int (nI (k + 1)))]) hk dX0_ownedBy_23 rfl (nI_1 k) (by decide) rfl rfl ?_
        refine xj_goto (tgt := 4) hk dX0_ownedBy_26 (by decide) ?_
        refine xj.to (ls' := [some (.ref (xw_ad v g 0)), some (.int x), some (.int (sm (fun j => if bk_ow B j = x then 1 else 0) (k + 1))), some (.int (nI ((k + 1))))]) (by simp [sm, *]) (ih (k + 1) (by omega) (by omega))
      · refine xj_iinc (i := 2) (x2 := (sm (fun j => if bk_ow B j = x then 1 else 0) k) + 1) (ls2 := [some (.ref (xw_ad v g 0)), some (.int x), some (.int ((sm (fun j => if bk_ow B j = x then 1 else 0) k) + 1)), some (.int (nI k))]) hk dX0_ownedBy_20 rfl rfl (by decide) rfl rfl ?_
        refine xj_iinc (i := 3) (x2 := nI (k + 1)) (ls2 := [some (.ref (xw_ad v g 0)), some (.int x), some (.int ((sm (fun j => if bk_ow B j = x then 1 else 0) k) + 1)), some (.int (nI (k + 1)))]) hk dX0_ownedBy_23 rfl (nI_1 k) (by decide) rfl rfl ?_
        refine xj_goto (tgt := 4) hk dX0_ownedBy_26 (by decide) ?_
        refine xj.to (ls' := [some (.ref (xw_ad v g 0)), some (.int x), some (.int (sm (fun j => if bk_ow B j = x then 1 else 0) (k + 1))), some (.int (nI ((k + 1))))]) (by simp [sm, *]) (ih (k + 1) (by omega) (by omega))

set_option maxHeartbeats 1000000 in
set_option maxRecDepth 10000 in
theorem c_X0_ownedBy {v : xw_V} {G : xw_G} {g : Nat} {B : bk_T} (hB : G g = pc_B v g B) (x : Int32) : xk_Con v yX0_ownedBy cX0_ownedBy 4 (some .int) 0 0 [.ref (xw_ad v g 0), .int x] G (xk_ret (some (.int (ownd (bk_ow B) x))) G) := by
  refine xk_of (ls0 := [some (.ref (xw_ad v g 0)), some (.int x), none, none]) (by decide) rfl (Nat.le_of_ble_eq_true rfl) ?_
  intro κ z hk hz
  refine xj_iconst (x := 0) hk dX0_ownedBy_0 (by decide) ?_
  refine xj_istore_n (i := 2) (ls2 := [some (.ref (xw_ad v g 0)), some (.int x), some (.int 0), none]) hk dX0_ownedBy_1 rfl (by decide) rfl rfl ?_
  refine xj_iconst (x := 0) hk dX0_ownedBy_2 (by decide) ?_
  refine xj_istore_n (i := 3) (ls2 := [some (.ref (xw_ad v g 0)), some (.int x), some (.int 0), some (.int 0)]) hk dX0_ownedBy_3 rfl (by decide) rfl rfl ?_
  refine l_X0_ownedBy hk hz hB ?_ 9 0 (by omega) (by omega)
  refine xj_iload_n (i := 2) hk dX0_ownedBy_29 rfl rfl ?_
  refine xj_ireturn hk hz dX0_ownedBy_30 ?_
  exact ⟨rfl, rfl⟩


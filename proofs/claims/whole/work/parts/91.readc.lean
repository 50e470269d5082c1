def wMis (f : Nat → Int32) (b : Nat) (L : List Int32) (i : Nat) : Bool := !(decide (f (b + i) = L.getD i 0))
def wIs (f : Nat → Int32) (b e : Nat) (L : List Int32) : Bool := decide (e = b + L.length) && decide (fnd (wMis f b L) L.length = L.length)
set_option maxHeartbeats 1000000 in
set_option maxRecDepth 10000 in
theorem l_X3_wordIs {v : xw_V} {κ : xk_K} {post : Option Value → xw_G → Prop} {z : Nat × Nat × Nat} {G : xw_G} {t : tp_T} {l : Nat} {b e : Nat} {fa : Int32} {q : Nat × String × Nat × String × List Int32} (hk : xk_Ok v κ yX3_wordIs cX3_wordIs 3 (some .boolean) 5 106) (hz : xk_zf κ = z) (g18 : G 18 = pc_T v t) (htl : tp_le t = nI l) (hl7 : l ≤ 700) (g19 : G 19 = pR v (nI e) (nI b) fa) (hq : q ∈ xk_strs) (hql : q.2.2.2.2.length < 100) (hbe : e = b + q.2.2.2.2.length) (hel : e ≤ l) (kx : fnd (wMis (tp_by t) b q.2.2.2.2) q.2.2.2.2.length = q.2.2.2.2.length → xj v κ post z G 57 [some (.ref (xw_ad v 19 0)), some (.ref (xw_ad v (40 + q.1) 0)), some (.int (nI q.2.2.2.2.length))] []) (kr : ∀ i, i < q.2.2.2.2.length → fnd (wMis (tp_by t) b q.2.2.2.2) q.2.2.2.2.length = i → xj v κ post z G 49 [some (.ref (xw_ad v 19 0)), some (.ref (xw_ad v (40 + q.1) 0)), some (.int (nI i))] []) : ∀ (m : Nat) (i : Nat), q.2.2.2.2.length - i < m → i ≤ q.2.2.2.2.length → fnd (wMis (tp_by t) b q.2.2.2.2) i = i → xj v κ post z G 20 [some (.ref (xw_ad v 19 0)), some (.ref (xw_ad v (40 + q.1) 0)), some (.int (nI i))] [] := by
  intro m
  induction m with
  | zero => intro i h; exact absurd h (Nat.not_lt_zero _)
  | succ m ih =>
    intro i hm hi hf
    refine xj_iload_n (i := 2) hk dX3_wordIs_20 rfl rfl ?_
    refine xj_aload_n (i := 1) hk dX3_wordIs_21 rfl rfl ?_
    refine xj_callStr hk hz hq (fr1 := 1) (lo1 := 20) (As := []) (st := [.int (nI i)]) (st2 := [.int (nI q.2.2.2.2.length), .int (nI i)]) ml_X3_143 (c_len hq) rfl dX3_wordIs_22 ⟨Nat.le_of_ble_eq_true rfl, Nat.le_of_ble_eq_true rfl⟩ rfl (Nat.le_of_ble_eq_true rfl) rfl rfl ?_
    refine xj_icmp_ge (tgt := 57) hk dX3_wordIs_25 (by decide) (fun c25 => ?_) (fun c25 => ?_)
    · have c25 : q.2.2.2.2.length ≤ i := (nI_leI (a := q.2.2.2.2.length) (b := i) (by omega) (by omega)).mp c25
      have e9 : i = q.2.2.2.2.length := by omega
      subst e9
      exact kx hf
    · have c25 : ¬ q.2.2.2.2.length ≤ i := fun q9 => c25 ((nI_leI (a := q.2.2.2.2.length) (b := i) (by omega) (by omega)).mpr q9)
      have hi9 : i < q.2.2.2.2.length := by omega
      refine xj_aload_n (i := 0) hk dX3_wordIs_28 rfl rfl ?_
      refine xj_getfield hk dX3_wordIs_29 fl_X3_9 (xw_at g19 rfl) rfl ?_
      refine xj_aload_n (i := 0) hk dX3_wordIs_32 rfl rfl ?_
      refine xj_getfield hk dX3_wordIs_33 fl_X3_101 (xw_at g19 rfl) rfl ?_
      refine xj_iload_n (i := 2) hk dX3_wordIs_36 rfl rfl ?_
      refine xj_iadd hk dX3_wordIs_37 ?_
      refine xj.eqi (x' := nI (b + i)) (nI_add b i) ?_
      refine xj_callV hk hz (fr1 := 0) (lo1 := 0) (r1 := some (.int (tAt (tp_by t) l (nI (b + i))))) (As := [.int (nI (b + i))]) (st := []) (st2 := [.int (tAt (tp_by t) l (nI (b + i)))]) (G1 := G) ml_X3_129 (c_X6_at (show G 18 = pc_T v t from g18) htl hl7 (nI (b + i))) (xw_at g18 rfl) rfl dX3_wordIs_38 ⟨Nat.le_of_ble_eq_true rfl, Nat.le_of_ble_eq_true rfl⟩ rfl (Nat.le_of_ble_eq_true rfl) rfl rfl ?_
      refine xj_aload_n (i := 1) hk dX3_wordIs_41 rfl rfl ?_
      refine xj_iload_n (i := 2) hk dX3_wordIs_42 rfl rfl ?_
      refine xj_callStr hk hz hq (fr1 := 4) (lo1 := 85) (As := [.int (nI i)]) (st := [.int (tAt (tp_by t) l (nI (b + i)))]) (st2 := [.int (q.2.2.2.2.getD i 0), .int (tAt (tp_by t) l (nI (b + i)))]) ml_X3_148 (c_chr hq (k := i) hi9) rfl dX3_wordIs_43 ⟨Nat.le_of_ble_eq_true rfl, Nat.le_of_ble_eq_true rfl⟩ rfl (Nat.le_of_ble_eq_true rfl) rfl rfl ?_
      refine xj_icmp_eq (tgt := 51) hk dX3_wordIs_46 (by decide) (fun c46 => ?_) (fun c46 => ?_)
      · have c46' : tp_by t (b + i) = q.2.2.2.2.getD i 0 := by rw [tAt_nI (by omega) (by omega), if_pos (by omega)] at c46; exact c46
        refine xj_iinc (i := 2) (x2 := nI (i + 1)) (ls2 := [some (.ref (xw_ad v 19 0)), some (.ref (xw_ad v (40 + q.1) 0)), some (.int (nI (i + 1)))]) hk dX3_wordIs_51 rfl (nI_1 i) (by decide) rfl rfl ?_
        refine xj_goto (tgt := 20) hk dX3_wordIs_54 (by decide) ?_
        exact ih (i + 1) (by omega) (by omega) (fnd_no hf (show (!(decide (tp_by t (b + i) = q.2.2.2.2.getD i 0))) = false from by rw [decide_eq_true c46']; rfl))
      · have c46' : ¬ tp_by t (b + i) = q.2.2.2.2.getD i 0 := by rw [tAt_nI (by omega) (by omega), if_pos (by omega)] at c46; exact c46
        exact kr i (by omega) (fnd_at hf (show (!(decide (tp_by t (b + i) = q.2.2.2.2.getD i 0))) = true from by rw [decide_eq_false c46']; rfl) _ (by omega))

set_option maxHeartbeats 1000000 in
set_option maxRecDepth 10000 in
theorem c_X3_wordIs {v : xw_V} {G : xw_G} {t : tp_T} {l : Nat} {b e : Nat} {fa : Int32} {q : Nat × String × Nat × String × List Int32} (g18 : G 18 = pc_T v t) (htl : tp_le t = nI l) (hl7 : l ≤ 700) (g19 : G 19 = pR v (nI e) (nI b) fa) (hq : q ∈ xk_strs) (hbe0 : b ≤ e) (hel : e ≤ l) : xk_Con v yX3_wordIs cX3_wordIs 3 (some .boolean) 5 106 [.ref (xw_ad v 19 0), .ref (xw_ad v (40 + q.1) 0)] G (xk_ret (some (.int (xb (wIs (tp_by t) b e q.2.2.2.2)))) G) := by
  refine xk_of (ls0 := [some (.ref (xw_ad v 19 0)), some (.ref (xw_ad v (40 + q.1) 0)), none]) (by decide) rfl (Nat.le_of_ble_eq_true rfl) ?_
  intro κ z hk hz
  have hql := (xs_all q hq).1
  refine xj_aload_n (i := 0) hk dX3_wordIs_0 rfl rfl ?_
  refine xj_getfield hk dX3_wordIs_1 fl_X3_24 (xw_at g19 rfl) rfl ?_
  refine xj_aload_n (i := 0) hk dX3_wordIs_4 rfl rfl ?_
  refine xj_getfield hk dX3_wordIs_5 fl_X3_101 (xw_at g19 rfl) rfl ?_
  refine xj_isub hk dX3_wordIs_8 ?_
  refine xj.eqi (x' := nI (e - b)) (nI_sub hbe0) ?_
  refine xj_aload_n (i := 1) hk dX3_wordIs_9 rfl rfl ?_
  refine xj_callStr hk hz hq (fr1 := 1) (lo1 := 20) (As := []) (st := [.int (nI (e - b))]) (st2 := [.int (nI q.2.2.2.2.length), .int (nI (e - b))]) ml_X3_143 (c_len hq) rfl dX3_wordIs_10 ⟨Nat.le_of_ble_eq_true rfl, Nat.le_of_ble_eq_true rfl⟩ rfl (Nat.le_of_ble_eq_true rfl) rfl rfl ?_
  refine xj_icmp_eq (tgt := 18) hk dX3_wordIs_13 (by decide) (fun c13 => ?_) (fun c13 => ?_)
  · have c13 : e = b + q.2.2.2.2.length := by have := (nI_eq (a := e - b) (b := q.2.2.2.2.length) (by omega) (by omega)).mp c13; omega
    refine xj_iconst (x := 0) hk dX3_wordIs_18 (by decide) ?_
    refine xj_istore_n (i := 2) (ls2 := [some (.ref (xw_ad v 19 0)), some (.ref (xw_ad v (40 + q.1) 0)), some (.int 0)]) hk dX3_wordIs_19 rfl (by decide) rfl rfl ?_
    refine l_X3_wordIs hk hz g18 htl hl7 g19 hq hql c13 (by omega) (fun hx => ?_) (fun i hi hx => ?_) (q.2.2.2.2.length + 1) 0 (by omega) (by omega) rfl
    · refine xj_iconst (x := 1) hk dX3_wordIs_57 (by decide) ?_
      refine xj_zreturn hk hz dX3_wordIs_58 (by decide) ?_
      refine ⟨?_, rfl⟩
      rw [show wIs (tp_by t) b e q.2.2.2.2 = true from by simp only [wIs]; rw [decide_eq_true c13, decide_eq_true hx]; rfl]
      rfl
    · refine xj_iconst (x := 0) hk dX3_wordIs_49 (by decide) ?_
      refine xj_zreturn hk hz dX3_wordIs_50 (by decide) ?_
      refine ⟨?_, rfl⟩
      rw [show wIs (tp_by t) b e q.2.2.2.2 = false from by simp only [wIs]; rw [decide_eq_false (show ¬ fnd (wMis (tp_by t) b q.2.2.2.2) q.2.2.2.2.length = q.2.2.2.2.length from by rw [hx]; omega), Bool.and_false]]
      rfl
  · have c13 : ¬ e = b + q.2.2.2.2.length := fun q9 => c13 ((nI_eq (a := e - b) (b := q.2.2.2.2.length) (by omega) (by omega)).mpr (by omega))
    refine xj_iconst (x := 0) hk dX3_wordIs_16 (by decide) ?_
    refine xj_zreturn hk hz dX3_wordIs_17 (by decide) ?_
    refine ⟨?_, rfl⟩
    rw [show wIs (tp_by t) b e q.2.2.2.2 = false from by simp only [wIs]; rw [decide_eq_false c13]; rfl]
    rfl

set_option maxHeartbeats 1000000 in
set_option maxRecDepth 10000 in
theorem c_X3_expectWord {v : xw_V} {G : xw_G} {t : tp_T} {l : Nat} {p : Nat} {ws fa : Int32} {q : Nat × String × Nat × String × List Int32} (g18 : G 18 = pc_T v t) (htl : tp_le t = nI l) (hl7 : l ≤ 700) (g19 : G 19 = pR v (nI p) ws fa) (hq : q ∈ xk_strs) (hp : p ≤ l) : xk_Con v yX3_expectWord cX3_expectWord 2 none 6 128 [.ref (xw_ad v 19 0), .ref (xw_ad v (40 + q.1) 0)] G (xk_ret none (xw_up G 19 (pR v (nI (wdE (tp_by t) l p)) (nI (sbk (tp_by t) l p)) (if wIs (tp_by t) (sbk (tp_by t) l p) (wdE (tp_by t) l p) q.2.2.2.2 = true then fa else ffa fa (nI (sbk (tp_by t) l p)))))) := by
  refine xk_of (ls0 := [some (.ref (xw_ad v 19 0)), some (.ref (xw_ad v (40 + q.1) 0))]) (by decide) rfl (Nat.le_of_ble_eq_true rfl) ?_
  intro κ z hk hz
  refine xj_aload_n (i := 0) hk dX3_expectWord_0 rfl rfl ?_
  refine xj_callV hk hz (fr1 := 2) (lo1 := 43) (r1 := none) (As := []) (st := []) (st2 := []) (G1 := xw_up G 19 (pR v (nI (wdE (tp_by t) l p)) (nI (sbk (tp_by t) l p)) fa)) ml_X3_45 (c_X3_takeWord (p := p) (ws := ws) (fa := fa) (show G 18 = pc_T v t from g18) htl hl7 (show G 19 = pR v (nI p) ws fa from g19) (by omega)) (xw_at g19 rfl) rfl dX3_expectWord_1 ⟨Nat.le_of_ble_eq_true rfl, Nat.le_of_ble_eq_true rfl⟩ rfl (Nat.le_of_ble_eq_true rfl) rfl rfl ?_
  obtain ⟨b, e_b⟩ : ∃ q9, q9 = sbk (tp_by t) l p := ⟨_, rfl⟩
  obtain ⟨e, e_e⟩ : ∃ q9, q9 = wdE (tp_by t) l p := ⟨_, rfl⟩
  have h_b : b ≤ e ∧ e ≤ l := by rw [e_b, e_e]; exact wdE_le (by omega)
  refine xj.eqG (G' := xw_up G 19 (pR v (nI e) (nI b) fa)) (by rw [e_b, e_e]) ?_
  refine xj_aload_n (i := 0) hk dX3_expectWord_4 rfl rfl ?_
  refine xj_aload_n (i := 1) hk dX3_expectWord_5 rfl rfl ?_
  refine xj_callV hk hz (fr1 := 5) (lo1 := 106) (r1 := some (.int (xb (wIs (tp_by t) b e q.2.2.2.2)))) (As := [.ref (xw_ad v (40 + q.1) 0)]) (st := []) (st2 := [.int (xb (wIs (tp_by t) b e q.2.2.2.2))]) (G1 := xw_up G 19 (pR v (nI e) (nI b) fa)) ml_X3_50 (c_X3_wordIs (b := b) (e := e) (fa := fa) (q := q) (show (xw_up G 19 (pR v (nI e) (nI b) fa)) 18 = pc_T v t from (show (xw_up G 19 (pR v (nI e) (nI b) fa)) 18 = pc_T v t from by rw [xw_up_n (by decide), g18])) htl hl7 (show (xw_up G 19 (pR v (nI e) (nI b) fa)) 19 = pR v (nI e) (nI b) fa from xw_up_s) hq (by omega) (by omega)) (xw_at xw_up_s rfl) rfl dX3_expectWord_6 ⟨Nat.le_of_ble_eq_true rfl, Nat.le_of_ble_eq_true rfl⟩ rfl (Nat.le_of_ble_eq_true rfl) rfl rfl ?_
  refine xj_ifb_ne (tgt := 20) hk dX3_expectWord_9 (by decide) (fun c9 => ?_) (fun c9 => ?_)
  · refine xj_return hk hz dX3_expectWord_20 ?_
    refine ⟨rfl, ?_⟩
    rw [← e_b, ← e_e]
    rw [if_pos c9]
  · refine xj_aload_n (i := 0) hk dX3_expectWord_12 rfl rfl ?_
    refine xj_aload_n (i := 0) hk dX3_expectWord_13 rfl rfl ?_
    refine xj_getfield hk dX3_expectWord_14 fl_X3_101 (xw_at xw_up_s rfl) rfl ?_
    refine xj_callV hk hz (fr1 := 0) (lo1 := 0) (r1 := none) (As := [.int (nI b)]) (st := []) (st2 := []) (G1 := xw_up G 19 (pR v (nI e) (nI b) (ffa fa (nI b)))) ml_X3_104 (xk_cg (by rw [xw_up_u] <;> rfl) (c_X3_fail (pl := nI e) (ws := nI b) (fa := fa) (show (xw_up G 19 (pR v (nI e) (nI b) fa)) 18 = pc_T v t from (show (xw_up G 19 (pR v (nI e) (nI b) fa)) 18 = pc_T v t from by rw [xw_up_n (by decide), g18])) htl hl7 (show (xw_up G 19 (pR v (nI e) (nI b) fa)) 19 = pR v (nI e) (nI b) fa from xw_up_s) (nI b))) (xw_at xw_up_s rfl) rfl dX3_expectWord_17 ⟨Nat.le_of_ble_eq_true rfl, Nat.le_of_ble_eq_true rfl⟩ rfl (Nat.le_of_ble_eq_true rfl) rfl rfl ?_
    refine xj_return hk hz dX3_expectWord_20 ?_
    refine ⟨rfl, ?_⟩
    rw [← e_b, ← e_e]
    rw [if_neg (by rw [c9]; decide)]

set_option maxHeartbeats 1000000 in
set_option maxRecDepth 10000 in
theorem c_X3_readSemicolon {v : xw_V} {G : xw_G} {t : tp_T} {l : Nat} {p : Nat} {ws fa : Int32} (g18 : G 18 = pc_T v t) (htl : tp_le t = nI l) (hl7 : l ≤ 700) (g19 : G 19 = pR v (nI p) ws fa) (hp : p ≤ l) : xk_Con v yX3_readSemicolon cX3_readSemicolon 1 none 2 41 [.ref (xw_ad v 19 0)] G (xk_ret none (xw_up G 19 (pR v (if tAt (tp_by t) l (nI (sbk (tp_by t) l p)) = 59 then nI (sbk (tp_by t) l p + 1) else nI (sbk (tp_by t) l p)) ws (if tAt (tp_by t) l (nI (sbk (tp_by t) l p)) = 59 then fa else ffa fa (nI (sbk (tp_by t) l p)))))) := by
  refine xk_of (ls0 := [some (.ref (xw_ad v 19 0))]) (by decide) rfl (Nat.le_of_ble_eq_true rfl) ?_
  intro κ z hk hz
  refine xj_aload_n (i := 0) hk dX3_readSemicolon_0 rfl rfl ?_
  refine xj_callV hk hz (fr1 := 1) (lo1 := 21) (r1 := none) (As := []) (st := []) (st2 := []) (G1 := xw_up G 19 (pR v (nI (sbk (tp_by t) l p)) ws fa)) ml_X3_31 (c_X3_skipBlanks (p := p) (ws := ws) (fa := fa) (show G 18 = pc_T v t from g18) htl hl7 (show G 19 = pR v (nI p) ws fa from g19) (by omega)) (xw_at g19 rfl) rfl dX3_readSemicolon_1 ⟨Nat.le_of_ble_eq_true rfl, Nat.le_of_ble_eq_true rfl⟩ rfl (Nat.le_of_ble_eq_true rfl) rfl rfl ?_
  obtain ⟨b, e_b⟩ : ∃ q9, q9 = sbk (tp_by t) l p := ⟨_, rfl⟩
  have h_b : p ≤ b ∧ b ≤ l := by rw [e_b]; exact sbk_le hp
  refine xj.eqG (G' := xw_up G 19 (pR v (nI b) ws fa)) (by rw [e_b]) ?_
  refine xj_aload_n (i := 0) hk dX3_readSemicolon_4 rfl rfl ?_
  refine xj_getfield hk dX3_readSemicolon_5 fl_X3_9 (xw_at xw_up_s rfl) rfl ?_
  refine xj_aload_n (i := 0) hk dX3_readSemicolon_8 rfl rfl ?_
  refine xj_getfield hk dX3_readSemicolon_9 fl_X3_24 (xw_at xw_up_s rfl) rfl ?_
  refine xj_callV hk hz (fr1 := 0) (lo1 := 0) (r1 := some (.int (tAt (tp_by t) l (nI b)))) (As := [.int (nI b)]) (st := []) (st2 := [.int (tAt (tp_by t) l (nI b))]) (G1 := xw_up G 19 (pR v (nI b) ws fa)) ml_X3_129 (c_X6_at (show (xw_up G 19 (pR v (nI b) ws fa)) 18 = pc_T v t from (show (xw_up G 19 (pR v (nI b) ws fa)) 18 = pc_T v t from by rw [xw_up_n (by decide), g18])) htl hl7 (nI b)) (xw_at (show (xw_up G 19 (pR v (nI b) ws fa)) 18 = pc_T v t from by rw [xw_up_n (by decide), g18]) rfl) rfl dX3_readSemicolon_12 ⟨Nat.le_of_ble_eq_true rfl, Nat.le_of_ble_eq_true rfl⟩ rfl (Nat.le_of_ble_eq_true rfl) rfl rfl ?_
  refine xj_bipush (x := 59) hk dX3_readSemicolon_15 (by decide) ?_
  refine xj_icmp_ne (tgt := 33) hk dX3_readSemicolon_17 (by decide) (fun c17 => ?_) (fun c17 => ?_)
  · have c17' : ¬ tAt (tp_by t) l (nI b) = 59 := c17
    refine xj_aload_n (i := 0) hk dX3_readSemicolon_33 rfl rfl ?_
    refine xj_aload_n (i := 0) hk dX3_readSemicolon_34 rfl rfl ?_
    refine xj_getfield hk dX3_readSemicolon_35 fl_X3_24 (xw_at xw_up_s rfl) rfl ?_
    refine xj_callV hk hz (fr1 := 0) (lo1 := 0) (r1 := none) (As := [.int (nI b)]) (st := []) (st2 := []) (G1 := xw_up G 19 (pR v (nI b) ws (ffa fa (nI b)))) ml_X3_104 (xk_cg (by rw [xw_up_u] <;> rfl) (c_X3_fail (pl := nI b) (ws := ws) (fa := fa) (show (xw_up G 19 (pR v (nI b) ws fa)) 18 = pc_T v t from (show (xw_up G 19 (pR v (nI b) ws fa)) 18 = pc_T v t from by rw [xw_up_n (by decide), g18])) htl hl7 (show (xw_up G 19 (pR v (nI b) ws fa)) 19 = pR v (nI b) ws fa from xw_up_s) (nI b))) (xw_at xw_up_s rfl) rfl dX3_readSemicolon_38 ⟨Nat.le_of_ble_eq_true rfl, Nat.le_of_ble_eq_true rfl⟩ rfl (Nat.le_of_ble_eq_true rfl) rfl rfl ?_
    refine xj_return hk hz dX3_readSemicolon_41 ?_
    refine ⟨rfl, ?_⟩
    rw [← e_b]
    rw [if_neg c17', if_neg c17']
  · have c17' : tAt (tp_by t) l (nI b) = 59 := c17
    refine xj_aload_n (i := 0) hk dX3_readSemicolon_20 rfl rfl ?_
    refine xj_dup hk dX3_readSemicolon_21 rfl ?_
    refine xj_getfield hk dX3_readSemicolon_22 fl_X3_24 (xw_at xw_up_s rfl) rfl ?_
    refine xj_iconst (x := 1) hk dX3_readSemicolon_25 (by decide) ?_
    refine xj_iadd hk dX3_readSemicolon_26 ?_
    refine xj.eqi (x' := nI (b + 1)) (nI_1 b) ?_
    refine xj_putfield (G2 := xw_up G 19 (pR v (nI (b + 1)) ws fa)) hk dX3_readSemicolon_27 fl_X3_24 rfl rfl (xw_at xw_up_s rfl) (Nat.le_of_ble_eq_true rfl) (xw_wr2 rfl) ?_
    refine xj_goto (tgt := 41) hk dX3_readSemicolon_30 (by decide) ?_
    refine xj_return hk hz dX3_readSemicolon_41 ?_
    refine ⟨rfl, ?_⟩
    rw [← e_b]
    rw [if_pos c17', if_pos c17']

def okN (f : Nat → Int32) (b e : Nat) (lo hi : Int32) : Bool := decide (b < e) && decide (e ≤ b + 5) && !(glu f b) && !(decide (nv f b (e - b) < lo)) && decide (nv f b (e - b) ≤ hi)
def nuE (f : Nat → Int32) (l p : Nat) : Nat := run f l isDig (sbk f l p)
theorem nuE_le {f : Nat → Int32} {l p : Nat} (h : p ≤ l) : sbk f l p ≤ nuE f l p ∧ nuE f l p ≤ l := run_b (sbk_le h).2
def nuV (f : Nat → Int32) (l p : Nat) (lo hi : Int32) : Int32 := if okN f (sbk f l p) (nuE f l p) lo hi = true then nv f (sbk f l p) (nuE f l p - sbk f l p) else lo
def nuF (f : Nat → Int32) (l p : Nat) (lo hi fa : Int32) : Int32 := if okN f (sbk f l p) (nuE f l p) lo hi = true then fa else ffa fa (nI (sbk f l p))
set_option maxHeartbeats 1000000 in
set_option maxRecDepth 10000 in
theorem l_X3_readNumber_12 {v : xw_V} {κ : xk_K} {post : Option Value → xw_G → Prop} {z : Nat × Nat × Nat} {G : xw_G} {t : tp_T} {l : Nat} {b : Nat} {fa : Int32} {ws x1 x2 : Int32} (hk : xk_Ok v κ yX3_readNumber cX3_readNumber 7 (some .int) 2 43) (hz : xk_zf κ = z) (g18 : G 18 = pc_T v t) (htl : tp_le t = nI l) (hl7 : l ≤ 700) (g19 : G 19 = pR v (nI b) ws fa) (hb : b ≤ l) (kx : ∀ i, i ≤ l - b → run (tp_by t) l isDig b = b + i → xj v κ post z (xw_up G 19 (pR v (nI (b + i)) ws fa)) 88 [some (.ref (xw_ad v 19 0)), some (.int x1), some (.int x2), some (.int (nI b)), some (.int (nv (tp_by t) b i)), none, none] []) : ∀ (m : Nat) (i : Nat), l - b - i < m → i ≤ l - b → fnd (fun i => !(isDig (tp_by t (b + i)))) i = i → xj v κ post z (xw_up G 19 (pR v (nI (b + i)) ws fa)) 12 [some (.ref (xw_ad v 19 0)), some (.int x1), some (.int x2), some (.int (nI b)), some (.int (nv (tp_by t) b i)), none, none] [] := by
  intro m
  induction m with
  | zero => intro i h; exact absurd h (Nat.not_lt_zero _)
  | succ m ih =>
    intro i hm hi hf
    refine xj_aload_n (i := 0) hk dX3_readNumber_12 rfl rfl ?_
    refine xj_getfield hk dX3_readNumber_13 fl_X3_24 (xw_at xw_up_s rfl) rfl ?_
    refine xj_aload_n (i := 0) hk dX3_readNumber_16 rfl rfl ?_
    refine xj_getfield hk dX3_readNumber_17 fl_X3_9 (xw_at xw_up_s rfl) rfl ?_
    refine xj_getfield hk dX3_readNumber_20 fl_X3_34 (xw_at (show (xw_up G 19 (pR v (nI (b + i)) ws fa)) 18 = pc_T v t from by rw [xw_up_n (by decide), g18]) rfl) rfl ?_
    refine xj.eqi (x' := nI l) htl ?_
    refine xj_icmp_ge (tgt := 88) hk dX3_readNumber_23 (by decide) (fun c23 => ?_) (fun c23 => ?_)
    · have c23 : l ≤ b + i := (nI_leI (a := l) (b := b + i) (by omega) (by omega)).mp c23
      have e9 : run (tp_by t) l isDig b = b + i := by simp only [run]; rw [show l - b = i by omega, hf]
      exact kx i (by omega) e9
    · have c23 : ¬ l ≤ b + i := fun q => c23 ((nI_leI (a := l) (b := b + i) (by omega) (by omega)).mpr q)
      refine xj_aload_n (i := 0) hk dX3_readNumber_26 rfl rfl ?_
      refine xj_getfield hk dX3_readNumber_27 fl_X3_9 (xw_at xw_up_s rfl) rfl ?_
      refine xj_aload_n (i := 0) hk dX3_readNumber_30 rfl rfl ?_
      refine xj_getfield hk dX3_readNumber_31 fl_X3_24 (xw_at xw_up_s rfl) rfl ?_
      refine xj_callV hk hz (fr1 := 0) (lo1 := 0) (r1 := some (.int (tAt (tp_by t) l (nI (b + i))))) (As := [.int (nI (b + i))]) (st := []) (st2 := [.int (tAt (tp_by t) l (nI (b + i)))]) (G1 := xw_up G 19 (pR v (nI (b + i)) ws fa)) ml_X3_129 (c_X6_at (show (xw_up G 19 (pR v (nI (b + i)) ws fa)) 18 = pc_T v t from (show (xw_up G 19 (pR v (nI (b + i)) ws fa)) 18 = pc_T v t from by rw [xw_up_n (by decide), g18])) htl hl7 (nI (b + i))) (xw_at (show (xw_up G 19 (pR v (nI (b + i)) ws fa)) 18 = pc_T v t from by rw [xw_up_n (by decide), g18]) rfl) rfl dX3_readNumber_34 ⟨Nat.le_of_ble_eq_true rfl, Nat.le_of_ble_eq_true rfl⟩ rfl (Nat.le_of_ble_eq_true rfl) rfl rfl ?_
      refine xj_callS hk hz (fr1 := 0) (lo1 := 0) (r1 := some (.int (xb (isDig (tAt (tp_by t) l (nI (b + i))))))) (As := [.int (tAt (tp_by t) l (nI (b + i)))]) (st := []) (st2 := [.int (xb (isDig (tAt (tp_by t) l (nI (b + i)))))]) (G1 := xw_up G 19 (pR v (nI (b + i)) ws fa)) ml_X3_133 (c_X7_isDigit (tAt (tp_by t) l (nI (b + i)))) dX3_readNumber_37 ⟨Nat.le_of_ble_eq_true rfl, Nat.le_of_ble_eq_true rfl⟩ rfl (Nat.le_of_ble_eq_true rfl) rfl rfl ?_
      refine xj_ifb_eq (tgt := 88) hk dX3_readNumber_40 (by decide) (fun c40 => ?_) (fun c40 => ?_)
      · have c40' : isDig (tp_by t (b + i)) = false := by rw [tAt_nI (by omega) (by omega), if_pos (by omega)] at c40; exact c40
        have e9 : run (tp_by t) l isDig b = b + i := by simp only [run]; rw [fnd_at hf (show (!(isDig (tp_by t (b + i)))) = true from by rw [c40']; rfl) (l - b) (by omega)]
        have e8 : i = run (tp_by t) l isDig b - b := by omega
        exact kx i (by omega) e9
      · have c40' : isDig (tp_by t (b + i)) = true := by rw [tAt_nI (by omega) (by omega), if_pos (by omega)] at c40; exact c40
        refine xj_aload_n (i := 0) hk dX3_readNumber_43 rfl rfl ?_
        refine xj_getfield hk dX3_readNumber_44 fl_X3_24 (xw_at xw_up_s rfl) rfl ?_
        refine xj_iload_n (i := 3) hk dX3_readNumber_47 rfl rfl ?_
        refine xj_isub hk dX3_readNumber_48 ?_
        refine xj.eqi (x' := nI i) (by rw [nI_sub (by omega)]; congr 1; omega) ?_
        refine xj_iconst (x := 5) hk dX3_readNumber_49 (by decide) ?_
        refine xj_icmp_ge (tgt := 75) hk dX3_readNumber_50 (by decide) (fun c50 => ?_) (fun c50 => ?_)
        · have c50 : ¬ i < 5 := by have := (nI_leI (a := 5) (b := i) (by omega) (by omega)).mp c50; omega
          refine xj_aload_n (i := 0) hk dX3_readNumber_75 rfl rfl ?_
          refine xj_dup hk dX3_readNumber_76 rfl ?_
          refine xj_getfield hk dX3_readNumber_77 fl_X3_24 (xw_at xw_up_s rfl) rfl ?_
          refine xj_iconst (x := 1) hk dX3_readNumber_80 (by decide) ?_
          refine xj_iadd hk dX3_readNumber_81 ?_
          refine xj.eqi (x' := nI (b + (i + 1))) (nI_1 (b + i)) ?_
          refine xj_putfield (G2 := xw_up G 19 (pR v (nI (b + (i + 1))) ws fa)) hk dX3_readNumber_82 fl_X3_24 rfl rfl (xw_at xw_up_s rfl) (Nat.le_of_ble_eq_true rfl) (xw_wr2 rfl) ?_
          refine xj_goto (tgt := 12) hk dX3_readNumber_85 (by decide) ?_
          refine xj.eqG (G' := xw_up G 19 (pR v (nI (b + (i + 1))) ws fa)) (by rfl) ?_
          refine xj.to (ls' := [some (.ref (xw_ad v 19 0)), some (.int x1), some (.int x2), some (.int (nI b)), some (.int (nv (tp_by t) b ((i + 1)))), none, none]) (by simp only [nv]; first | (rw [if_pos c50, tAt_nI (by omega) (by omega), if_pos (by omega)]) | (rw [if_neg c50])) (ih (i + 1) (by omega) (by omega) (fnd_no hf (show (!(isDig (tp_by t (b + i)))) = false from by rw [c40']; rfl)))
        · have c50 : i < 5 := by
            rcases Nat.lt_or_ge i 5 with q | q
            · exact q
            · exact absurd ((nI_leI (a := 5) (b := i) (by omega) (by omega)).mpr q) c50
          refine xj_iload hk dX3_readNumber_53 rfl ?_
          refine xj_bipush (x := 10) hk dX3_readNumber_55 (by decide) ?_
          refine xj_imul hk dX3_readNumber_57 ?_
          refine xj_aload_n (i := 0) hk dX3_readNumber_58 rfl rfl ?_
          refine xj_getfield hk dX3_readNumber_59 fl_X3_9 (xw_at xw_up_s rfl) rfl ?_
          refine xj_aload_n (i := 0) hk dX3_readNumber_62 rfl rfl ?_
          refine xj_getfield hk dX3_readNumber_63 fl_X3_24 (xw_at xw_up_s rfl) rfl ?_
          refine xj_callV hk hz (fr1 := 0) (lo1 := 0) (r1 := some (.int (tAt (tp_by t) l (nI (b + i))))) (As := [.int (nI (b + i))]) (st := [.int ((nv (tp_by t) b i) * 10)]) (st2 := [.int (tAt (tp_by t) l (nI (b + i))), .int ((nv (tp_by t) b i) * 10)]) (G1 := xw_up G 19 (pR v (nI (b + i)) ws fa)) ml_X3_129 (c_X6_at (show (xw_up G 19 (pR v (nI (b + i)) ws fa)) 18 = pc_T v t from (show (xw_up G 19 (pR v (nI (b + i)) ws fa)) 18 = pc_T v t from by rw [xw_up_n (by decide), g18])) htl hl7 (nI (b + i))) (xw_at (show (xw_up G 19 (pR v (nI (b + i)) ws fa)) 18 = pc_T v t from by rw [xw_up_n (by decide), g18]) rfl) rfl dX3_readNumber_66 ⟨Nat.le_of_ble_eq_true rfl, Nat.le_of_ble_eq_true rfl⟩ rfl (Nat.le_of_ble_eq_true rfl) rfl rfl ?_
          refine xj_iadd hk dX3_readNumber_69 ?_
          refine xj_bipush (x := 48) hk dX3_readNumber_70 (by decide) ?_
          refine xj_isub hk dX3_readNumber_72 ?_
          refine xj_istore (i := 4) (ls2 := [some (.ref (xw_ad v 19 0)), some (.int x1), some (.int x2), some (.int (nI b)), some (.int ((((nv (tp_by t) b i) * 10) + (tAt (tp_by t) l (nI (b + i)))) - 48)), none, none]) hk dX3_readNumber_73 (by decide) rfl rfl ?_
          refine xj_aload_n (i := 0) hk dX3_readNumber_75 rfl rfl ?_
          refine xj_dup hk dX3_readNumber_76 rfl ?_
          refine xj_getfield hk dX3_readNumber_77 fl_X3_24 (xw_at xw_up_s rfl) rfl ?_
          refine xj_iconst (x := 1) hk dX3_readNumber_80 (by decide) ?_
          refine xj_iadd hk dX3_readNumber_81 ?_
          refine xj.eqi (x' := nI (b + (i + 1))) (nI_1 (b + i)) ?_
          refine xj_putfield (G2 := xw_up G 19 (pR v (nI (b + (i + 1))) ws fa)) hk dX3_readNumber_82 fl_X3_24 rfl rfl (xw_at xw_up_s rfl) (Nat.le_of_ble_eq_true rfl) (xw_wr2 rfl) ?_
          refine xj_goto (tgt := 12) hk dX3_readNumber_85 (by decide) ?_
          refine xj.eqG (G' := xw_up G 19 (pR v (nI (b + (i + 1))) ws fa)) (by rfl) ?_
          refine xj.to (ls' := [some (.ref (xw_ad v 19 0)), some (.int x1), some (.int x2), some (.int (nI b)), some (.int (nv (tp_by t) b ((i + 1)))), none, none]) (by simp only [nv]; first | (rw [if_pos c50, tAt_nI (by omega) (by omega), if_pos (by omega)]) | (rw [if_neg c50])) (ih (i + 1) (by omega) (by omega) (fnd_no hf (show (!(isDig (tp_by t (b + i)))) = false from by rw [c40']; rfl)))

set_option maxHeartbeats 1000000 in
set_option maxRecDepth 10000 in
theorem c_X3_readNumber {v : xw_V} {G : xw_G} {t : tp_T} {l : Nat} {p : Nat} {ws fa : Int32} (g18 : G 18 = pc_T v t) (htl : tp_le t = nI l) (hl7 : l ≤ 700) (g19 : G 19 = pR v (nI p) ws fa) (hp : p ≤ l) (x1 x2 : Int32) : xk_Con v yX3_readNumber cX3_readNumber 7 (some .int) 2 43 [.ref (xw_ad v 19 0), .int x1, .int x2] G (xk_ret (some (.int (nuV (tp_by t) l p x1 x2))) (xw_up G 19 (pR v (nI (nuE (tp_by t) l p)) ws (nuF (tp_by t) l p x1 x2 fa)))) := by
  refine xk_of (ls0 := [some (.ref (xw_ad v 19 0)), some (.int x1), some (.int x2), none, none, none, none]) (by decide) rfl (Nat.le_of_ble_eq_true rfl) ?_
  intro κ z hk hz
  refine xj_aload_n (i := 0) hk dX3_readNumber_0 rfl rfl ?_
  refine xj_callV hk hz (fr1 := 1) (lo1 := 21) (r1 := none) (As := []) (st := []) (st2 := []) (G1 := xw_up G 19 (pR v (nI (sbk (tp_by t) l p)) ws fa)) ml_X3_31 (c_X3_skipBlanks (p := p) (ws := ws) (fa := fa) (show G 18 = pc_T v t from g18) htl hl7 (show G 19 = pR v (nI p) ws fa from g19) (by omega)) (xw_at g19 rfl) rfl dX3_readNumber_1 ⟨Nat.le_of_ble_eq_true rfl, Nat.le_of_ble_eq_true rfl⟩ rfl (Nat.le_of_ble_eq_true rfl) rfl rfl ?_
  obtain ⟨b, e_b⟩ : ∃ q9, q9 = sbk (tp_by t) l p := ⟨_, rfl⟩
  have h_b : p ≤ b ∧ b ≤ l := by rw [e_b]; exact sbk_le hp
  refine xj.eqG (G' := xw_up G 19 (pR v (nI b) ws fa)) (by rw [e_b]) ?_
  refine xj_aload_n (i := 0) hk dX3_readNumber_4 rfl rfl ?_
  refine xj_getfield hk dX3_readNumber_5 fl_X3_24 (xw_at xw_up_s rfl) rfl ?_
  refine xj_istore_n (i := 3) (ls2 := [some (.ref (xw_ad v 19 0)), some (.int x1), some (.int x2), some (.int (nI b)), none, none, none]) hk dX3_readNumber_8 rfl (by decide) rfl rfl ?_
  refine xj_iconst (x := 0) hk dX3_readNumber_9 (by decide) ?_
  refine xj_istore (i := 4) (ls2 := [some (.ref (xw_ad v 19 0)), some (.int x1), some (.int x2), some (.int (nI b)), some (.int 0), none, none]) hk dX3_readNumber_10 (by decide) rfl rfl ?_
  refine xj.to (ls' := [some (.ref (xw_ad v 19 0)), some (.int x1), some (.int x2), some (.int (nI b)), some (.int (nv (tp_by t) b 0)), none, none]) rfl ?_
  refine xj.eqG (G' := xw_up (xw_up G 19 (pR v (nI b) ws fa)) 19 (pR v (nI (b + 0)) ws fa)) (by rw [Nat.add_zero]; exact (xw_up_same xw_up_s).symm) ?_
  refine l_X3_readNumber_12 hk hz (show (xw_up G 19 (pR v (nI b) ws fa)) 18 = pc_T v t from (show (xw_up G 19 (pR v (nI b) ws fa)) 18 = pc_T v t from by rw [xw_up_n (by decide), g18])) htl hl7 (show (xw_up G 19 (pR v (nI b) ws fa)) 19 = pR v (nI b) ws fa from xw_up_s) h_b.2 (fun i hi9 er9 => ?_) (l - b + 1) 0 (by omega) (by omega) rfl
  refine xj.eqG (G' := xw_up G 19 (pR v (nI (b + i)) ws fa)) (by rw [xw_up_u]) ?_
  refine xj_aload_n (i := 0) hk dX3_readNumber_88 rfl rfl ?_
  refine xj_getfield hk dX3_readNumber_89 fl_X3_24 (xw_at xw_up_s rfl) rfl ?_
  refine xj_iload_n (i := 3) hk dX3_readNumber_92 rfl rfl ?_
  refine xj_isub hk dX3_readNumber_93 ?_
  refine xj.eqi (x' := nI i) (by rw [nI_sub (by omega)]; congr 1; omega) ?_
  refine xj_istore (i := 5) (ls2 := [some (.ref (xw_ad v 19 0)), some (.int x1), some (.int x2), some (.int (nI b)), some (.int (nv (tp_by t) b i)), some (.int (nI i)), none]) hk dX3_readNumber_94 (by decide) rfl rfl ?_
  refine xj_iload hk dX3_readNumber_96 rfl ?_
  refine xj_iconst (x := 1) hk dX3_readNumber_98 (by decide) ?_
  refine xj_icmp_lt (tgt := 120) hk dX3_readNumber_99 (by decide) (fun c99 => ?_) (fun c99 => ?_)
  · have c99 : i < 1 := (nI_ltI (a := i) (b := 1) (by omega) (by omega)).mp c99
    refine xj_iconst (x := 0) hk dX3_readNumber_120 (by decide) ?_
    refine xj_istore (i := 6) (ls2 := [some (.ref (xw_ad v 19 0)), some (.int x1), some (.int x2), some (.int (nI b)), some (.int (nv (tp_by t) b i)), some (.int (nI i)), some (.int 0)]) hk dX3_readNumber_121 (by decide) rfl rfl ?_
    refine xj_iload hk dX3_readNumber_123 rfl ?_
    refine xj_if_eq (tgt := 140) hk dX3_readNumber_125 (by decide) (fun c125 => ?_) (fun c125 => False.elim (by revert c125; decide))
    refine xj_aload_n (i := 0) hk dX3_readNumber_140 rfl rfl ?_
    refine xj_iload_n (i := 3) hk dX3_readNumber_141 rfl rfl ?_
    refine xj_callV hk hz (fr1 := 0) (lo1 := 0) (r1 := none) (As := [.int (nI b)]) (st := []) (st2 := []) (G1 := xw_up G 19 (pR v (nI (b + i)) ws (ffa fa (nI b)))) ml_X3_104 (xk_cg (by rw [xw_up_u] <;> rfl) (c_X3_fail (pl := nI (b + i)) (ws := ws) (fa := fa) (show (xw_up G 19 (pR v (nI (b + i)) ws fa)) 18 = pc_T v t from (show (xw_up G 19 (pR v (nI (b + i)) ws fa)) 18 = pc_T v t from by rw [xw_up_n (by decide), g18])) htl hl7 (show (xw_up G 19 (pR v (nI (b + i)) ws fa)) 19 = pR v (nI (b + i)) ws fa from xw_up_s) (nI b))) (xw_at xw_up_s rfl) rfl dX3_readNumber_142 ⟨Nat.le_of_ble_eq_true rfl, Nat.le_of_ble_eq_true rfl⟩ rfl (Nat.le_of_ble_eq_true rfl) rfl rfl ?_
    refine xj_iload_n (i := 1) hk dX3_readNumber_145 rfl rfl ?_
    refine xj_ireturn hk hz dX3_readNumber_146 ?_
    have ee : nuE (tp_by t) l p = b + i := by simp only [nuE]; rw [← e_b]; exact er9
    have ko : okN (tp_by t) b (b + i) x1 x2 = false := by simp only [okN]; rw [decide_eq_false (show ¬ b < b + i by omega)]; rfl
    simp only [nuV, nuF]
    rw [ee, ← e_b, ko]
    exact ⟨rfl, rfl⟩
  · have c99 : ¬ i < 1 := fun q => c99 ((nI_ltI (a := i) (b := 1) (by omega) (by omega)).mpr q)
    refine xj_iload hk dX3_readNumber_102 rfl ?_
    refine xj_iconst (x := 5) hk dX3_readNumber_104 (by decide) ?_
    refine xj_icmp_gt (tgt := 120) hk dX3_readNumber_105 (by decide) (fun c105 => ?_) (fun c105 => ?_)
    · have c105 : 5 < i := (nI_ltI (a := 5) (b := i) (by omega) (by omega)).mp c105
      refine xj_iconst (x := 0) hk dX3_readNumber_120 (by decide) ?_
      refine xj_istore (i := 6) (ls2 := [some (.ref (xw_ad v 19 0)), some (.int x1), some (.int x2), some (.int (nI b)), some (.int (nv (tp_by t) b i)), some (.int (nI i)), some (.int 0)]) hk dX3_readNumber_121 (by decide) rfl rfl ?_
      refine xj_iload hk dX3_readNumber_123 rfl ?_
      refine xj_if_eq (tgt := 140) hk dX3_readNumber_125 (by decide) (fun c125 => ?_) (fun c125 => False.elim (by revert c125; decide))
      refine xj_aload_n (i := 0) hk dX3_readNumber_140 rfl rfl ?_
      refine xj_iload_n (i := 3) hk dX3_readNumber_141 rfl rfl ?_
      refine xj_callV hk hz (fr1 := 0) (lo1 := 0) (r1 := none) (As := [.int (nI b)]) (st := []) (st2 := []) (G1 := xw_up G 19 (pR v (nI (b + i)) ws (ffa fa (nI b)))) ml_X3_104 (xk_cg (by rw [xw_up_u] <;> rfl) (c_X3_fail (pl := nI (b + i)) (ws := ws) (fa := fa) (show (xw_up G 19 (pR v (nI (b + i)) ws fa)) 18 = pc_T v t from (show (xw_up G 19 (pR v (nI (b + i)) ws fa)) 18 = pc_T v t from by rw [xw_up_n (by decide), g18])) htl hl7 (show (xw_up G 19 (pR v (nI (b + i)) ws fa)) 19 = pR v (nI (b + i)) ws fa from xw_up_s) (nI b))) (xw_at xw_up_s rfl) rfl dX3_readNumber_142 ⟨Nat.le_of_ble_eq_true rfl, Nat.le_of_ble_eq_true rfl⟩ rfl (Nat.le_of_ble_eq_true rfl) rfl rfl ?_
      refine xj_iload_n (i := 1) hk dX3_readNumber_145 rfl rfl ?_
      refine xj_ireturn hk hz dX3_readNumber_146 ?_
      have ee : nuE (tp_by t) l p = b + i := by simp only [nuE]; rw [← e_b]; exact er9
      have ko : okN (tp_by t) b (b + i) x1 x2 = false := by simp only [okN]; rw [decide_eq_false (show ¬ b + i ≤ b + 5 by omega)]; simp
      simp only [nuV, nuF]
      rw [ee, ← e_b, ko]
      exact ⟨rfl, rfl⟩
    · have c105 : ¬ 5 < i := fun q => c105 ((nI_ltI (a := 5) (b := i) (by omega) (by omega)).mpr q)
      refine xj_aload_n (i := 0) hk dX3_readNumber_108 rfl rfl ?_
      refine xj_iload_n (i := 3) hk dX3_readNumber_109 rfl rfl ?_
      refine xj_callV hk hz (fr1 := 1) (lo1 := 21) (r1 := some (.int (xb (glu (tp_by t) b)))) (As := [.int (nI b)]) (st := []) (st2 := [.int (xb (glu (tp_by t) b))]) (G1 := xw_up G 19 (pR v (nI (b + i)) ws fa)) ml_X3_137 (c_X3_isGlued (b := b) (pl := nI (b + i)) (ws := ws) (fa := fa) (show (xw_up G 19 (pR v (nI (b + i)) ws fa)) 18 = pc_T v t from (show (xw_up G 19 (pR v (nI (b + i)) ws fa)) 18 = pc_T v t from by rw [xw_up_n (by decide), g18])) htl hl7 (show (xw_up G 19 (pR v (nI (b + i)) ws fa)) 19 = pR v (nI (b + i)) ws fa from xw_up_s) (by omega)) (xw_at xw_up_s rfl) rfl dX3_readNumber_110 ⟨Nat.le_of_ble_eq_true rfl, Nat.le_of_ble_eq_true rfl⟩ rfl (Nat.le_of_ble_eq_true rfl) rfl rfl ?_
      refine xj_ifb_ne (tgt := 120) hk dX3_readNumber_113 (by decide) (fun c113 => ?_) (fun c113 => ?_)
      · refine xj_iconst (x := 0) hk dX3_readNumber_120 (by decide) ?_
        refine xj_istore (i := 6) (ls2 := [some (.ref (xw_ad v 19 0)), some (.int x1), some (.int x2), some (.int (nI b)), some (.int (nv (tp_by t) b i)), some (.int (nI i)), some (.int 0)]) hk dX3_readNumber_121 (by decide) rfl rfl ?_
        refine xj_iload hk dX3_readNumber_123 rfl ?_
        refine xj_if_eq (tgt := 140) hk dX3_readNumber_125 (by decide) (fun c125 => ?_) (fun c125 => False.elim (by revert c125; decide))
        refine xj_aload_n (i := 0) hk dX3_readNumber_140 rfl rfl ?_
        refine xj_iload_n (i := 3) hk dX3_readNumber_141 rfl rfl ?_
        refine xj_callV hk hz (fr1 := 0) (lo1 := 0) (r1 := none) (As := [.int (nI b)]) (st := []) (st2 := []) (G1 := xw_up G 19 (pR v (nI (b + i)) ws (ffa fa (nI b)))) ml_X3_104 (xk_cg (by rw [xw_up_u] <;> rfl) (c_X3_fail (pl := nI (b + i)) (ws := ws) (fa := fa) (show (xw_up G 19 (pR v (nI (b + i)) ws fa)) 18 = pc_T v t from (show (xw_up G 19 (pR v (nI (b + i)) ws fa)) 18 = pc_T v t from by rw [xw_up_n (by decide), g18])) htl hl7 (show (xw_up G 19 (pR v (nI (b + i)) ws fa)) 19 = pR v (nI (b + i)) ws fa from xw_up_s) (nI b))) (xw_at xw_up_s rfl) rfl dX3_readNumber_142 ⟨Nat.le_of_ble_eq_true rfl, Nat.le_of_ble_eq_true rfl⟩ rfl (Nat.le_of_ble_eq_true rfl) rfl rfl ?_
        refine xj_iload_n (i := 1) hk dX3_readNumber_145 rfl rfl ?_
        refine xj_ireturn hk hz dX3_readNumber_146 ?_
        have ee : nuE (tp_by t) l p = b + i := by simp only [nuE]; rw [← e_b]; exact er9
        have ko : okN (tp_by t) b (b + i) x1 x2 = false := by simp only [okN]; rw [c113]; simp
        simp only [nuV, nuF]
        rw [ee, ← e_b, ko]
        exact ⟨rfl, rfl⟩
      · refine xj_iconst (x := 1) hk dX3_readNumber_116 (by decide) ?_
        refine xj_goto (tgt := 121) hk dX3_readNumber_117 (by decide) ?_
        refine xj_istore (i := 6) (ls2 := [some (.ref (xw_ad v 19 0)), some (.int x1), some (.int x2), some (.int (nI b)), some (.int (nv (tp_by t) b i)), some (.int (nI i)), some (.int 1)]) hk dX3_readNumber_121 (by decide) rfl rfl ?_
        refine xj_iload hk dX3_readNumber_123 rfl ?_
        refine xj_if_eq (tgt := 140) hk dX3_readNumber_125 (by decide) (fun c125 => False.elim (by revert c125; decide)) (fun c125 => ?_)
        refine xj_iload hk dX3_readNumber_128 rfl ?_
        refine xj_iload_n (i := 1) hk dX3_readNumber_130 rfl rfl ?_
        refine xj_icmp_lt (tgt := 140) hk dX3_readNumber_131 (by decide) (fun c131 => ?_) (fun c131 => ?_)
        · refine xj_aload_n (i := 0) hk dX3_readNumber_140 rfl rfl ?_
          refine xj_iload_n (i := 3) hk dX3_readNumber_141 rfl rfl ?_
          refine xj_callV hk hz (fr1 := 0) (lo1 := 0) (r1 := none) (As := [.int (nI b)]) (st := []) (st2 := []) (G1 := xw_up G 19 (pR v (nI (b + i)) ws (ffa fa (nI b)))) ml_X3_104 (xk_cg (by rw [xw_up_u] <;> rfl) (c_X3_fail (pl := nI (b + i)) (ws := ws) (fa := fa) (show (xw_up G 19 (pR v (nI (b + i)) ws fa)) 18 = pc_T v t from (show (xw_up G 19 (pR v (nI (b + i)) ws fa)) 18 = pc_T v t from by rw [xw_up_n (by decide), g18])) htl hl7 (show (xw_up G 19 (pR v (nI (b + i)) ws fa)) 19 = pR v (nI (b + i)) ws fa from xw_up_s) (nI b))) (xw_at xw_up_s rfl) rfl dX3_readNumber_142 ⟨Nat.le_of_ble_eq_true rfl, Nat.le_of_ble_eq_true rfl⟩ rfl (Nat.le_of_ble_eq_true rfl) rfl rfl ?_
          refine xj_iload_n (i := 1) hk dX3_readNumber_145 rfl rfl ?_
          refine xj_ireturn hk hz dX3_readNumber_146 ?_
          have ee : nuE (tp_by t) l p = b + i := by simp only [nuE]; rw [← e_b]; exact er9
          have ko : okN (tp_by t) b (b + i) x1 x2 = false := by simp only [okN]; rw [show b + i - b = i by omega, decide_eq_true c131]; simp
          simp only [nuV, nuF]
          rw [ee, ← e_b, ko]
          exact ⟨rfl, rfl⟩
        · refine xj_iload hk dX3_readNumber_134 rfl ?_
          refine xj_iload_n (i := 2) hk dX3_readNumber_136 rfl rfl ?_
          refine xj_icmp_le (tgt := 147) hk dX3_readNumber_137 (by decide) (fun c137 => ?_) (fun c137 => ?_)
          · refine xj_iload hk dX3_readNumber_147 rfl ?_
            refine xj_ireturn hk hz dX3_readNumber_149 ?_
            have ee : nuE (tp_by t) l p = b + i := by simp only [nuE]; rw [← e_b]; exact er9
            have ko : okN (tp_by t) b (b + i) x1 x2 = true := by simp only [okN]; rw [show b + i - b = i by omega, decide_eq_true (show b < b + i by omega), decide_eq_true (show b + i ≤ b + 5 by omega), c113, decide_eq_false c131, decide_eq_true c137]; rfl
            simp only [nuV, nuF]
            rw [ee, ← e_b, ko]
            rw [show b + i - b = i by omega]
            exact ⟨rfl, rfl⟩
          · refine xj_aload_n (i := 0) hk dX3_readNumber_140 rfl rfl ?_
            refine xj_iload_n (i := 3) hk dX3_readNumber_141 rfl rfl ?_
            refine xj_callV hk hz (fr1 := 0) (lo1 := 0) (r1 := none) (As := [.int (nI b)]) (st := []) (st2 := []) (G1 := xw_up G 19 (pR v (nI (b + i)) ws (ffa fa (nI b)))) ml_X3_104 (xk_cg (by rw [xw_up_u] <;> rfl) (c_X3_fail (pl := nI (b + i)) (ws := ws) (fa := fa) (show (xw_up G 19 (pR v (nI (b + i)) ws fa)) 18 = pc_T v t from (show (xw_up G 19 (pR v (nI (b + i)) ws fa)) 18 = pc_T v t from by rw [xw_up_n (by decide), g18])) htl hl7 (show (xw_up G 19 (pR v (nI (b + i)) ws fa)) 19 = pR v (nI (b + i)) ws fa from xw_up_s) (nI b))) (xw_at xw_up_s rfl) rfl dX3_readNumber_142 ⟨Nat.le_of_ble_eq_true rfl, Nat.le_of_ble_eq_true rfl⟩ rfl (Nat.le_of_ble_eq_true rfl) rfl rfl ?_
            refine xj_iload_n (i := 1) hk dX3_readNumber_145 rfl rfl ?_
            refine xj_ireturn hk hz dX3_readNumber_146 ?_
            have ee : nuE (tp_by t) l p = b + i := by simp only [nuE]; rw [← e_b]; exact er9
            have ko : okN (tp_by t) b (b + i) x1 x2 = false := by simp only [okN]; rw [show b + i - b = i by omega, decide_eq_false c137, Bool.and_false]
            simp only [nuV, nuF]
            rw [ee, ← e_b, ko]
            exact ⟨rfl, rfl⟩


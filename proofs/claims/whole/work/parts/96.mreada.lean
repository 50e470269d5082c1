def hAt (f : Nat → Int32) (l p : Nat) : Int32 := if p < l then f p else -1
def okBy (f : Nat → Int32) (l : Nat) : Prop := ∀ j, j < l → 0 ≤ f j
set_option maxHeartbeats 1000000 in
set_option maxRecDepth 10000 in
theorem c_X8_here {v : xw_V} {G : xw_G} {M : md_T} {l : Nat} {p : Nat} {tk bg nu wr : Int32} (hM : G 21 = pM v (md_th M) (md_no M) (md_pt M) (md_re M) (md_sd M) (md_be M) (md_pb M) (md_ac M) (md_od M) (md_ad M) (md_wy M) (md_so M) (md_rl M) (md_io M) (md_po M) (md_sp M) (md_rs M) (md_st M) (md_av M) (md_ip M) (md_tx M) (md_tm M) (md_ta M) (md_td M) (md_wo M) (nI p) tk bg nu wr) (htd : md_td M = nI l) (hl7 : l ≤ 700) (hp : p ≤ 700) : xk_Con v yX8_here cX8_here 1 (some .int) 0 0 [.ref (xw_ad v 21 0)] G (xk_ret (some (.int (hAt (md_ta M) l p))) G) := by
  refine xk_of (ls0 := [some (.ref (xw_ad v 21 0))]) (by decide) rfl (Nat.le_of_ble_eq_true rfl) ?_
  intro κ z hk hz
  refine xj_aload_n (i := 0) hk dX8_here_0 rfl rfl ?_
  refine xj_getfield hk dX8_here_1 fl_X8_256 (xw_at hM rfl) rfl ?_
  refine xj_aload_n (i := 0) hk dX8_here_4 rfl rfl ?_
  refine xj_getfield hk dX8_here_5 fl_X8_250 (xw_at hM rfl) rfl ?_
  refine xj.eqi (x' := nI l) htd ?_
  refine xj_icmp_ge (tgt := 23) hk dX8_here_8 (by decide) (fun c8 => ?_) (fun c8 => ?_)
  · have c8 : l ≤ p := (nI_leI (a := l) (b := p) (by omega) (by omega)).mp c8
    refine xj_iconst (x := (-1)) hk dX8_here_23 (by decide) ?_
    refine xj_ireturn hk hz dX8_here_24 ?_
    simp only [hAt]; rw [if_neg (by omega)]; exact ⟨rfl, rfl⟩
  · have c8 : ¬ l ≤ p := fun q => c8 ((nI_leI (a := l) (b := p) (by omega) (by omega)).mpr q)
    refine xj_aload_n (i := 0) hk dX8_here_11 rfl rfl ?_
    refine xj_getfield hk dX8_here_12 fl_X8_55 (xw_at hM rfl) rfl ?_
    refine xj_aload_n (i := 0) hk dX8_here_15 rfl rfl ?_
    refine xj_getfield hk dX8_here_16 fl_X8_256 (xw_at hM rfl) rfl ?_
    refine xj_iaload (k := p) hk dX8_here_19 (xw_at hM rfl) (xi_n (by omega) (by decide)) ?_
    refine xj_goto (tgt := 24) hk dX8_here_20 (by decide) ?_
    refine xj_ireturn hk hz dX8_here_24 ?_
    simp only [hAt]; rw [if_pos (by omega)]; exact ⟨rfl, rfl⟩

set_option maxHeartbeats 1000000 in
set_option maxRecDepth 10000 in
theorem l_goesOn_10 {v : xw_V} {κ : xk_K} {post : Option Value → xw_G → Prop} {z : Nat × Nat × Nat} {G : xw_G} {M : md_T} {l : Nat} {p : Nat} {sq0 bg0 nu0 tk wr : Int32} (hk : xk_Ok v κ yX8_goesOn cX8_goesOn 5 none 1 22) (hz : xk_zf κ = z) (hM : G 21 = pM v (md_th M) (md_no M) (md_pt M) (md_re M) (md_sd M) (md_be M) (md_pb M) (md_ac M) (md_od M) (md_ad M) (md_wy M) (md_so M) (md_rl M) (md_io M) (md_po M) (md_sp M) (md_rs M) (md_st M) (md_av M) (md_ip M) (md_tx M) (md_tm M) (md_ta M) (md_td M) (md_wo M) sq0 tk bg0 nu0 wr) (htd : md_td M = nI l) (hl7 : l ≤ 700) (hb : p ≤ l) (kx : ∀ i, i ≤ l - p → run (md_ta M) l isBlk p = p + i → xj v κ post z (xw_up G 21 (pM v (md_th M) (md_no M) (md_pt M) (md_re M) (md_sd M) (md_be M) (md_pb M) (md_ac M) (md_od M) (md_ad M) (md_wy M) (md_so M) (md_rl M) (md_io M) (md_po M) (md_sp M) (md_rs M) (md_st M) (md_av M) (md_ip M) (md_tx M) (md_tm M) (md_ta M) (md_td M) (md_wo M) (nI (p + i)) tk bg0 nu0 wr)) 41 [some (.ref (xw_ad v 21 0)), some (.int tk), some (.int (nI p)), none, none] []) : ∀ (m : Nat) (i : Nat), l - p - i < m → i ≤ l - p → fnd (fun i => !(isBlk (md_ta M (p + i)))) i = i → xj v κ post z (xw_up G 21 (pM v (md_th M) (md_no M) (md_pt M) (md_re M) (md_sd M) (md_be M) (md_pb M) (md_ac M) (md_od M) (md_ad M) (md_wy M) (md_so M) (md_rl M) (md_io M) (md_po M) (md_sp M) (md_rs M) (md_st M) (md_av M) (md_ip M) (md_tx M) (md_tm M) (md_ta M) (md_td M) (md_wo M) (nI (p + i)) tk bg0 nu0 wr)) 10 [some (.ref (xw_ad v 21 0)), some (.int tk), some (.int (nI p)), none, none] [] := by
  intro m
  induction m with
  | zero => intro i h; exact absurd h (Nat.not_lt_zero _)
  | succ m ih =>
    intro i hm hi hf
    refine xj_aload_n (i := 0) hk dX8_goesOn_10 rfl rfl ?_
    refine xj_callV hk hz (fr1 := 0) (lo1 := 0) (r1 := some (.int (hAt (md_ta M) l (p + i)))) (As := []) (st := []) (st2 := [.int (hAt (md_ta M) l (p + i))]) (G1 := xw_up G 21 (pM v (md_th M) (md_no M) (md_pt M) (md_re M) (md_sd M) (md_be M) (md_pb M) (md_ac M) (md_od M) (md_ad M) (md_wy M) (md_so M) (md_rl M) (md_io M) (md_po M) (md_sp M) (md_rs M) (md_st M) (md_av M) (md_ip M) (md_tx M) (md_tm M) (md_ta M) (md_td M) (md_wo M) (nI (p + i)) tk bg0 nu0 wr)) ml_X8_262 (c_X8_here (p := p + i) (tk := tk) (bg := bg0) (nu := nu0) (wr := wr) (M := M) (show (xw_up G 21 (pM v (md_th M) (md_no M) (md_pt M) (md_re M) (md_sd M) (md_be M) (md_pb M) (md_ac M) (md_od M) (md_ad M) (md_wy M) (md_so M) (md_rl M) (md_io M) (md_po M) (md_sp M) (md_rs M) (md_st M) (md_av M) (md_ip M) (md_tx M) (md_tm M) (md_ta M) (md_td M) (md_wo M) (nI (p + i)) tk bg0 nu0 wr)) 21 = pM v (md_th M) (md_no M) (md_pt M) (md_re M) (md_sd M) (md_be M) (md_pb M) (md_ac M) (md_od M) (md_ad M) (md_wy M) (md_so M) (md_rl M) (md_io M) (md_po M) (md_sp M) (md_rs M) (md_st M) (md_av M) (md_ip M) (md_tx M) (md_tm M) (md_ta M) (md_td M) (md_wo M) (nI (p + i)) tk bg0 nu0 wr from xw_up_s) htd hl7 (by omega)) (xw_at xw_up_s rfl) rfl dX8_goesOn_11 ⟨Nat.le_of_ble_eq_true rfl, Nat.le_of_ble_eq_true rfl⟩ rfl (Nat.le_of_ble_eq_true rfl) rfl rfl ?_
    refine xj_bipush (x := 32) hk dX8_goesOn_14 (by decide) ?_
    refine xj_icmp_eq (tgt := 28) hk dX8_goesOn_16 (by decide) (fun c16 => ?_) (fun c16 => ?_)
    · refine xj_aload_n (i := 0) hk dX8_goesOn_28 rfl rfl ?_
      refine xj_dup hk dX8_goesOn_29 rfl ?_
      refine xj_getfield hk dX8_goesOn_30 fl_X8_256 (xw_at xw_up_s rfl) rfl ?_
      refine xj_iconst (x := 1) hk dX8_goesOn_33 (by decide) ?_
      refine xj_iadd hk dX8_goesOn_34 ?_
      refine xj.eqi (x' := nI (p + (i + 1))) (nI_1 (p + i)) ?_
      refine xj_putfield (G2 := xw_up G 21 (pM v (md_th M) (md_no M) (md_pt M) (md_re M) (md_sd M) (md_be M) (md_pb M) (md_ac M) (md_od M) (md_ad M) (md_wy M) (md_so M) (md_rl M) (md_io M) (md_po M) (md_sp M) (md_rs M) (md_st M) (md_av M) (md_ip M) (md_tx M) (md_tm M) (md_ta M) (md_td M) (md_wo M) (nI (p + (i + 1))) tk bg0 nu0 wr)) hk dX8_goesOn_35 fl_X8_256 rfl rfl (xw_at xw_up_s rfl) (Nat.le_of_ble_eq_true rfl) (xw_wr2 rfl) ?_
      refine xj_goto (tgt := 10) hk dX8_goesOn_38 (by decide) ?_
      have hl9 : p + i < l := by
        rcases Nat.lt_or_ge (p + i) l with q | q
        · exact q
        · exfalso; simp only [hAt] at c16; rw [if_neg (by omega)] at c16; exact absurd c16 (by decide)
      have hg9 : isBlk (md_ta M (p + i)) = true := by simp only [hAt] at c16; rw [if_pos hl9] at c16; simp [isBlk, c16]
      refine xj.eqG (G' := xw_up G 21 (pM v (md_th M) (md_no M) (md_pt M) (md_re M) (md_sd M) (md_be M) (md_pb M) (md_ac M) (md_od M) (md_ad M) (md_wy M) (md_so M) (md_rl M) (md_io M) (md_po M) (md_sp M) (md_rs M) (md_st M) (md_av M) (md_ip M) (md_tx M) (md_tm M) (md_ta M) (md_td M) (md_wo M) (nI (p + (i + 1))) tk bg0 nu0 wr)) (by rfl) (ih (i + 1) (by omega) (by omega) (fnd_no hf (show (!(isBlk (md_ta M (p + i)))) = false from by rw [hg9]; rfl)))
    · refine xj_aload_n (i := 0) hk dX8_goesOn_19 rfl rfl ?_
      refine xj_callV hk hz (fr1 := 0) (lo1 := 0) (r1 := some (.int (hAt (md_ta M) l (p + i)))) (As := []) (st := []) (st2 := [.int (hAt (md_ta M) l (p + i))]) (G1 := xw_up G 21 (pM v (md_th M) (md_no M) (md_pt M) (md_re M) (md_sd M) (md_be M) (md_pb M) (md_ac M) (md_od M) (md_ad M) (md_wy M) (md_so M) (md_rl M) (md_io M) (md_po M) (md_sp M) (md_rs M) (md_st M) (md_av M) (md_ip M) (md_tx M) (md_tm M) (md_ta M) (md_td M) (md_wo M) (nI (p + i)) tk bg0 nu0 wr)) ml_X8_262 (c_X8_here (p := p + i) (tk := tk) (bg := bg0) (nu := nu0) (wr := wr) (M := M) (show (xw_up G 21 (pM v (md_th M) (md_no M) (md_pt M) (md_re M) (md_sd M) (md_be M) (md_pb M) (md_ac M) (md_od M) (md_ad M) (md_wy M) (md_so M) (md_rl M) (md_io M) (md_po M) (md_sp M) (md_rs M) (md_st M) (md_av M) (md_ip M) (md_tx M) (md_tm M) (md_ta M) (md_td M) (md_wo M) (nI (p + i)) tk bg0 nu0 wr)) 21 = pM v (md_th M) (md_no M) (md_pt M) (md_re M) (md_sd M) (md_be M) (md_pb M) (md_ac M) (md_od M) (md_ad M) (md_wy M) (md_so M) (md_rl M) (md_io M) (md_po M) (md_sp M) (md_rs M) (md_st M) (md_av M) (md_ip M) (md_tx M) (md_tm M) (md_ta M) (md_td M) (md_wo M) (nI (p + i)) tk bg0 nu0 wr from xw_up_s) htd hl7 (by omega)) (xw_at xw_up_s rfl) rfl dX8_goesOn_20 ⟨Nat.le_of_ble_eq_true rfl, Nat.le_of_ble_eq_true rfl⟩ rfl (Nat.le_of_ble_eq_true rfl) rfl rfl ?_
      refine xj_bipush (x := 10) hk dX8_goesOn_23 (by decide) ?_
      refine xj_icmp_ne (tgt := 41) hk dX8_goesOn_25 (by decide) (fun c25 => ?_) (fun c25 => ?_)
      · by_cases hl9 : p + i < l
        · have hg9 : isBlk (md_ta M (p + i)) = false := by simp only [hAt] at c16 c25; rw [if_pos hl9] at c16 c25; simp [isBlk, c16, c25]
          exact kx i (by omega) (show run (md_ta M) l isBlk p = p + i from by simp only [run]; rw [fnd_at hf (show (!(isBlk (md_ta M (p + i)))) = true from by rw [hg9]; rfl) (l - p) (by omega)])
        · exact kx i (by omega) (show run (md_ta M) l isBlk p = p + i from by simp only [run]; rw [show l - p = i by omega, hf])
      · refine xj_aload_n (i := 0) hk dX8_goesOn_28 rfl rfl ?_
        refine xj_dup hk dX8_goesOn_29 rfl ?_
        refine xj_getfield hk dX8_goesOn_30 fl_X8_256 (xw_at xw_up_s rfl) rfl ?_
        refine xj_iconst (x := 1) hk dX8_goesOn_33 (by decide) ?_
        refine xj_iadd hk dX8_goesOn_34 ?_
        refine xj.eqi (x' := nI (p + (i + 1))) (nI_1 (p + i)) ?_
        refine xj_putfield (G2 := xw_up G 21 (pM v (md_th M) (md_no M) (md_pt M) (md_re M) (md_sd M) (md_be M) (md_pb M) (md_ac M) (md_od M) (md_ad M) (md_wy M) (md_so M) (md_rl M) (md_io M) (md_po M) (md_sp M) (md_rs M) (md_st M) (md_av M) (md_ip M) (md_tx M) (md_tm M) (md_ta M) (md_td M) (md_wo M) (nI (p + (i + 1))) tk bg0 nu0 wr)) hk dX8_goesOn_35 fl_X8_256 rfl rfl (xw_at xw_up_s rfl) (Nat.le_of_ble_eq_true rfl) (xw_wr2 rfl) ?_
        refine xj_goto (tgt := 10) hk dX8_goesOn_38 (by decide) ?_
        have hl9 : p + i < l := by
          rcases Nat.lt_or_ge (p + i) l with q | q
          · exact q
          · exfalso; simp only [hAt] at c25; rw [if_neg (by omega)] at c25; exact absurd c25 (by decide)
        have hg9 : isBlk (md_ta M (p + i)) = true := by simp only [hAt] at c25; rw [if_pos hl9] at c25; simp [isBlk, c25]
        refine xj.eqG (G' := xw_up G 21 (pM v (md_th M) (md_no M) (md_pt M) (md_re M) (md_sd M) (md_be M) (md_pb M) (md_ac M) (md_od M) (md_ad M) (md_wy M) (md_so M) (md_rl M) (md_io M) (md_po M) (md_sp M) (md_rs M) (md_st M) (md_av M) (md_ip M) (md_tx M) (md_tm M) (md_ta M) (md_td M) (md_wo M) (nI (p + (i + 1))) tk bg0 nu0 wr)) (by rfl) (ih (i + 1) (by omega) (by omega) (fnd_no hf (show (!(isBlk (md_ta M (p + i)))) = false from by rw [hg9]; rfl)))

set_option maxHeartbeats 1000000 in
set_option maxRecDepth 10000 in
theorem l_goesOn_105 {v : xw_V} {κ : xk_K} {post : Option Value → xw_G → Prop} {z : Nat × Nat × Nat} {G : xw_G} {M : md_T} {l : Nat} {b : Nat} {sq0 bg0 nu0 tk wr x1 x2 x3 x4 : Int32} (hk : xk_Ok v κ yX8_goesOn cX8_goesOn 5 none 1 22) (hz : xk_zf κ = z) (hM : G 21 = pM v (md_th M) (md_no M) (md_pt M) (md_re M) (md_sd M) (md_be M) (md_pb M) (md_ac M) (md_od M) (md_ad M) (md_wy M) (md_so M) (md_rl M) (md_io M) (md_po M) (md_sp M) (md_rs M) (md_st M) (md_av M) (md_ip M) (md_tx M) (md_tm M) (md_ta M) (md_td M) (md_wo M) sq0 tk bg0 nu0 wr) (htd : md_td M = nI l) (hl7 : l ≤ 700) (hb : b ≤ l) (kx : ∀ i, i ≤ l - b → run (md_ta M) l isLet b = b + i → xj v κ post z (xw_up G 21 (pM v (md_th M) (md_no M) (md_pt M) (md_re M) (md_sd M) (md_be M) (md_pb M) (md_ac M) (md_od M) (md_ad M) (md_wy M) (md_so M) (md_rl M) (md_io M) (md_po M) (md_sp M) (md_rs M) (md_st M) (md_av M) (md_ip M) (md_tx M) (md_tm M) (md_ta M) (md_td M) (md_wo M) (nI (b + i)) tk bg0 nu0 wr)) 132 [some (.ref (xw_ad v 21 0)), some (.int x1), some (.int x2), some (.int x3), some (.int x4)] []) : ∀ (m : Nat) (i : Nat), l - b - i < m → i ≤ l - b → fnd (fun i => !(isLet (md_ta M (b + i)))) i = i → xj v κ post z (xw_up G 21 (pM v (md_th M) (md_no M) (md_pt M) (md_re M) (md_sd M) (md_be M) (md_pb M) (md_ac M) (md_od M) (md_ad M) (md_wy M) (md_so M) (md_rl M) (md_io M) (md_po M) (md_sp M) (md_rs M) (md_st M) (md_av M) (md_ip M) (md_tx M) (md_tm M) (md_ta M) (md_td M) (md_wo M) (nI (b + i)) tk bg0 nu0 wr)) 105 [some (.ref (xw_ad v 21 0)), some (.int x1), some (.int x2), some (.int x3), some (.int x4)] [] := by
  intro m
  induction m with
  | zero => intro i h; exact absurd h (Nat.not_lt_zero _)
  | succ m ih =>
    intro i hm hi hf
    refine xj_aload_n (i := 0) hk dX8_goesOn_105 rfl rfl ?_
    refine xj_callV hk hz (fr1 := 0) (lo1 := 0) (r1 := some (.int (hAt (md_ta M) l (b + i)))) (As := []) (st := []) (st2 := [.int (hAt (md_ta M) l (b + i))]) (G1 := xw_up G 21 (pM v (md_th M) (md_no M) (md_pt M) (md_re M) (md_sd M) (md_be M) (md_pb M) (md_ac M) (md_od M) (md_ad M) (md_wy M) (md_so M) (md_rl M) (md_io M) (md_po M) (md_sp M) (md_rs M) (md_st M) (md_av M) (md_ip M) (md_tx M) (md_tm M) (md_ta M) (md_td M) (md_wo M) (nI (b + i)) tk bg0 nu0 wr)) ml_X8_262 (c_X8_here (p := b + i) (tk := tk) (bg := bg0) (nu := nu0) (wr := wr) (M := M) (show (xw_up G 21 (pM v (md_th M) (md_no M) (md_pt M) (md_re M) (md_sd M) (md_be M) (md_pb M) (md_ac M) (md_od M) (md_ad M) (md_wy M) (md_so M) (md_rl M) (md_io M) (md_po M) (md_sp M) (md_rs M) (md_st M) (md_av M) (md_ip M) (md_tx M) (md_tm M) (md_ta M) (md_td M) (md_wo M) (nI (b + i)) tk bg0 nu0 wr)) 21 = pM v (md_th M) (md_no M) (md_pt M) (md_re M) (md_sd M) (md_be M) (md_pb M) (md_ac M) (md_od M) (md_ad M) (md_wy M) (md_so M) (md_rl M) (md_io M) (md_po M) (md_sp M) (md_rs M) (md_st M) (md_av M) (md_ip M) (md_tx M) (md_tm M) (md_ta M) (md_td M) (md_wo M) (nI (b + i)) tk bg0 nu0 wr from xw_up_s) htd hl7 (by omega)) (xw_at xw_up_s rfl) rfl dX8_goesOn_106 ⟨Nat.le_of_ble_eq_true rfl, Nat.le_of_ble_eq_true rfl⟩ rfl (Nat.le_of_ble_eq_true rfl) rfl rfl ?_
    refine xj_bipush (x := 97) hk dX8_goesOn_109 (by decide) ?_
    refine xj_bipush (x := 122) hk dX8_goesOn_111 (by decide) ?_
    refine xj_callS hk hz (fr1 := 0) (lo1 := 0) (r1 := some (.int (xb (mIn (hAt (md_ta M) l (b + i)) 97 122)))) (As := [.int (hAt (md_ta M) l (b + i)), .int 97, .int 122]) (st := []) (st2 := [.int (xb (mIn (hAt (md_ta M) l (b + i)) 97 122))]) (G1 := xw_up G 21 (pM v (md_th M) (md_no M) (md_pt M) (md_re M) (md_sd M) (md_be M) (md_pb M) (md_ac M) (md_od M) (md_ad M) (md_wy M) (md_so M) (md_rl M) (md_io M) (md_po M) (md_sp M) (md_rs M) (md_st M) (md_av M) (md_ip M) (md_tx M) (md_tm M) (md_ta M) (md_td M) (md_wo M) (nI (b + i)) tk bg0 nu0 wr)) ml_X8_69 (c_X8_in (hAt (md_ta M) l (b + i)) 97 122) dX8_goesOn_113 ⟨Nat.le_of_ble_eq_true rfl, Nat.le_of_ble_eq_true rfl⟩ rfl (Nat.le_of_ble_eq_true rfl) rfl rfl ?_
    refine xj_ifb_eq (tgt := 132) hk dX8_goesOn_116 (by decide) (fun c116 => ?_) (fun c116 => ?_)
    · by_cases hl9 : b + i < l
      · have hg9 : isLet (md_ta M (b + i)) = false := by simp only [hAt] at c116; rw [if_pos hl9] at c116; exact c116
        exact kx i (by omega) (show run (md_ta M) l isLet b = b + i from by simp only [run]; rw [fnd_at hf (show (!(isLet (md_ta M (b + i)))) = true from by rw [hg9]; rfl) (l - b) (by omega)])
      · exact kx i (by omega) (show run (md_ta M) l isLet b = b + i from by simp only [run]; rw [show l - b = i by omega, hf])
    · have hl9 : b + i < l := by
        rcases Nat.lt_or_ge (b + i) l with q | q
        · exact q
        · exfalso; simp only [hAt] at c116; rw [if_neg (by omega)] at c116; exact absurd c116 (by decide)
      have hg9 : isLet (md_ta M (b + i)) = true := by simp only [hAt] at c116; rw [if_pos hl9] at c116; exact c116
      refine xj_aload_n (i := 0) hk dX8_goesOn_119 rfl rfl ?_
      refine xj_dup hk dX8_goesOn_120 rfl ?_
      refine xj_getfield hk dX8_goesOn_121 fl_X8_256 (xw_at xw_up_s rfl) rfl ?_
      refine xj_iconst (x := 1) hk dX8_goesOn_124 (by decide) ?_
      refine xj_iadd hk dX8_goesOn_125 ?_
      refine xj.eqi (x' := nI (b + (i + 1))) (nI_1 (b + i)) ?_
      refine xj_putfield (G2 := xw_up G 21 (pM v (md_th M) (md_no M) (md_pt M) (md_re M) (md_sd M) (md_be M) (md_pb M) (md_ac M) (md_od M) (md_ad M) (md_wy M) (md_so M) (md_rl M) (md_io M) (md_po M) (md_sp M) (md_rs M) (md_st M) (md_av M) (md_ip M) (md_tx M) (md_tm M) (md_ta M) (md_td M) (md_wo M) (nI (b + (i + 1))) tk bg0 nu0 wr)) hk dX8_goesOn_126 fl_X8_256 rfl rfl (xw_at xw_up_s rfl) (Nat.le_of_ble_eq_true rfl) (xw_wr2 rfl) ?_
      refine xj_goto (tgt := 105) hk dX8_goesOn_129 (by decide) ?_
      refine xj.eqG (G' := xw_up G 21 (pM v (md_th M) (md_no M) (md_pt M) (md_re M) (md_sd M) (md_be M) (md_pb M) (md_ac M) (md_od M) (md_ad M) (md_wy M) (md_so M) (md_rl M) (md_io M) (md_po M) (md_sp M) (md_rs M) (md_st M) (md_av M) (md_ip M) (md_tx M) (md_tm M) (md_ta M) (md_td M) (md_wo M) (nI (b + (i + 1))) tk bg0 nu0 wr)) (by rfl) (ih (i + 1) (by omega) (by omega) (fnd_no hf (show (!(isLet (md_ta M (b + i)))) = false from by rw [hg9]; rfl)))

set_option maxHeartbeats 1000000 in
set_option maxRecDepth 10000 in
theorem l_goesOn_165 {v : xw_V} {κ : xk_K} {post : Option Value → xw_G → Prop} {z : Nat × Nat × Nat} {G : xw_G} {M : md_T} {l : Nat} {b : Nat} {sq0 bg0 nu0 tk wr x1 x2 x3 x4 : Int32} (hk : xk_Ok v κ yX8_goesOn cX8_goesOn 5 none 1 22) (hz : xk_zf κ = z) (hM : G 21 = pM v (md_th M) (md_no M) (md_pt M) (md_re M) (md_sd M) (md_be M) (md_pb M) (md_ac M) (md_od M) (md_ad M) (md_wy M) (md_so M) (md_rl M) (md_io M) (md_po M) (md_sp M) (md_rs M) (md_st M) (md_av M) (md_ip M) (md_tx M) (md_tm M) (md_ta M) (md_td M) (md_wo M) sq0 tk bg0 nu0 wr) (htd : md_td M = nI l) (hl7 : l ≤ 700) (hb : b ≤ l) (kx : ∀ i, i ≤ l - b → run (md_ta M) l isDig b = b + i → xj v κ post z (xw_up G 21 (pM v (md_th M) (md_no M) (md_pt M) (md_re M) (md_sd M) (md_be M) (md_pb M) (md_ac M) (md_od M) (md_ad M) (md_wy M) (md_so M) (md_rl M) (md_io M) (md_po M) (md_sp M) (md_rs M) (md_st M) (md_av M) (md_ip M) (md_tx M) (md_tm M) (md_ta M) (md_td M) (md_wo M) (nI (b + i)) tk (nI b) (nv (md_ta M) b i) wr)) 224 [some (.ref (xw_ad v 21 0)), some (.int x1), some (.int x2), some (.int x3), some (.int x4)] []) : ∀ (m : Nat) (i : Nat), l - b - i < m → i ≤ l - b → fnd (fun i => !(isDig (md_ta M (b + i)))) i = i → xj v κ post z (xw_up G 21 (pM v (md_th M) (md_no M) (md_pt M) (md_re M) (md_sd M) (md_be M) (md_pb M) (md_ac M) (md_od M) (md_ad M) (md_wy M) (md_so M) (md_rl M) (md_io M) (md_po M) (md_sp M) (md_rs M) (md_st M) (md_av M) (md_ip M) (md_tx M) (md_tm M) (md_ta M) (md_td M) (md_wo M) (nI (b + i)) tk (nI b) (nv (md_ta M) b i) wr)) 165 [some (.ref (xw_ad v 21 0)), some (.int x1), some (.int x2), some (.int x3), some (.int x4)] [] := by
  intro m
  induction m with
  | zero => intro i h; exact absurd h (Nat.not_lt_zero _)
  | succ m ih =>
    intro i hm hi hf
    refine xj_aload_n (i := 0) hk dX8_goesOn_165 rfl rfl ?_
    refine xj_callV hk hz (fr1 := 0) (lo1 := 0) (r1 := some (.int (hAt (md_ta M) l (b + i)))) (As := []) (st := []) (st2 := [.int (hAt (md_ta M) l (b + i))]) (G1 := xw_up G 21 (pM v (md_th M) (md_no M) (md_pt M) (md_re M) (md_sd M) (md_be M) (md_pb M) (md_ac M) (md_od M) (md_ad M) (md_wy M) (md_so M) (md_rl M) (md_io M) (md_po M) (md_sp M) (md_rs M) (md_st M) (md_av M) (md_ip M) (md_tx M) (md_tm M) (md_ta M) (md_td M) (md_wo M) (nI (b + i)) tk (nI b) (nv (md_ta M) b i) wr)) ml_X8_262 (c_X8_here (p := b + i) (tk := tk) (bg := nI b) (nu := nv (md_ta M) b i) (wr := wr) (M := M) (show (xw_up G 21 (pM v (md_th M) (md_no M) (md_pt M) (md_re M) (md_sd M) (md_be M) (md_pb M) (md_ac M) (md_od M) (md_ad M) (md_wy M) (md_so M) (md_rl M) (md_io M) (md_po M) (md_sp M) (md_rs M) (md_st M) (md_av M) (md_ip M) (md_tx M) (md_tm M) (md_ta M) (md_td M) (md_wo M) (nI (b + i)) tk (nI b) (nv (md_ta M) b i) wr)) 21 = pM v (md_th M) (md_no M) (md_pt M) (md_re M) (md_sd M) (md_be M) (md_pb M) (md_ac M) (md_od M) (md_ad M) (md_wy M) (md_so M) (md_rl M) (md_io M) (md_po M) (md_sp M) (md_rs M) (md_st M) (md_av M) (md_ip M) (md_tx M) (md_tm M) (md_ta M) (md_td M) (md_wo M) (nI (b + i)) tk (nI b) (nv (md_ta M) b i) wr from xw_up_s) htd hl7 (by omega)) (xw_at xw_up_s rfl) rfl dX8_goesOn_166 ⟨Nat.le_of_ble_eq_true rfl, Nat.le_of_ble_eq_true rfl⟩ rfl (Nat.le_of_ble_eq_true rfl) rfl rfl ?_
    refine xj_bipush (x := 48) hk dX8_goesOn_169 (by decide) ?_
    refine xj_bipush (x := 57) hk dX8_goesOn_171 (by decide) ?_
    refine xj_callS hk hz (fr1 := 0) (lo1 := 0) (r1 := some (.int (xb (mIn (hAt (md_ta M) l (b + i)) 48 57)))) (As := [.int (hAt (md_ta M) l (b + i)), .int 48, .int 57]) (st := []) (st2 := [.int (xb (mIn (hAt (md_ta M) l (b + i)) 48 57))]) (G1 := xw_up G 21 (pM v (md_th M) (md_no M) (md_pt M) (md_re M) (md_sd M) (md_be M) (md_pb M) (md_ac M) (md_od M) (md_ad M) (md_wy M) (md_so M) (md_rl M) (md_io M) (md_po M) (md_sp M) (md_rs M) (md_st M) (md_av M) (md_ip M) (md_tx M) (md_tm M) (md_ta M) (md_td M) (md_wo M) (nI (b + i)) tk (nI b) (nv (md_ta M) b i) wr)) ml_X8_69 (c_X8_in (hAt (md_ta M) l (b + i)) 48 57) dX8_goesOn_173 ⟨Nat.le_of_ble_eq_true rfl, Nat.le_of_ble_eq_true rfl⟩ rfl (Nat.le_of_ble_eq_true rfl) rfl rfl ?_
    refine xj_ifb_eq (tgt := 224) hk dX8_goesOn_176 (by decide) (fun c176 => ?_) (fun c176 => ?_)
    · by_cases hl9 : b + i < l
      · have hg9 : isDig (md_ta M (b + i)) = false := by simp only [hAt] at c176; rw [if_pos hl9] at c176; exact c176
        exact kx i (by omega) (show run (md_ta M) l isDig b = b + i from by simp only [run]; rw [fnd_at hf (show (!(isDig (md_ta M (b + i)))) = true from by rw [hg9]; rfl) (l - b) (by omega)])
      · exact kx i (by omega) (show run (md_ta M) l isDig b = b + i from by simp only [run]; rw [show l - b = i by omega, hf])
    · have hl9 : b + i < l := by
        rcases Nat.lt_or_ge (b + i) l with q | q
        · exact q
        · exfalso; simp only [hAt] at c176; rw [if_neg (by omega)] at c176; exact absurd c176 (by decide)
      have hg9 : isDig (md_ta M (b + i)) = true := by simp only [hAt] at c176; rw [if_pos hl9] at c176; exact c176
      refine xj_aload_n (i := 0) hk dX8_goesOn_179 rfl rfl ?_
      refine xj_getfield hk dX8_goesOn_180 fl_X8_256 (xw_at xw_up_s rfl) rfl ?_
      refine xj_aload_n (i := 0) hk dX8_goesOn_183 rfl rfl ?_
      refine xj_getfield hk dX8_goesOn_184 fl_X8_265 (xw_at xw_up_s rfl) rfl ?_
      refine xj_isub hk dX8_goesOn_187 ?_
      refine xj.eqi (x' := nI i) (by rw [nI_sub (by omega)]; congr 1; omega) ?_
      refine xj_iconst (x := 5) hk dX8_goesOn_188 (by decide) ?_
      refine xj_icmp_ge (tgt := 211) hk dX8_goesOn_189 (by decide) (fun c189 => ?_) (fun c189 => ?_)
      · have c189 : ¬ i < 5 := by have := (nI_leI (a := 5) (b := i) (by omega) (by omega)).mp c189; omega
        refine xj_aload_n (i := 0) hk dX8_goesOn_211 rfl rfl ?_
        refine xj_dup hk dX8_goesOn_212 rfl ?_
        refine xj_getfield hk dX8_goesOn_213 fl_X8_256 (xw_at xw_up_s rfl) rfl ?_
        refine xj_iconst (x := 1) hk dX8_goesOn_216 (by decide) ?_
        refine xj_iadd hk dX8_goesOn_217 ?_
        refine xj.eqi (x' := nI (b + (i + 1))) (nI_1 (b + i)) ?_
        refine xj_putfield (G2 := xw_up G 21 (pM v (md_th M) (md_no M) (md_pt M) (md_re M) (md_sd M) (md_be M) (md_pb M) (md_ac M) (md_od M) (md_ad M) (md_wy M) (md_so M) (md_rl M) (md_io M) (md_po M) (md_sp M) (md_rs M) (md_st M) (md_av M) (md_ip M) (md_tx M) (md_tm M) (md_ta M) (md_td M) (md_wo M) (nI (b + (i + 1))) tk (nI b) (nv (md_ta M) b i) wr)) hk dX8_goesOn_218 fl_X8_256 rfl rfl (xw_at xw_up_s rfl) (Nat.le_of_ble_eq_true rfl) (xw_wr2 rfl) ?_
        refine xj_goto (tgt := 165) hk dX8_goesOn_221 (by decide) ?_
        refine xj.eqG (G' := xw_up G 21 (pM v (md_th M) (md_no M) (md_pt M) (md_re M) (md_sd M) (md_be M) (md_pb M) (md_ac M) (md_od M) (md_ad M) (md_wy M) (md_so M) (md_rl M) (md_io M) (md_po M) (md_sp M) (md_rs M) (md_st M) (md_av M) (md_ip M) (md_tx M) (md_tm M) (md_ta M) (md_td M) (md_wo M) (nI (b + (i + 1))) tk (nI b) (nv (md_ta M) b (i + 1)) wr)) (by simp only [nv]; first | (rw [if_pos c189, show hAt (md_ta M) l (b + i) = md_ta M (b + i) from if_pos hl9, Int32.mul_comm (10 : Int32)]) | (rw [if_neg c189])) (ih (i + 1) (by omega) (by omega) (fnd_no hf (show (!(isDig (md_ta M (b + i)))) = false from by rw [hg9]; rfl)))
      · have c189 : i < 5 := by
          rcases Nat.lt_or_ge i 5 with q | q
          · exact q
          · exact absurd ((nI_leI (a := 5) (b := i) (by omega) (by omega)).mpr q) c189
        refine xj_aload_n (i := 0) hk dX8_goesOn_192 rfl rfl ?_
        refine xj_bipush (x := 10) hk dX8_goesOn_193 (by decide) ?_
        refine xj_aload_n (i := 0) hk dX8_goesOn_195 rfl rfl ?_
        refine xj_getfield hk dX8_goesOn_196 fl_X8_268 (xw_at xw_up_s rfl) rfl ?_
        refine xj_imul hk dX8_goesOn_199 ?_
        refine xj_aload_n (i := 0) hk dX8_goesOn_200 rfl rfl ?_
        refine xj_callV hk hz (fr1 := 0) (lo1 := 0) (r1 := some (.int (hAt (md_ta M) l (b + i)))) (As := []) (st := [.int (10 * (nv (md_ta M) b i)), .ref (xw_ad v 21 0)]) (st2 := [.int (hAt (md_ta M) l (b + i)), .int (10 * (nv (md_ta M) b i)), .ref (xw_ad v 21 0)]) (G1 := xw_up G 21 (pM v (md_th M) (md_no M) (md_pt M) (md_re M) (md_sd M) (md_be M) (md_pb M) (md_ac M) (md_od M) (md_ad M) (md_wy M) (md_so M) (md_rl M) (md_io M) (md_po M) (md_sp M) (md_rs M) (md_st M) (md_av M) (md_ip M) (md_tx M) (md_tm M) (md_ta M) (md_td M) (md_wo M) (nI (b + i)) tk (nI b) (nv (md_ta M) b i) wr)) ml_X8_262 (c_X8_here (p := b + i) (tk := tk) (bg := nI b) (nu := nv (md_ta M) b i) (wr := wr) (M := M) (show (xw_up G 21 (pM v (md_th M) (md_no M) (md_pt M) (md_re M) (md_sd M) (md_be M) (md_pb M) (md_ac M) (md_od M) (md_ad M) (md_wy M) (md_so M) (md_rl M) (md_io M) (md_po M) (md_sp M) (md_rs M) (md_st M) (md_av M) (md_ip M) (md_tx M) (md_tm M) (md_ta M) (md_td M) (md_wo M) (nI (b + i)) tk (nI b) (nv (md_ta M) b i) wr)) 21 = pM v (md_th M) (md_no M) (md_pt M) (md_re M) (md_sd M) (md_be M) (md_pb M) (md_ac M) (md_od M) (md_ad M) (md_wy M) (md_so M) (md_rl M) (md_io M) (md_po M) (md_sp M) (md_rs M) (md_st M) (md_av M) (md_ip M) (md_tx M) (md_tm M) (md_ta M) (md_td M) (md_wo M) (nI (b + i)) tk (nI b) (nv (md_ta M) b i) wr from xw_up_s) htd hl7 (by omega)) (xw_at xw_up_s rfl) rfl dX8_goesOn_201 ⟨Nat.le_of_ble_eq_true rfl, Nat.le_of_ble_eq_true rfl⟩ rfl (Nat.le_of_ble_eq_true rfl) rfl rfl ?_
        refine xj_iadd hk dX8_goesOn_204 ?_
        refine xj_bipush (x := 48) hk dX8_goesOn_205 (by decide) ?_
        refine xj_isub hk dX8_goesOn_207 ?_
        refine xj_putfield (G2 := xw_up G 21 (pM v (md_th M) (md_no M) (md_pt M) (md_re M) (md_sd M) (md_be M) (md_pb M) (md_ac M) (md_od M) (md_ad M) (md_wy M) (md_so M) (md_rl M) (md_io M) (md_po M) (md_sp M) (md_rs M) (md_st M) (md_av M) (md_ip M) (md_tx M) (md_tm M) (md_ta M) (md_td M) (md_wo M) (nI (b + i)) tk (nI b) (((10 * (nv (md_ta M) b i)) + (hAt (md_ta M) l (b + i))) - 48) wr)) hk dX8_goesOn_208 fl_X8_268 rfl rfl (xw_at xw_up_s rfl) (Nat.le_of_ble_eq_true rfl) (xw_wr2 rfl) ?_
        refine xj_aload_n (i := 0) hk dX8_goesOn_211 rfl rfl ?_
        refine xj_dup hk dX8_goesOn_212 rfl ?_
        refine xj_getfield hk dX8_goesOn_213 fl_X8_256 (xw_at xw_up_s rfl) rfl ?_
        refine xj_iconst (x := 1) hk dX8_goesOn_216 (by decide) ?_
        refine xj_iadd hk dX8_goesOn_217 ?_
        refine xj.eqi (x' := nI (b + (i + 1))) (nI_1 (b + i)) ?_
        refine xj_putfield (G2 := xw_up G 21 (pM v (md_th M) (md_no M) (md_pt M) (md_re M) (md_sd M) (md_be M) (md_pb M) (md_ac M) (md_od M) (md_ad M) (md_wy M) (md_so M) (md_rl M) (md_io M) (md_po M) (md_sp M) (md_rs M) (md_st M) (md_av M) (md_ip M) (md_tx M) (md_tm M) (md_ta M) (md_td M) (md_wo M) (nI (b + (i + 1))) tk (nI b) (((10 * (nv (md_ta M) b i)) + (hAt (md_ta M) l (b + i))) - 48) wr)) hk dX8_goesOn_218 fl_X8_256 rfl rfl (xw_at xw_up_s rfl) (Nat.le_of_ble_eq_true rfl) (xw_wr2 rfl) ?_
        refine xj_goto (tgt := 165) hk dX8_goesOn_221 (by decide) ?_
        refine xj.eqG (G' := xw_up G 21 (pM v (md_th M) (md_no M) (md_pt M) (md_re M) (md_sd M) (md_be M) (md_pb M) (md_ac M) (md_od M) (md_ad M) (md_wy M) (md_so M) (md_rl M) (md_io M) (md_po M) (md_sp M) (md_rs M) (md_st M) (md_av M) (md_ip M) (md_tx M) (md_tm M) (md_ta M) (md_td M) (md_wo M) (nI (b + (i + 1))) tk (nI b) (nv (md_ta M) b (i + 1)) wr)) (by simp only [nv]; first | (rw [if_pos c189, show hAt (md_ta M) l (b + i) = md_ta M (b + i) from if_pos hl9, Int32.mul_comm (10 : Int32)]) | (rw [if_neg c189])) (ih (i + 1) (by omega) (by omega) (fnd_no hf (show (!(isDig (md_ta M (b + i)))) = false from by rw [hg9]; rfl)))


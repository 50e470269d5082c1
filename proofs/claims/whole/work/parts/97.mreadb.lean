def tkN (f : Nat → Int32) (l b : Nat) : Int32 := if b < l then (if isLet (f b) = true then (if glu f b = true then 4 else 1) else if isDig (f b) = true then (if glu f b = true ∨ 5 < run f l isDig b - b then 4 else 2) else if f b = 59 then 3 else 4) else 0
def sqN (f : Nat → Int32) (l b : Nat) : Nat := if b < l then (if isLet (f b) = true then run f l isLet b else if isDig (f b) = true then run f l isDig b else b + 1) else b
def nuN (f : Nat → Int32) (l b : Nat) (nu : Int32) : Int32 := if b < l then (if isLet (f b) = true then nu else if isDig (f b) = true then nv f b (run f l isDig b - b) else nu) else nu
theorem run_in {f : Nat → Int32} {l p i : Nat} {g : Int32 → Bool} (h : i < run f l g p - p) : g (f (p + i)) = true := by
  have : i < fnd (fun i => !(g (f (p + i)))) (l - p) := by simp only [run] at h; omega
  have := fnd_min this
  simpa using this
theorem blk_no {x : Int32} (h : isBlk x = true) : isLet x = false ∧ isDig x = false := by
  simp only [isBlk, Bool.or_eq_true, decide_eq_true_eq] at h
  rcases h with rfl | rfl <;> decide
theorem glu_m {f : Nat → Int32} {l p : Nat} {tk : Int32} (hg : (decide (tk = 1) || decide (tk = 2)) = glu f p) : (decide (sbk f l p = p) && (decide (tk = 1) || decide (tk = 2))) = glu f (sbk f l p) := by
  have ge := run_ge f l isBlk p
  by_cases c : sbk f l p = p
  · rw [decide_eq_true c, Bool.true_and, c]; exact hg
  · rw [decide_eq_false c, Bool.false_and]
    have hp : p < sbk f l p := by simp only [sbk] at c ⊢; omega
    have h := run_in (f := f) (l := l) (p := p) (i := sbk f l p - 1 - p) (g := isBlk) (by simp only [sbk] at hp ⊢; omega)
    rw [show p + (sbk f l p - 1 - p) = sbk f l p - 1 by omega] at h
    have q := blk_no h
    simp only [glu]
    rw [q.1, q.2]; simp
set_option maxHeartbeats 1000000 in
set_option maxRecDepth 10000 in
theorem l_goesOn_72 {v : xw_V} {κ : xk_K} {post : Option Value → xw_G → Prop} {z : Nat × Nat × Nat} {G : xw_G} {M : md_T} {l : Nat} {b : Nat} {tk nu wr x1 x2 : Int32} (hk : xk_Ok v κ yX8_goesOn cX8_goesOn 5 none 1 22) (hz : xk_zf κ = z) (hM : G 21 = pM v (md_th M) (md_no M) (md_pt M) (md_re M) (md_sd M) (md_be M) (md_pb M) (md_ac M) (md_od M) (md_ad M) (md_wy M) (md_so M) (md_rl M) (md_io M) (md_po M) (md_sp M) (md_rs M) (md_st M) (md_av M) (md_ip M) (md_tx M) (md_tm M) (md_ta M) (md_td M) (md_wo M) (nI b) tk (nI b) nu wr) (htd : md_td M = nI l) (hl7 : l ≤ 700) (hb : b ≤ l) (hby : okBy (md_ta M) l) (hpost : ∀ G9, G9 = xw_up G 21 (pM v (md_th M) (md_no M) (md_pt M) (md_re M) (md_sd M) (md_be M) (md_pb M) (md_ac M) (md_od M) (md_ad M) (md_wy M) (md_so M) (md_rl M) (md_io M) (md_po M) (md_sp M) (md_rs M) (md_st M) (md_av M) (md_ip M) (md_tx M) (md_tm M) (md_ta M) (md_td M) (md_wo M) (nI (sqN (md_ta M) l b)) (tkN (md_ta M) l b) (nI b) (nuN (md_ta M) l b nu) wr) → post none G9) : xj v κ post z G 72 [some (.ref (xw_ad v 21 0)), some (.int x1), some (.int x2), none, none] [.int (xb (glu (md_ta M) b))] := by
  refine xj_istore_n (i := 3) (ls2 := [some (.ref (xw_ad v 21 0)), some (.int x1), some (.int x2), some (.int (xb (glu (md_ta M) b))), none]) hk dX8_goesOn_72 rfl (by decide) rfl rfl ?_
  refine xj_aload_n (i := 0) hk dX8_goesOn_73 rfl rfl ?_
  refine xj_callV hk hz (fr1 := 0) (lo1 := 0) (r1 := some (.int (hAt (md_ta M) l b))) (As := []) (st := []) (st2 := [.int (hAt (md_ta M) l b)]) (G1 := G) ml_X8_262 (c_X8_here (p := b) (tk := tk) (bg := nI b) (nu := nu) (wr := wr) (M := M) (show G 21 = pM v (md_th M) (md_no M) (md_pt M) (md_re M) (md_sd M) (md_be M) (md_pb M) (md_ac M) (md_od M) (md_ad M) (md_wy M) (md_so M) (md_rl M) (md_io M) (md_po M) (md_sp M) (md_rs M) (md_st M) (md_av M) (md_ip M) (md_tx M) (md_tm M) (md_ta M) (md_td M) (md_wo M) (nI b) tk (nI b) nu wr from hM) htd hl7 (by omega)) (xw_at hM rfl) rfl dX8_goesOn_74 ⟨Nat.le_of_ble_eq_true rfl, Nat.le_of_ble_eq_true rfl⟩ rfl (Nat.le_of_ble_eq_true rfl) rfl rfl ?_
  refine xj_istore (i := 4) (ls2 := [some (.ref (xw_ad v 21 0)), some (.int x1), some (.int x2), some (.int (xb (glu (md_ta M) b))), some (.int (hAt (md_ta M) l b))]) hk dX8_goesOn_77 (by decide) rfl rfl ?_
  refine xj_iload hk dX8_goesOn_79 rfl ?_
  refine xj_iconst (x := (-1)) hk dX8_goesOn_81 (by decide) ?_
  refine xj_icmp_ne (tgt := 93) hk dX8_goesOn_82 (by decide) (fun c82 => ?_) (fun c82 => ?_)
  · refine xj_iload hk dX8_goesOn_93 rfl ?_
    refine xj_bipush (x := 97) hk dX8_goesOn_95 (by decide) ?_
    refine xj_bipush (x := 122) hk dX8_goesOn_97 (by decide) ?_
    refine xj_callS hk hz (fr1 := 0) (lo1 := 0) (r1 := some (.int (xb (mIn (hAt (md_ta M) l b) 97 122)))) (As := [.int (hAt (md_ta M) l b), .int 97, .int 122]) (st := []) (st2 := [.int (xb (mIn (hAt (md_ta M) l b) 97 122))]) (G1 := G) ml_X8_69 (c_X8_in (hAt (md_ta M) l b) 97 122) dX8_goesOn_99 ⟨Nat.le_of_ble_eq_true rfl, Nat.le_of_ble_eq_true rfl⟩ rfl (Nat.le_of_ble_eq_true rfl) rfl rfl ?_
    refine xj_ifb_eq (tgt := 148) hk dX8_goesOn_102 (by decide) (fun c102 => ?_) (fun c102 => ?_)
    · refine xj_iload hk dX8_goesOn_148 rfl ?_
      refine xj_bipush (x := 48) hk dX8_goesOn_150 (by decide) ?_
      refine xj_bipush (x := 57) hk dX8_goesOn_152 (by decide) ?_
      refine xj_callS hk hz (fr1 := 0) (lo1 := 0) (r1 := some (.int (xb (mIn (hAt (md_ta M) l b) 48 57)))) (As := [.int (hAt (md_ta M) l b), .int 48, .int 57]) (st := []) (st2 := [.int (xb (mIn (hAt (md_ta M) l b) 48 57))]) (G1 := G) ml_X8_69 (c_X8_in (hAt (md_ta M) l b) 48 57) dX8_goesOn_154 ⟨Nat.le_of_ble_eq_true rfl, Nat.le_of_ble_eq_true rfl⟩ rfl (Nat.le_of_ble_eq_true rfl) rfl rfl ?_
      refine xj_ifb_eq (tgt := 253) hk dX8_goesOn_157 (by decide) (fun c157 => ?_) (fun c157 => ?_)
      · refine xj_aload_n (i := 0) hk dX8_goesOn_253 rfl rfl ?_
        refine xj_dup hk dX8_goesOn_254 rfl ?_
        refine xj_getfield hk dX8_goesOn_255 fl_X8_256 (xw_at hM rfl) rfl ?_
        refine xj_iconst (x := 1) hk dX8_goesOn_258 (by decide) ?_
        refine xj_iadd hk dX8_goesOn_259 ?_
        refine xj.eqi (x' := nI (b + 1)) (nI_1 b) ?_
        refine xj_putfield (G2 := xw_up G 21 (pM v (md_th M) (md_no M) (md_pt M) (md_re M) (md_sd M) (md_be M) (md_pb M) (md_ac M) (md_od M) (md_ad M) (md_wy M) (md_so M) (md_rl M) (md_io M) (md_po M) (md_sp M) (md_rs M) (md_st M) (md_av M) (md_ip M) (md_tx M) (md_tm M) (md_ta M) (md_td M) (md_wo M) (nI (b + 1)) tk (nI b) nu wr)) hk dX8_goesOn_260 fl_X8_256 rfl rfl (xw_at hM rfl) (Nat.le_of_ble_eq_true rfl) (xw_wr hM rfl) ?_
        refine xj_aload_n (i := 0) hk dX8_goesOn_263 rfl rfl ?_
        refine xj_iload hk dX8_goesOn_264 rfl ?_
        refine xj_bipush (x := 59) hk dX8_goesOn_266 (by decide) ?_
        refine xj_icmp_ne (tgt := 275) hk dX8_goesOn_268 (by decide) (fun c268 => ?_) (fun c268 => ?_)
        · refine xj_iconst (x := 4) hk dX8_goesOn_275 (by decide) ?_
          refine xj_putfield (G2 := xw_up G 21 (pM v (md_th M) (md_no M) (md_pt M) (md_re M) (md_sd M) (md_be M) (md_pb M) (md_ac M) (md_od M) (md_ad M) (md_wy M) (md_so M) (md_rl M) (md_io M) (md_po M) (md_sp M) (md_rs M) (md_st M) (md_av M) (md_ip M) (md_tx M) (md_tm M) (md_ta M) (md_td M) (md_wo M) (nI (b + 1)) 4 (nI b) nu wr)) hk dX8_goesOn_276 fl_X8_259 rfl rfl (xw_at xw_up_s rfl) (Nat.le_of_ble_eq_true rfl) (xw_wr2 rfl) ?_
          refine xj_return hk hz dX8_goesOn_279 ?_
          refine hpost _ ?_
          simp only [tkN, sqN, nuN]
          have hb9 : b < l := by
            rcases Nat.lt_or_ge b l with q | q
            · exact q
            · exact absurd (show hAt (md_ta M) l b = -1 from if_neg (by omega)) c82
          rw [show hAt (md_ta M) l b = md_ta M b from if_pos hb9] at *
          have c102 : ¬ isLet (md_ta M b) = true := by rw [show isLet (md_ta M b) = false from c102]; decide
          have c157 : ¬ isDig (md_ta M b) = true := by rw [show isDig (md_ta M b) = false from c157]; decide
          simp only [if_pos hb9, if_neg c102, if_neg c157]
          rw [if_neg c268]
        · refine xj_iconst (x := 3) hk dX8_goesOn_271 (by decide) ?_
          refine xj_goto (tgt := 276) hk dX8_goesOn_272 (by decide) ?_
          refine xj_putfield (G2 := xw_up G 21 (pM v (md_th M) (md_no M) (md_pt M) (md_re M) (md_sd M) (md_be M) (md_pb M) (md_ac M) (md_od M) (md_ad M) (md_wy M) (md_so M) (md_rl M) (md_io M) (md_po M) (md_sp M) (md_rs M) (md_st M) (md_av M) (md_ip M) (md_tx M) (md_tm M) (md_ta M) (md_td M) (md_wo M) (nI (b + 1)) 3 (nI b) nu wr)) hk dX8_goesOn_276 fl_X8_259 rfl rfl (xw_at xw_up_s rfl) (Nat.le_of_ble_eq_true rfl) (xw_wr2 rfl) ?_
          refine xj_return hk hz dX8_goesOn_279 ?_
          refine hpost _ ?_
          simp only [tkN, sqN, nuN]
          have hb9 : b < l := by
            rcases Nat.lt_or_ge b l with q | q
            · exact q
            · exact absurd (show hAt (md_ta M) l b = -1 from if_neg (by omega)) c82
          rw [show hAt (md_ta M) l b = md_ta M b from if_pos hb9] at *
          have c102 : ¬ isLet (md_ta M b) = true := by rw [show isLet (md_ta M b) = false from c102]; decide
          have c157 : ¬ isDig (md_ta M b) = true := by rw [show isDig (md_ta M b) = false from c157]; decide
          simp only [if_pos hb9, if_neg c102, if_neg c157]
          rw [if_pos c268]
      · refine xj_aload_n (i := 0) hk dX8_goesOn_160 rfl rfl ?_
        refine xj_iconst (x := 0) hk dX8_goesOn_161 (by decide) ?_
        refine xj_putfield (G2 := xw_up G 21 (pM v (md_th M) (md_no M) (md_pt M) (md_re M) (md_sd M) (md_be M) (md_pb M) (md_ac M) (md_od M) (md_ad M) (md_wy M) (md_so M) (md_rl M) (md_io M) (md_po M) (md_sp M) (md_rs M) (md_st M) (md_av M) (md_ip M) (md_tx M) (md_tm M) (md_ta M) (md_td M) (md_wo M) (nI b) tk (nI b) 0 wr)) hk dX8_goesOn_162 fl_X8_268 rfl rfl (xw_at hM rfl) (Nat.le_of_ble_eq_true rfl) (xw_wr hM rfl) ?_
        refine xj.eqG (G' := xw_up (xw_up G 21 (pM v (md_th M) (md_no M) (md_pt M) (md_re M) (md_sd M) (md_be M) (md_pb M) (md_ac M) (md_od M) (md_ad M) (md_wy M) (md_so M) (md_rl M) (md_io M) (md_po M) (md_sp M) (md_rs M) (md_st M) (md_av M) (md_ip M) (md_tx M) (md_tm M) (md_ta M) (md_td M) (md_wo M) (nI b) tk (nI b) 0 wr)) 21 (pM v (md_th M) (md_no M) (md_pt M) (md_re M) (md_sd M) (md_be M) (md_pb M) (md_ac M) (md_od M) (md_ad M) (md_wy M) (md_so M) (md_rl M) (md_io M) (md_po M) (md_sp M) (md_rs M) (md_st M) (md_av M) (md_ip M) (md_tx M) (md_tm M) (md_ta M) (md_td M) (md_wo M) (nI (b + 0)) tk (nI b) (nv (md_ta M) b 0) wr)) (by rw [Nat.add_zero]; exact (xw_up_same xw_up_s).symm) ?_
        refine l_goesOn_165 (M := M) hk hz (show (xw_up G 21 (pM v (md_th M) (md_no M) (md_pt M) (md_re M) (md_sd M) (md_be M) (md_pb M) (md_ac M) (md_od M) (md_ad M) (md_wy M) (md_so M) (md_rl M) (md_io M) (md_po M) (md_sp M) (md_rs M) (md_st M) (md_av M) (md_ip M) (md_tx M) (md_tm M) (md_ta M) (md_td M) (md_wo M) (nI b) tk (nI b) 0 wr)) 21 = pM v (md_th M) (md_no M) (md_pt M) (md_re M) (md_sd M) (md_be M) (md_pb M) (md_ac M) (md_od M) (md_ad M) (md_wy M) (md_so M) (md_rl M) (md_io M) (md_po M) (md_sp M) (md_rs M) (md_st M) (md_av M) (md_ip M) (md_tx M) (md_tm M) (md_ta M) (md_td M) (md_wo M) (nI b) tk (nI b) 0 wr from xw_up_s) htd hl7 (by omega) (fun i hi9 er9 => ?_) (l - b + 1) 0 (by omega) (by omega) rfl
        refine xj.eqG (G' := xw_up G 21 (pM v (md_th M) (md_no M) (md_pt M) (md_re M) (md_sd M) (md_be M) (md_pb M) (md_ac M) (md_od M) (md_ad M) (md_wy M) (md_so M) (md_rl M) (md_io M) (md_po M) (md_sp M) (md_rs M) (md_st M) (md_av M) (md_ip M) (md_tx M) (md_tm M) (md_ta M) (md_td M) (md_wo M) (nI (b + i)) tk (nI b) (nv (md_ta M) b i) wr)) (by rw [xw_up_u]) ?_
        refine xj_aload_n (i := 0) hk dX8_goesOn_224 rfl rfl ?_
        refine xj_iload_n (i := 3) hk dX8_goesOn_225 rfl rfl ?_
        refine xj_ifb_ne (tgt := 242) hk dX8_goesOn_226 (by decide) (fun c226 => ?_) (fun c226 => ?_)
        · refine xj_iconst (x := 4) hk dX8_goesOn_242 (by decide) ?_
          refine xj_goto (tgt := 247) hk dX8_goesOn_243 (by decide) ?_
          refine xj_putfield (G2 := xw_up G 21 (pM v (md_th M) (md_no M) (md_pt M) (md_re M) (md_sd M) (md_be M) (md_pb M) (md_ac M) (md_od M) (md_ad M) (md_wy M) (md_so M) (md_rl M) (md_io M) (md_po M) (md_sp M) (md_rs M) (md_st M) (md_av M) (md_ip M) (md_tx M) (md_tm M) (md_ta M) (md_td M) (md_wo M) (nI (b + i)) 4 (nI b) (nv (md_ta M) b i) wr)) hk dX8_goesOn_247 fl_X8_259 rfl rfl (xw_at xw_up_s rfl) (Nat.le_of_ble_eq_true rfl) (xw_wr2 rfl) ?_
          refine xj_goto (tgt := 279) hk dX8_goesOn_250 (by decide) ?_
          refine xj_return hk hz dX8_goesOn_279 ?_
          refine hpost _ ?_
          simp only [tkN, sqN, nuN]
          have hb9 : b < l := by
            rcases Nat.lt_or_ge b l with q | q
            · exact q
            · exact absurd (show hAt (md_ta M) l b = -1 from if_neg (by omega)) c82
          rw [show hAt (md_ta M) l b = md_ta M b from if_pos hb9] at *
          have c102 : ¬ isLet (md_ta M b) = true := by rw [show isLet (md_ta M b) = false from c102]; decide
          have c157 : isDig (md_ta M b) = true := c157
          simp only [if_pos hb9, if_neg c102, if_pos c157]
          rw [er9, show b + i - b = i by omega]
          rw [if_pos (Or.inl c226)]
        · refine xj_aload_n (i := 0) hk dX8_goesOn_229 rfl rfl ?_
          refine xj_getfield hk dX8_goesOn_230 fl_X8_256 (xw_at xw_up_s rfl) rfl ?_
          refine xj_aload_n (i := 0) hk dX8_goesOn_233 rfl rfl ?_
          refine xj_getfield hk dX8_goesOn_234 fl_X8_265 (xw_at xw_up_s rfl) rfl ?_
          refine xj_isub hk dX8_goesOn_237 ?_
          refine xj.eqi (x' := nI i) (by rw [nI_sub (by omega)]; congr 1; omega) ?_
          refine xj_iconst (x := 5) hk dX8_goesOn_238 (by decide) ?_
          refine xj_icmp_le (tgt := 246) hk dX8_goesOn_239 (by decide) (fun c239 => ?_) (fun c239 => ?_)
          · have c239 : i ≤ 5 := (nI_leI (a := i) (b := 5) (by omega) (by omega)).mp c239
            refine xj_iconst (x := 2) hk dX8_goesOn_246 (by decide) ?_
            refine xj_putfield (G2 := xw_up G 21 (pM v (md_th M) (md_no M) (md_pt M) (md_re M) (md_sd M) (md_be M) (md_pb M) (md_ac M) (md_od M) (md_ad M) (md_wy M) (md_so M) (md_rl M) (md_io M) (md_po M) (md_sp M) (md_rs M) (md_st M) (md_av M) (md_ip M) (md_tx M) (md_tm M) (md_ta M) (md_td M) (md_wo M) (nI (b + i)) 2 (nI b) (nv (md_ta M) b i) wr)) hk dX8_goesOn_247 fl_X8_259 rfl rfl (xw_at xw_up_s rfl) (Nat.le_of_ble_eq_true rfl) (xw_wr2 rfl) ?_
            refine xj_goto (tgt := 279) hk dX8_goesOn_250 (by decide) ?_
            refine xj_return hk hz dX8_goesOn_279 ?_
            refine hpost _ ?_
            simp only [tkN, sqN, nuN]
            have hb9 : b < l := by
              rcases Nat.lt_or_ge b l with q | q
              · exact q
              · exact absurd (show hAt (md_ta M) l b = -1 from if_neg (by omega)) c82
            rw [show hAt (md_ta M) l b = md_ta M b from if_pos hb9] at *
            have c102 : ¬ isLet (md_ta M b) = true := by rw [show isLet (md_ta M b) = false from c102]; decide
            have c157 : isDig (md_ta M b) = true := c157
            simp only [if_pos hb9, if_neg c102, if_pos c157]
            rw [er9, show b + i - b = i by omega]
            rw [if_neg (fun q => q.elim (fun h => by rw [c226] at h; cases h) (fun h => by omega))]
          · have c239 : ¬ i ≤ 5 := fun q => c239 ((nI_leI (a := i) (b := 5) (by omega) (by omega)).mpr q)
            refine xj_iconst (x := 4) hk dX8_goesOn_242 (by decide) ?_
            refine xj_goto (tgt := 247) hk dX8_goesOn_243 (by decide) ?_
            refine xj_putfield (G2 := xw_up G 21 (pM v (md_th M) (md_no M) (md_pt M) (md_re M) (md_sd M) (md_be M) (md_pb M) (md_ac M) (md_od M) (md_ad M) (md_wy M) (md_so M) (md_rl M) (md_io M) (md_po M) (md_sp M) (md_rs M) (md_st M) (md_av M) (md_ip M) (md_tx M) (md_tm M) (md_ta M) (md_td M) (md_wo M) (nI (b + i)) 4 (nI b) (nv (md_ta M) b i) wr)) hk dX8_goesOn_247 fl_X8_259 rfl rfl (xw_at xw_up_s rfl) (Nat.le_of_ble_eq_true rfl) (xw_wr2 rfl) ?_
            refine xj_goto (tgt := 279) hk dX8_goesOn_250 (by decide) ?_
            refine xj_return hk hz dX8_goesOn_279 ?_
            refine hpost _ ?_
            simp only [tkN, sqN, nuN]
            have hb9 : b < l := by
              rcases Nat.lt_or_ge b l with q | q
              · exact q
              · exact absurd (show hAt (md_ta M) l b = -1 from if_neg (by omega)) c82
            rw [show hAt (md_ta M) l b = md_ta M b from if_pos hb9] at *
            have c102 : ¬ isLet (md_ta M b) = true := by rw [show isLet (md_ta M b) = false from c102]; decide
            have c157 : isDig (md_ta M b) = true := c157
            simp only [if_pos hb9, if_neg c102, if_pos c157]
            rw [er9, show b + i - b = i by omega]
            rw [if_pos (Or.inr (by omega))]
    · refine xj.eqG (G' := xw_up G 21 (pM v (md_th M) (md_no M) (md_pt M) (md_re M) (md_sd M) (md_be M) (md_pb M) (md_ac M) (md_od M) (md_ad M) (md_wy M) (md_so M) (md_rl M) (md_io M) (md_po M) (md_sp M) (md_rs M) (md_st M) (md_av M) (md_ip M) (md_tx M) (md_tm M) (md_ta M) (md_td M) (md_wo M) (nI (b + 0)) tk (nI b) nu wr)) (by rw [Nat.add_zero]; exact (xw_up_same hM).symm) ?_
      refine l_goesOn_105 (M := M) hk hz (show G 21 = pM v (md_th M) (md_no M) (md_pt M) (md_re M) (md_sd M) (md_be M) (md_pb M) (md_ac M) (md_od M) (md_ad M) (md_wy M) (md_so M) (md_rl M) (md_io M) (md_po M) (md_sp M) (md_rs M) (md_st M) (md_av M) (md_ip M) (md_tx M) (md_tm M) (md_ta M) (md_td M) (md_wo M) (nI b) tk (nI b) nu wr from hM) htd hl7 (by omega) (fun i hi9 er9 => ?_) (l - b + 1) 0 (by omega) (by omega) rfl
      refine xj_aload_n (i := 0) hk dX8_goesOn_132 rfl rfl ?_
      refine xj_iload_n (i := 3) hk dX8_goesOn_133 rfl rfl ?_
      refine xj_ifb_eq (tgt := 141) hk dX8_goesOn_134 (by decide) (fun c134 => ?_) (fun c134 => ?_)
      · refine xj_iconst (x := 1) hk dX8_goesOn_141 (by decide) ?_
        refine xj_putfield (G2 := xw_up G 21 (pM v (md_th M) (md_no M) (md_pt M) (md_re M) (md_sd M) (md_be M) (md_pb M) (md_ac M) (md_od M) (md_ad M) (md_wy M) (md_so M) (md_rl M) (md_io M) (md_po M) (md_sp M) (md_rs M) (md_st M) (md_av M) (md_ip M) (md_tx M) (md_tm M) (md_ta M) (md_td M) (md_wo M) (nI (b + i)) 1 (nI b) nu wr)) hk dX8_goesOn_142 fl_X8_259 rfl rfl (xw_at xw_up_s rfl) (Nat.le_of_ble_eq_true rfl) (xw_wr2 rfl) ?_
        refine xj_goto (tgt := 279) hk dX8_goesOn_145 (by decide) ?_
        refine xj_return hk hz dX8_goesOn_279 ?_
        refine hpost _ ?_
        simp only [tkN, sqN, nuN]
        have hb9 : b < l := by
          rcases Nat.lt_or_ge b l with q | q
          · exact q
          · exact absurd (show hAt (md_ta M) l b = -1 from if_neg (by omega)) c82
        rw [show hAt (md_ta M) l b = md_ta M b from if_pos hb9] at *
        have c102 : isLet (md_ta M b) = true := c102
        simp only [if_pos hb9, if_pos c102]
        rw [er9]
        rw [if_neg (by rw [c134]; decide)]
      · refine xj_iconst (x := 4) hk dX8_goesOn_137 (by decide) ?_
        refine xj_goto (tgt := 142) hk dX8_goesOn_138 (by decide) ?_
        refine xj_putfield (G2 := xw_up G 21 (pM v (md_th M) (md_no M) (md_pt M) (md_re M) (md_sd M) (md_be M) (md_pb M) (md_ac M) (md_od M) (md_ad M) (md_wy M) (md_so M) (md_rl M) (md_io M) (md_po M) (md_sp M) (md_rs M) (md_st M) (md_av M) (md_ip M) (md_tx M) (md_tm M) (md_ta M) (md_td M) (md_wo M) (nI (b + i)) 4 (nI b) nu wr)) hk dX8_goesOn_142 fl_X8_259 rfl rfl (xw_at xw_up_s rfl) (Nat.le_of_ble_eq_true rfl) (xw_wr2 rfl) ?_
        refine xj_goto (tgt := 279) hk dX8_goesOn_145 (by decide) ?_
        refine xj_return hk hz dX8_goesOn_279 ?_
        refine hpost _ ?_
        simp only [tkN, sqN, nuN]
        have hb9 : b < l := by
          rcases Nat.lt_or_ge b l with q | q
          · exact q
          · exact absurd (show hAt (md_ta M) l b = -1 from if_neg (by omega)) c82
        rw [show hAt (md_ta M) l b = md_ta M b from if_pos hb9] at *
        have c102 : isLet (md_ta M b) = true := c102
        simp only [if_pos hb9, if_pos c102]
        rw [er9]
        rw [if_pos c134]
  · refine xj_aload_n (i := 0) hk dX8_goesOn_85 rfl rfl ?_
    refine xj_iconst (x := 0) hk dX8_goesOn_86 (by decide) ?_
    refine xj_putfield (G2 := xw_up G 21 (pM v (md_th M) (md_no M) (md_pt M) (md_re M) (md_sd M) (md_be M) (md_pb M) (md_ac M) (md_od M) (md_ad M) (md_wy M) (md_so M) (md_rl M) (md_io M) (md_po M) (md_sp M) (md_rs M) (md_st M) (md_av M) (md_ip M) (md_tx M) (md_tm M) (md_ta M) (md_td M) (md_wo M) (nI b) 0 (nI b) nu wr)) hk dX8_goesOn_87 fl_X8_259 rfl rfl (xw_at hM rfl) (Nat.le_of_ble_eq_true rfl) (xw_wr hM rfl) ?_
    refine xj_goto (tgt := 279) hk dX8_goesOn_90 (by decide) ?_
    refine xj_return hk hz dX8_goesOn_279 ?_
    refine hpost _ ?_
    simp only [tkN, sqN, nuN]
    have hb9 : ¬ b < l := fun q => by
      have := hby b q
      simp only [hAt] at c82; rw [if_pos q] at c82; rw [c82] at this; exact absurd this (by decide)
    simp only [if_neg hb9]
set_option maxHeartbeats 1000000 in
set_option maxRecDepth 10000 in
theorem c_X8_goesOn {v : xw_V} {G : xw_G} {M : md_T} {l : Nat} {p : Nat} {tk bg nu wr : Int32} (hM : G 21 = pM v (md_th M) (md_no M) (md_pt M) (md_re M) (md_sd M) (md_be M) (md_pb M) (md_ac M) (md_od M) (md_ad M) (md_wy M) (md_so M) (md_rl M) (md_io M) (md_po M) (md_sp M) (md_rs M) (md_st M) (md_av M) (md_ip M) (md_tx M) (md_tm M) (md_ta M) (md_td M) (md_wo M) (nI p) tk bg nu wr) (htd : md_td M = nI l) (hl7 : l ≤ 700) (hp : p ≤ l) (hby : okBy (md_ta M) l) (hgi : (decide (tk = 1) || decide (tk = 2)) = glu (md_ta M) p) : xk_Con v yX8_goesOn cX8_goesOn 5 none 1 22 [.ref (xw_ad v 21 0)] G (xk_ret none (xw_up G 21 (pM v (md_th M) (md_no M) (md_pt M) (md_re M) (md_sd M) (md_be M) (md_pb M) (md_ac M) (md_od M) (md_ad M) (md_wy M) (md_so M) (md_rl M) (md_io M) (md_po M) (md_sp M) (md_rs M) (md_st M) (md_av M) (md_ip M) (md_tx M) (md_tm M) (md_ta M) (md_td M) (md_wo M) (nI (sqN (md_ta M) l (sbk (md_ta M) l p))) (tkN (md_ta M) l (sbk (md_ta M) l p)) (nI (sbk (md_ta M) l p)) (nuN (md_ta M) l (sbk (md_ta M) l p) nu) wr))) := by
  refine xk_of (ls0 := [some (.ref (xw_ad v 21 0)), none, none, none, none]) (by decide) rfl (Nat.le_of_ble_eq_true rfl) ?_
  intro κ z hk hz
  refine xj_aload_n (i := 0) hk dX8_goesOn_0 rfl rfl ?_
  refine xj_getfield hk dX8_goesOn_1 fl_X8_259 (xw_at hM rfl) rfl ?_
  refine xj_istore_n (i := 1) (ls2 := [some (.ref (xw_ad v 21 0)), some (.int tk), none, none, none]) hk dX8_goesOn_4 rfl (by decide) rfl rfl ?_
  refine xj_aload_n (i := 0) hk dX8_goesOn_5 rfl rfl ?_
  refine xj_getfield hk dX8_goesOn_6 fl_X8_256 (xw_at hM rfl) rfl ?_
  refine xj_istore_n (i := 2) (ls2 := [some (.ref (xw_ad v 21 0)), some (.int tk), some (.int (nI p)), none, none]) hk dX8_goesOn_9 rfl (by decide) rfl rfl ?_
  refine xj.eqG (G' := xw_up G 21 (pM v (md_th M) (md_no M) (md_pt M) (md_re M) (md_sd M) (md_be M) (md_pb M) (md_ac M) (md_od M) (md_ad M) (md_wy M) (md_so M) (md_rl M) (md_io M) (md_po M) (md_sp M) (md_rs M) (md_st M) (md_av M) (md_ip M) (md_tx M) (md_tm M) (md_ta M) (md_td M) (md_wo M) (nI (p + 0)) tk bg nu wr)) (by rw [Nat.add_zero]; exact (xw_up_same hM).symm) ?_
  refine l_goesOn_10 (M := M) hk hz hM htd hl7 hp (fun i hi9 er9 => ?_) (l - p + 1) 0 (by omega) (by omega) rfl
  obtain ⟨b, e_b⟩ : ∃ b, b = sbk (md_ta M) l p := ⟨_, rfl⟩
  have hbi : b = p + i := by rw [e_b]; exact er9
  have hbl : b ≤ l := by omega
  refine xj_aload_n (i := 0) hk dX8_goesOn_41 rfl rfl ?_
  refine xj_aload_n (i := 0) hk dX8_goesOn_42 rfl rfl ?_
  refine xj_getfield hk dX8_goesOn_43 fl_X8_256 (xw_at xw_up_s rfl) rfl ?_
  refine xj_putfield (G2 := xw_up G 21 (pM v (md_th M) (md_no M) (md_pt M) (md_re M) (md_sd M) (md_be M) (md_pb M) (md_ac M) (md_od M) (md_ad M) (md_wy M) (md_so M) (md_rl M) (md_io M) (md_po M) (md_sp M) (md_rs M) (md_st M) (md_av M) (md_ip M) (md_tx M) (md_tm M) (md_ta M) (md_td M) (md_wo M) (nI (p + i)) tk (nI (p + i)) nu wr)) hk dX8_goesOn_46 fl_X8_265 rfl rfl (xw_at xw_up_s rfl) (Nat.le_of_ble_eq_true rfl) (xw_wr2 rfl) ?_
  refine xj_aload_n (i := 0) hk dX8_goesOn_49 rfl rfl ?_
  refine xj_getfield hk dX8_goesOn_50 fl_X8_265 (xw_at xw_up_s rfl) rfl ?_
  refine xj_iload_n (i := 2) hk dX8_goesOn_53 rfl rfl ?_
  refine xj_icmp_ne (tgt := 71) hk dX8_goesOn_54 (by decide) (fun c54 => ?_) (fun c54 => ?_)
  · have c54 : ¬ p + i = p := fun q => c54 ((nI_eq (a := p + i) (b := p) (by omega) (by omega)).mpr q)
    refine xj_iconst (x := 0) hk dX8_goesOn_71 (by decide) ?_
    have hgm := glu_m (l := l) hgi
    rw [← e_b] at hgm
    refine xj.eqi (x' := xb (glu (md_ta M) b)) (by rw [← hgm, decide_eq_false (show ¬ b = p by omega)]; rfl) ?_
    refine xj.eqG (G' := xw_up G 21 (pM v (md_th M) (md_no M) (md_pt M) (md_re M) (md_sd M) (md_be M) (md_pb M) (md_ac M) (md_od M) (md_ad M) (md_wy M) (md_so M) (md_rl M) (md_io M) (md_po M) (md_sp M) (md_rs M) (md_st M) (md_av M) (md_ip M) (md_tx M) (md_tm M) (md_ta M) (md_td M) (md_wo M) (nI b) tk (nI b) nu wr)) (by rw [hbi]) ?_
    refine l_goesOn_72 (M := M) hk hz (show (xw_up G 21 (pM v (md_th M) (md_no M) (md_pt M) (md_re M) (md_sd M) (md_be M) (md_pb M) (md_ac M) (md_od M) (md_ad M) (md_wy M) (md_so M) (md_rl M) (md_io M) (md_po M) (md_sp M) (md_rs M) (md_st M) (md_av M) (md_ip M) (md_tx M) (md_tm M) (md_ta M) (md_td M) (md_wo M) (nI b) tk (nI b) nu wr)) 21 = pM v (md_th M) (md_no M) (md_pt M) (md_re M) (md_sd M) (md_be M) (md_pb M) (md_ac M) (md_od M) (md_ad M) (md_wy M) (md_so M) (md_rl M) (md_io M) (md_po M) (md_sp M) (md_rs M) (md_st M) (md_av M) (md_ip M) (md_tx M) (md_tm M) (md_ta M) (md_td M) (md_wo M) (nI b) tk (nI b) nu wr from xw_up_s) htd hl7 hbl hby (fun G9 h9 => ⟨rfl, ?_⟩)
    rw [h9, xw_up_u, ← e_b]
  · have c54 : p + i = p := (nI_eq (a := p + i) (b := p) (by omega) (by omega)).mp c54
    refine xj_iload_n (i := 1) hk dX8_goesOn_57 rfl rfl ?_
    refine xj_iconst (x := 1) hk dX8_goesOn_58 (by decide) ?_
    refine xj_icmp_eq (tgt := 67) hk dX8_goesOn_59 (by decide) (fun c59 => ?_) (fun c59 => ?_)
    · refine xj_iconst (x := 1) hk dX8_goesOn_67 (by decide) ?_
      refine xj_goto (tgt := 72) hk dX8_goesOn_68 (by decide) ?_
      have hgm := glu_m (l := l) hgi
      rw [← e_b] at hgm
      refine xj.eqi (x' := xb (glu (md_ta M) b)) (by rw [← hgm, decide_eq_true (show b = p by omega), decide_eq_true c59]; rfl) ?_
      refine xj.eqG (G' := xw_up G 21 (pM v (md_th M) (md_no M) (md_pt M) (md_re M) (md_sd M) (md_be M) (md_pb M) (md_ac M) (md_od M) (md_ad M) (md_wy M) (md_so M) (md_rl M) (md_io M) (md_po M) (md_sp M) (md_rs M) (md_st M) (md_av M) (md_ip M) (md_tx M) (md_tm M) (md_ta M) (md_td M) (md_wo M) (nI b) tk (nI b) nu wr)) (by rw [hbi]) ?_
      refine l_goesOn_72 (M := M) hk hz (show (xw_up G 21 (pM v (md_th M) (md_no M) (md_pt M) (md_re M) (md_sd M) (md_be M) (md_pb M) (md_ac M) (md_od M) (md_ad M) (md_wy M) (md_so M) (md_rl M) (md_io M) (md_po M) (md_sp M) (md_rs M) (md_st M) (md_av M) (md_ip M) (md_tx M) (md_tm M) (md_ta M) (md_td M) (md_wo M) (nI b) tk (nI b) nu wr)) 21 = pM v (md_th M) (md_no M) (md_pt M) (md_re M) (md_sd M) (md_be M) (md_pb M) (md_ac M) (md_od M) (md_ad M) (md_wy M) (md_so M) (md_rl M) (md_io M) (md_po M) (md_sp M) (md_rs M) (md_st M) (md_av M) (md_ip M) (md_tx M) (md_tm M) (md_ta M) (md_td M) (md_wo M) (nI b) tk (nI b) nu wr from xw_up_s) htd hl7 hbl hby (fun G9 h9 => ⟨rfl, ?_⟩)
      rw [h9, xw_up_u, ← e_b]
    · refine xj_iload_n (i := 1) hk dX8_goesOn_62 rfl rfl ?_
      refine xj_iconst (x := 2) hk dX8_goesOn_63 (by decide) ?_
      refine xj_icmp_ne (tgt := 71) hk dX8_goesOn_64 (by decide) (fun c64 => ?_) (fun c64 => ?_)
      · refine xj_iconst (x := 0) hk dX8_goesOn_71 (by decide) ?_
        have hgm := glu_m (l := l) hgi
        rw [← e_b] at hgm
        refine xj.eqi (x' := xb (glu (md_ta M) b)) (by rw [← hgm, decide_eq_false c59, decide_eq_false c64, Bool.or_self, Bool.and_false]; rfl) ?_
        refine xj.eqG (G' := xw_up G 21 (pM v (md_th M) (md_no M) (md_pt M) (md_re M) (md_sd M) (md_be M) (md_pb M) (md_ac M) (md_od M) (md_ad M) (md_wy M) (md_so M) (md_rl M) (md_io M) (md_po M) (md_sp M) (md_rs M) (md_st M) (md_av M) (md_ip M) (md_tx M) (md_tm M) (md_ta M) (md_td M) (md_wo M) (nI b) tk (nI b) nu wr)) (by rw [hbi]) ?_
        refine l_goesOn_72 (M := M) hk hz (show (xw_up G 21 (pM v (md_th M) (md_no M) (md_pt M) (md_re M) (md_sd M) (md_be M) (md_pb M) (md_ac M) (md_od M) (md_ad M) (md_wy M) (md_so M) (md_rl M) (md_io M) (md_po M) (md_sp M) (md_rs M) (md_st M) (md_av M) (md_ip M) (md_tx M) (md_tm M) (md_ta M) (md_td M) (md_wo M) (nI b) tk (nI b) nu wr)) 21 = pM v (md_th M) (md_no M) (md_pt M) (md_re M) (md_sd M) (md_be M) (md_pb M) (md_ac M) (md_od M) (md_ad M) (md_wy M) (md_so M) (md_rl M) (md_io M) (md_po M) (md_sp M) (md_rs M) (md_st M) (md_av M) (md_ip M) (md_tx M) (md_tm M) (md_ta M) (md_td M) (md_wo M) (nI b) tk (nI b) nu wr from xw_up_s) htd hl7 hbl hby (fun G9 h9 => ⟨rfl, ?_⟩)
        rw [h9, xw_up_u, ← e_b]
      · refine xj_iconst (x := 1) hk dX8_goesOn_67 (by decide) ?_
        refine xj_goto (tgt := 72) hk dX8_goesOn_68 (by decide) ?_
        have hgm := glu_m (l := l) hgi
        rw [← e_b] at hgm
        refine xj.eqi (x' := xb (glu (md_ta M) b)) (by rw [← hgm, decide_eq_true (show b = p by omega), decide_eq_true c64, Bool.or_true]; rfl) ?_
        refine xj.eqG (G' := xw_up G 21 (pM v (md_th M) (md_no M) (md_pt M) (md_re M) (md_sd M) (md_be M) (md_pb M) (md_ac M) (md_od M) (md_ad M) (md_wy M) (md_so M) (md_rl M) (md_io M) (md_po M) (md_sp M) (md_rs M) (md_st M) (md_av M) (md_ip M) (md_tx M) (md_tm M) (md_ta M) (md_td M) (md_wo M) (nI b) tk (nI b) nu wr)) (by rw [hbi]) ?_
        refine l_goesOn_72 (M := M) hk hz (show (xw_up G 21 (pM v (md_th M) (md_no M) (md_pt M) (md_re M) (md_sd M) (md_be M) (md_pb M) (md_ac M) (md_od M) (md_ad M) (md_wy M) (md_so M) (md_rl M) (md_io M) (md_po M) (md_sp M) (md_rs M) (md_st M) (md_av M) (md_ip M) (md_tx M) (md_tm M) (md_ta M) (md_td M) (md_wo M) (nI b) tk (nI b) nu wr)) 21 = pM v (md_th M) (md_no M) (md_pt M) (md_re M) (md_sd M) (md_be M) (md_pb M) (md_ac M) (md_od M) (md_ad M) (md_wy M) (md_so M) (md_rl M) (md_io M) (md_po M) (md_sp M) (md_rs M) (md_st M) (md_av M) (md_ip M) (md_tx M) (md_tm M) (md_ta M) (md_td M) (md_wo M) (nI b) tk (nI b) nu wr from xw_up_s) htd hl7 hbl hby (fun G9 h9 => ⟨rfl, ?_⟩)
        rw [h9, xw_up_u, ← e_b]


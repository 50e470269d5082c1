theorem sm_rev {f : Nat → Int32} : ∀ n, sm (fun k => f (n - 1 - k)) n = sm f n := by
  intro n
  have h : ∀ m (g : Nat → Int32), sm (fun k => g (m - k)) (m + 1) = sm g (m + 1) := by
    intro m
    induction m with
    | zero => intro g; simp [sm]
    | succ m ih =>
      intro g
      have e1 : ∀ (u : Nat → Int32) (q : Nat), sm u (q + 1) = u 0 + sm (fun k => u (k + 1)) q := by
        intro u q
        induction q with
        | zero => simp [sm]
        | succ q ih2 => rw [show sm u (q + 1 + 1) = sm u (q + 1) + u (q + 1) from rfl, ih2]; simp only [sm]; rw [Int32.add_assoc]
      rw [e1]
      simp only [Nat.sub_zero]
      rw [sm_congr (g := fun k => g (m - k)) (fun j hj => by congr 1; omega), ih g, Int32.add_comm]
      rfl
  cases n with
  | zero => rfl
  | succ m => exact h m f
theorem gst_is {f : Nat → Int32} : ∀ n, (∀ j, j < n → f j ≤ gst f n) ∧ -2 ≤ gst f n ∧ (gst f n = -2 ∨ ∃ j, j < n ∧ f j = gst f n)
  | 0 => ⟨fun j h => by omega, Int32.le_rfl, Or.inl rfl⟩
  | n + 1 => by
    obtain ⟨a, b, c⟩ := gst_is n
    simp only [gst]
    by_cases d : gst f n < f n
    · rw [if_pos d]
      refine ⟨fun j hj => ?_, Int32.le_trans b (Int32.le_of_lt d), Or.inr ⟨n, by omega, rfl⟩⟩
      by_cases e : j = n
      · rw [e]; exact Int32.le_rfl
      · exact Int32.le_trans (a j (by omega)) (Int32.le_of_lt d)
    · rw [if_neg d]
      refine ⟨fun j hj => ?_, b, ?_⟩
      · by_cases e : j = n
        · rw [e]; exact Int32.not_lt.mp d
        · exact a j (by omega)
      · rcases c with c | ⟨j, hj, e⟩
        · exact Or.inl c
        · exact Or.inr ⟨j, by omega, e⟩
theorem gst_rev {f : Nat → Int32} (n : Nat) : gst (fun k => f (n - 1 - k)) n = gst f n := by
  obtain ⟨a, b, c⟩ := gst_is (f := f) n
  obtain ⟨a', b', c'⟩ := gst_is (f := fun k => f (n - 1 - k)) n
  refine Int32.le_antisymm ?_ ?_
  · rcases c' with c' | ⟨j, hj, e⟩
    · rw [c']; exact b
    · rw [← e]; exact a _ (by omega)
  · rcases c with c | ⟨j, hj, e⟩
    · rw [c]; exact b'
    · rw [← e]
      have := a' (n - 1 - j) (by omega)
      rw [show n - 1 - (n - 1 - j) = j by omega] at this
      exact this
theorem lst_is {f : Nat → Int32} : ∀ n, (lst f n = -2 ∧ ∀ j, j < n → f j = -2) ∨ (¬ lst f n = -2 ∧ (∃ j, j < n ∧ f j = lst f n) ∧ ∀ j, j < n → ¬ f j = -2 → lst f n ≤ f j)
  | 0 => Or.inl ⟨rfl, fun j h => by omega⟩
  | n + 1 => by
    simp only [lst]
    rcases lst_is (f := f) n with ⟨a, b⟩ | ⟨a, ⟨i, hi, ei⟩, c⟩
    · by_cases d : f n = -2
      · rw [if_neg (fun q => q.1 d)]
        refine Or.inl ⟨a, fun j hj => ?_⟩
        by_cases e : j = n
        · rw [e]; exact d
        · exact b j (by omega)
      · rw [if_pos ⟨d, Or.inl a⟩]
        refine Or.inr ⟨d, ⟨n, by omega, rfl⟩, fun j hj hne => ?_⟩
        by_cases e : j = n
        · rw [e]; exact Int32.le_rfl
        · exact absurd (b j (by omega)) hne
    · by_cases d : ¬ f n = -2 ∧ (lst f n = -2 ∨ ¬ lst f n ≤ f n)
      · rw [if_pos d]
        rcases d.2 with d2 | d2
        · exact absurd d2 a
        · refine Or.inr ⟨d.1, ⟨n, by omega, rfl⟩, fun j hj hne => ?_⟩
          by_cases e : j = n
          · rw [e]; exact Int32.le_rfl
          · exact Int32.le_trans (Int32.le_of_lt (Int32.not_le.mp d2)) (c j (by omega) hne)
      · rw [if_neg d]
        refine Or.inr ⟨a, ⟨i, by omega, ei⟩, fun j hj hne => ?_⟩
        by_cases e : j = n
        · subst e
          by_cases g : lst f j ≤ f j
          · exact g
          · exact absurd ⟨hne, Or.inr g⟩ d
        · exact c j (by omega) hne
theorem lst_rev {f : Nat → Int32} (n : Nat) : lst (fun k => f (n - 1 - k)) n = lst f n := by
  rcases lst_is (f := f) n with ⟨a, b⟩ | ⟨a, ⟨i, hi, ei⟩, c⟩
  · rcases lst_is (f := fun k => f (n - 1 - k)) n with ⟨a', b'⟩ | ⟨a', ⟨i', hi', ei'⟩, c'⟩
    · rw [a, a']
    · exact absurd ((b _ (by omega)).symm.trans ei') (fun q => a' q.symm)
  · rcases lst_is (f := fun k => f (n - 1 - k)) n with ⟨a', b'⟩ | ⟨a', ⟨i', hi', ei'⟩, c'⟩
    · have := b' (n - 1 - i) (by omega)
      rw [show n - 1 - (n - 1 - i) = i by omega] at this
      exact absurd (this.symm.trans ei) (fun q => a q.symm)
    · refine Int32.le_antisymm ?_ ?_
      · have := c' (n - 1 - i) (by omega)
        rw [show n - 1 - (n - 1 - i) = i by omega, ei] at this
        exact this a
      · have := c (n - 1 - i') (by omega)
        have e : f (n - 1 - i') = lst (fun k => f (n - 1 - k)) n := ei'
        rw [e] at this
        exact this a'
theorem mst_rev {f : Nat → Int32} (n : Nat) : mst (fun k => f (n - 1 - k)) n = mst f n := by
  simp only [mst]
  have e1 : sm (ct2 (fun k => f (n - 1 - k))) n = sm (ct2 f) n := sm_rev (f := ct2 f) n
  have e2 : sm (nz2 (fun k => f (n - 1 - k))) n = sm (nz2 f) n := sm_rev (f := nz2 f) n
  rw [e1, e2]
theorem ct_nn {f : Nat → Int32} : ∀ n, n ≤ 8 → ∃ c, sm (ct2 f) n = nI c ∧ c ≤ n
  | 0, _ => ⟨0, rfl, Nat.le_refl 0⟩
  | n + 1, h => by
    obtain ⟨c, e, hc⟩ := ct_nn (f := f) n (by omega)
    simp only [sm, ct2]
    by_cases d : f n = -2
    · rw [if_pos d, Int32.add_zero]; exact ⟨c, e, by omega⟩
    · rw [if_neg d]
      refine ⟨c + 1, ?_, by omega⟩
      rw [show sm (ct2 f) n = nI c from e, nI_1]
set_option maxHeartbeats 1000000 in
set_option maxRecDepth 10000 in
theorem l_X8_records {v : xw_V} {κ : xk_K} {post : Option Value → xw_G → Prop} {z : Nat × Nat × Nat} {G : xw_G} {M : md_T} {te ho ow hs ra lo st av so : Nat → Int32}  {n r : Nat} (hk : xk_Ok v κ yX8_records cX8_records 9 (some .int) 1 22) (hz : xk_zf κ = z) (hM : G 21 = pM v (md_th M) (nR te ho ow hs ra lo (nI n) st av so (nI r)) (md_pt M) (md_re M) (md_sd M) (md_be M) (md_pb M) (md_ac M) (md_od M) (md_ad M) (md_wy M) (md_so M) (md_rl M) (md_io M) (md_po M) (md_sp M) (md_rs M) (md_st M) (md_av M) (md_ip M) (md_tx M) (md_tm M) (md_ta M) (md_td M) (md_wo M) (md_sq M) (md_tk M) (md_bg M) (md_nu M) (md_wr M)) (hr8 : r ≤ 8) (w : Int32) (kx : xj v κ post z G 125 [some (.ref (xw_ad v 21 0)), some (.int w), some (.int (sm so r)), some (.int (sm (nz2 st) r)), some (.int (sm (ct2 st) r)), some (.int (gst st r)), some (.int (lst st r)), some (.int (nI r)), none] []) : ∀ (m : Nat) (k : Nat), r - k < m → k ≤ r → xj v κ post z G 29 [some (.ref (xw_ad v 21 0)), some (.int w), some (.int (sm so k)), some (.int (sm (nz2 st) k)), some (.int (sm (ct2 st) k)), some (.int (gst st k)), some (.int (lst st k)), some (.int (nI k)), none] [] := by
  intro m
  induction m with
  | zero => intro k h; exact absurd h (Nat.not_lt_zero _)
  | succ m ih =>
    intro k hm hi
    refine xj_iload hk dX8_records_29 rfl ?_
    refine xj_aload_n (i := 0) hk dX8_records_31 rfl rfl ?_
    refine xj_getfield hk dX8_records_32 fl_X8_13 (xw_at hM rfl) rfl ?_
    refine xj_bipush (x := 114) hk dX8_records_35 (by decide) ?_
    refine xj_iaload (k := 114) hk dX8_records_37 (xw_at hM rfl) (xi_d 114 139 (by decide)) ?_
    refine xj.eqi (x' := nI r) rR_ln ?_
    refine xj_icmp_ge (tgt := 125) hk dX8_records_38 (by decide) (fun c38 => ?_) (fun c38 => ?_)
    · have c38 : r ≤ k := (nI_leI (a := r) (b := k) (by omega) (by omega)).mp c38
      have e9 : k = r := by omega
      subst e9
      exact kx
    · have c38 : ¬ r ≤ k := fun q => c38 ((nI_leI (a := r) (b := k) (by omega) (by omega)).mpr q)
      refine xj_aload_n (i := 0) hk dX8_records_41 rfl rfl ?_
      refine xj_getfield hk dX8_records_42 fl_X8_13 (xw_at hM rfl) rfl ?_
      refine xj_bipush (x := 115) hk dX8_records_45 (by decide) ?_
      refine xj_iconst (x := 3) hk dX8_records_47 (by decide) ?_
      refine xj_iload hk dX8_records_48 rfl ?_
      refine xj_imul hk dX8_records_50 ?_
      refine xj.eqi (x' := nI (3 * k)) (nI_mul 3 k) ?_
      refine xj_iadd hk dX8_records_51 ?_
      refine xj.eqi (x' := nI (115 + 3 * k)) (nI_add 115 (3 * k)) ?_
      refine xj_iaload (k := 115 + 3 * k) hk dX8_records_52 (xw_at hM rfl) (xi_n (by omega) (by decide)) ?_
      refine xj.eqi (x' := st k) (rR_st (k := k) (by omega)) ?_
      refine xj_istore (i := 8) (ls2 := [some (.ref (xw_ad v 21 0)), some (.int w), some (.int (sm so k)), some (.int (sm (nz2 st) k)), some (.int (sm (ct2 st) k)), some (.int (gst st k)), some (.int (lst st k)), some (.int (nI k)), some (.int (st k))]) hk dX8_records_53 (by decide) rfl rfl ?_
      refine xj_iload_n (i := 2) hk dX8_records_55 rfl rfl ?_
      refine xj_aload_n (i := 0) hk dX8_records_56 rfl rfl ?_
      refine xj_getfield hk dX8_records_57 fl_X8_13 (xw_at hM rfl) rfl ?_
      refine xj_bipush (x := 115) hk dX8_records_60 (by decide) ?_
      refine xj_iconst (x := 3) hk dX8_records_62 (by decide) ?_
      refine xj_iload hk dX8_records_63 rfl ?_
      refine xj_imul hk dX8_records_65 ?_
      refine xj.eqi (x' := nI (3 * k)) (nI_mul 3 k) ?_
      refine xj_iadd hk dX8_records_66 ?_
      refine xj.eqi (x' := nI (115 + 3 * k)) (nI_add 115 (3 * k)) ?_
      refine xj_iconst (x := 2) hk dX8_records_67 (by decide) ?_
      refine xj_iadd hk dX8_records_68 ?_
      refine xj.eqi (x' := nI (115 + 3 * k + 2)) (nI_add (115 + 3 * k) 2) ?_
      refine xj_iaload (k := 115 + 3 * k + 2) hk dX8_records_69 (xw_at hM rfl) (xi_n (by omega) (by decide)) ?_
      refine xj.eqi (x' := so k) (rR_so (k := k) (by omega)) ?_
      refine xj_iadd hk dX8_records_70 ?_
      refine xj_istore_n (i := 2) (ls2 := [some (.ref (xw_ad v 21 0)), some (.int w), some (.int ((sm so k) + (so k))), some (.int (sm (nz2 st) k)), some (.int (sm (ct2 st) k)), some (.int (gst st k)), some (.int (lst st k)), some (.int (nI k)), some (.int (st k))]) hk dX8_records_71 rfl (by decide) rfl rfl ?_
      refine xj_iload hk dX8_records_72 rfl ?_
      refine xj_bipush (x := (-2)) hk dX8_records_74 (by decide) ?_
      refine xj_icmp_ne (tgt := 82) hk dX8_records_76 (by decide) (fun c76 => ?_) (fun c76 => ?_)
      · refine xj_iload_n (i := 3) hk dX8_records_82 rfl rfl ?_
        refine xj_iload hk dX8_records_83 rfl ?_
        refine xj_iadd hk dX8_records_85 ?_
        refine xj_istore_n (i := 3) (ls2 := [some (.ref (xw_ad v 21 0)), some (.int w), some (.int ((sm so k) + (so k))), some (.int ((sm (nz2 st) k) + (st k))), some (.int (sm (ct2 st) k)), some (.int (gst st k)), some (.int (lst st k)), some (.int (nI k)), some (.int (st k))]) hk dX8_records_86 rfl (by decide) rfl rfl ?_
        refine xj_iinc (i := 4) (x2 := (sm (ct2 st) k) + 1) (ls2 := [some (.ref (xw_ad v 21 0)), some (.int w), some (.int ((sm so k) + (so k))), some (.int ((sm (nz2 st) k) + (st k))), some (.int ((sm (ct2 st) k) + 1)), some (.int (gst st k)), some (.int (lst st k)), some (.int (nI k)), some (.int (st k))]) hk dX8_records_87 rfl rfl (by decide) rfl rfl ?_
        refine xj_iload hk dX8_records_90 rfl ?_
        refine xj_iload hk dX8_records_92 rfl ?_
        refine xj_icmp_le (tgt := 101) hk dX8_records_94 (by decide) (fun c94 => ?_) (fun c94 => ?_)
        · refine xj_iload hk dX8_records_101 rfl ?_
          refine xj_bipush (x := (-2)) hk dX8_records_103 (by decide) ?_
          refine xj_icmp_eq (tgt := 115) hk dX8_records_105 (by decide) (fun c105 => ?_) (fun c105 => ?_)
          · refine xj_iload hk dX8_records_115 rfl ?_
            refine xj_istore (i := 6) (ls2 := [some (.ref (xw_ad v 21 0)), some (.int w), some (.int ((sm so k) + (so k))), some (.int ((sm (nz2 st) k) + (st k))), some (.int ((sm (ct2 st) k) + 1)), some (.int (gst st k)), some (.int (st k)), some (.int (nI k)), some (.int (st k))]) hk dX8_records_117 (by decide) rfl rfl ?_
            refine xj_iinc (i := 7) (x2 := nI (k + 1)) (ls2 := [some (.ref (xw_ad v 21 0)), some (.int w), some (.int ((sm so k) + (so k))), some (.int ((sm (nz2 st) k) + (st k))), some (.int ((sm (ct2 st) k) + 1)), some (.int (gst st k)), some (.int (st k)), some (.int (nI (k + 1))), some (.int (st k))]) hk dX8_records_119 rfl (nI_1 k) (by decide) rfl rfl ?_
            refine xj_goto (tgt := 29) hk dX8_records_122 (by decide) ?_
            refine xj.le (ls' := [some (.ref (xw_ad v 21 0)), some (.int w), some (.int ((sm so k) + (so k))), some (.int ((sm (nz2 st) k) + (st k))), some (.int ((sm (ct2 st) k) + 1)), some (.int (gst st k)), some (.int (st k)), some (.int (nI (k + 1))), none]) (by simp [xl_le] <;> rfl) ?_
            refine xj.to (ls' := [some (.ref (xw_ad v 21 0)), some (.int w), some (.int (sm so (k + 1))), some (.int (sm (nz2 st) (k + 1))), some (.int (sm (ct2 st) (k + 1))), some (.int (gst st (k + 1))), some (.int (lst st (k + 1))), some (.int (nI (k + 1))), none]) (by simp only [sm, nz2, ct2, gst, lst]; rw [if_neg c76, if_neg c76]; (first | rw [if_neg (Int32.not_lt.mpr c94)] | rw [if_neg c94]); (rw [if_pos ⟨c76, Or.inl c105⟩])) (ih (k + 1) (by omega) (by omega))
          · refine xj_iload hk dX8_records_108 rfl ?_
            refine xj_iload hk dX8_records_110 rfl ?_
            refine xj_icmp_ge (tgt := 119) hk dX8_records_112 (by decide) (fun c112 => ?_) (fun c112 => ?_)
            · refine xj_iinc (i := 7) (x2 := nI (k + 1)) (ls2 := [some (.ref (xw_ad v 21 0)), some (.int w), some (.int ((sm so k) + (so k))), some (.int ((sm (nz2 st) k) + (st k))), some (.int ((sm (ct2 st) k) + 1)), some (.int (gst st k)), some (.int (lst st k)), some (.int (nI (k + 1))), some (.int (st k))]) hk dX8_records_119 rfl (nI_1 k) (by decide) rfl rfl ?_
              refine xj_goto (tgt := 29) hk dX8_records_122 (by decide) ?_
              refine xj.le (ls' := [some (.ref (xw_ad v 21 0)), some (.int w), some (.int ((sm so k) + (so k))), some (.int ((sm (nz2 st) k) + (st k))), some (.int ((sm (ct2 st) k) + 1)), some (.int (gst st k)), some (.int (lst st k)), some (.int (nI (k + 1))), none]) (by simp [xl_le] <;> rfl) ?_
              refine xj.to (ls' := [some (.ref (xw_ad v 21 0)), some (.int w), some (.int (sm so (k + 1))), some (.int (sm (nz2 st) (k + 1))), some (.int (sm (ct2 st) (k + 1))), some (.int (gst st (k + 1))), some (.int (lst st (k + 1))), some (.int (nI (k + 1))), none]) (by simp only [sm, nz2, ct2, gst, lst]; rw [if_neg c76, if_neg c76]; (first | rw [if_neg (Int32.not_lt.mpr c94)] | rw [if_neg c94]); (rw [if_neg (fun q => q.2.elim c105 (fun h => h c112))])) (ih (k + 1) (by omega) (by omega))
            · refine xj_iload hk dX8_records_115 rfl ?_
              refine xj_istore (i := 6) (ls2 := [some (.ref (xw_ad v 21 0)), some (.int w), some (.int ((sm so k) + (so k))), some (.int ((sm (nz2 st) k) + (st k))), some (.int ((sm (ct2 st) k) + 1)), some (.int (gst st k)), some (.int (st k)), some (.int (nI k)), some (.int (st k))]) hk dX8_records_117 (by decide) rfl rfl ?_
              refine xj_iinc (i := 7) (x2 := nI (k + 1)) (ls2 := [some (.ref (xw_ad v 21 0)), some (.int w), some (.int ((sm so k) + (so k))), some (.int ((sm (nz2 st) k) + (st k))), some (.int ((sm (ct2 st) k) + 1)), some (.int (gst st k)), some (.int (st k)), some (.int (nI (k + 1))), some (.int (st k))]) hk dX8_records_119 rfl (nI_1 k) (by decide) rfl rfl ?_
              refine xj_goto (tgt := 29) hk dX8_records_122 (by decide) ?_
              refine xj.le (ls' := [some (.ref (xw_ad v 21 0)), some (.int w), some (.int ((sm so k) + (so k))), some (.int ((sm (nz2 st) k) + (st k))), some (.int ((sm (ct2 st) k) + 1)), some (.int (gst st k)), some (.int (st k)), some (.int (nI (k + 1))), none]) (by simp [xl_le] <;> rfl) ?_
              refine xj.to (ls' := [some (.ref (xw_ad v 21 0)), some (.int w), some (.int (sm so (k + 1))), some (.int (sm (nz2 st) (k + 1))), some (.int (sm (ct2 st) (k + 1))), some (.int (gst st (k + 1))), some (.int (lst st (k + 1))), some (.int (nI (k + 1))), none]) (by simp only [sm, nz2, ct2, gst, lst]; rw [if_neg c76, if_neg c76]; (first | rw [if_neg (Int32.not_lt.mpr c94)] | rw [if_neg c94]); (rw [if_pos ⟨c76, Or.inr c112⟩])) (ih (k + 1) (by omega) (by omega))
        · refine xj_iload hk dX8_records_97 rfl ?_
          refine xj_istore (i := 5) (ls2 := [some (.ref (xw_ad v 21 0)), some (.int w), some (.int ((sm so k) + (so k))), some (.int ((sm (nz2 st) k) + (st k))), some (.int ((sm (ct2 st) k) + 1)), some (.int (st k)), some (.int (lst st k)), some (.int (nI k)), some (.int (st k))]) hk dX8_records_99 (by decide) rfl rfl ?_
          refine xj_iload hk dX8_records_101 rfl ?_
          refine xj_bipush (x := (-2)) hk dX8_records_103 (by decide) ?_
          refine xj_icmp_eq (tgt := 115) hk dX8_records_105 (by decide) (fun c105 => ?_) (fun c105 => ?_)
          · refine xj_iload hk dX8_records_115 rfl ?_
            refine xj_istore (i := 6) (ls2 := [some (.ref (xw_ad v 21 0)), some (.int w), some (.int ((sm so k) + (so k))), some (.int ((sm (nz2 st) k) + (st k))), some (.int ((sm (ct2 st) k) + 1)), some (.int (st k)), some (.int (st k)), some (.int (nI k)), some (.int (st k))]) hk dX8_records_117 (by decide) rfl rfl ?_
            refine xj_iinc (i := 7) (x2 := nI (k + 1)) (ls2 := [some (.ref (xw_ad v 21 0)), some (.int w), some (.int ((sm so k) + (so k))), some (.int ((sm (nz2 st) k) + (st k))), some (.int ((sm (ct2 st) k) + 1)), some (.int (st k)), some (.int (st k)), some (.int (nI (k + 1))), some (.int (st k))]) hk dX8_records_119 rfl (nI_1 k) (by decide) rfl rfl ?_
            refine xj_goto (tgt := 29) hk dX8_records_122 (by decide) ?_
            refine xj.le (ls' := [some (.ref (xw_ad v 21 0)), some (.int w), some (.int ((sm so k) + (so k))), some (.int ((sm (nz2 st) k) + (st k))), some (.int ((sm (ct2 st) k) + 1)), some (.int (st k)), some (.int (st k)), some (.int (nI (k + 1))), none]) (by simp [xl_le] <;> rfl) ?_
            refine xj.to (ls' := [some (.ref (xw_ad v 21 0)), some (.int w), some (.int (sm so (k + 1))), some (.int (sm (nz2 st) (k + 1))), some (.int (sm (ct2 st) (k + 1))), some (.int (gst st (k + 1))), some (.int (lst st (k + 1))), some (.int (nI (k + 1))), none]) (by simp only [sm, nz2, ct2, gst, lst]; rw [if_neg c76, if_neg c76]; (first | rw [if_pos (Int32.not_le.mp c94)] | rw [if_pos c94]); (rw [if_pos ⟨c76, Or.inl c105⟩])) (ih (k + 1) (by omega) (by omega))
          · refine xj_iload hk dX8_records_108 rfl ?_
            refine xj_iload hk dX8_records_110 rfl ?_
            refine xj_icmp_ge (tgt := 119) hk dX8_records_112 (by decide) (fun c112 => ?_) (fun c112 => ?_)
            · refine xj_iinc (i := 7) (x2 := nI (k + 1)) (ls2 := [some (.ref (xw_ad v 21 0)), some (.int w), some (.int ((sm so k) + (so k))), some (.int ((sm (nz2 st) k) + (st k))), some (.int ((sm (ct2 st) k) + 1)), some (.int (st k)), some (.int (lst st k)), some (.int (nI (k + 1))), some (.int (st k))]) hk dX8_records_119 rfl (nI_1 k) (by decide) rfl rfl ?_
              refine xj_goto (tgt := 29) hk dX8_records_122 (by decide) ?_
              refine xj.le (ls' := [some (.ref (xw_ad v 21 0)), some (.int w), some (.int ((sm so k) + (so k))), some (.int ((sm (nz2 st) k) + (st k))), some (.int ((sm (ct2 st) k) + 1)), some (.int (st k)), some (.int (lst st k)), some (.int (nI (k + 1))), none]) (by simp [xl_le] <;> rfl) ?_
              refine xj.to (ls' := [some (.ref (xw_ad v 21 0)), some (.int w), some (.int (sm so (k + 1))), some (.int (sm (nz2 st) (k + 1))), some (.int (sm (ct2 st) (k + 1))), some (.int (gst st (k + 1))), some (.int (lst st (k + 1))), some (.int (nI (k + 1))), none]) (by simp only [sm, nz2, ct2, gst, lst]; rw [if_neg c76, if_neg c76]; (first | rw [if_pos (Int32.not_le.mp c94)] | rw [if_pos c94]); (rw [if_neg (fun q => q.2.elim c105 (fun h => h c112))])) (ih (k + 1) (by omega) (by omega))
            · refine xj_iload hk dX8_records_115 rfl ?_
              refine xj_istore (i := 6) (ls2 := [some (.ref (xw_ad v 21 0)), some (.int w), some (.int ((sm so k) + (so k))), some (.int ((sm (nz2 st) k) + (st k))), some (.int ((sm (ct2 st) k) + 1)), some (.int (st k)), some (.int (st k)), some (.int (nI k)), some (.int (st k))]) hk dX8_records_117 (by decide) rfl rfl ?_
              refine xj_iinc (i := 7) (x2 := nI (k + 1)) (ls2 := [some (.ref (xw_ad v 21 0)), some (.int w), some (.int ((sm so k) + (so k))), some (.int ((sm (nz2 st) k) + (st k))), some (.int ((sm (ct2 st) k) + 1)), some (.int (st k)), some (.int (st k)), some (.int (nI (k + 1))), some (.int (st k))]) hk dX8_records_119 rfl (nI_1 k) (by decide) rfl rfl ?_
              refine xj_goto (tgt := 29) hk dX8_records_122 (by decide) ?_
              refine xj.le (ls' := [some (.ref (xw_ad v 21 0)), some (.int w), some (.int ((sm so k) + (so k))), some (.int ((sm (nz2 st) k) + (st k))), some (.int ((sm (ct2 st) k) + 1)), some (.int (st k)), some (.int (st k)), some (.int (nI (k + 1))), none]) (by simp [xl_le] <;> rfl) ?_
              refine xj.to (ls' := [some (.ref (xw_ad v 21 0)), some (.int w), some (.int (sm so (k + 1))), some (.int (sm (nz2 st) (k + 1))), some (.int (sm (ct2 st) (k + 1))), some (.int (gst st (k + 1))), some (.int (lst st (k + 1))), some (.int (nI (k + 1))), none]) (by simp only [sm, nz2, ct2, gst, lst]; rw [if_neg c76, if_neg c76]; (first | rw [if_pos (Int32.not_le.mp c94)] | rw [if_pos c94]); (rw [if_pos ⟨c76, Or.inr c112⟩])) (ih (k + 1) (by omega) (by omega))
      · refine xj_goto (tgt := 119) hk dX8_records_79 (by decide) ?_
        refine xj_iinc (i := 7) (x2 := nI (k + 1)) (ls2 := [some (.ref (xw_ad v 21 0)), some (.int w), some (.int ((sm so k) + (so k))), some (.int (sm (nz2 st) k)), some (.int (sm (ct2 st) k)), some (.int (gst st k)), some (.int (lst st k)), some (.int (nI (k + 1))), some (.int (st k))]) hk dX8_records_119 rfl (nI_1 k) (by decide) rfl rfl ?_
        refine xj_goto (tgt := 29) hk dX8_records_122 (by decide) ?_
        refine xj.le (ls' := [some (.ref (xw_ad v 21 0)), some (.int w), some (.int ((sm so k) + (so k))), some (.int (sm (nz2 st) k)), some (.int (sm (ct2 st) k)), some (.int (gst st k)), some (.int (lst st k)), some (.int (nI (k + 1))), none]) (by simp [xl_le] <;> rfl) ?_
        refine xj.to (ls' := [some (.ref (xw_ad v 21 0)), some (.int w), some (.int (sm so (k + 1))), some (.int (sm (nz2 st) (k + 1))), some (.int (sm (ct2 st) (k + 1))), some (.int (gst st (k + 1))), some (.int (lst st (k + 1))), some (.int (nI (k + 1))), none]) (by simp only [sm, nz2, ct2, gst, lst]; rw [if_pos c76, if_pos c76, if_neg (show ¬ gst st k < st k from fun q => by rw [c76] at q; exact absurd (gst_is (f := st) k).2.1 (Int32.not_le.mpr q)), if_neg (show ¬ (¬ st k = -2 ∧ (lst st k = -2 ∨ ¬ lst st k ≤ st k)) from fun q => q.1 c76), Int32.add_zero, Int32.add_zero]) (ih (k + 1) (by omega) (by omega))

set_option maxHeartbeats 1000000 in
set_option maxRecDepth 10000 in
theorem c_X8_records {v : xw_V} {G : xw_G} {M : md_T} {te ho ow hs ra lo st av so : Nat → Int32}  {n : Nat} {r : Nat} (hM : G 21 = pM v (md_th M) (nR te ho ow hs ra lo (nI n) st av so (nI r)) (md_pt M) (md_re M) (md_sd M) (md_be M) (md_pb M) (md_ac M) (md_od M) (md_ad M) (md_wy M) (md_so M) (md_rl M) (md_io M) (md_po M) (md_sp M) (md_rs M) (md_st M) (md_av M) (md_ip M) (md_tx M) (md_tm M) (md_ta M) (md_td M) (md_wo M) (md_sq M) (md_tk M) (md_bg M) (md_nu M) (md_wr M)) (hr8 : r ≤ 8) (w : Int32) : xk_Con v yX8_records cX8_records 9 (some .int) 1 22 [.ref (xw_ad v 21 0), .int w] G (fun r9 G' => r9 = some (.int (q_records (mBL te ho ow hs ra lo n st av so (md_pt M) r) r w)) ∧ mQ v G G' (nR te ho ow hs ra lo (nI n) st av so (nI r)) M) := by
  refine xk_of (ls0 := [some (.ref (xw_ad v 21 0)), some (.int w), none, none, none, none, none, none, none]) (by decide) rfl (Nat.le_of_ble_eq_true rfl) ?_
  intro κ z hk hz
  refine xj_iload_n (i := 1) hk dX8_records_0 rfl rfl ?_
  refine xj_iconst (x := 0) hk dX8_records_1 (by decide) ?_
  refine xj_iconst (x := 3) hk dX8_records_2 (by decide) ?_
  refine xj_callS hk hz (fr1 := 0) (lo1 := 0) (r1 := some (.int (xb (mIn w 0 3)))) (As := [.int w, .int 0, .int 3]) (st := []) (st2 := [.int (xb (mIn w 0 3))]) (G1 := G) ml_X8_69 (c_X8_in w 0 3) dX8_records_3 ⟨Nat.le_of_ble_eq_true rfl, Nat.le_of_ble_eq_true rfl⟩ rfl (Nat.le_of_ble_eq_true rfl) rfl rfl ?_
  refine xj_ifb_ne (tgt := 11) hk dX8_records_6 (by decide) (fun c6 => ?_) (fun c6 => ?_)
  · refine xj_iconst (x := 0) hk dX8_records_11 (by decide) ?_
    refine xj_istore_n (i := 2) (ls2 := [some (.ref (xw_ad v 21 0)), some (.int w), some (.int 0), none, none, none, none, none, none]) hk dX8_records_12 rfl (by decide) rfl rfl ?_
    refine xj_iconst (x := 0) hk dX8_records_13 (by decide) ?_
    refine xj_istore_n (i := 3) (ls2 := [some (.ref (xw_ad v 21 0)), some (.int w), some (.int 0), some (.int 0), none, none, none, none, none]) hk dX8_records_14 rfl (by decide) rfl rfl ?_
    refine xj_iconst (x := 0) hk dX8_records_15 (by decide) ?_
    refine xj_istore (i := 4) (ls2 := [some (.ref (xw_ad v 21 0)), some (.int w), some (.int 0), some (.int 0), some (.int 0), none, none, none, none]) hk dX8_records_16 (by decide) rfl rfl ?_
    refine xj_bipush (x := (-2)) hk dX8_records_18 (by decide) ?_
    refine xj_istore (i := 5) (ls2 := [some (.ref (xw_ad v 21 0)), some (.int w), some (.int 0), some (.int 0), some (.int 0), some (.int ((-2))), none, none, none]) hk dX8_records_20 (by decide) rfl rfl ?_
    refine xj_bipush (x := (-2)) hk dX8_records_22 (by decide) ?_
    refine xj_istore (i := 6) (ls2 := [some (.ref (xw_ad v 21 0)), some (.int w), some (.int 0), some (.int 0), some (.int 0), some (.int ((-2))), some (.int ((-2))), none, none]) hk dX8_records_24 (by decide) rfl rfl ?_
    refine xj_iconst (x := 0) hk dX8_records_26 (by decide) ?_
    refine xj_istore (i := 7) (ls2 := [some (.ref (xw_ad v 21 0)), some (.int w), some (.int 0), some (.int 0), some (.int 0), some (.int ((-2))), some (.int ((-2))), some (.int 0), none]) hk dX8_records_27 (by decide) rfl rfl ?_
    refine l_X8_records hk hz hM hr8 w ?_ (r + 1) 0 (by omega) (by omega)
    refine xj_iload_n (i := 1) hk dX8_records_125 rfl rfl ?_
    refine xj_if_ne (tgt := 133) hk dX8_records_126 (by decide) (fun c126 => ?_) (fun c126 => ?_)
    · refine xj_iload_n (i := 1) hk dX8_records_133 rfl rfl ?_
      refine xj_iconst (x := 2) hk dX8_records_134 (by decide) ?_
      refine xj_icmp_ne (tgt := 143) hk dX8_records_135 (by decide) (fun c135 => ?_) (fun c135 => ?_)
      · refine xj_iload_n (i := 1) hk dX8_records_143 rfl rfl ?_
        refine xj_iconst (x := 3) hk dX8_records_144 (by decide) ?_
        refine xj_icmp_ne (tgt := 153) hk dX8_records_145 (by decide) (fun c145 => ?_) (fun c145 => ?_)
        · refine xj_iload hk dX8_records_153 rfl ?_
          refine xj_if_ne (tgt := 163) hk dX8_records_155 (by decide) (fun c155 => ?_) (fun c155 => ?_)
          · refine xj_iload_n (i := 3) hk dX8_records_163 rfl rfl ?_
            refine xj_iload hk dX8_records_164 rfl ?_
            refine xj_idiv hk dX8_records_166 (by assumption) ?_
            refine xj_ireturn hk hz dX8_records_167 ?_
            refine ⟨?_, ⟨⟨M, hM, rfl, rfl, rfl, rfl, rfl, rfl, rfl⟩, fun _ _ => rfl⟩⟩
            · simp only [q_records]
              rw [show sm (bk_so (mBL te ho ow hs ra lo n st av so (md_pt M) r)) r = sm so r from sm_rev (f := so) r, show mst (bk_st (mBL te ho ow hs ra lo n st av so (md_pt M) r)) r = mst st r from mst_rev (f := st) r, show gst (bk_st (mBL te ho ow hs ra lo n st av so (md_pt M) r)) r = gst st r from gst_rev (f := st) r, show lst (bk_st (mBL te ho ow hs ra lo n st av so (md_pt M) r)) r = lst st r from lst_rev (f := st) r]
              have h1 : w = 1 := by rcases mIn3 c6 with h | h | h | h <;> first | contradiction | exact h
              rw [if_neg c126, if_pos h1]
              simp only [mst]
              obtain ⟨c9, e9, h9⟩ := ct_nn (f := st) r hr8
              first | (rw [c155, if_pos Int32.le_rfl]) | (rw [if_neg (fun q => c155 (Int32.le_antisymm q (by rw [e9]; exact Int32.not_lt.mp (nI_pos (by omega)))))])
          · refine xj_bipush (x := (-2)) hk dX8_records_158 (by decide) ?_
            refine xj_goto (tgt := 167) hk dX8_records_160 (by decide) ?_
            refine xj_ireturn hk hz dX8_records_167 ?_
            refine ⟨?_, ⟨⟨M, hM, rfl, rfl, rfl, rfl, rfl, rfl, rfl⟩, fun _ _ => rfl⟩⟩
            · simp only [q_records]
              rw [show sm (bk_so (mBL te ho ow hs ra lo n st av so (md_pt M) r)) r = sm so r from sm_rev (f := so) r, show mst (bk_st (mBL te ho ow hs ra lo n st av so (md_pt M) r)) r = mst st r from mst_rev (f := st) r, show gst (bk_st (mBL te ho ow hs ra lo n st av so (md_pt M) r)) r = gst st r from gst_rev (f := st) r, show lst (bk_st (mBL te ho ow hs ra lo n st av so (md_pt M) r)) r = lst st r from lst_rev (f := st) r]
              have h1 : w = 1 := by rcases mIn3 c6 with h | h | h | h <;> first | contradiction | exact h
              rw [if_neg c126, if_pos h1]
              simp only [mst]
              obtain ⟨c9, e9, h9⟩ := ct_nn (f := st) r hr8
              first | (rw [c155, if_pos Int32.le_rfl]) | (rw [if_neg (fun q => c155 (Int32.le_antisymm q (by rw [e9]; exact Int32.not_lt.mp (nI_pos (by omega)))))])
        · refine xj_iload hk dX8_records_148 rfl ?_
          refine xj_goto (tgt := 167) hk dX8_records_150 (by decide) ?_
          refine xj_ireturn hk hz dX8_records_167 ?_
          refine ⟨?_, ⟨⟨M, hM, rfl, rfl, rfl, rfl, rfl, rfl, rfl⟩, fun _ _ => rfl⟩⟩
          · simp only [q_records]
            rw [show sm (bk_so (mBL te ho ow hs ra lo n st av so (md_pt M) r)) r = sm so r from sm_rev (f := so) r, show mst (bk_st (mBL te ho ow hs ra lo n st av so (md_pt M) r)) r = mst st r from mst_rev (f := st) r, show gst (bk_st (mBL te ho ow hs ra lo n st av so (md_pt M) r)) r = gst st r from gst_rev (f := st) r, show lst (bk_st (mBL te ho ow hs ra lo n st av so (md_pt M) r)) r = lst st r from lst_rev (f := st) r]
            rw [if_neg c126, if_neg (fun q => by rw [c145] at q; exact absurd q (by decide)), if_neg c135, if_pos c145]
      · refine xj_iload hk dX8_records_138 rfl ?_
        refine xj_goto (tgt := 167) hk dX8_records_140 (by decide) ?_
        refine xj_ireturn hk hz dX8_records_167 ?_
        refine ⟨?_, ⟨⟨M, hM, rfl, rfl, rfl, rfl, rfl, rfl, rfl⟩, fun _ _ => rfl⟩⟩
        · simp only [q_records]
          rw [show sm (bk_so (mBL te ho ow hs ra lo n st av so (md_pt M) r)) r = sm so r from sm_rev (f := so) r, show mst (bk_st (mBL te ho ow hs ra lo n st av so (md_pt M) r)) r = mst st r from mst_rev (f := st) r, show gst (bk_st (mBL te ho ow hs ra lo n st av so (md_pt M) r)) r = gst st r from gst_rev (f := st) r, show lst (bk_st (mBL te ho ow hs ra lo n st av so (md_pt M) r)) r = lst st r from lst_rev (f := st) r]
          rw [if_neg c126, if_neg (fun q => by rw [c135] at q; exact absurd q (by decide)), if_pos c135]
    · refine xj_iload_n (i := 2) hk dX8_records_129 rfl rfl ?_
      refine xj_goto (tgt := 167) hk dX8_records_130 (by decide) ?_
      refine xj_ireturn hk hz dX8_records_167 ?_
      refine ⟨?_, ⟨⟨M, hM, rfl, rfl, rfl, rfl, rfl, rfl, rfl⟩, fun _ _ => rfl⟩⟩
      · simp only [q_records]
        rw [show sm (bk_so (mBL te ho ow hs ra lo n st av so (md_pt M) r)) r = sm so r from sm_rev (f := so) r, show mst (bk_st (mBL te ho ow hs ra lo n st av so (md_pt M) r)) r = mst st r from mst_rev (f := st) r, show gst (bk_st (mBL te ho ow hs ra lo n st av so (md_pt M) r)) r = gst st r from gst_rev (f := st) r, show lst (bk_st (mBL te ho ow hs ra lo n st av so (md_pt M) r)) r = lst st r from lst_rev (f := st) r]
        rw [if_pos c126]
  · refine xj_iconst (x := (-1)) hk dX8_records_9 (by decide) ?_
    refine xj_ireturn hk hz dX8_records_10 ?_
    refine ⟨?_, ⟨⟨M, hM, rfl, rfl, rfl, rfl, rfl, rfl, rfl⟩, fun _ _ => rfl⟩⟩
    · obtain ⟨u0, u1, u2, u3⟩ := mOut3 c6
      simp [q_records, u0, u1, u2, u3]


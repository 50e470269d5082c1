/-- the law's method, whatever its name -/
abbrev yLw (nm : String) : MethodName := ⟨RL, nm, "([I)Z"⟩
theorem LI_0 {v : xw_V} {G : xw_G} (h : LI v G) : G 0 = pc_X v := by
  obtain ⟨B, n, r, e, a, l, K, t, M, te, ho, ow, hs, ra, lo, st, av, so, hX, -⟩ := h
  obtain ⟨a1, a2, a3, a4, a5, a6, S, A, Q, rd, sw, b1, b2, g0, -⟩ := hX
  exact g0
theorem lgc (x : Int64) : lg_cmp x x = 0 := by simp [lg_cmp]
theorem sw_out48 {x : Int32} (h : ∀ k : Nat, k < 48 → ¬ x = nI k) : x.toInt < 0 ∨ 47 < x.toInt := by
  by_cases c : x < 0
  · exact Or.inl (by have := Int32.lt_iff_toInt_lt.mp c; simpa using this)
  · have h0 : 0 ≤ x := Int32.not_lt.mp c
    have e := nI_xn h0
    right
    have h1 : 0 ≤ x.toInt := by have := Int32.le_iff_toInt_le.mp h0; simpa using this
    rcases Nat.lt_or_ge (xn x) 48 with q | q
    · exact absurd e (h _ q)
    · have e2 : (xn x : Int) = x.toInt := by
        show ((x.toInt.toNat : Nat) : Int) = _
        exact Int.toNat_of_nonneg h1
      omega
theorem scr_gt {L i : Nat} (hL : L ≤ 3072) (hi : i ≤ 4000) : nI L - 6 < nI i ↔ L < i + 6 := by
  have a1 : (nI L).toInt = L := Int32.toInt_ofNat_of_lt (by omega)
  have a2 : (nI i).toInt = i := Int32.toInt_ofNat_of_lt (by omega)
  have a3 : (nI L - 6).toInt = (L : Int) - 6 := by
    rw [Int32.toInt_sub, a1, show (6 : Int32).toInt = 6 from by decide]
    exact Int.bmod_eq_of_le (by omega) (by omega)
  rw [Int32.lt_iff_toInt_lt, a3, a2]
  omega
set_option maxHeartbeats 1000000 in
set_option maxRecDepth 10000 in
theorem lc_0 {v : xw_V} {κ : xk_K} {post : Option Value → xw_G → Prop} {z : Nat × Nat × Nat} {G : xw_G} {nm : String} {b L i : Nat} {xs : Nat → Int32} (hk : xk_Ok v κ (yLw nm) cL_law 4 (some .boolean) 11 235) (hz : xk_zf κ = z) (hX : va_X b L xs (xk_s κ) (xk_s κ).heap) (hb : b < (xk_s κ).heap.size) (hbb : ¬ xk_b κ ≤ b) (hi : i + 6 ≤ L) (hL : L ≤ 3072) (hI : LI v G) (kx : ∀ G2 : xw_G, LI v G2 → xj v κ post z G2 1510 [some (.ref b), some (.ref (xw_ad v 0 0)), some (.ref (xw_ad v 21 0)), some (.int (nI i))] []) : xj v κ post z G 240 [some (.ref b), some (.ref (xw_ad v 0 0)), some (.ref (xw_ad v 21 0)), some (.int (nI i))] [] := by
  refine xj_aload_n (i := 1) hk dL_law_240 rfl rfl ?_
  refine xj_aload_n (i := 0) hk dL_law_241 rfl rfl ?_
  refine xj_iload_n (i := 3) hk dL_law_242 rfl rfl ?_
  refine xj_iconst (x := 1) hk dL_law_243 (by decide) ?_
  refine xj_iadd hk dL_law_244 ?_
  refine xj.eqi (x' := nI (i + 1)) (nI_add i 1) ?_
  refine xj_scld (k := i + 1) hk hX hb hbb (xi_n (by omega) (by omega)) dL_law_245 ?_
  refine xj_aload_n (i := 0) hk dL_law_246 rfl rfl ?_
  refine xj_iload_n (i := 3) hk dL_law_247 rfl rfl ?_
  refine xj_iconst (x := 2) hk dL_law_248 (by decide) ?_
  refine xj_iadd hk dL_law_249 ?_
  refine xj.eqi (x' := nI (i + 2)) (nI_add i 2) ?_
  refine xj_scld (k := i + 2) hk hX hb hbb (xi_n (by omega) (by omega)) dL_law_250 ?_
  refine xj_aload_n (i := 0) hk dL_law_251 rfl rfl ?_
  refine xj_iload_n (i := 3) hk dL_law_252 rfl rfl ?_
  refine xj_iconst (x := 3) hk dL_law_253 (by decide) ?_
  refine xj_iadd hk dL_law_254 ?_
  refine xj.eqi (x' := nI (i + 3)) (nI_add i 3) ?_
  refine xj_scld (k := i + 3) hk hX hb hbb (xi_n (by omega) (by omega)) dL_law_255 ?_
  refine xj_aload_n (i := 0) hk dL_law_256 rfl rfl ?_
  refine xj_iload_n (i := 3) hk dL_law_257 rfl rfl ?_
  refine xj_iconst (x := 4) hk dL_law_258 (by decide) ?_
  refine xj_iadd hk dL_law_259 ?_
  refine xj.eqi (x' := nI (i + 4)) (nI_add i 4) ?_
  refine xj_scld (k := i + 4) hk hX hb hbb (xi_n (by omega) (by omega)) dL_law_260 ?_
  refine xj_aload_n (i := 0) hk dL_law_261 rfl rfl ?_
  refine xj_iload_n (i := 3) hk dL_law_262 rfl rfl ?_
  refine xj_iconst (x := 5) hk dL_law_263 (by decide) ?_
  refine xj_iadd hk dL_law_264 ?_
  refine xj.eqi (x' := nI (i + 5)) (nI_add i 5) ?_
  refine xj_scld (k := i + 5) hk hX hb hbb (xi_n (by omega) (by omega)) dL_law_265 ?_
  refine xj_callVE hk hz (fr1 := 1) (lo1 := 22) (As := [.int (xs (i + 1)), .int (xs (i + 2)), .int (xs (i + 3)), .int (xs (i + 4)), .int (xs (i + 5))]) (st := []) ml_L_13 (p_feed hI (xs (i + 1)) (xs (i + 2)) (xs (i + 3)) (xs (i + 4)) (xs (i + 5))) (xw_at (LI_0 hI) rfl) rfl dL_law_266 ⟨Nat.le_of_ble_eq_true rfl, Nat.le_of_ble_eq_true rfl⟩ rfl (Nat.le_of_ble_eq_true rfl) rfl ?_
  rintro _ G1 ⟨x9, rfl, ⟨fs9, ho⟩, hm⟩
  show xj v κ post z G1 269 _ [.int x9]
  refine xj_aload_n (i := 2) hk dL_law_269 rfl rfl ?_
  refine xj_aload_n (i := 0) hk dL_law_270 rfl rfl ?_
  refine xj_iload_n (i := 3) hk dL_law_271 rfl rfl ?_
  refine xj_iconst (x := 1) hk dL_law_272 (by decide) ?_
  refine xj_iadd hk dL_law_273 ?_
  refine xj.eqi (x' := nI (i + 1)) (nI_add i 1) ?_
  refine xj_scld (k := i + 1) hk hX hb hbb (xi_n (by omega) (by omega)) dL_law_274 ?_
  refine xj_aload_n (i := 0) hk dL_law_275 rfl rfl ?_
  refine xj_iload_n (i := 3) hk dL_law_276 rfl rfl ?_
  refine xj_iconst (x := 2) hk dL_law_277 (by decide) ?_
  refine xj_iadd hk dL_law_278 ?_
  refine xj.eqi (x' := nI (i + 2)) (nI_add i 2) ?_
  refine xj_scld (k := i + 2) hk hX hb hbb (xi_n (by omega) (by omega)) dL_law_279 ?_
  refine xj_aload_n (i := 0) hk dL_law_280 rfl rfl ?_
  refine xj_iload_n (i := 3) hk dL_law_281 rfl rfl ?_
  refine xj_iconst (x := 3) hk dL_law_282 (by decide) ?_
  refine xj_iadd hk dL_law_283 ?_
  refine xj.eqi (x' := nI (i + 3)) (nI_add i 3) ?_
  refine xj_scld (k := i + 3) hk hX hb hbb (xi_n (by omega) (by omega)) dL_law_284 ?_
  refine xj_aload_n (i := 0) hk dL_law_285 rfl rfl ?_
  refine xj_iload_n (i := 3) hk dL_law_286 rfl rfl ?_
  refine xj_iconst (x := 4) hk dL_law_287 (by decide) ?_
  refine xj_iadd hk dL_law_288 ?_
  refine xj.eqi (x' := nI (i + 4)) (nI_add i 4) ?_
  refine xj_scld (k := i + 4) hk hX hb hbb (xi_n (by omega) (by omega)) dL_law_289 ?_
  refine xj_aload_n (i := 0) hk dL_law_290 rfl rfl ?_
  refine xj_iload_n (i := 3) hk dL_law_291 rfl rfl ?_
  refine xj_iconst (x := 5) hk dL_law_292 (by decide) ?_
  refine xj_iadd hk dL_law_293 ?_
  refine xj.eqi (x' := nI (i + 5)) (nI_add i 5) ?_
  refine xj_scld (k := i + 5) hk hX hb hbb (xi_n (by omega) (by omega)) dL_law_294 ?_
  refine xj_callVE hk hz (fr1 := 0) (lo1 := 0) (As := [.int (xs (i + 1)), .int (xs (i + 2)), .int (xs (i + 3)), .int (xs (i + 4)), .int (xs (i + 5))]) (st := [.int x9]) ml_L_17 hm ho rfl dL_law_295 ⟨Nat.le_of_ble_eq_true rfl, Nat.le_of_ble_eq_true rfl⟩ rfl (Nat.le_of_ble_eq_true rfl) rfl ?_
  rintro _ G2 ⟨rfl, hI2⟩
  show xj v κ post z G2 298 _ [.int x9, .int x9]
  refine xj_icmp_eq (tgt := 1510) hk dL_law_298 (by decide) (fun _ => kx G2 hI2) (fun c => absurd rfl c)
set_option maxHeartbeats 1000000 in
set_option maxRecDepth 10000 in
theorem lc_1 {v : xw_V} {κ : xk_K} {post : Option Value → xw_G → Prop} {z : Nat × Nat × Nat} {G : xw_G} {nm : String} {b L i : Nat} {xs : Nat → Int32} (hk : xk_Ok v κ (yLw nm) cL_law 4 (some .boolean) 11 235) (hz : xk_zf κ = z) (hX : va_X b L xs (xk_s κ) (xk_s κ).heap) (hb : b < (xk_s κ).heap.size) (hbb : ¬ xk_b κ ≤ b) (hi : i + 6 ≤ L) (hL : L ≤ 3072) (hI : LI v G) (kx : ∀ G2 : xw_G, LI v G2 → xj v κ post z G2 1510 [some (.ref b), some (.ref (xw_ad v 0 0)), some (.ref (xw_ad v 21 0)), some (.int (nI i))] []) : xj v κ post z G 303 [some (.ref b), some (.ref (xw_ad v 0 0)), some (.ref (xw_ad v 21 0)), some (.int (nI i))] [] := by
  refine xj_aload_n (i := 1) hk dL_law_303 rfl rfl ?_
  refine xj_aload_n (i := 0) hk dL_law_304 rfl rfl ?_
  refine xj_iload_n (i := 3) hk dL_law_305 rfl rfl ?_
  refine xj_iconst (x := 1) hk dL_law_306 (by decide) ?_
  refine xj_iadd hk dL_law_307 ?_
  refine xj.eqi (x' := nI (i + 1)) (nI_add i 1) ?_
  refine xj_scld (k := i + 1) hk hX hb hbb (xi_n (by omega) (by omega)) dL_law_308 ?_
  refine xj_callVE hk hz (fr1 := 0) (lo1 := 0) (As := [.int (xs (i + 1))]) (st := []) ml_L_18 (p_back hI (xs (i + 1))) (xw_at (LI_0 hI) rfl) rfl dL_law_309 ⟨Nat.le_of_ble_eq_true rfl, Nat.le_of_ble_eq_true rfl⟩ rfl (Nat.le_of_ble_eq_true rfl) rfl ?_
  rintro _ G1 ⟨x9, rfl, ⟨fs9, ho⟩, hm⟩
  show xj v κ post z G1 312 _ [.int x9]
  refine xj_aload_n (i := 2) hk dL_law_312 rfl rfl ?_
  refine xj_aload_n (i := 0) hk dL_law_313 rfl rfl ?_
  refine xj_iload_n (i := 3) hk dL_law_314 rfl rfl ?_
  refine xj_iconst (x := 1) hk dL_law_315 (by decide) ?_
  refine xj_iadd hk dL_law_316 ?_
  refine xj.eqi (x' := nI (i + 1)) (nI_add i 1) ?_
  refine xj_scld (k := i + 1) hk hX hb hbb (xi_n (by omega) (by omega)) dL_law_317 ?_
  refine xj_callVE hk hz (fr1 := 1) (lo1 := 22) (As := [.int (xs (i + 1))]) (st := [.int x9]) ml_L_22 hm ho rfl dL_law_318 ⟨Nat.le_of_ble_eq_true rfl, Nat.le_of_ble_eq_true rfl⟩ rfl (Nat.le_of_ble_eq_true rfl) rfl ?_
  rintro _ G2 ⟨rfl, hI2⟩
  show xj v κ post z G2 321 _ [.int x9, .int x9]
  refine xj_icmp_eq (tgt := 1510) hk dL_law_321 (by decide) (fun _ => kx G2 hI2) (fun c => absurd rfl c)
set_option maxHeartbeats 1000000 in
set_option maxRecDepth 10000 in
theorem lc_2 {v : xw_V} {κ : xk_K} {post : Option Value → xw_G → Prop} {z : Nat × Nat × Nat} {G : xw_G} {nm : String} {b L i : Nat} {xs : Nat → Int32} (hk : xk_Ok v κ (yLw nm) cL_law 4 (some .boolean) 11 235) (hz : xk_zf κ = z) (hX : va_X b L xs (xk_s κ) (xk_s κ).heap) (hb : b < (xk_s κ).heap.size) (hbb : ¬ xk_b κ ≤ b) (hi : i + 6 ≤ L) (hL : L ≤ 3072) (hI : LI v G) (kx : ∀ G2 : xw_G, LI v G2 → xj v κ post z G2 1510 [some (.ref b), some (.ref (xw_ad v 0 0)), some (.ref (xw_ad v 21 0)), some (.int (nI i))] []) : xj v κ post z G 326 [some (.ref b), some (.ref (xw_ad v 0 0)), some (.ref (xw_ad v 21 0)), some (.int (nI i))] [] := by
  refine xj_aload_n (i := 1) hk dL_law_326 rfl rfl ?_
  refine xj_callVE hk hz (fr1 := 10) (lo1 := 214) (As := []) (st := []) ml_L_23 (p_text hI) (xw_at (LI_0 hI) rfl) rfl dL_law_327 ⟨Nat.le_of_ble_eq_true rfl, Nat.le_of_ble_eq_true rfl⟩ rfl (Nat.le_of_ble_eq_true rfl) rfl ?_
  rintro _ G1 ⟨x9, rfl, ⟨fs9, ho⟩, hm⟩
  show xj v κ post z G1 330 _ [.int x9]
  refine xj_aload_n (i := 2) hk dL_law_330 rfl rfl ?_
  refine xj_callVE hk hz (fr1 := 6) (lo1 := 135) (As := []) (st := [.int x9]) ml_L_27 hm ho rfl dL_law_331 ⟨Nat.le_of_ble_eq_true rfl, Nat.le_of_ble_eq_true rfl⟩ rfl (Nat.le_of_ble_eq_true rfl) rfl ?_
  rintro _ G2 ⟨rfl, hI2⟩
  show xj v κ post z G2 334 _ [.int x9, .int x9]
  refine xj_icmp_eq (tgt := 1510) hk dL_law_334 (by decide) (fun _ => kx G2 hI2) (fun c => absurd rfl c)
set_option maxHeartbeats 1000000 in
set_option maxRecDepth 10000 in
theorem lc_3 {v : xw_V} {κ : xk_K} {post : Option Value → xw_G → Prop} {z : Nat × Nat × Nat} {G : xw_G} {nm : String} {b L i : Nat} {xs : Nat → Int32} (hk : xk_Ok v κ (yLw nm) cL_law 4 (some .boolean) 11 235) (hz : xk_zf κ = z) (hX : va_X b L xs (xk_s κ) (xk_s κ).heap) (hb : b < (xk_s κ).heap.size) (hbb : ¬ xk_b κ ≤ b) (hi : i + 6 ≤ L) (hL : L ≤ 3072) (hI : LI v G) (kx : ∀ G2 : xw_G, LI v G2 → xj v κ post z G2 1510 [some (.ref b), some (.ref (xw_ad v 0 0)), some (.ref (xw_ad v 21 0)), some (.int (nI i))] []) : xj v κ post z G 339 [some (.ref b), some (.ref (xw_ad v 0 0)), some (.ref (xw_ad v 21 0)), some (.int (nI i))] [] := by
  refine xj_aload_n (i := 1) hk dL_law_339 rfl rfl ?_
  refine xj_aload_n (i := 0) hk dL_law_340 rfl rfl ?_
  refine xj_iload_n (i := 3) hk dL_law_341 rfl rfl ?_
  refine xj_iconst (x := 1) hk dL_law_342 (by decide) ?_
  refine xj_iadd hk dL_law_343 ?_
  refine xj.eqi (x' := nI (i + 1)) (nI_add i 1) ?_
  refine xj_scld (k := i + 1) hk hX hb hbb (xi_n (by omega) (by omega)) dL_law_344 ?_
  refine xj_aload_n (i := 0) hk dL_law_345 rfl rfl ?_
  refine xj_iload_n (i := 3) hk dL_law_346 rfl rfl ?_
  refine xj_iconst (x := 2) hk dL_law_347 (by decide) ?_
  refine xj_iadd hk dL_law_348 ?_
  refine xj.eqi (x' := nI (i + 2)) (nI_add i 2) ?_
  refine xj_scld (k := i + 2) hk hX hb hbb (xi_n (by omega) (by omega)) dL_law_349 ?_
  refine xj_aload_n (i := 0) hk dL_law_350 rfl rfl ?_
  refine xj_iload_n (i := 3) hk dL_law_351 rfl rfl ?_
  refine xj_iconst (x := 3) hk dL_law_352 (by decide) ?_
  refine xj_iadd hk dL_law_353 ?_
  refine xj.eqi (x' := nI (i + 3)) (nI_add i 3) ?_
  refine xj_scld (k := i + 3) hk hX hb hbb (xi_n (by omega) (by omega)) dL_law_354 ?_
  refine xj_callVE hk hz (fr1 := 3) (lo1 := 66) (As := [.int (xs (i + 1)), .int (xs (i + 2)), .int (xs (i + 3))]) (st := []) ml_L_28 (p_bid hI (xs (i + 1)) (xs (i + 2)) (xs (i + 3))) (xw_at (LI_0 hI) rfl) rfl dL_law_355 ⟨Nat.le_of_ble_eq_true rfl, Nat.le_of_ble_eq_true rfl⟩ rfl (Nat.le_of_ble_eq_true rfl) rfl ?_
  rintro _ G1 ⟨x9, rfl, ⟨fs9, ho⟩, hm⟩
  show xj v κ post z G1 358 _ [.int x9]
  refine xj_aload_n (i := 2) hk dL_law_358 rfl rfl ?_
  refine xj_aload_n (i := 0) hk dL_law_359 rfl rfl ?_
  refine xj_iload_n (i := 3) hk dL_law_360 rfl rfl ?_
  refine xj_iconst (x := 1) hk dL_law_361 (by decide) ?_
  refine xj_iadd hk dL_law_362 ?_
  refine xj.eqi (x' := nI (i + 1)) (nI_add i 1) ?_
  refine xj_scld (k := i + 1) hk hX hb hbb (xi_n (by omega) (by omega)) dL_law_363 ?_
  refine xj_aload_n (i := 0) hk dL_law_364 rfl rfl ?_
  refine xj_iload_n (i := 3) hk dL_law_365 rfl rfl ?_
  refine xj_iconst (x := 2) hk dL_law_366 (by decide) ?_
  refine xj_iadd hk dL_law_367 ?_
  refine xj.eqi (x' := nI (i + 2)) (nI_add i 2) ?_
  refine xj_scld (k := i + 2) hk hX hb hbb (xi_n (by omega) (by omega)) dL_law_368 ?_
  refine xj_aload_n (i := 0) hk dL_law_369 rfl rfl ?_
  refine xj_iload_n (i := 3) hk dL_law_370 rfl rfl ?_
  refine xj_iconst (x := 3) hk dL_law_371 (by decide) ?_
  refine xj_iadd hk dL_law_372 ?_
  refine xj.eqi (x' := nI (i + 3)) (nI_add i 3) ?_
  refine xj_scld (k := i + 3) hk hX hb hbb (xi_n (by omega) (by omega)) dL_law_373 ?_
  refine xj_callVE hk hz (fr1 := 2) (lo1 := 42) (As := [.int (xs (i + 1)), .int (xs (i + 2)), .int (xs (i + 3))]) (st := [.int x9]) ml_L_32 hm ho rfl dL_law_374 ⟨Nat.le_of_ble_eq_true rfl, Nat.le_of_ble_eq_true rfl⟩ rfl (Nat.le_of_ble_eq_true rfl) rfl ?_
  rintro _ G2 ⟨rfl, hI2⟩
  show xj v κ post z G2 377 _ [.int x9, .int x9]
  refine xj_icmp_eq (tgt := 1510) hk dL_law_377 (by decide) (fun _ => kx G2 hI2) (fun c => absurd rfl c)
set_option maxHeartbeats 1000000 in
set_option maxRecDepth 10000 in
theorem lc_4 {v : xw_V} {κ : xk_K} {post : Option Value → xw_G → Prop} {z : Nat × Nat × Nat} {G : xw_G} {nm : String} {b L i : Nat} {xs : Nat → Int32} (hk : xk_Ok v κ (yLw nm) cL_law 4 (some .boolean) 11 235) (hz : xk_zf κ = z) (hX : va_X b L xs (xk_s κ) (xk_s κ).heap) (hb : b < (xk_s κ).heap.size) (hbb : ¬ xk_b κ ≤ b) (hi : i + 6 ≤ L) (hL : L ≤ 3072) (hI : LI v G) (kx : ∀ G2 : xw_G, LI v G2 → xj v κ post z G2 1510 [some (.ref b), some (.ref (xw_ad v 0 0)), some (.ref (xw_ad v 21 0)), some (.int (nI i))] []) : xj v κ post z G 382 [some (.ref b), some (.ref (xw_ad v 0 0)), some (.ref (xw_ad v 21 0)), some (.int (nI i))] [] := by
  refine xj_aload_n (i := 1) hk dL_law_382 rfl rfl ?_
  refine xj_aload_n (i := 0) hk dL_law_383 rfl rfl ?_
  refine xj_iload_n (i := 3) hk dL_law_384 rfl rfl ?_
  refine xj_iconst (x := 1) hk dL_law_385 (by decide) ?_
  refine xj_iadd hk dL_law_386 ?_
  refine xj.eqi (x' := nI (i + 1)) (nI_add i 1) ?_
  refine xj_scld (k := i + 1) hk hX hb hbb (xi_n (by omega) (by omega)) dL_law_387 ?_
  refine xj_callVE hk hz (fr1 := 3) (lo1 := 66) (As := [.int (xs (i + 1))]) (st := []) ml_L_33 (p_withdraw hI (xs (i + 1))) (xw_at (LI_0 hI) rfl) rfl dL_law_388 ⟨Nat.le_of_ble_eq_true rfl, Nat.le_of_ble_eq_true rfl⟩ rfl (Nat.le_of_ble_eq_true rfl) rfl ?_
  rintro _ G1 ⟨x9, rfl, ⟨fs9, ho⟩, hm⟩
  show xj v κ post z G1 391 _ [.int x9]
  refine xj_aload_n (i := 2) hk dL_law_391 rfl rfl ?_
  refine xj_aload_n (i := 0) hk dL_law_392 rfl rfl ?_
  refine xj_iload_n (i := 3) hk dL_law_393 rfl rfl ?_
  refine xj_iconst (x := 1) hk dL_law_394 (by decide) ?_
  refine xj_iadd hk dL_law_395 ?_
  refine xj.eqi (x' := nI (i + 1)) (nI_add i 1) ?_
  refine xj_scld (k := i + 1) hk hX hb hbb (xi_n (by omega) (by omega)) dL_law_396 ?_
  refine xj_callVE hk hz (fr1 := 3) (lo1 := 68) (As := [.int (xs (i + 1))]) (st := [.int x9]) ml_L_37 hm ho rfl dL_law_397 ⟨Nat.le_of_ble_eq_true rfl, Nat.le_of_ble_eq_true rfl⟩ rfl (Nat.le_of_ble_eq_true rfl) rfl ?_
  rintro _ G2 ⟨rfl, hI2⟩
  show xj v κ post z G2 400 _ [.int x9, .int x9]
  refine xj_icmp_eq (tgt := 1510) hk dL_law_400 (by decide) (fun _ => kx G2 hI2) (fun c => absurd rfl c)
set_option maxHeartbeats 1000000 in
set_option maxRecDepth 10000 in
theorem lc_5 {v : xw_V} {κ : xk_K} {post : Option Value → xw_G → Prop} {z : Nat × Nat × Nat} {G : xw_G} {nm : String} {b L i : Nat} {xs : Nat → Int32} (hk : xk_Ok v κ (yLw nm) cL_law 4 (some .boolean) 11 235) (hz : xk_zf κ = z) (hX : va_X b L xs (xk_s κ) (xk_s κ).heap) (hb : b < (xk_s κ).heap.size) (hbb : ¬ xk_b κ ≤ b) (hi : i + 6 ≤ L) (hL : L ≤ 3072) (hI : LI v G) (kx : ∀ G2 : xw_G, LI v G2 → xj v κ post z G2 1510 [some (.ref b), some (.ref (xw_ad v 0 0)), some (.ref (xw_ad v 21 0)), some (.int (nI i))] []) : xj v κ post z G 405 [some (.ref b), some (.ref (xw_ad v 0 0)), some (.ref (xw_ad v 21 0)), some (.int (nI i))] [] := by
  refine xj_aload_n (i := 1) hk dL_law_405 rfl rfl ?_
  refine xj_aload_n (i := 0) hk dL_law_406 rfl rfl ?_
  refine xj_iload_n (i := 3) hk dL_law_407 rfl rfl ?_
  refine xj_iconst (x := 1) hk dL_law_408 (by decide) ?_
  refine xj_iadd hk dL_law_409 ?_
  refine xj.eqi (x' := nI (i + 1)) (nI_add i 1) ?_
  refine xj_scld (k := i + 1) hk hX hb hbb (xi_n (by omega) (by omega)) dL_law_410 ?_
  refine xj_aload_n (i := 0) hk dL_law_411 rfl rfl ?_
  refine xj_iload_n (i := 3) hk dL_law_412 rfl rfl ?_
  refine xj_iconst (x := 2) hk dL_law_413 (by decide) ?_
  refine xj_iadd hk dL_law_414 ?_
  refine xj.eqi (x' := nI (i + 2)) (nI_add i 2) ?_
  refine xj_scld (k := i + 2) hk hX hb hbb (xi_n (by omega) (by omega)) dL_law_415 ?_
  refine xj_aload_n (i := 0) hk dL_law_416 rfl rfl ?_
  refine xj_iload_n (i := 3) hk dL_law_417 rfl rfl ?_
  refine xj_iconst (x := 3) hk dL_law_418 (by decide) ?_
  refine xj_iadd hk dL_law_419 ?_
  refine xj.eqi (x' := nI (i + 3)) (nI_add i 3) ?_
  refine xj_scld (k := i + 3) hk hX hb hbb (xi_n (by omega) (by omega)) dL_law_420 ?_
  refine xj_callVE hk hz (fr1 := 4) (lo1 := 89) (As := [.int (xs (i + 1)), .int (xs (i + 2)), .int (xs (i + 3))]) (st := []) ml_L_38 (p_change hI (xs (i + 1)) (xs (i + 2)) (xs (i + 3))) (xw_at (LI_0 hI) rfl) rfl dL_law_421 ⟨Nat.le_of_ble_eq_true rfl, Nat.le_of_ble_eq_true rfl⟩ rfl (Nat.le_of_ble_eq_true rfl) rfl ?_
  rintro _ G1 ⟨x9, rfl, ⟨fs9, ho⟩, hm⟩
  show xj v κ post z G1 424 _ [.int x9]
  refine xj_aload_n (i := 2) hk dL_law_424 rfl rfl ?_
  refine xj_aload_n (i := 0) hk dL_law_425 rfl rfl ?_
  refine xj_iload_n (i := 3) hk dL_law_426 rfl rfl ?_
  refine xj_iconst (x := 1) hk dL_law_427 (by decide) ?_
  refine xj_iadd hk dL_law_428 ?_
  refine xj.eqi (x' := nI (i + 1)) (nI_add i 1) ?_
  refine xj_scld (k := i + 1) hk hX hb hbb (xi_n (by omega) (by omega)) dL_law_429 ?_
  refine xj_aload_n (i := 0) hk dL_law_430 rfl rfl ?_
  refine xj_iload_n (i := 3) hk dL_law_431 rfl rfl ?_
  refine xj_iconst (x := 2) hk dL_law_432 (by decide) ?_
  refine xj_iadd hk dL_law_433 ?_
  refine xj.eqi (x' := nI (i + 2)) (nI_add i 2) ?_
  refine xj_scld (k := i + 2) hk hX hb hbb (xi_n (by omega) (by omega)) dL_law_434 ?_
  refine xj_aload_n (i := 0) hk dL_law_435 rfl rfl ?_
  refine xj_iload_n (i := 3) hk dL_law_436 rfl rfl ?_
  refine xj_iconst (x := 3) hk dL_law_437 (by decide) ?_
  refine xj_iadd hk dL_law_438 ?_
  refine xj.eqi (x' := nI (i + 3)) (nI_add i 3) ?_
  refine xj_scld (k := i + 3) hk hX hb hbb (xi_n (by omega) (by omega)) dL_law_439 ?_
  refine xj_callVE hk hz (fr1 := 2) (lo1 := 44) (As := [.int (xs (i + 1)), .int (xs (i + 2)), .int (xs (i + 3))]) (st := [.int x9]) ml_L_41 hm ho rfl dL_law_440 ⟨Nat.le_of_ble_eq_true rfl, Nat.le_of_ble_eq_true rfl⟩ rfl (Nat.le_of_ble_eq_true rfl) rfl ?_
  rintro _ G2 ⟨rfl, hI2⟩
  show xj v κ post z G2 443 _ [.int x9, .int x9]
  refine xj_icmp_eq (tgt := 1510) hk dL_law_443 (by decide) (fun _ => kx G2 hI2) (fun c => absurd rfl c)
set_option maxHeartbeats 1000000 in
set_option maxRecDepth 10000 in
theorem lc_6 {v : xw_V} {κ : xk_K} {post : Option Value → xw_G → Prop} {z : Nat × Nat × Nat} {G : xw_G} {nm : String} {b L i : Nat} {xs : Nat → Int32} (hk : xk_Ok v κ (yLw nm) cL_law 4 (some .boolean) 11 235) (hz : xk_zf κ = z) (hX : va_X b L xs (xk_s κ) (xk_s κ).heap) (hb : b < (xk_s κ).heap.size) (hbb : ¬ xk_b κ ≤ b) (hi : i + 6 ≤ L) (hL : L ≤ 3072) (hI : LI v G) (kx : ∀ G2 : xw_G, LI v G2 → xj v κ post z G2 1510 [some (.ref b), some (.ref (xw_ad v 0 0)), some (.ref (xw_ad v 21 0)), some (.int (nI i))] []) : xj v κ post z G 448 [some (.ref b), some (.ref (xw_ad v 0 0)), some (.ref (xw_ad v 21 0)), some (.int (nI i))] [] := by
  refine xj_aload_n (i := 1) hk dL_law_448 rfl rfl ?_
  refine xj_aload_n (i := 0) hk dL_law_449 rfl rfl ?_
  refine xj_iload_n (i := 3) hk dL_law_450 rfl rfl ?_
  refine xj_iconst (x := 1) hk dL_law_451 (by decide) ?_
  refine xj_iadd hk dL_law_452 ?_
  refine xj.eqi (x' := nI (i + 1)) (nI_add i 1) ?_
  refine xj_scld (k := i + 1) hk hX hb hbb (xi_n (by omega) (by omega)) dL_law_453 ?_
  refine xj_aload_n (i := 0) hk dL_law_454 rfl rfl ?_
  refine xj_iload_n (i := 3) hk dL_law_455 rfl rfl ?_
  refine xj_iconst (x := 2) hk dL_law_456 (by decide) ?_
  refine xj_iadd hk dL_law_457 ?_
  refine xj.eqi (x' := nI (i + 2)) (nI_add i 2) ?_
  refine xj_scld (k := i + 2) hk hX hb hbb (xi_n (by omega) (by omega)) dL_law_458 ?_
  refine xj_callVE hk hz (fr1 := 3) (lo1 := 66) (As := [.int (xs (i + 1)), .int (xs (i + 2))]) (st := []) ml_L_42 (p_term hI (xs (i + 1)) (xs (i + 2))) (xw_at (LI_0 hI) rfl) rfl dL_law_459 ⟨Nat.le_of_ble_eq_true rfl, Nat.le_of_ble_eq_true rfl⟩ rfl (Nat.le_of_ble_eq_true rfl) rfl ?_
  rintro _ G1 ⟨x9, rfl, ⟨fs9, ho⟩, hm⟩
  show xj v κ post z G1 462 _ [.int x9]
  refine xj_aload_n (i := 2) hk dL_law_462 rfl rfl ?_
  refine xj_aload_n (i := 0) hk dL_law_463 rfl rfl ?_
  refine xj_iload_n (i := 3) hk dL_law_464 rfl rfl ?_
  refine xj_iconst (x := 1) hk dL_law_465 (by decide) ?_
  refine xj_iadd hk dL_law_466 ?_
  refine xj.eqi (x' := nI (i + 1)) (nI_add i 1) ?_
  refine xj_scld (k := i + 1) hk hX hb hbb (xi_n (by omega) (by omega)) dL_law_467 ?_
  refine xj_aload_n (i := 0) hk dL_law_468 rfl rfl ?_
  refine xj_iload_n (i := 3) hk dL_law_469 rfl rfl ?_
  refine xj_iconst (x := 2) hk dL_law_470 (by decide) ?_
  refine xj_iadd hk dL_law_471 ?_
  refine xj.eqi (x' := nI (i + 2)) (nI_add i 2) ?_
  refine xj_scld (k := i + 2) hk hX hb hbb (xi_n (by omega) (by omega)) dL_law_472 ?_
  refine xj_callVE hk hz (fr1 := 2) (lo1 := 44) (As := [.int (xs (i + 1)), .int (xs (i + 2))]) (st := [.int x9]) ml_L_46 hm ho rfl dL_law_473 ⟨Nat.le_of_ble_eq_true rfl, Nat.le_of_ble_eq_true rfl⟩ rfl (Nat.le_of_ble_eq_true rfl) rfl ?_
  rintro _ G2 ⟨rfl, hI2⟩
  show xj v κ post z G2 476 _ [.int x9, .int x9]
  refine xj_icmp_eq (tgt := 1510) hk dL_law_476 (by decide) (fun _ => kx G2 hI2) (fun c => absurd rfl c)
set_option maxHeartbeats 1000000 in
set_option maxRecDepth 10000 in
theorem lc_7 {v : xw_V} {κ : xk_K} {post : Option Value → xw_G → Prop} {z : Nat × Nat × Nat} {G : xw_G} {nm : String} {b L i : Nat} {xs : Nat → Int32} (hk : xk_Ok v κ (yLw nm) cL_law 4 (some .boolean) 11 235) (hz : xk_zf κ = z) (hX : va_X b L xs (xk_s κ) (xk_s κ).heap) (hb : b < (xk_s κ).heap.size) (hbb : ¬ xk_b κ ≤ b) (hi : i + 6 ≤ L) (hL : L ≤ 3072) (hI : LI v G) (kx : ∀ G2 : xw_G, LI v G2 → xj v κ post z G2 1510 [some (.ref b), some (.ref (xw_ad v 0 0)), some (.ref (xw_ad v 21 0)), some (.int (nI i))] []) : xj v κ post z G 481 [some (.ref b), some (.ref (xw_ad v 0 0)), some (.ref (xw_ad v 21 0)), some (.int (nI i))] [] := by
  refine xj_aload_n (i := 1) hk dL_law_481 rfl rfl ?_
  refine xj_aload_n (i := 0) hk dL_law_482 rfl rfl ?_
  refine xj_iload_n (i := 3) hk dL_law_483 rfl rfl ?_
  refine xj_iconst (x := 1) hk dL_law_484 (by decide) ?_
  refine xj_iadd hk dL_law_485 ?_
  refine xj.eqi (x' := nI (i + 1)) (nI_add i 1) ?_
  refine xj_scld (k := i + 1) hk hX hb hbb (xi_n (by omega) (by omega)) dL_law_486 ?_
  refine xj_aload_n (i := 0) hk dL_law_487 rfl rfl ?_
  refine xj_iload_n (i := 3) hk dL_law_488 rfl rfl ?_
  refine xj_iconst (x := 2) hk dL_law_489 (by decide) ?_
  refine xj_iadd hk dL_law_490 ?_
  refine xj.eqi (x' := nI (i + 2)) (nI_add i 2) ?_
  refine xj_scld (k := i + 2) hk hX hb hbb (xi_n (by omega) (by omega)) dL_law_491 ?_
  refine xj_callVE hk hz (fr1 := 3) (lo1 := 66) (As := [.int (xs (i + 1)), .int (xs (i + 2))]) (st := []) ml_L_47 (p_own hI (xs (i + 1)) (xs (i + 2))) (xw_at (LI_0 hI) rfl) rfl dL_law_492 ⟨Nat.le_of_ble_eq_true rfl, Nat.le_of_ble_eq_true rfl⟩ rfl (Nat.le_of_ble_eq_true rfl) rfl ?_
  rintro _ G1 ⟨x9, rfl, ⟨fs9, ho⟩, hm⟩
  show xj v κ post z G1 495 _ [.int x9]
  refine xj_aload_n (i := 2) hk dL_law_495 rfl rfl ?_
  refine xj_aload_n (i := 0) hk dL_law_496 rfl rfl ?_
  refine xj_iload_n (i := 3) hk dL_law_497 rfl rfl ?_
  refine xj_iconst (x := 1) hk dL_law_498 (by decide) ?_
  refine xj_iadd hk dL_law_499 ?_
  refine xj.eqi (x' := nI (i + 1)) (nI_add i 1) ?_
  refine xj_scld (k := i + 1) hk hX hb hbb (xi_n (by omega) (by omega)) dL_law_500 ?_
  refine xj_aload_n (i := 0) hk dL_law_501 rfl rfl ?_
  refine xj_iload_n (i := 3) hk dL_law_502 rfl rfl ?_
  refine xj_iconst (x := 2) hk dL_law_503 (by decide) ?_
  refine xj_iadd hk dL_law_504 ?_
  refine xj.eqi (x' := nI (i + 2)) (nI_add i 2) ?_
  refine xj_scld (k := i + 2) hk hX hb hbb (xi_n (by omega) (by omega)) dL_law_505 ?_
  refine xj_callVE hk hz (fr1 := 2) (lo1 := 44) (As := [.int (xs (i + 1)), .int (xs (i + 2))]) (st := [.int x9]) ml_L_50 hm ho rfl dL_law_506 ⟨Nat.le_of_ble_eq_true rfl, Nat.le_of_ble_eq_true rfl⟩ rfl (Nat.le_of_ble_eq_true rfl) rfl ?_
  rintro _ G2 ⟨rfl, hI2⟩
  show xj v κ post z G2 509 _ [.int x9, .int x9]
  refine xj_icmp_eq (tgt := 1510) hk dL_law_509 (by decide) (fun _ => kx G2 hI2) (fun c => absurd rfl c)
set_option maxHeartbeats 1000000 in
set_option maxRecDepth 10000 in
theorem lc_8 {v : xw_V} {κ : xk_K} {post : Option Value → xw_G → Prop} {z : Nat × Nat × Nat} {G : xw_G} {nm : String} {b L i : Nat} {xs : Nat → Int32} (hk : xk_Ok v κ (yLw nm) cL_law 4 (some .boolean) 11 235) (hz : xk_zf κ = z) (hX : va_X b L xs (xk_s κ) (xk_s κ).heap) (hb : b < (xk_s κ).heap.size) (hbb : ¬ xk_b κ ≤ b) (hi : i + 6 ≤ L) (hL : L ≤ 3072) (hI : LI v G) (kx : ∀ G2 : xw_G, LI v G2 → xj v κ post z G2 1510 [some (.ref b), some (.ref (xw_ad v 0 0)), some (.ref (xw_ad v 21 0)), some (.int (nI i))] []) : xj v κ post z G 514 [some (.ref b), some (.ref (xw_ad v 0 0)), some (.ref (xw_ad v 21 0)), some (.int (nI i))] [] := by
  refine xj_aload_n (i := 1) hk dL_law_514 rfl rfl ?_
  refine xj_aload_n (i := 0) hk dL_law_515 rfl rfl ?_
  refine xj_iload_n (i := 3) hk dL_law_516 rfl rfl ?_
  refine xj_iconst (x := 1) hk dL_law_517 (by decide) ?_
  refine xj_iadd hk dL_law_518 ?_
  refine xj.eqi (x' := nI (i + 1)) (nI_add i 1) ?_
  refine xj_scld (k := i + 1) hk hX hb hbb (xi_n (by omega) (by omega)) dL_law_519 ?_
  refine xj_aload_n (i := 0) hk dL_law_520 rfl rfl ?_
  refine xj_iload_n (i := 3) hk dL_law_521 rfl rfl ?_
  refine xj_iconst (x := 2) hk dL_law_522 (by decide) ?_
  refine xj_iadd hk dL_law_523 ?_
  refine xj.eqi (x' := nI (i + 2)) (nI_add i 2) ?_
  refine xj_scld (k := i + 2) hk hX hb hbb (xi_n (by omega) (by omega)) dL_law_524 ?_
  refine xj_callVE hk hz (fr1 := 3) (lo1 := 66) (As := [.int (xs (i + 1)), .int (xs (i + 2))]) (st := []) ml_L_51 (p_split hI (xs (i + 1)) (xs (i + 2))) (xw_at (LI_0 hI) rfl) rfl dL_law_525 ⟨Nat.le_of_ble_eq_true rfl, Nat.le_of_ble_eq_true rfl⟩ rfl (Nat.le_of_ble_eq_true rfl) rfl ?_
  rintro _ G1 ⟨x9, rfl, ⟨fs9, ho⟩, hm⟩
  show xj v κ post z G1 528 _ [.int x9]
  refine xj_aload_n (i := 2) hk dL_law_528 rfl rfl ?_
  refine xj_aload_n (i := 0) hk dL_law_529 rfl rfl ?_
  refine xj_iload_n (i := 3) hk dL_law_530 rfl rfl ?_
  refine xj_iconst (x := 1) hk dL_law_531 (by decide) ?_
  refine xj_iadd hk dL_law_532 ?_
  refine xj.eqi (x' := nI (i + 1)) (nI_add i 1) ?_
  refine xj_scld (k := i + 1) hk hX hb hbb (xi_n (by omega) (by omega)) dL_law_533 ?_
  refine xj_aload_n (i := 0) hk dL_law_534 rfl rfl ?_
  refine xj_iload_n (i := 3) hk dL_law_535 rfl rfl ?_
  refine xj_iconst (x := 2) hk dL_law_536 (by decide) ?_
  refine xj_iadd hk dL_law_537 ?_
  refine xj.eqi (x' := nI (i + 2)) (nI_add i 2) ?_
  refine xj_scld (k := i + 2) hk hX hb hbb (xi_n (by omega) (by omega)) dL_law_538 ?_
  refine xj_callVE hk hz (fr1 := 3) (lo1 := 68) (As := [.int (xs (i + 1)), .int (xs (i + 2))]) (st := [.int x9]) ml_L_55 hm ho rfl dL_law_539 ⟨Nat.le_of_ble_eq_true rfl, Nat.le_of_ble_eq_true rfl⟩ rfl (Nat.le_of_ble_eq_true rfl) rfl ?_
  rintro _ G2 ⟨rfl, hI2⟩
  show xj v κ post z G2 542 _ [.int x9, .int x9]
  refine xj_icmp_eq (tgt := 1510) hk dL_law_542 (by decide) (fun _ => kx G2 hI2) (fun c => absurd rfl c)
set_option maxHeartbeats 1000000 in
set_option maxRecDepth 10000 in
theorem lc_9 {v : xw_V} {κ : xk_K} {post : Option Value → xw_G → Prop} {z : Nat × Nat × Nat} {G : xw_G} {nm : String} {b L i : Nat} {xs : Nat → Int32} (hk : xk_Ok v κ (yLw nm) cL_law 4 (some .boolean) 11 235) (hz : xk_zf κ = z) (hX : va_X b L xs (xk_s κ) (xk_s κ).heap) (hb : b < (xk_s κ).heap.size) (hbb : ¬ xk_b κ ≤ b) (hi : i + 6 ≤ L) (hL : L ≤ 3072) (hI : LI v G) (kx : ∀ G2 : xw_G, LI v G2 → xj v κ post z G2 1510 [some (.ref b), some (.ref (xw_ad v 0 0)), some (.ref (xw_ad v 21 0)), some (.int (nI i))] []) : xj v κ post z G 547 [some (.ref b), some (.ref (xw_ad v 0 0)), some (.ref (xw_ad v 21 0)), some (.int (nI i))] [] := by
  refine xj_aload_n (i := 1) hk dL_law_547 rfl rfl ?_
  refine xj_aload_n (i := 0) hk dL_law_548 rfl rfl ?_
  refine xj_iload_n (i := 3) hk dL_law_549 rfl rfl ?_
  refine xj_iconst (x := 1) hk dL_law_550 (by decide) ?_
  refine xj_iadd hk dL_law_551 ?_
  refine xj.eqi (x' := nI (i + 1)) (nI_add i 1) ?_
  refine xj_scld (k := i + 1) hk hX hb hbb (xi_n (by omega) (by omega)) dL_law_552 ?_
  refine xj_callVE hk hz (fr1 := 3) (lo1 := 66) (As := [.int (xs (i + 1))]) (st := []) ml_L_56 (p_merge hI (xs (i + 1))) (xw_at (LI_0 hI) rfl) rfl dL_law_553 ⟨Nat.le_of_ble_eq_true rfl, Nat.le_of_ble_eq_true rfl⟩ rfl (Nat.le_of_ble_eq_true rfl) rfl ?_
  rintro _ G1 ⟨x9, rfl, ⟨fs9, ho⟩, hm⟩
  show xj v κ post z G1 556 _ [.int x9]
  refine xj_aload_n (i := 2) hk dL_law_556 rfl rfl ?_
  refine xj_aload_n (i := 0) hk dL_law_557 rfl rfl ?_
  refine xj_iload_n (i := 3) hk dL_law_558 rfl rfl ?_
  refine xj_iconst (x := 1) hk dL_law_559 (by decide) ?_
  refine xj_iadd hk dL_law_560 ?_
  refine xj.eqi (x' := nI (i + 1)) (nI_add i 1) ?_
  refine xj_scld (k := i + 1) hk hX hb hbb (xi_n (by omega) (by omega)) dL_law_561 ?_
  refine xj_callVE hk hz (fr1 := 3) (lo1 := 68) (As := [.int (xs (i + 1))]) (st := [.int x9]) ml_L_59 hm ho rfl dL_law_562 ⟨Nat.le_of_ble_eq_true rfl, Nat.le_of_ble_eq_true rfl⟩ rfl (Nat.le_of_ble_eq_true rfl) rfl ?_
  rintro _ G2 ⟨rfl, hI2⟩
  show xj v κ post z G2 565 _ [.int x9, .int x9]
  refine xj_icmp_eq (tgt := 1510) hk dL_law_565 (by decide) (fun _ => kx G2 hI2) (fun c => absurd rfl c)
set_option maxHeartbeats 1000000 in
set_option maxRecDepth 10000 in
theorem lc_10 {v : xw_V} {κ : xk_K} {post : Option Value → xw_G → Prop} {z : Nat × Nat × Nat} {G : xw_G} {nm : String} {b L i : Nat} {xs : Nat → Int32} (hk : xk_Ok v κ (yLw nm) cL_law 4 (some .boolean) 11 235) (hz : xk_zf κ = z) (hX : va_X b L xs (xk_s κ) (xk_s κ).heap) (hb : b < (xk_s κ).heap.size) (hbb : ¬ xk_b κ ≤ b) (hi : i + 6 ≤ L) (hL : L ≤ 3072) (hI : LI v G) (kx : ∀ G2 : xw_G, LI v G2 → xj v κ post z G2 1510 [some (.ref b), some (.ref (xw_ad v 0 0)), some (.ref (xw_ad v 21 0)), some (.int (nI i))] []) : xj v κ post z G 570 [some (.ref b), some (.ref (xw_ad v 0 0)), some (.ref (xw_ad v 21 0)), some (.int (nI i))] [] := by
  refine xj_aload_n (i := 1) hk dL_law_570 rfl rfl ?_
  refine xj_aload_n (i := 0) hk dL_law_571 rfl rfl ?_
  refine xj_iload_n (i := 3) hk dL_law_572 rfl rfl ?_
  refine xj_iconst (x := 1) hk dL_law_573 (by decide) ?_
  refine xj_iadd hk dL_law_574 ?_
  refine xj.eqi (x' := nI (i + 1)) (nI_add i 1) ?_
  refine xj_scld (k := i + 1) hk hX hb hbb (xi_n (by omega) (by omega)) dL_law_575 ?_
  refine xj_aload_n (i := 0) hk dL_law_576 rfl rfl ?_
  refine xj_iload_n (i := 3) hk dL_law_577 rfl rfl ?_
  refine xj_iconst (x := 2) hk dL_law_578 (by decide) ?_
  refine xj_iadd hk dL_law_579 ?_
  refine xj.eqi (x' := nI (i + 2)) (nI_add i 2) ?_
  refine xj_scld (k := i + 2) hk hX hb hbb (xi_n (by omega) (by omega)) dL_law_580 ?_
  refine xj_callVE hk hz (fr1 := 3) (lo1 := 66) (As := [.int (xs (i + 1)), .int (xs (i + 2))]) (st := []) ml_L_60 (p_move hI (xs (i + 1)) (xs (i + 2))) (xw_at (LI_0 hI) rfl) rfl dL_law_581 ⟨Nat.le_of_ble_eq_true rfl, Nat.le_of_ble_eq_true rfl⟩ rfl (Nat.le_of_ble_eq_true rfl) rfl ?_
  rintro _ G1 ⟨x9, rfl, ⟨fs9, ho⟩, hm⟩
  show xj v κ post z G1 584 _ [.int x9]
  refine xj_aload_n (i := 2) hk dL_law_584 rfl rfl ?_
  refine xj_aload_n (i := 0) hk dL_law_585 rfl rfl ?_
  refine xj_iload_n (i := 3) hk dL_law_586 rfl rfl ?_
  refine xj_iconst (x := 1) hk dL_law_587 (by decide) ?_
  refine xj_iadd hk dL_law_588 ?_
  refine xj.eqi (x' := nI (i + 1)) (nI_add i 1) ?_
  refine xj_scld (k := i + 1) hk hX hb hbb (xi_n (by omega) (by omega)) dL_law_589 ?_
  refine xj_aload_n (i := 0) hk dL_law_590 rfl rfl ?_
  refine xj_iload_n (i := 3) hk dL_law_591 rfl rfl ?_
  refine xj_iconst (x := 2) hk dL_law_592 (by decide) ?_
  refine xj_iadd hk dL_law_593 ?_
  refine xj.eqi (x' := nI (i + 2)) (nI_add i 2) ?_
  refine xj_scld (k := i + 2) hk hX hb hbb (xi_n (by omega) (by omega)) dL_law_594 ?_
  refine xj_callVE hk hz (fr1 := 3) (lo1 := 68) (As := [.int (xs (i + 1)), .int (xs (i + 2))]) (st := [.int x9]) ml_L_63 hm ho rfl dL_law_595 ⟨Nat.le_of_ble_eq_true rfl, Nat.le_of_ble_eq_true rfl⟩ rfl (Nat.le_of_ble_eq_true rfl) rfl ?_
  rintro _ G2 ⟨rfl, hI2⟩
  show xj v κ post z G2 598 _ [.int x9, .int x9]
  refine xj_icmp_eq (tgt := 1510) hk dL_law_598 (by decide) (fun _ => kx G2 hI2) (fun c => absurd rfl c)
set_option maxHeartbeats 1000000 in
set_option maxRecDepth 10000 in
theorem lc_11 {v : xw_V} {κ : xk_K} {post : Option Value → xw_G → Prop} {z : Nat × Nat × Nat} {G : xw_G} {nm : String} {b L i : Nat} {xs : Nat → Int32} (hk : xk_Ok v κ (yLw nm) cL_law 4 (some .boolean) 11 235) (hz : xk_zf κ = z) (hX : va_X b L xs (xk_s κ) (xk_s κ).heap) (hb : b < (xk_s κ).heap.size) (hbb : ¬ xk_b κ ≤ b) (hi : i + 6 ≤ L) (hL : L ≤ 3072) (hI : LI v G) (kx : ∀ G2 : xw_G, LI v G2 → xj v κ post z G2 1510 [some (.ref b), some (.ref (xw_ad v 0 0)), some (.ref (xw_ad v 21 0)), some (.int (nI i))] []) : xj v κ post z G 603 [some (.ref b), some (.ref (xw_ad v 0 0)), some (.ref (xw_ad v 21 0)), some (.int (nI i))] [] := by
  refine xj_aload_n (i := 1) hk dL_law_603 rfl rfl ?_
  refine xj_aload_n (i := 0) hk dL_law_604 rfl rfl ?_
  refine xj_iload_n (i := 3) hk dL_law_605 rfl rfl ?_
  refine xj_iconst (x := 1) hk dL_law_606 (by decide) ?_
  refine xj_iadd hk dL_law_607 ?_
  refine xj.eqi (x' := nI (i + 1)) (nI_add i 1) ?_
  refine xj_scld (k := i + 1) hk hX hb hbb (xi_n (by omega) (by omega)) dL_law_608 ?_
  refine xj_aload_n (i := 0) hk dL_law_609 rfl rfl ?_
  refine xj_iload_n (i := 3) hk dL_law_610 rfl rfl ?_
  refine xj_iconst (x := 2) hk dL_law_611 (by decide) ?_
  refine xj_iadd hk dL_law_612 ?_
  refine xj.eqi (x' := nI (i + 2)) (nI_add i 2) ?_
  refine xj_scld (k := i + 2) hk hX hb hbb (xi_n (by omega) (by omega)) dL_law_613 ?_
  refine xj_callVE hk hz (fr1 := 3) (lo1 := 66) (As := [.int (xs (i + 1)), .int (xs (i + 2))]) (st := []) ml_L_64 (p_hold hI (xs (i + 1)) (xs (i + 2))) (xw_at (LI_0 hI) rfl) rfl dL_law_614 ⟨Nat.le_of_ble_eq_true rfl, Nat.le_of_ble_eq_true rfl⟩ rfl (Nat.le_of_ble_eq_true rfl) rfl ?_
  rintro _ G1 ⟨x9, rfl, ⟨fs9, ho⟩, hm⟩
  show xj v κ post z G1 617 _ [.int x9]
  refine xj_aload_n (i := 2) hk dL_law_617 rfl rfl ?_
  refine xj_aload_n (i := 0) hk dL_law_618 rfl rfl ?_
  refine xj_iload_n (i := 3) hk dL_law_619 rfl rfl ?_
  refine xj_iconst (x := 1) hk dL_law_620 (by decide) ?_
  refine xj_iadd hk dL_law_621 ?_
  refine xj.eqi (x' := nI (i + 1)) (nI_add i 1) ?_
  refine xj_scld (k := i + 1) hk hX hb hbb (xi_n (by omega) (by omega)) dL_law_622 ?_
  refine xj_aload_n (i := 0) hk dL_law_623 rfl rfl ?_
  refine xj_iload_n (i := 3) hk dL_law_624 rfl rfl ?_
  refine xj_iconst (x := 2) hk dL_law_625 (by decide) ?_
  refine xj_iadd hk dL_law_626 ?_
  refine xj.eqi (x' := nI (i + 2)) (nI_add i 2) ?_
  refine xj_scld (k := i + 2) hk hX hb hbb (xi_n (by omega) (by omega)) dL_law_627 ?_
  refine xj_callVE hk hz (fr1 := 2) (lo1 := 44) (As := [.int (xs (i + 1)), .int (xs (i + 2))]) (st := [.int x9]) ml_L_67 hm ho rfl dL_law_628 ⟨Nat.le_of_ble_eq_true rfl, Nat.le_of_ble_eq_true rfl⟩ rfl (Nat.le_of_ble_eq_true rfl) rfl ?_
  rintro _ G2 ⟨rfl, hI2⟩
  show xj v κ post z G2 631 _ [.int x9, .int x9]
  refine xj_icmp_eq (tgt := 1510) hk dL_law_631 (by decide) (fun _ => kx G2 hI2) (fun c => absurd rfl c)
set_option maxHeartbeats 1000000 in
set_option maxRecDepth 10000 in
theorem lc_12 {v : xw_V} {κ : xk_K} {post : Option Value → xw_G → Prop} {z : Nat × Nat × Nat} {G : xw_G} {nm : String} {b L i : Nat} {xs : Nat → Int32} (hk : xk_Ok v κ (yLw nm) cL_law 4 (some .boolean) 11 235) (hz : xk_zf κ = z) (hX : va_X b L xs (xk_s κ) (xk_s κ).heap) (hb : b < (xk_s κ).heap.size) (hbb : ¬ xk_b κ ≤ b) (hi : i + 6 ≤ L) (hL : L ≤ 3072) (hI : LI v G) (kx : ∀ G2 : xw_G, LI v G2 → xj v κ post z G2 1510 [some (.ref b), some (.ref (xw_ad v 0 0)), some (.ref (xw_ad v 21 0)), some (.int (nI i))] []) : xj v κ post z G 636 [some (.ref b), some (.ref (xw_ad v 0 0)), some (.ref (xw_ad v 21 0)), some (.int (nI i))] [] := by
  refine xj_aload_n (i := 1) hk dL_law_636 rfl rfl ?_
  refine xj_callVE hk hz (fr1 := 6) (lo1 := 137) (As := []) (st := []) ml_L_68 (p_settle hI) (xw_at (LI_0 hI) rfl) rfl dL_law_637 ⟨Nat.le_of_ble_eq_true rfl, Nat.le_of_ble_eq_true rfl⟩ rfl (Nat.le_of_ble_eq_true rfl) rfl ?_
  rintro _ G1 ⟨x9, rfl, ⟨fs9, ho⟩, hm⟩
  show xj v κ post z G1 640 _ [.int x9]
  refine xj_aload_n (i := 2) hk dL_law_640 rfl rfl ?_
  refine xj_callVE hk hz (fr1 := 4) (lo1 := 89) (As := []) (st := [.int x9]) ml_L_71 hm ho rfl dL_law_641 ⟨Nat.le_of_ble_eq_true rfl, Nat.le_of_ble_eq_true rfl⟩ rfl (Nat.le_of_ble_eq_true rfl) rfl ?_
  rintro _ G2 ⟨rfl, hI2⟩
  show xj v κ post z G2 644 _ [.int x9, .int x9]
  refine xj_icmp_eq (tgt := 1510) hk dL_law_644 (by decide) (fun _ => kx G2 hI2) (fun c => absurd rfl c)
set_option maxHeartbeats 1000000 in
set_option maxRecDepth 10000 in
theorem lc_13 {v : xw_V} {κ : xk_K} {post : Option Value → xw_G → Prop} {z : Nat × Nat × Nat} {G : xw_G} {nm : String} {b L i : Nat} {xs : Nat → Int32} (hk : xk_Ok v κ (yLw nm) cL_law 4 (some .boolean) 11 235) (hz : xk_zf κ = z) (hX : va_X b L xs (xk_s κ) (xk_s κ).heap) (hb : b < (xk_s κ).heap.size) (hbb : ¬ xk_b κ ≤ b) (hi : i + 6 ≤ L) (hL : L ≤ 3072) (hI : LI v G) (kx : ∀ G2 : xw_G, LI v G2 → xj v κ post z G2 1510 [some (.ref b), some (.ref (xw_ad v 0 0)), some (.ref (xw_ad v 21 0)), some (.int (nI i))] []) : xj v κ post z G 649 [some (.ref b), some (.ref (xw_ad v 0 0)), some (.ref (xw_ad v 21 0)), some (.int (nI i))] [] := by
  refine xj_aload_n (i := 1) hk dL_law_649 rfl rfl ?_
  refine xj_callVE hk hz (fr1 := 3) (lo1 := 67) (As := []) (st := []) ml_L_72 (p_undo hI) (xw_at (LI_0 hI) rfl) rfl dL_law_650 ⟨Nat.le_of_ble_eq_true rfl, Nat.le_of_ble_eq_true rfl⟩ rfl (Nat.le_of_ble_eq_true rfl) rfl ?_
  rintro _ G1 ⟨x9, rfl, ⟨fs9, ho⟩, hm⟩
  show xj v κ post z G1 653 _ [.int x9]
  refine xj_aload_n (i := 2) hk dL_law_653 rfl rfl ?_
  refine xj_callVE hk hz (fr1 := 0) (lo1 := 0) (As := []) (st := [.int x9]) ml_L_75 hm ho rfl dL_law_654 ⟨Nat.le_of_ble_eq_true rfl, Nat.le_of_ble_eq_true rfl⟩ rfl (Nat.le_of_ble_eq_true rfl) rfl ?_
  rintro _ G2 ⟨rfl, hI2⟩
  show xj v κ post z G2 657 _ [.int x9, .int x9]
  refine xj_icmp_eq (tgt := 1510) hk dL_law_657 (by decide) (fun _ => kx G2 hI2) (fun c => absurd rfl c)
set_option maxHeartbeats 1000000 in
set_option maxRecDepth 10000 in
theorem lc_14 {v : xw_V} {κ : xk_K} {post : Option Value → xw_G → Prop} {z : Nat × Nat × Nat} {G : xw_G} {nm : String} {b L i : Nat} {xs : Nat → Int32} (hk : xk_Ok v κ (yLw nm) cL_law 4 (some .boolean) 11 235) (hz : xk_zf κ = z) (hX : va_X b L xs (xk_s κ) (xk_s κ).heap) (hb : b < (xk_s κ).heap.size) (hbb : ¬ xk_b κ ≤ b) (hi : i + 6 ≤ L) (hL : L ≤ 3072) (hI : LI v G) (kx : ∀ G2 : xw_G, LI v G2 → xj v κ post z G2 1510 [some (.ref b), some (.ref (xw_ad v 0 0)), some (.ref (xw_ad v 21 0)), some (.int (nI i))] []) : xj v κ post z G 662 [some (.ref b), some (.ref (xw_ad v 0 0)), some (.ref (xw_ad v 21 0)), some (.int (nI i))] [] := by
  refine xj_aload_n (i := 1) hk dL_law_662 rfl rfl ?_
  refine xj_aload_n (i := 0) hk dL_law_663 rfl rfl ?_
  refine xj_iload_n (i := 3) hk dL_law_664 rfl rfl ?_
  refine xj_iconst (x := 1) hk dL_law_665 (by decide) ?_
  refine xj_iadd hk dL_law_666 ?_
  refine xj.eqi (x' := nI (i + 1)) (nI_add i 1) ?_
  refine xj_scld (k := i + 1) hk hX hb hbb (xi_n (by omega) (by omega)) dL_law_667 ?_
  refine xj_callVE hk hz (fr1 := 0) (lo1 := 0) (As := [.int (xs (i + 1))]) (st := []) ml_L_76 (p_asTerm hI (xs (i + 1))) (xw_at (LI_0 hI) rfl) rfl dL_law_668 ⟨Nat.le_of_ble_eq_true rfl, Nat.le_of_ble_eq_true rfl⟩ rfl (Nat.le_of_ble_eq_true rfl) rfl ?_
  rintro _ G1 ⟨x9, rfl, ⟨fs9, ho⟩, hm⟩
  show xj v κ post z G1 671 _ [.int x9]
  refine xj_aload_n (i := 2) hk dL_law_671 rfl rfl ?_
  refine xj_aload_n (i := 0) hk dL_law_672 rfl rfl ?_
  refine xj_iload_n (i := 3) hk dL_law_673 rfl rfl ?_
  refine xj_iconst (x := 1) hk dL_law_674 (by decide) ?_
  refine xj_iadd hk dL_law_675 ?_
  refine xj.eqi (x' := nI (i + 1)) (nI_add i 1) ?_
  refine xj_scld (k := i + 1) hk hX hb hbb (xi_n (by omega) (by omega)) dL_law_676 ?_
  refine xj_callVE hk hz (fr1 := 1) (lo1 := 22) (As := [.int (xs (i + 1))]) (st := [.int x9]) ml_L_79 hm ho rfl dL_law_677 ⟨Nat.le_of_ble_eq_true rfl, Nat.le_of_ble_eq_true rfl⟩ rfl (Nat.le_of_ble_eq_true rfl) rfl ?_
  rintro _ G2 ⟨rfl, hI2⟩
  show xj v κ post z G2 680 _ [.int x9, .int x9]
  refine xj_icmp_eq (tgt := 1510) hk dL_law_680 (by decide) (fun _ => kx G2 hI2) (fun c => absurd rfl c)
set_option maxHeartbeats 1000000 in
set_option maxRecDepth 10000 in
theorem lc_15 {v : xw_V} {κ : xk_K} {post : Option Value → xw_G → Prop} {z : Nat × Nat × Nat} {G : xw_G} {nm : String} {b L i : Nat} {xs : Nat → Int32} (hk : xk_Ok v κ (yLw nm) cL_law 4 (some .boolean) 11 235) (hz : xk_zf κ = z) (hX : va_X b L xs (xk_s κ) (xk_s κ).heap) (hb : b < (xk_s κ).heap.size) (hbb : ¬ xk_b κ ≤ b) (hi : i + 6 ≤ L) (hL : L ≤ 3072) (hI : LI v G) (kx : ∀ G2 : xw_G, LI v G2 → xj v κ post z G2 1510 [some (.ref b), some (.ref (xw_ad v 0 0)), some (.ref (xw_ad v 21 0)), some (.int (nI i))] []) : xj v κ post z G 685 [some (.ref b), some (.ref (xw_ad v 0 0)), some (.ref (xw_ad v 21 0)), some (.int (nI i))] [] := by
  refine xj_aload_n (i := 1) hk dL_law_685 rfl rfl ?_
  refine xj_aload_n (i := 0) hk dL_law_686 rfl rfl ?_
  refine xj_iload_n (i := 3) hk dL_law_687 rfl rfl ?_
  refine xj_iconst (x := 1) hk dL_law_688 (by decide) ?_
  refine xj_iadd hk dL_law_689 ?_
  refine xj.eqi (x' := nI (i + 1)) (nI_add i 1) ?_
  refine xj_scld (k := i + 1) hk hX hb hbb (xi_n (by omega) (by omega)) dL_law_690 ?_
  refine xj_aload_n (i := 0) hk dL_law_691 rfl rfl ?_
  refine xj_iload_n (i := 3) hk dL_law_692 rfl rfl ?_
  refine xj_iconst (x := 2) hk dL_law_693 (by decide) ?_
  refine xj_iadd hk dL_law_694 ?_
  refine xj.eqi (x' := nI (i + 2)) (nI_add i 2) ?_
  refine xj_scld (k := i + 2) hk hX hb hbb (xi_n (by omega) (by omega)) dL_law_695 ?_
  refine xj_callVE hk hz (fr1 := 6) (lo1 := 137) (As := [.int (xs (i + 1)), .int (xs (i + 2))]) (st := []) ml_L_80 (p_of hI (xs (i + 1)) (xs (i + 2))) (xw_at (LI_0 hI) rfl) rfl dL_law_696 ⟨Nat.le_of_ble_eq_true rfl, Nat.le_of_ble_eq_true rfl⟩ rfl (Nat.le_of_ble_eq_true rfl) rfl ?_
  rintro _ G1 ⟨x9, rfl, ⟨fs9, ho⟩, hm⟩
  show xj v κ post z G1 699 _ [.int x9]
  refine xj_aload_n (i := 2) hk dL_law_699 rfl rfl ?_
  refine xj_aload_n (i := 0) hk dL_law_700 rfl rfl ?_
  refine xj_iload_n (i := 3) hk dL_law_701 rfl rfl ?_
  refine xj_iconst (x := 1) hk dL_law_702 (by decide) ?_
  refine xj_iadd hk dL_law_703 ?_
  refine xj.eqi (x' := nI (i + 1)) (nI_add i 1) ?_
  refine xj_scld (k := i + 1) hk hX hb hbb (xi_n (by omega) (by omega)) dL_law_704 ?_
  refine xj_aload_n (i := 0) hk dL_law_705 rfl rfl ?_
  refine xj_iload_n (i := 3) hk dL_law_706 rfl rfl ?_
  refine xj_iconst (x := 2) hk dL_law_707 (by decide) ?_
  refine xj_iadd hk dL_law_708 ?_
  refine xj.eqi (x' := nI (i + 2)) (nI_add i 2) ?_
  refine xj_scld (k := i + 2) hk hX hb hbb (xi_n (by omega) (by omega)) dL_law_709 ?_
  refine xj_callVE hk hz (fr1 := 4) (lo1 := 89) (As := [.int (xs (i + 1)), .int (xs (i + 2))]) (st := [.int x9]) ml_L_83 hm ho rfl dL_law_710 ⟨Nat.le_of_ble_eq_true rfl, Nat.le_of_ble_eq_true rfl⟩ rfl (Nat.le_of_ble_eq_true rfl) rfl ?_
  rintro _ G2 ⟨rfl, hI2⟩
  show xj v κ post z G2 713 _ [.int x9, .int x9]
  refine xj_icmp_eq (tgt := 1510) hk dL_law_713 (by decide) (fun _ => kx G2 hI2) (fun c => absurd rfl c)
set_option maxHeartbeats 1000000 in
set_option maxRecDepth 10000 in
theorem lc_16 {v : xw_V} {κ : xk_K} {post : Option Value → xw_G → Prop} {z : Nat × Nat × Nat} {G : xw_G} {nm : String} {b L i : Nat} {xs : Nat → Int32} (hk : xk_Ok v κ (yLw nm) cL_law 4 (some .boolean) 11 235) (hz : xk_zf κ = z) (hX : va_X b L xs (xk_s κ) (xk_s κ).heap) (hb : b < (xk_s κ).heap.size) (hbb : ¬ xk_b κ ≤ b) (hi : i + 6 ≤ L) (hL : L ≤ 3072) (hI : LI v G) (kx : ∀ G2 : xw_G, LI v G2 → xj v κ post z G2 1510 [some (.ref b), some (.ref (xw_ad v 0 0)), some (.ref (xw_ad v 21 0)), some (.int (nI i))] []) : xj v κ post z G 718 [some (.ref b), some (.ref (xw_ad v 0 0)), some (.ref (xw_ad v 21 0)), some (.int (nI i))] [] := by
  refine xj_aload_n (i := 1) hk dL_law_718 rfl rfl ?_
  refine xj_aload_n (i := 0) hk dL_law_719 rfl rfl ?_
  refine xj_iload_n (i := 3) hk dL_law_720 rfl rfl ?_
  refine xj_iconst (x := 1) hk dL_law_721 (by decide) ?_
  refine xj_iadd hk dL_law_722 ?_
  refine xj.eqi (x' := nI (i + 1)) (nI_add i 1) ?_
  refine xj_scld (k := i + 1) hk hX hb hbb (xi_n (by omega) (by omega)) dL_law_723 ?_
  refine xj_callVE hk hz (fr1 := 6) (lo1 := 137) (As := [.int (xs (i + 1))]) (st := []) ml_L_84 (p_pays hI (xs (i + 1))) (xw_at (LI_0 hI) rfl) rfl dL_law_724 ⟨Nat.le_of_ble_eq_true rfl, Nat.le_of_ble_eq_true rfl⟩ rfl (Nat.le_of_ble_eq_true rfl) rfl ?_
  rintro _ G1 ⟨x9, rfl, ⟨fs9, ho⟩, hm⟩
  show xj v κ post z G1 727 _ [.long x9]
  refine xj_aload_n (i := 2) hk dL_law_727 rfl rfl ?_
  refine xj_aload_n (i := 0) hk dL_law_728 rfl rfl ?_
  refine xj_iload_n (i := 3) hk dL_law_729 rfl rfl ?_
  refine xj_iconst (x := 1) hk dL_law_730 (by decide) ?_
  refine xj_iadd hk dL_law_731 ?_
  refine xj.eqi (x' := nI (i + 1)) (nI_add i 1) ?_
  refine xj_scld (k := i + 1) hk hX hb hbb (xi_n (by omega) (by omega)) dL_law_732 ?_
  refine xj_callVE hk hz (fr1 := 4) (lo1 := 89) (As := [.int (xs (i + 1))]) (st := [.long x9]) ml_L_88 hm ho rfl dL_law_733 ⟨Nat.le_of_ble_eq_true rfl, Nat.le_of_ble_eq_true rfl⟩ rfl (Nat.le_of_ble_eq_true rfl) rfl ?_
  rintro _ G2 ⟨rfl, hI2⟩
  show xj v κ post z G2 736 _ [.long x9, .long x9]
  refine xj_lcmp hk dL_law_736 ?_
  refine xj_if_eq (tgt := 1510) hk dL_law_737 (by decide) (fun _ => kx G2 hI2) (fun c => absurd (lgc x9) c)
set_option maxHeartbeats 1000000 in
set_option maxRecDepth 10000 in
theorem lc_17 {v : xw_V} {κ : xk_K} {post : Option Value → xw_G → Prop} {z : Nat × Nat × Nat} {G : xw_G} {nm : String} {b L i : Nat} {xs : Nat → Int32} (hk : xk_Ok v κ (yLw nm) cL_law 4 (some .boolean) 11 235) (hz : xk_zf κ = z) (hX : va_X b L xs (xk_s κ) (xk_s κ).heap) (hb : b < (xk_s κ).heap.size) (hbb : ¬ xk_b κ ≤ b) (hi : i + 6 ≤ L) (hL : L ≤ 3072) (hI : LI v G) (kx : ∀ G2 : xw_G, LI v G2 → xj v κ post z G2 1510 [some (.ref b), some (.ref (xw_ad v 0 0)), some (.ref (xw_ad v 21 0)), some (.int (nI i))] []) : xj v κ post z G 742 [some (.ref b), some (.ref (xw_ad v 0 0)), some (.ref (xw_ad v 21 0)), some (.int (nI i))] [] := by
  refine xj_aload_n (i := 1) hk dL_law_742 rfl rfl ?_
  refine xj_aload_n (i := 0) hk dL_law_743 rfl rfl ?_
  refine xj_iload_n (i := 3) hk dL_law_744 rfl rfl ?_
  refine xj_iconst (x := 1) hk dL_law_745 (by decide) ?_
  refine xj_iadd hk dL_law_746 ?_
  refine xj.eqi (x' := nI (i + 1)) (nI_add i 1) ?_
  refine xj_scld (k := i + 1) hk hX hb hbb (xi_n (by omega) (by omega)) dL_law_747 ?_
  refine xj_aload_n (i := 0) hk dL_law_748 rfl rfl ?_
  refine xj_iload_n (i := 3) hk dL_law_749 rfl rfl ?_
  refine xj_iconst (x := 2) hk dL_law_750 (by decide) ?_
  refine xj_iadd hk dL_law_751 ?_
  refine xj.eqi (x' := nI (i + 2)) (nI_add i 2) ?_
  refine xj_scld (k := i + 2) hk hX hb hbb (xi_n (by omega) (by omega)) dL_law_752 ?_
  refine xj_callVE hk hz (fr1 := 6) (lo1 := 137) (As := [.int (xs (i + 1)), .int (xs (i + 2))]) (st := []) ml_L_89 (p_house hI (xs (i + 1)) (xs (i + 2))) (xw_at (LI_0 hI) rfl) rfl dL_law_753 ⟨Nat.le_of_ble_eq_true rfl, Nat.le_of_ble_eq_true rfl⟩ rfl (Nat.le_of_ble_eq_true rfl) rfl ?_
  rintro _ G1 ⟨x9, rfl, ⟨fs9, ho⟩, hm⟩
  show xj v κ post z G1 756 _ [.int x9]
  refine xj_aload_n (i := 2) hk dL_law_756 rfl rfl ?_
  refine xj_aload_n (i := 0) hk dL_law_757 rfl rfl ?_
  refine xj_iload_n (i := 3) hk dL_law_758 rfl rfl ?_
  refine xj_iconst (x := 1) hk dL_law_759 (by decide) ?_
  refine xj_iadd hk dL_law_760 ?_
  refine xj.eqi (x' := nI (i + 1)) (nI_add i 1) ?_
  refine xj_scld (k := i + 1) hk hX hb hbb (xi_n (by omega) (by omega)) dL_law_761 ?_
  refine xj_aload_n (i := 0) hk dL_law_762 rfl rfl ?_
  refine xj_iload_n (i := 3) hk dL_law_763 rfl rfl ?_
  refine xj_iconst (x := 2) hk dL_law_764 (by decide) ?_
  refine xj_iadd hk dL_law_765 ?_
  refine xj.eqi (x' := nI (i + 2)) (nI_add i 2) ?_
  refine xj_scld (k := i + 2) hk hX hb hbb (xi_n (by omega) (by omega)) dL_law_766 ?_
  refine xj_callVE hk hz (fr1 := 4) (lo1 := 89) (As := [.int (xs (i + 1)), .int (xs (i + 2))]) (st := [.int x9]) ml_L_92 hm ho rfl dL_law_767 ⟨Nat.le_of_ble_eq_true rfl, Nat.le_of_ble_eq_true rfl⟩ rfl (Nat.le_of_ble_eq_true rfl) rfl ?_
  rintro _ G2 ⟨rfl, hI2⟩
  show xj v κ post z G2 770 _ [.int x9, .int x9]
  refine xj_icmp_eq (tgt := 1510) hk dL_law_770 (by decide) (fun _ => kx G2 hI2) (fun c => absurd rfl c)
set_option maxHeartbeats 1000000 in
set_option maxRecDepth 10000 in
theorem lc_18 {v : xw_V} {κ : xk_K} {post : Option Value → xw_G → Prop} {z : Nat × Nat × Nat} {G : xw_G} {nm : String} {b L i : Nat} {xs : Nat → Int32} (hk : xk_Ok v κ (yLw nm) cL_law 4 (some .boolean) 11 235) (hz : xk_zf κ = z) (hX : va_X b L xs (xk_s κ) (xk_s κ).heap) (hb : b < (xk_s κ).heap.size) (hbb : ¬ xk_b κ ≤ b) (hi : i + 6 ≤ L) (hL : L ≤ 3072) (hI : LI v G) (kx : ∀ G2 : xw_G, LI v G2 → xj v κ post z G2 1510 [some (.ref b), some (.ref (xw_ad v 0 0)), some (.ref (xw_ad v 21 0)), some (.int (nI i))] []) : xj v κ post z G 775 [some (.ref b), some (.ref (xw_ad v 0 0)), some (.ref (xw_ad v 21 0)), some (.int (nI i))] [] := by
  refine xj_aload_n (i := 1) hk dL_law_775 rfl rfl ?_
  refine xj_aload_n (i := 0) hk dL_law_776 rfl rfl ?_
  refine xj_iload_n (i := 3) hk dL_law_777 rfl rfl ?_
  refine xj_iconst (x := 1) hk dL_law_778 (by decide) ?_
  refine xj_iadd hk dL_law_779 ?_
  refine xj.eqi (x' := nI (i + 1)) (nI_add i 1) ?_
  refine xj_scld (k := i + 1) hk hX hb hbb (xi_n (by omega) (by omega)) dL_law_780 ?_
  refine xj_callVE hk hz (fr1 := 6) (lo1 := 137) (As := [.int (xs (i + 1))]) (st := []) ml_L_93 (p_housePays hI (xs (i + 1))) (xw_at (LI_0 hI) rfl) rfl dL_law_781 ⟨Nat.le_of_ble_eq_true rfl, Nat.le_of_ble_eq_true rfl⟩ rfl (Nat.le_of_ble_eq_true rfl) rfl ?_
  rintro _ G1 ⟨x9, rfl, ⟨fs9, ho⟩, hm⟩
  show xj v κ post z G1 784 _ [.long x9]
  refine xj_aload_n (i := 2) hk dL_law_784 rfl rfl ?_
  refine xj_aload_n (i := 0) hk dL_law_785 rfl rfl ?_
  refine xj_iload_n (i := 3) hk dL_law_786 rfl rfl ?_
  refine xj_iconst (x := 1) hk dL_law_787 (by decide) ?_
  refine xj_iadd hk dL_law_788 ?_
  refine xj.eqi (x' := nI (i + 1)) (nI_add i 1) ?_
  refine xj_scld (k := i + 1) hk hX hb hbb (xi_n (by omega) (by omega)) dL_law_789 ?_
  refine xj_callVE hk hz (fr1 := 4) (lo1 := 89) (As := [.int (xs (i + 1))]) (st := [.long x9]) ml_L_96 hm ho rfl dL_law_790 ⟨Nat.le_of_ble_eq_true rfl, Nat.le_of_ble_eq_true rfl⟩ rfl (Nat.le_of_ble_eq_true rfl) rfl ?_
  rintro _ G2 ⟨rfl, hI2⟩
  show xj v κ post z G2 793 _ [.long x9, .long x9]
  refine xj_lcmp hk dL_law_793 ?_
  refine xj_if_eq (tgt := 1510) hk dL_law_794 (by decide) (fun _ => kx G2 hI2) (fun c => absurd (lgc x9) c)
set_option maxHeartbeats 1000000 in
set_option maxRecDepth 10000 in
theorem lc_19 {v : xw_V} {κ : xk_K} {post : Option Value → xw_G → Prop} {z : Nat × Nat × Nat} {G : xw_G} {nm : String} {b L i : Nat} {xs : Nat → Int32} (hk : xk_Ok v κ (yLw nm) cL_law 4 (some .boolean) 11 235) (hz : xk_zf κ = z) (hX : va_X b L xs (xk_s κ) (xk_s κ).heap) (hb : b < (xk_s κ).heap.size) (hbb : ¬ xk_b κ ≤ b) (hi : i + 6 ≤ L) (hL : L ≤ 3072) (hI : LI v G) (kx : ∀ G2 : xw_G, LI v G2 → xj v κ post z G2 1510 [some (.ref b), some (.ref (xw_ad v 0 0)), some (.ref (xw_ad v 21 0)), some (.int (nI i))] []) : xj v κ post z G 799 [some (.ref b), some (.ref (xw_ad v 0 0)), some (.ref (xw_ad v 21 0)), some (.int (nI i))] [] := by
  refine xj_aload_n (i := 1) hk dL_law_799 rfl rfl ?_
  refine xj_aload_n (i := 0) hk dL_law_800 rfl rfl ?_
  refine xj_iload_n (i := 3) hk dL_law_801 rfl rfl ?_
  refine xj_iconst (x := 1) hk dL_law_802 (by decide) ?_
  refine xj_iadd hk dL_law_803 ?_
  refine xj.eqi (x' := nI (i + 1)) (nI_add i 1) ?_
  refine xj_scld (k := i + 1) hk hX hb hbb (xi_n (by omega) (by omega)) dL_law_804 ?_
  refine xj_callVE hk hz (fr1 := 6) (lo1 := 137) (As := [.int (xs (i + 1))]) (st := []) ml_L_97 (p_result hI (xs (i + 1))) (xw_at (LI_0 hI) rfl) rfl dL_law_805 ⟨Nat.le_of_ble_eq_true rfl, Nat.le_of_ble_eq_true rfl⟩ rfl (Nat.le_of_ble_eq_true rfl) rfl ?_
  rintro _ G1 ⟨x9, rfl, ⟨fs9, ho⟩, hm⟩
  show xj v κ post z G1 808 _ [.int x9]
  refine xj_aload_n (i := 2) hk dL_law_808 rfl rfl ?_
  refine xj_aload_n (i := 0) hk dL_law_809 rfl rfl ?_
  refine xj_iload_n (i := 3) hk dL_law_810 rfl rfl ?_
  refine xj_iconst (x := 1) hk dL_law_811 (by decide) ?_
  refine xj_iadd hk dL_law_812 ?_
  refine xj.eqi (x' := nI (i + 1)) (nI_add i 1) ?_
  refine xj_scld (k := i + 1) hk hX hb hbb (xi_n (by omega) (by omega)) dL_law_813 ?_
  refine xj_callVE hk hz (fr1 := 5) (lo1 := 113) (As := [.int (xs (i + 1))]) (st := [.int x9]) ml_L_100 hm ho rfl dL_law_814 ⟨Nat.le_of_ble_eq_true rfl, Nat.le_of_ble_eq_true rfl⟩ rfl (Nat.le_of_ble_eq_true rfl) rfl ?_
  rintro _ G2 ⟨rfl, hI2⟩
  show xj v κ post z G2 817 _ [.int x9, .int x9]
  refine xj_icmp_eq (tgt := 1510) hk dL_law_817 (by decide) (fun _ => kx G2 hI2) (fun c => absurd rfl c)
set_option maxHeartbeats 1000000 in
set_option maxRecDepth 10000 in
theorem lc_20 {v : xw_V} {κ : xk_K} {post : Option Value → xw_G → Prop} {z : Nat × Nat × Nat} {G : xw_G} {nm : String} {b L i : Nat} {xs : Nat → Int32} (hk : xk_Ok v κ (yLw nm) cL_law 4 (some .boolean) 11 235) (hz : xk_zf κ = z) (hX : va_X b L xs (xk_s κ) (xk_s κ).heap) (hb : b < (xk_s κ).heap.size) (hbb : ¬ xk_b κ ≤ b) (hi : i + 6 ≤ L) (hL : L ≤ 3072) (hI : LI v G) (kx : ∀ G2 : xw_G, LI v G2 → xj v κ post z G2 1510 [some (.ref b), some (.ref (xw_ad v 0 0)), some (.ref (xw_ad v 21 0)), some (.int (nI i))] []) : xj v κ post z G 822 [some (.ref b), some (.ref (xw_ad v 0 0)), some (.ref (xw_ad v 21 0)), some (.int (nI i))] [] := by
  refine xj_aload_n (i := 1) hk dL_law_822 rfl rfl ?_
  refine xj_callVE hk hz (fr1 := 6) (lo1 := 137) (As := []) (st := []) ml_L_101 (p_paid hI) (xw_at (LI_0 hI) rfl) rfl dL_law_823 ⟨Nat.le_of_ble_eq_true rfl, Nat.le_of_ble_eq_true rfl⟩ rfl (Nat.le_of_ble_eq_true rfl) rfl ?_
  rintro _ G1 ⟨x9, rfl, ⟨fs9, ho⟩, hm⟩
  show xj v κ post z G1 826 _ [.long x9]
  refine xj_aload_n (i := 2) hk dL_law_826 rfl rfl ?_
  refine xj_callVE hk hz (fr1 := 4) (lo1 := 89) (As := []) (st := [.long x9]) ml_L_105 hm ho rfl dL_law_827 ⟨Nat.le_of_ble_eq_true rfl, Nat.le_of_ble_eq_true rfl⟩ rfl (Nat.le_of_ble_eq_true rfl) rfl ?_
  rintro _ G2 ⟨rfl, hI2⟩
  show xj v κ post z G2 830 _ [.long x9, .long x9]
  refine xj_lcmp hk dL_law_830 ?_
  refine xj_if_eq (tgt := 1510) hk dL_law_831 (by decide) (fun _ => kx G2 hI2) (fun c => absurd (lgc x9) c)
set_option maxHeartbeats 1000000 in
set_option maxRecDepth 10000 in
theorem lc_21 {v : xw_V} {κ : xk_K} {post : Option Value → xw_G → Prop} {z : Nat × Nat × Nat} {G : xw_G} {nm : String} {b L i : Nat} {xs : Nat → Int32} (hk : xk_Ok v κ (yLw nm) cL_law 4 (some .boolean) 11 235) (hz : xk_zf κ = z) (hX : va_X b L xs (xk_s κ) (xk_s κ).heap) (hb : b < (xk_s κ).heap.size) (hbb : ¬ xk_b κ ≤ b) (hi : i + 6 ≤ L) (hL : L ≤ 3072) (hI : LI v G) (kx : ∀ G2 : xw_G, LI v G2 → xj v κ post z G2 1510 [some (.ref b), some (.ref (xw_ad v 0 0)), some (.ref (xw_ad v 21 0)), some (.int (nI i))] []) : xj v κ post z G 836 [some (.ref b), some (.ref (xw_ad v 0 0)), some (.ref (xw_ad v 21 0)), some (.int (nI i))] [] := by
  refine xj_aload_n (i := 1) hk dL_law_836 rfl rfl ?_
  refine xj_aload_n (i := 0) hk dL_law_837 rfl rfl ?_
  refine xj_iload_n (i := 3) hk dL_law_838 rfl rfl ?_
  refine xj_iconst (x := 1) hk dL_law_839 (by decide) ?_
  refine xj_iadd hk dL_law_840 ?_
  refine xj.eqi (x' := nI (i + 1)) (nI_add i 1) ?_
  refine xj_scld (k := i + 1) hk hX hb hbb (xi_n (by omega) (by omega)) dL_law_841 ?_
  refine xj_callVE hk hz (fr1 := 6) (lo1 := 137) (As := [.int (xs (i + 1))]) (st := []) ml_L_106 (p_mean hI (xs (i + 1))) (xw_at (LI_0 hI) rfl) rfl dL_law_842 ⟨Nat.le_of_ble_eq_true rfl, Nat.le_of_ble_eq_true rfl⟩ rfl (Nat.le_of_ble_eq_true rfl) rfl ?_
  rintro _ G1 ⟨x9, rfl, ⟨fs9, ho⟩, hm⟩
  show xj v κ post z G1 845 _ [.long x9]
  refine xj_aload_n (i := 2) hk dL_law_845 rfl rfl ?_
  refine xj_aload_n (i := 0) hk dL_law_846 rfl rfl ?_
  refine xj_iload_n (i := 3) hk dL_law_847 rfl rfl ?_
  refine xj_iconst (x := 1) hk dL_law_848 (by decide) ?_
  refine xj_iadd hk dL_law_849 ?_
  refine xj.eqi (x' := nI (i + 1)) (nI_add i 1) ?_
  refine xj_scld (k := i + 1) hk hX hb hbb (xi_n (by omega) (by omega)) dL_law_850 ?_
  refine xj_callVE hk hz (fr1 := 4) (lo1 := 89) (As := [.int (xs (i + 1))]) (st := [.long x9]) ml_L_109 hm ho rfl dL_law_851 ⟨Nat.le_of_ble_eq_true rfl, Nat.le_of_ble_eq_true rfl⟩ rfl (Nat.le_of_ble_eq_true rfl) rfl ?_
  rintro _ G2 ⟨rfl, hI2⟩
  show xj v κ post z G2 854 _ [.long x9, .long x9]
  refine xj_lcmp hk dL_law_854 ?_
  refine xj_if_eq (tgt := 1510) hk dL_law_855 (by decide) (fun _ => kx G2 hI2) (fun c => absurd (lgc x9) c)
set_option maxHeartbeats 1000000 in
set_option maxRecDepth 10000 in
theorem lc_22 {v : xw_V} {κ : xk_K} {post : Option Value → xw_G → Prop} {z : Nat × Nat × Nat} {G : xw_G} {nm : String} {b L i : Nat} {xs : Nat → Int32} (hk : xk_Ok v κ (yLw nm) cL_law 4 (some .boolean) 11 235) (hz : xk_zf κ = z) (hX : va_X b L xs (xk_s κ) (xk_s κ).heap) (hb : b < (xk_s κ).heap.size) (hbb : ¬ xk_b κ ≤ b) (hi : i + 6 ≤ L) (hL : L ≤ 3072) (hI : LI v G) (kx : ∀ G2 : xw_G, LI v G2 → xj v κ post z G2 1510 [some (.ref b), some (.ref (xw_ad v 0 0)), some (.ref (xw_ad v 21 0)), some (.int (nI i))] []) : xj v κ post z G 860 [some (.ref b), some (.ref (xw_ad v 0 0)), some (.ref (xw_ad v 21 0)), some (.int (nI i))] [] := by
  refine xj_aload_n (i := 1) hk dL_law_860 rfl rfl ?_
  refine xj_aload_n (i := 0) hk dL_law_861 rfl rfl ?_
  refine xj_iload_n (i := 3) hk dL_law_862 rfl rfl ?_
  refine xj_iconst (x := 1) hk dL_law_863 (by decide) ?_
  refine xj_iadd hk dL_law_864 ?_
  refine xj.eqi (x' := nI (i + 1)) (nI_add i 1) ?_
  refine xj_scld (k := i + 1) hk hX hb hbb (xi_n (by omega) (by omega)) dL_law_865 ?_
  refine xj_callVE hk hz (fr1 := 6) (lo1 := 137) (As := [.int (xs (i + 1))]) (st := []) ml_L_110 (p_filled hI (xs (i + 1))) (xw_at (LI_0 hI) rfl) rfl dL_law_866 ⟨Nat.le_of_ble_eq_true rfl, Nat.le_of_ble_eq_true rfl⟩ rfl (Nat.le_of_ble_eq_true rfl) rfl ?_
  rintro _ G1 ⟨x9, rfl, ⟨fs9, ho⟩, hm⟩
  show xj v κ post z G1 869 _ [.int x9]
  refine xj_aload_n (i := 2) hk dL_law_869 rfl rfl ?_
  refine xj_aload_n (i := 0) hk dL_law_870 rfl rfl ?_
  refine xj_iload_n (i := 3) hk dL_law_871 rfl rfl ?_
  refine xj_iconst (x := 1) hk dL_law_872 (by decide) ?_
  refine xj_iadd hk dL_law_873 ?_
  refine xj.eqi (x' := nI (i + 1)) (nI_add i 1) ?_
  refine xj_scld (k := i + 1) hk hX hb hbb (xi_n (by omega) (by omega)) dL_law_874 ?_
  refine xj_callVE hk hz (fr1 := 4) (lo1 := 89) (As := [.int (xs (i + 1))]) (st := [.int x9]) ml_L_113 hm ho rfl dL_law_875 ⟨Nat.le_of_ble_eq_true rfl, Nat.le_of_ble_eq_true rfl⟩ rfl (Nat.le_of_ble_eq_true rfl) rfl ?_
  rintro _ G2 ⟨rfl, hI2⟩
  show xj v κ post z G2 878 _ [.int x9, .int x9]
  refine xj_icmp_eq (tgt := 1510) hk dL_law_878 (by decide) (fun _ => kx G2 hI2) (fun c => absurd rfl c)
set_option maxHeartbeats 1000000 in
set_option maxRecDepth 10000 in
theorem lc_23 {v : xw_V} {κ : xk_K} {post : Option Value → xw_G → Prop} {z : Nat × Nat × Nat} {G : xw_G} {nm : String} {b L i : Nat} {xs : Nat → Int32} (hk : xk_Ok v κ (yLw nm) cL_law 4 (some .boolean) 11 235) (hz : xk_zf κ = z) (hX : va_X b L xs (xk_s κ) (xk_s κ).heap) (hb : b < (xk_s κ).heap.size) (hbb : ¬ xk_b κ ≤ b) (hi : i + 6 ≤ L) (hL : L ≤ 3072) (hI : LI v G) (kx : ∀ G2 : xw_G, LI v G2 → xj v κ post z G2 1510 [some (.ref b), some (.ref (xw_ad v 0 0)), some (.ref (xw_ad v 21 0)), some (.int (nI i))] []) : xj v κ post z G 883 [some (.ref b), some (.ref (xw_ad v 0 0)), some (.ref (xw_ad v 21 0)), some (.int (nI i))] [] := by
  refine xj_aload_n (i := 1) hk dL_law_883 rfl rfl ?_
  refine xj_callVE hk hz (fr1 := 6) (lo1 := 137) (As := []) (st := []) ml_L_114 (p_dearest hI) (xw_at (LI_0 hI) rfl) rfl dL_law_884 ⟨Nat.le_of_ble_eq_true rfl, Nat.le_of_ble_eq_true rfl⟩ rfl (Nat.le_of_ble_eq_true rfl) rfl ?_
  rintro _ G1 ⟨x9, rfl, ⟨fs9, ho⟩, hm⟩
  show xj v κ post z G1 887 _ [.int x9]
  refine xj_aload_n (i := 2) hk dL_law_887 rfl rfl ?_
  refine xj_callVE hk hz (fr1 := 4) (lo1 := 89) (As := []) (st := [.int x9]) ml_L_117 hm ho rfl dL_law_888 ⟨Nat.le_of_ble_eq_true rfl, Nat.le_of_ble_eq_true rfl⟩ rfl (Nat.le_of_ble_eq_true rfl) rfl ?_
  rintro _ G2 ⟨rfl, hI2⟩
  show xj v κ post z G2 891 _ [.int x9, .int x9]
  refine xj_icmp_eq (tgt := 1510) hk dL_law_891 (by decide) (fun _ => kx G2 hI2) (fun c => absurd rfl c)
set_option maxHeartbeats 1000000 in
set_option maxRecDepth 10000 in
theorem lc_24 {v : xw_V} {κ : xk_K} {post : Option Value → xw_G → Prop} {z : Nat × Nat × Nat} {G : xw_G} {nm : String} {b L i : Nat} {xs : Nat → Int32} (hk : xk_Ok v κ (yLw nm) cL_law 4 (some .boolean) 11 235) (hz : xk_zf κ = z) (hX : va_X b L xs (xk_s κ) (xk_s κ).heap) (hb : b < (xk_s κ).heap.size) (hbb : ¬ xk_b κ ≤ b) (hi : i + 6 ≤ L) (hL : L ≤ 3072) (hI : LI v G) (kx : ∀ G2 : xw_G, LI v G2 → xj v κ post z G2 1510 [some (.ref b), some (.ref (xw_ad v 0 0)), some (.ref (xw_ad v 21 0)), some (.int (nI i))] []) : xj v κ post z G 896 [some (.ref b), some (.ref (xw_ad v 0 0)), some (.ref (xw_ad v 21 0)), some (.int (nI i))] [] := by
  refine xj_aload_n (i := 1) hk dL_law_896 rfl rfl ?_
  refine xj_aload_n (i := 0) hk dL_law_897 rfl rfl ?_
  refine xj_iload_n (i := 3) hk dL_law_898 rfl rfl ?_
  refine xj_iconst (x := 1) hk dL_law_899 (by decide) ?_
  refine xj_iadd hk dL_law_900 ?_
  refine xj.eqi (x' := nI (i + 1)) (nI_add i 1) ?_
  refine xj_scld (k := i + 1) hk hX hb hbb (xi_n (by omega) (by omega)) dL_law_901 ?_
  refine xj_callVE hk hz (fr1 := 1) (lo1 := 21) (As := [.int (xs (i + 1))]) (st := []) ml_L_118 (p_price hI (xs (i + 1))) (xw_at (LI_0 hI) rfl) rfl dL_law_902 ⟨Nat.le_of_ble_eq_true rfl, Nat.le_of_ble_eq_true rfl⟩ rfl (Nat.le_of_ble_eq_true rfl) rfl ?_
  rintro _ G1 ⟨x9, rfl, ⟨fs9, ho⟩, hm⟩
  show xj v κ post z G1 905 _ [.int x9]
  refine xj_aload_n (i := 2) hk dL_law_905 rfl rfl ?_
  refine xj_aload_n (i := 0) hk dL_law_906 rfl rfl ?_
  refine xj_iload_n (i := 3) hk dL_law_907 rfl rfl ?_
  refine xj_iconst (x := 1) hk dL_law_908 (by decide) ?_
  refine xj_iadd hk dL_law_909 ?_
  refine xj.eqi (x' := nI (i + 1)) (nI_add i 1) ?_
  refine xj_scld (k := i + 1) hk hX hb hbb (xi_n (by omega) (by omega)) dL_law_910 ?_
  refine xj_callVE hk hz (fr1 := 2) (lo1 := 42) (As := [.int (xs (i + 1))]) (st := [.int x9]) ml_L_121 hm ho rfl dL_law_911 ⟨Nat.le_of_ble_eq_true rfl, Nat.le_of_ble_eq_true rfl⟩ rfl (Nat.le_of_ble_eq_true rfl) rfl ?_
  rintro _ G2 ⟨rfl, hI2⟩
  show xj v κ post z G2 914 _ [.int x9, .int x9]
  refine xj_icmp_eq (tgt := 1510) hk dL_law_914 (by decide) (fun _ => kx G2 hI2) (fun c => absurd rfl c)
set_option maxHeartbeats 1000000 in
set_option maxRecDepth 10000 in
theorem lc_25 {v : xw_V} {κ : xk_K} {post : Option Value → xw_G → Prop} {z : Nat × Nat × Nat} {G : xw_G} {nm : String} {b L i : Nat} {xs : Nat → Int32} (hk : xk_Ok v κ (yLw nm) cL_law 4 (some .boolean) 11 235) (hz : xk_zf κ = z) (hX : va_X b L xs (xk_s κ) (xk_s κ).heap) (hb : b < (xk_s κ).heap.size) (hbb : ¬ xk_b κ ≤ b) (hi : i + 6 ≤ L) (hL : L ≤ 3072) (hI : LI v G) (kx : ∀ G2 : xw_G, LI v G2 → xj v κ post z G2 1510 [some (.ref b), some (.ref (xw_ad v 0 0)), some (.ref (xw_ad v 21 0)), some (.int (nI i))] []) : xj v κ post z G 919 [some (.ref b), some (.ref (xw_ad v 0 0)), some (.ref (xw_ad v 21 0)), some (.int (nI i))] [] := by
  refine xj_aload_n (i := 1) hk dL_law_919 rfl rfl ?_
  refine xj_aload_n (i := 0) hk dL_law_920 rfl rfl ?_
  refine xj_iload_n (i := 3) hk dL_law_921 rfl rfl ?_
  refine xj_iconst (x := 1) hk dL_law_922 (by decide) ?_
  refine xj_iadd hk dL_law_923 ?_
  refine xj.eqi (x' := nI (i + 1)) (nI_add i 1) ?_
  refine xj_scld (k := i + 1) hk hX hb hbb (xi_n (by omega) (by omega)) dL_law_924 ?_
  refine xj_callVE hk hz (fr1 := 6) (lo1 := 137) (As := [.int (xs (i + 1))]) (st := []) ml_L_122 (p_upTo hI (xs (i + 1))) (xw_at (LI_0 hI) rfl) rfl dL_law_925 ⟨Nat.le_of_ble_eq_true rfl, Nat.le_of_ble_eq_true rfl⟩ rfl (Nat.le_of_ble_eq_true rfl) rfl ?_
  rintro _ G1 ⟨x9, rfl, ⟨fs9, ho⟩, hm⟩
  show xj v κ post z G1 928 _ [.int x9]
  refine xj_aload_n (i := 2) hk dL_law_928 rfl rfl ?_
  refine xj_aload_n (i := 0) hk dL_law_929 rfl rfl ?_
  refine xj_iload_n (i := 3) hk dL_law_930 rfl rfl ?_
  refine xj_iconst (x := 1) hk dL_law_931 (by decide) ?_
  refine xj_iadd hk dL_law_932 ?_
  refine xj.eqi (x' := nI (i + 1)) (nI_add i 1) ?_
  refine xj_scld (k := i + 1) hk hX hb hbb (xi_n (by omega) (by omega)) dL_law_933 ?_
  refine xj_callVE hk hz (fr1 := 4) (lo1 := 89) (As := [.int (xs (i + 1))]) (st := [.int x9]) ml_L_125 hm ho rfl dL_law_934 ⟨Nat.le_of_ble_eq_true rfl, Nat.le_of_ble_eq_true rfl⟩ rfl (Nat.le_of_ble_eq_true rfl) rfl ?_
  rintro _ G2 ⟨rfl, hI2⟩
  show xj v κ post z G2 937 _ [.int x9, .int x9]
  refine xj_icmp_eq (tgt := 1510) hk dL_law_937 (by decide) (fun _ => kx G2 hI2) (fun c => absurd rfl c)
set_option maxHeartbeats 1000000 in
set_option maxRecDepth 10000 in
theorem lc_26 {v : xw_V} {κ : xk_K} {post : Option Value → xw_G → Prop} {z : Nat × Nat × Nat} {G : xw_G} {nm : String} {b L i : Nat} {xs : Nat → Int32} (hk : xk_Ok v κ (yLw nm) cL_law 4 (some .boolean) 11 235) (hz : xk_zf κ = z) (hX : va_X b L xs (xk_s κ) (xk_s κ).heap) (hb : b < (xk_s κ).heap.size) (hbb : ¬ xk_b κ ≤ b) (hi : i + 6 ≤ L) (hL : L ≤ 3072) (hI : LI v G) (kx : ∀ G2 : xw_G, LI v G2 → xj v κ post z G2 1510 [some (.ref b), some (.ref (xw_ad v 0 0)), some (.ref (xw_ad v 21 0)), some (.int (nI i))] []) : xj v κ post z G 942 [some (.ref b), some (.ref (xw_ad v 0 0)), some (.ref (xw_ad v 21 0)), some (.int (nI i))] [] := by
  refine xj_aload_n (i := 1) hk dL_law_942 rfl rfl ?_
  refine xj_aload_n (i := 0) hk dL_law_943 rfl rfl ?_
  refine xj_iload_n (i := 3) hk dL_law_944 rfl rfl ?_
  refine xj_iconst (x := 1) hk dL_law_945 (by decide) ?_
  refine xj_iadd hk dL_law_946 ?_
  refine xj.eqi (x' := nI (i + 1)) (nI_add i 1) ?_
  refine xj_scld (k := i + 1) hk hX hb hbb (xi_n (by omega) (by omega)) dL_law_947 ?_
  refine xj_callVE hk hz (fr1 := 6) (lo1 := 137) (As := [.int (xs (i + 1))]) (st := []) ml_L_126 (p_ranked hI (xs (i + 1))) (xw_at (LI_0 hI) rfl) rfl dL_law_948 ⟨Nat.le_of_ble_eq_true rfl, Nat.le_of_ble_eq_true rfl⟩ rfl (Nat.le_of_ble_eq_true rfl) rfl ?_
  rintro _ G1 ⟨x9, rfl, ⟨fs9, ho⟩, hm⟩
  show xj v κ post z G1 951 _ [.int x9]
  refine xj_aload_n (i := 2) hk dL_law_951 rfl rfl ?_
  refine xj_aload_n (i := 0) hk dL_law_952 rfl rfl ?_
  refine xj_iload_n (i := 3) hk dL_law_953 rfl rfl ?_
  refine xj_iconst (x := 1) hk dL_law_954 (by decide) ?_
  refine xj_iadd hk dL_law_955 ?_
  refine xj.eqi (x' := nI (i + 1)) (nI_add i 1) ?_
  refine xj_scld (k := i + 1) hk hX hb hbb (xi_n (by omega) (by omega)) dL_law_956 ?_
  refine xj_callVE hk hz (fr1 := 2) (lo1 := 43) (As := [.int (xs (i + 1))]) (st := [.int x9]) ml_L_129 hm ho rfl dL_law_957 ⟨Nat.le_of_ble_eq_true rfl, Nat.le_of_ble_eq_true rfl⟩ rfl (Nat.le_of_ble_eq_true rfl) rfl ?_
  rintro _ G2 ⟨rfl, hI2⟩
  show xj v κ post z G2 960 _ [.int x9, .int x9]
  refine xj_icmp_eq (tgt := 1510) hk dL_law_960 (by decide) (fun _ => kx G2 hI2) (fun c => absurd rfl c)
set_option maxHeartbeats 1000000 in
set_option maxRecDepth 10000 in
theorem lc_27 {v : xw_V} {κ : xk_K} {post : Option Value → xw_G → Prop} {z : Nat × Nat × Nat} {G : xw_G} {nm : String} {b L i : Nat} {xs : Nat → Int32} (hk : xk_Ok v κ (yLw nm) cL_law 4 (some .boolean) 11 235) (hz : xk_zf κ = z) (hX : va_X b L xs (xk_s κ) (xk_s κ).heap) (hb : b < (xk_s κ).heap.size) (hbb : ¬ xk_b κ ≤ b) (hi : i + 6 ≤ L) (hL : L ≤ 3072) (hI : LI v G) (kx : ∀ G2 : xw_G, LI v G2 → xj v κ post z G2 1510 [some (.ref b), some (.ref (xw_ad v 0 0)), some (.ref (xw_ad v 21 0)), some (.int (nI i))] []) : xj v κ post z G 965 [some (.ref b), some (.ref (xw_ad v 0 0)), some (.ref (xw_ad v 21 0)), some (.int (nI i))] [] := by
  refine xj_aload_n (i := 1) hk dL_law_965 rfl rfl ?_
  refine xj_callVE hk hz (fr1 := 6) (lo1 := 137) (As := []) (st := []) ml_L_130 (p_full hI) (xw_at (LI_0 hI) rfl) rfl dL_law_966 ⟨Nat.le_of_ble_eq_true rfl, Nat.le_of_ble_eq_true rfl⟩ rfl (Nat.le_of_ble_eq_true rfl) rfl ?_
  rintro _ G1 ⟨x9, rfl, ⟨fs9, ho⟩, hm⟩
  show xj v κ post z G1 969 _ [.int x9]
  refine xj_aload_n (i := 2) hk dL_law_969 rfl rfl ?_
  refine xj_callVE hk hz (fr1 := 4) (lo1 := 89) (As := []) (st := [.int x9]) ml_L_133 hm ho rfl dL_law_970 ⟨Nat.le_of_ble_eq_true rfl, Nat.le_of_ble_eq_true rfl⟩ rfl (Nat.le_of_ble_eq_true rfl) rfl ?_
  rintro _ G2 ⟨rfl, hI2⟩
  show xj v κ post z G2 973 _ [.int x9, .int x9]
  refine xj_icmp_eq (tgt := 1510) hk dL_law_973 (by decide) (fun _ => kx G2 hI2) (fun c => absurd rfl c)
set_option maxHeartbeats 1000000 in
set_option maxRecDepth 10000 in
theorem lc_28 {v : xw_V} {κ : xk_K} {post : Option Value → xw_G → Prop} {z : Nat × Nat × Nat} {G : xw_G} {nm : String} {b L i : Nat} {xs : Nat → Int32} (hk : xk_Ok v κ (yLw nm) cL_law 4 (some .boolean) 11 235) (hz : xk_zf κ = z) (hX : va_X b L xs (xk_s κ) (xk_s κ).heap) (hb : b < (xk_s κ).heap.size) (hbb : ¬ xk_b κ ≤ b) (hi : i + 6 ≤ L) (hL : L ≤ 3072) (hI : LI v G) (kx : ∀ G2 : xw_G, LI v G2 → xj v κ post z G2 1510 [some (.ref b), some (.ref (xw_ad v 0 0)), some (.ref (xw_ad v 21 0)), some (.int (nI i))] []) : xj v κ post z G 978 [some (.ref b), some (.ref (xw_ad v 0 0)), some (.ref (xw_ad v 21 0)), some (.int (nI i))] [] := by
  refine xj_aload_n (i := 1) hk dL_law_978 rfl rfl ?_
  refine xj_callVE hk hz (fr1 := 6) (lo1 := 137) (As := []) (st := []) ml_L_134 (p_crowded hI) (xw_at (LI_0 hI) rfl) rfl dL_law_979 ⟨Nat.le_of_ble_eq_true rfl, Nat.le_of_ble_eq_true rfl⟩ rfl (Nat.le_of_ble_eq_true rfl) rfl ?_
  rintro _ G1 ⟨x9, rfl, ⟨fs9, ho⟩, hm⟩
  show xj v κ post z G1 982 _ [.int x9]
  refine xj_aload_n (i := 2) hk dL_law_982 rfl rfl ?_
  refine xj_callVE hk hz (fr1 := 4) (lo1 := 89) (As := []) (st := [.int x9]) ml_L_137 hm ho rfl dL_law_983 ⟨Nat.le_of_ble_eq_true rfl, Nat.le_of_ble_eq_true rfl⟩ rfl (Nat.le_of_ble_eq_true rfl) rfl ?_
  rintro _ G2 ⟨rfl, hI2⟩
  show xj v κ post z G2 986 _ [.int x9, .int x9]
  refine xj_icmp_eq (tgt := 1510) hk dL_law_986 (by decide) (fun _ => kx G2 hI2) (fun c => absurd rfl c)
set_option maxHeartbeats 1000000 in
set_option maxRecDepth 10000 in
theorem lc_29 {v : xw_V} {κ : xk_K} {post : Option Value → xw_G → Prop} {z : Nat × Nat × Nat} {G : xw_G} {nm : String} {b L i : Nat} {xs : Nat → Int32} (hk : xk_Ok v κ (yLw nm) cL_law 4 (some .boolean) 11 235) (hz : xk_zf κ = z) (hX : va_X b L xs (xk_s κ) (xk_s κ).heap) (hb : b < (xk_s κ).heap.size) (hbb : ¬ xk_b κ ≤ b) (hi : i + 6 ≤ L) (hL : L ≤ 3072) (hI : LI v G) (kx : ∀ G2 : xw_G, LI v G2 → xj v κ post z G2 1510 [some (.ref b), some (.ref (xw_ad v 0 0)), some (.ref (xw_ad v 21 0)), some (.int (nI i))] []) : xj v κ post z G 991 [some (.ref b), some (.ref (xw_ad v 0 0)), some (.ref (xw_ad v 21 0)), some (.int (nI i))] [] := by
  refine xj_aload_n (i := 1) hk dL_law_991 rfl rfl ?_
  refine xj_aload_n (i := 0) hk dL_law_992 rfl rfl ?_
  refine xj_iload_n (i := 3) hk dL_law_993 rfl rfl ?_
  refine xj_iconst (x := 1) hk dL_law_994 (by decide) ?_
  refine xj_iadd hk dL_law_995 ?_
  refine xj.eqi (x' := nI (i + 1)) (nI_add i 1) ?_
  refine xj_scld (k := i + 1) hk hX hb hbb (xi_n (by omega) (by omega)) dL_law_996 ?_
  refine xj_aload_n (i := 0) hk dL_law_997 rfl rfl ?_
  refine xj_iload_n (i := 3) hk dL_law_998 rfl rfl ?_
  refine xj_iconst (x := 2) hk dL_law_999 (by decide) ?_
  refine xj_iadd hk dL_law_1000 ?_
  refine xj.eqi (x' := nI (i + 2)) (nI_add i 2) ?_
  refine xj_scld (k := i + 2) hk hX hb hbb (xi_n (by omega) (by omega)) dL_law_1001 ?_
  refine xj_callVE hk hz (fr1 := 6) (lo1 := 137) (As := [.int (xs (i + 1)), .int (xs (i + 2))]) (st := []) ml_L_138 (p_step hI (xs (i + 1)) (xs (i + 2))) (xw_at (LI_0 hI) rfl) rfl dL_law_1002 ⟨Nat.le_of_ble_eq_true rfl, Nat.le_of_ble_eq_true rfl⟩ rfl (Nat.le_of_ble_eq_true rfl) rfl ?_
  rintro _ G1 ⟨x9, rfl, ⟨fs9, ho⟩, hm⟩
  show xj v κ post z G1 1005 _ [.int x9]
  refine xj_aload_n (i := 2) hk dL_law_1005 rfl rfl ?_
  refine xj_aload_n (i := 0) hk dL_law_1006 rfl rfl ?_
  refine xj_iload_n (i := 3) hk dL_law_1007 rfl rfl ?_
  refine xj_iconst (x := 1) hk dL_law_1008 (by decide) ?_
  refine xj_iadd hk dL_law_1009 ?_
  refine xj.eqi (x' := nI (i + 1)) (nI_add i 1) ?_
  refine xj_scld (k := i + 1) hk hX hb hbb (xi_n (by omega) (by omega)) dL_law_1010 ?_
  refine xj_aload_n (i := 0) hk dL_law_1011 rfl rfl ?_
  refine xj_iload_n (i := 3) hk dL_law_1012 rfl rfl ?_
  refine xj_iconst (x := 2) hk dL_law_1013 (by decide) ?_
  refine xj_iadd hk dL_law_1014 ?_
  refine xj.eqi (x' := nI (i + 2)) (nI_add i 2) ?_
  refine xj_scld (k := i + 2) hk hX hb hbb (xi_n (by omega) (by omega)) dL_law_1015 ?_
  refine xj_callVE hk hz (fr1 := 4) (lo1 := 89) (As := [.int (xs (i + 1)), .int (xs (i + 2))]) (st := [.int x9]) ml_L_141 hm ho rfl dL_law_1016 ⟨Nat.le_of_ble_eq_true rfl, Nat.le_of_ble_eq_true rfl⟩ rfl (Nat.le_of_ble_eq_true rfl) rfl ?_
  rintro _ G2 ⟨rfl, hI2⟩
  show xj v κ post z G2 1019 _ [.int x9, .int x9]
  refine xj_icmp_eq (tgt := 1510) hk dL_law_1019 (by decide) (fun _ => kx G2 hI2) (fun c => absurd rfl c)
set_option maxHeartbeats 1000000 in
set_option maxRecDepth 10000 in
theorem lc_30 {v : xw_V} {κ : xk_K} {post : Option Value → xw_G → Prop} {z : Nat × Nat × Nat} {G : xw_G} {nm : String} {b L i : Nat} {xs : Nat → Int32} (hk : xk_Ok v κ (yLw nm) cL_law 4 (some .boolean) 11 235) (hz : xk_zf κ = z) (hX : va_X b L xs (xk_s κ) (xk_s κ).heap) (hb : b < (xk_s κ).heap.size) (hbb : ¬ xk_b κ ≤ b) (hi : i + 6 ≤ L) (hL : L ≤ 3072) (hI : LI v G) (kx : ∀ G2 : xw_G, LI v G2 → xj v κ post z G2 1510 [some (.ref b), some (.ref (xw_ad v 0 0)), some (.ref (xw_ad v 21 0)), some (.int (nI i))] []) : xj v κ post z G 1024 [some (.ref b), some (.ref (xw_ad v 0 0)), some (.ref (xw_ad v 21 0)), some (.int (nI i))] [] := by
  refine xj_aload_n (i := 1) hk dL_law_1024 rfl rfl ?_
  refine xj_aload_n (i := 0) hk dL_law_1025 rfl rfl ?_
  refine xj_iload_n (i := 3) hk dL_law_1026 rfl rfl ?_
  refine xj_iconst (x := 1) hk dL_law_1027 (by decide) ?_
  refine xj_iadd hk dL_law_1028 ?_
  refine xj.eqi (x' := nI (i + 1)) (nI_add i 1) ?_
  refine xj_scld (k := i + 1) hk hX hb hbb (xi_n (by omega) (by omega)) dL_law_1029 ?_
  refine xj_aload_n (i := 0) hk dL_law_1030 rfl rfl ?_
  refine xj_iload_n (i := 3) hk dL_law_1031 rfl rfl ?_
  refine xj_iconst (x := 2) hk dL_law_1032 (by decide) ?_
  refine xj_iadd hk dL_law_1033 ?_
  refine xj.eqi (x' := nI (i + 2)) (nI_add i 2) ?_
  refine xj_scld (k := i + 2) hk hX hb hbb (xi_n (by omega) (by omega)) dL_law_1034 ?_
  refine xj_callVE hk hz (fr1 := 7) (lo1 := 160) (As := [.int (xs (i + 1)), .int (xs (i + 2))]) (st := []) ml_L_142 (p_byOffer hI (xs (i + 1)) (xs (i + 2))) (xw_at (LI_0 hI) rfl) rfl dL_law_1035 ⟨Nat.le_of_ble_eq_true rfl, Nat.le_of_ble_eq_true rfl⟩ rfl (Nat.le_of_ble_eq_true rfl) rfl ?_
  rintro _ G1 ⟨x9, rfl, ⟨fs9, ho⟩, hm⟩
  show xj v κ post z G1 1038 _ [.int x9]
  refine xj_aload_n (i := 2) hk dL_law_1038 rfl rfl ?_
  refine xj_aload_n (i := 0) hk dL_law_1039 rfl rfl ?_
  refine xj_iload_n (i := 3) hk dL_law_1040 rfl rfl ?_
  refine xj_iconst (x := 1) hk dL_law_1041 (by decide) ?_
  refine xj_iadd hk dL_law_1042 ?_
  refine xj.eqi (x' := nI (i + 1)) (nI_add i 1) ?_
  refine xj_scld (k := i + 1) hk hX hb hbb (xi_n (by omega) (by omega)) dL_law_1043 ?_
  refine xj_aload_n (i := 0) hk dL_law_1044 rfl rfl ?_
  refine xj_iload_n (i := 3) hk dL_law_1045 rfl rfl ?_
  refine xj_iconst (x := 2) hk dL_law_1046 (by decide) ?_
  refine xj_iadd hk dL_law_1047 ?_
  refine xj.eqi (x' := nI (i + 2)) (nI_add i 2) ?_
  refine xj_scld (k := i + 2) hk hX hb hbb (xi_n (by omega) (by omega)) dL_law_1048 ?_
  refine xj_callVE hk hz (fr1 := 6) (lo1 := 138) (As := [.int (xs (i + 1)), .int (xs (i + 2))]) (st := [.int x9]) ml_L_145 hm ho rfl dL_law_1049 ⟨Nat.le_of_ble_eq_true rfl, Nat.le_of_ble_eq_true rfl⟩ rfl (Nat.le_of_ble_eq_true rfl) rfl ?_
  rintro _ G2 ⟨rfl, hI2⟩
  show xj v κ post z G2 1052 _ [.int x9, .int x9]
  refine xj_icmp_eq (tgt := 1510) hk dL_law_1052 (by decide) (fun _ => kx G2 hI2) (fun c => absurd rfl c)
set_option maxHeartbeats 1000000 in
set_option maxRecDepth 10000 in
theorem lc_31 {v : xw_V} {κ : xk_K} {post : Option Value → xw_G → Prop} {z : Nat × Nat × Nat} {G : xw_G} {nm : String} {b L i : Nat} {xs : Nat → Int32} (hk : xk_Ok v κ (yLw nm) cL_law 4 (some .boolean) 11 235) (hz : xk_zf κ = z) (hX : va_X b L xs (xk_s κ) (xk_s κ).heap) (hb : b < (xk_s κ).heap.size) (hbb : ¬ xk_b κ ≤ b) (hi : i + 6 ≤ L) (hL : L ≤ 3072) (hI : LI v G) (kx : ∀ G2 : xw_G, LI v G2 → xj v κ post z G2 1510 [some (.ref b), some (.ref (xw_ad v 0 0)), some (.ref (xw_ad v 21 0)), some (.int (nI i))] []) : xj v κ post z G 1057 [some (.ref b), some (.ref (xw_ad v 0 0)), some (.ref (xw_ad v 21 0)), some (.int (nI i))] [] := by
  refine xj_aload_n (i := 1) hk dL_law_1057 rfl rfl ?_
  refine xj_aload_n (i := 0) hk dL_law_1058 rfl rfl ?_
  refine xj_iload_n (i := 3) hk dL_law_1059 rfl rfl ?_
  refine xj_iconst (x := 1) hk dL_law_1060 (by decide) ?_
  refine xj_iadd hk dL_law_1061 ?_
  refine xj.eqi (x' := nI (i + 1)) (nI_add i 1) ?_
  refine xj_scld (k := i + 1) hk hX hb hbb (xi_n (by omega) (by omega)) dL_law_1062 ?_
  refine xj_callVE hk hz (fr1 := 7) (lo1 := 159) (As := [.int (xs (i + 1))]) (st := []) ml_L_146 (p_offerFor hI (xs (i + 1))) (xw_at (LI_0 hI) rfl) rfl dL_law_1063 ⟨Nat.le_of_ble_eq_true rfl, Nat.le_of_ble_eq_true rfl⟩ rfl (Nat.le_of_ble_eq_true rfl) rfl ?_
  rintro _ G1 ⟨x9, rfl, ⟨fs9, ho⟩, hm⟩
  show xj v κ post z G1 1066 _ [.int x9]
  refine xj_aload_n (i := 2) hk dL_law_1066 rfl rfl ?_
  refine xj_aload_n (i := 0) hk dL_law_1067 rfl rfl ?_
  refine xj_iload_n (i := 3) hk dL_law_1068 rfl rfl ?_
  refine xj_iconst (x := 1) hk dL_law_1069 (by decide) ?_
  refine xj_iadd hk dL_law_1070 ?_
  refine xj.eqi (x' := nI (i + 1)) (nI_add i 1) ?_
  refine xj_scld (k := i + 1) hk hX hb hbb (xi_n (by omega) (by omega)) dL_law_1071 ?_
  refine xj_callVE hk hz (fr1 := 6) (lo1 := 138) (As := [.int (xs (i + 1))]) (st := [.int x9]) ml_L_149 hm ho rfl dL_law_1072 ⟨Nat.le_of_ble_eq_true rfl, Nat.le_of_ble_eq_true rfl⟩ rfl (Nat.le_of_ble_eq_true rfl) rfl ?_
  rintro _ G2 ⟨rfl, hI2⟩
  show xj v κ post z G2 1075 _ [.int x9, .int x9]
  refine xj_icmp_eq (tgt := 1510) hk dL_law_1075 (by decide) (fun _ => kx G2 hI2) (fun c => absurd rfl c)
set_option maxHeartbeats 1000000 in
set_option maxRecDepth 10000 in
theorem lc_32 {v : xw_V} {κ : xk_K} {post : Option Value → xw_G → Prop} {z : Nat × Nat × Nat} {G : xw_G} {nm : String} {b L i : Nat} {xs : Nat → Int32} (hk : xk_Ok v κ (yLw nm) cL_law 4 (some .boolean) 11 235) (hz : xk_zf κ = z) (hX : va_X b L xs (xk_s κ) (xk_s κ).heap) (hb : b < (xk_s κ).heap.size) (hbb : ¬ xk_b κ ≤ b) (hi : i + 6 ≤ L) (hL : L ≤ 3072) (hI : LI v G) (kx : ∀ G2 : xw_G, LI v G2 → xj v κ post z G2 1510 [some (.ref b), some (.ref (xw_ad v 0 0)), some (.ref (xw_ad v 21 0)), some (.int (nI i))] []) : xj v κ post z G 1080 [some (.ref b), some (.ref (xw_ad v 0 0)), some (.ref (xw_ad v 21 0)), some (.int (nI i))] [] := by
  refine xj_aload_n (i := 1) hk dL_law_1080 rfl rfl ?_
  refine xj_aload_n (i := 0) hk dL_law_1081 rfl rfl ?_
  refine xj_iload_n (i := 3) hk dL_law_1082 rfl rfl ?_
  refine xj_iconst (x := 1) hk dL_law_1083 (by decide) ?_
  refine xj_iadd hk dL_law_1084 ?_
  refine xj.eqi (x' := nI (i + 1)) (nI_add i 1) ?_
  refine xj_scld (k := i + 1) hk hX hb hbb (xi_n (by omega) (by omega)) dL_law_1085 ?_
  refine xj_aload_n (i := 0) hk dL_law_1086 rfl rfl ?_
  refine xj_iload_n (i := 3) hk dL_law_1087 rfl rfl ?_
  refine xj_iconst (x := 2) hk dL_law_1088 (by decide) ?_
  refine xj_iadd hk dL_law_1089 ?_
  refine xj.eqi (x' := nI (i + 2)) (nI_add i 2) ?_
  refine xj_scld (k := i + 2) hk hX hb hbb (xi_n (by omega) (by omega)) dL_law_1090 ?_
  refine xj_aload_n (i := 0) hk dL_law_1091 rfl rfl ?_
  refine xj_iload_n (i := 3) hk dL_law_1092 rfl rfl ?_
  refine xj_iconst (x := 3) hk dL_law_1093 (by decide) ?_
  refine xj_iadd hk dL_law_1094 ?_
  refine xj.eqi (x' := nI (i + 3)) (nI_add i 3) ?_
  refine xj_scld (k := i + 3) hk hX hb hbb (xi_n (by omega) (by omega)) dL_law_1095 ?_
  refine xj_callVE hk hz (fr1 := 7) (lo1 := 160) (As := [.int (xs (i + 1)), .int (xs (i + 2)), .int (xs (i + 3))]) (st := []) ml_L_150 (p_byTerm hI (xs (i + 1)) (xs (i + 2)) (xs (i + 3))) (xw_at (LI_0 hI) rfl) rfl dL_law_1096 ⟨Nat.le_of_ble_eq_true rfl, Nat.le_of_ble_eq_true rfl⟩ rfl (Nat.le_of_ble_eq_true rfl) rfl ?_
  rintro _ G1 ⟨x9, rfl, ⟨fs9, ho⟩, hm⟩
  show xj v κ post z G1 1099 _ [.int x9]
  refine xj_aload_n (i := 2) hk dL_law_1099 rfl rfl ?_
  refine xj_aload_n (i := 0) hk dL_law_1100 rfl rfl ?_
  refine xj_iload_n (i := 3) hk dL_law_1101 rfl rfl ?_
  refine xj_iconst (x := 1) hk dL_law_1102 (by decide) ?_
  refine xj_iadd hk dL_law_1103 ?_
  refine xj.eqi (x' := nI (i + 1)) (nI_add i 1) ?_
  refine xj_scld (k := i + 1) hk hX hb hbb (xi_n (by omega) (by omega)) dL_law_1104 ?_
  refine xj_aload_n (i := 0) hk dL_law_1105 rfl rfl ?_
  refine xj_iload_n (i := 3) hk dL_law_1106 rfl rfl ?_
  refine xj_iconst (x := 2) hk dL_law_1107 (by decide) ?_
  refine xj_iadd hk dL_law_1108 ?_
  refine xj.eqi (x' := nI (i + 2)) (nI_add i 2) ?_
  refine xj_scld (k := i + 2) hk hX hb hbb (xi_n (by omega) (by omega)) dL_law_1109 ?_
  refine xj_aload_n (i := 0) hk dL_law_1110 rfl rfl ?_
  refine xj_iload_n (i := 3) hk dL_law_1111 rfl rfl ?_
  refine xj_iconst (x := 3) hk dL_law_1112 (by decide) ?_
  refine xj_iadd hk dL_law_1113 ?_
  refine xj.eqi (x' := nI (i + 3)) (nI_add i 3) ?_
  refine xj_scld (k := i + 3) hk hX hb hbb (xi_n (by omega) (by omega)) dL_law_1114 ?_
  refine xj_callVE hk hz (fr1 := 6) (lo1 := 138) (As := [.int (xs (i + 1)), .int (xs (i + 2)), .int (xs (i + 3))]) (st := [.int x9]) ml_L_153 hm ho rfl dL_law_1115 ⟨Nat.le_of_ble_eq_true rfl, Nat.le_of_ble_eq_true rfl⟩ rfl (Nat.le_of_ble_eq_true rfl) rfl ?_
  rintro _ G2 ⟨rfl, hI2⟩
  show xj v κ post z G2 1118 _ [.int x9, .int x9]
  refine xj_icmp_eq (tgt := 1510) hk dL_law_1118 (by decide) (fun _ => kx G2 hI2) (fun c => absurd rfl c)
set_option maxHeartbeats 1000000 in
set_option maxRecDepth 10000 in
theorem lc_33 {v : xw_V} {κ : xk_K} {post : Option Value → xw_G → Prop} {z : Nat × Nat × Nat} {G : xw_G} {nm : String} {b L i : Nat} {xs : Nat → Int32} (hk : xk_Ok v κ (yLw nm) cL_law 4 (some .boolean) 11 235) (hz : xk_zf κ = z) (hX : va_X b L xs (xk_s κ) (xk_s κ).heap) (hb : b < (xk_s κ).heap.size) (hbb : ¬ xk_b κ ≤ b) (hi : i + 6 ≤ L) (hL : L ≤ 3072) (hI : LI v G) (kx : ∀ G2 : xw_G, LI v G2 → xj v κ post z G2 1510 [some (.ref b), some (.ref (xw_ad v 0 0)), some (.ref (xw_ad v 21 0)), some (.int (nI i))] []) : xj v κ post z G 1123 [some (.ref b), some (.ref (xw_ad v 0 0)), some (.ref (xw_ad v 21 0)), some (.int (nI i))] [] := by
  refine xj_aload_n (i := 1) hk dL_law_1123 rfl rfl ?_
  refine xj_aload_n (i := 0) hk dL_law_1124 rfl rfl ?_
  refine xj_iload_n (i := 3) hk dL_law_1125 rfl rfl ?_
  refine xj_iconst (x := 1) hk dL_law_1126 (by decide) ?_
  refine xj_iadd hk dL_law_1127 ?_
  refine xj.eqi (x' := nI (i + 1)) (nI_add i 1) ?_
  refine xj_scld (k := i + 1) hk hX hb hbb (xi_n (by omega) (by omega)) dL_law_1128 ?_
  refine xj_aload_n (i := 0) hk dL_law_1129 rfl rfl ?_
  refine xj_iload_n (i := 3) hk dL_law_1130 rfl rfl ?_
  refine xj_iconst (x := 2) hk dL_law_1131 (by decide) ?_
  refine xj_iadd hk dL_law_1132 ?_
  refine xj.eqi (x' := nI (i + 2)) (nI_add i 2) ?_
  refine xj_scld (k := i + 2) hk hX hb hbb (xi_n (by omega) (by omega)) dL_law_1133 ?_
  refine xj_callVE hk hz (fr1 := 7) (lo1 := 159) (As := [.int (xs (i + 1)), .int (xs (i + 2))]) (st := []) ml_L_154 (p_limitFor hI (xs (i + 1)) (xs (i + 2))) (xw_at (LI_0 hI) rfl) rfl dL_law_1134 ⟨Nat.le_of_ble_eq_true rfl, Nat.le_of_ble_eq_true rfl⟩ rfl (Nat.le_of_ble_eq_true rfl) rfl ?_
  rintro _ G1 ⟨x9, rfl, ⟨fs9, ho⟩, hm⟩
  show xj v κ post z G1 1137 _ [.int x9]
  refine xj_aload_n (i := 2) hk dL_law_1137 rfl rfl ?_
  refine xj_aload_n (i := 0) hk dL_law_1138 rfl rfl ?_
  refine xj_iload_n (i := 3) hk dL_law_1139 rfl rfl ?_
  refine xj_iconst (x := 1) hk dL_law_1140 (by decide) ?_
  refine xj_iadd hk dL_law_1141 ?_
  refine xj.eqi (x' := nI (i + 1)) (nI_add i 1) ?_
  refine xj_scld (k := i + 1) hk hX hb hbb (xi_n (by omega) (by omega)) dL_law_1142 ?_
  refine xj_aload_n (i := 0) hk dL_law_1143 rfl rfl ?_
  refine xj_iload_n (i := 3) hk dL_law_1144 rfl rfl ?_
  refine xj_iconst (x := 2) hk dL_law_1145 (by decide) ?_
  refine xj_iadd hk dL_law_1146 ?_
  refine xj.eqi (x' := nI (i + 2)) (nI_add i 2) ?_
  refine xj_scld (k := i + 2) hk hX hb hbb (xi_n (by omega) (by omega)) dL_law_1147 ?_
  refine xj_callVE hk hz (fr1 := 4) (lo1 := 89) (As := [.int (xs (i + 1)), .int (xs (i + 2))]) (st := [.int x9]) ml_L_157 hm ho rfl dL_law_1148 ⟨Nat.le_of_ble_eq_true rfl, Nat.le_of_ble_eq_true rfl⟩ rfl (Nat.le_of_ble_eq_true rfl) rfl ?_
  rintro _ G2 ⟨rfl, hI2⟩
  show xj v κ post z G2 1151 _ [.int x9, .int x9]
  refine xj_icmp_eq (tgt := 1510) hk dL_law_1151 (by decide) (fun _ => kx G2 hI2) (fun c => absurd rfl c)
set_option maxHeartbeats 1000000 in
set_option maxRecDepth 10000 in
theorem lc_34 {v : xw_V} {κ : xk_K} {post : Option Value → xw_G → Prop} {z : Nat × Nat × Nat} {G : xw_G} {nm : String} {b L i : Nat} {xs : Nat → Int32} (hk : xk_Ok v κ (yLw nm) cL_law 4 (some .boolean) 11 235) (hz : xk_zf κ = z) (hX : va_X b L xs (xk_s κ) (xk_s κ).heap) (hb : b < (xk_s κ).heap.size) (hbb : ¬ xk_b κ ≤ b) (hi : i + 6 ≤ L) (hL : L ≤ 3072) (hI : LI v G) (kx : ∀ G2 : xw_G, LI v G2 → xj v κ post z G2 1510 [some (.ref b), some (.ref (xw_ad v 0 0)), some (.ref (xw_ad v 21 0)), some (.int (nI i))] []) : xj v κ post z G 1156 [some (.ref b), some (.ref (xw_ad v 0 0)), some (.ref (xw_ad v 21 0)), some (.int (nI i))] [] := by
  refine xj_aload_n (i := 1) hk dL_law_1156 rfl rfl ?_
  refine xj_aload_n (i := 0) hk dL_law_1157 rfl rfl ?_
  refine xj_iload_n (i := 3) hk dL_law_1158 rfl rfl ?_
  refine xj_iconst (x := 1) hk dL_law_1159 (by decide) ?_
  refine xj_iadd hk dL_law_1160 ?_
  refine xj.eqi (x' := nI (i + 1)) (nI_add i 1) ?_
  refine xj_scld (k := i + 1) hk hX hb hbb (xi_n (by omega) (by omega)) dL_law_1161 ?_
  refine xj_callVE hk hz (fr1 := 7) (lo1 := 159) (As := [.int (xs (i + 1))]) (st := []) ml_L_158 (p_shareFor hI (xs (i + 1))) (xw_at (LI_0 hI) rfl) rfl dL_law_1162 ⟨Nat.le_of_ble_eq_true rfl, Nat.le_of_ble_eq_true rfl⟩ rfl (Nat.le_of_ble_eq_true rfl) rfl ?_
  rintro _ G1 ⟨x9, rfl, ⟨fs9, ho⟩, hm⟩
  show xj v κ post z G1 1165 _ [.int x9]
  refine xj_aload_n (i := 2) hk dL_law_1165 rfl rfl ?_
  refine xj_aload_n (i := 0) hk dL_law_1166 rfl rfl ?_
  refine xj_iload_n (i := 3) hk dL_law_1167 rfl rfl ?_
  refine xj_iconst (x := 1) hk dL_law_1168 (by decide) ?_
  refine xj_iadd hk dL_law_1169 ?_
  refine xj.eqi (x' := nI (i + 1)) (nI_add i 1) ?_
  refine xj_scld (k := i + 1) hk hX hb hbb (xi_n (by omega) (by omega)) dL_law_1170 ?_
  refine xj_callVE hk hz (fr1 := 6) (lo1 := 138) (As := [.int (xs (i + 1))]) (st := [.int x9]) ml_L_161 hm ho rfl dL_law_1171 ⟨Nat.le_of_ble_eq_true rfl, Nat.le_of_ble_eq_true rfl⟩ rfl (Nat.le_of_ble_eq_true rfl) rfl ?_
  rintro _ G2 ⟨rfl, hI2⟩
  show xj v κ post z G2 1174 _ [.int x9, .int x9]
  refine xj_icmp_eq (tgt := 1510) hk dL_law_1174 (by decide) (fun _ => kx G2 hI2) (fun c => absurd rfl c)
set_option maxHeartbeats 1000000 in
set_option maxRecDepth 10000 in
theorem lc_35 {v : xw_V} {κ : xk_K} {post : Option Value → xw_G → Prop} {z : Nat × Nat × Nat} {G : xw_G} {nm : String} {b L i : Nat} {xs : Nat → Int32} (hk : xk_Ok v κ (yLw nm) cL_law 4 (some .boolean) 11 235) (hz : xk_zf κ = z) (hX : va_X b L xs (xk_s κ) (xk_s κ).heap) (hb : b < (xk_s κ).heap.size) (hbb : ¬ xk_b κ ≤ b) (hi : i + 6 ≤ L) (hL : L ≤ 3072) (hI : LI v G) (kx : ∀ G2 : xw_G, LI v G2 → xj v κ post z G2 1510 [some (.ref b), some (.ref (xw_ad v 0 0)), some (.ref (xw_ad v 21 0)), some (.int (nI i))] []) : xj v κ post z G 1179 [some (.ref b), some (.ref (xw_ad v 0 0)), some (.ref (xw_ad v 21 0)), some (.int (nI i))] [] := by
  refine xj_aload_n (i := 1) hk dL_law_1179 rfl rfl ?_
  refine xj_aload_n (i := 0) hk dL_law_1180 rfl rfl ?_
  refine xj_iload_n (i := 3) hk dL_law_1181 rfl rfl ?_
  refine xj_iconst (x := 1) hk dL_law_1182 (by decide) ?_
  refine xj_iadd hk dL_law_1183 ?_
  refine xj.eqi (x' := nI (i + 1)) (nI_add i 1) ?_
  refine xj_scld (k := i + 1) hk hX hb hbb (xi_n (by omega) (by omega)) dL_law_1184 ?_
  refine xj_aload_n (i := 0) hk dL_law_1185 rfl rfl ?_
  refine xj_iload_n (i := 3) hk dL_law_1186 rfl rfl ?_
  refine xj_iconst (x := 2) hk dL_law_1187 (by decide) ?_
  refine xj_iadd hk dL_law_1188 ?_
  refine xj.eqi (x' := nI (i + 2)) (nI_add i 2) ?_
  refine xj_scld (k := i + 2) hk hX hb hbb (xi_n (by omega) (by omega)) dL_law_1189 ?_
  refine xj_callVE hk hz (fr1 := 6) (lo1 := 137) (As := [.int (xs (i + 1)), .int (xs (i + 2))]) (st := []) ml_L_162 (p_lotsFor hI (xs (i + 1)) (xs (i + 2))) (xw_at (LI_0 hI) rfl) rfl dL_law_1190 ⟨Nat.le_of_ble_eq_true rfl, Nat.le_of_ble_eq_true rfl⟩ rfl (Nat.le_of_ble_eq_true rfl) rfl ?_
  rintro _ G1 ⟨x9, rfl, ⟨fs9, ho⟩, hm⟩
  show xj v κ post z G1 1193 _ [.int x9]
  refine xj_aload_n (i := 2) hk dL_law_1193 rfl rfl ?_
  refine xj_aload_n (i := 0) hk dL_law_1194 rfl rfl ?_
  refine xj_iload_n (i := 3) hk dL_law_1195 rfl rfl ?_
  refine xj_iconst (x := 1) hk dL_law_1196 (by decide) ?_
  refine xj_iadd hk dL_law_1197 ?_
  refine xj.eqi (x' := nI (i + 1)) (nI_add i 1) ?_
  refine xj_scld (k := i + 1) hk hX hb hbb (xi_n (by omega) (by omega)) dL_law_1198 ?_
  refine xj_aload_n (i := 0) hk dL_law_1199 rfl rfl ?_
  refine xj_iload_n (i := 3) hk dL_law_1200 rfl rfl ?_
  refine xj_iconst (x := 2) hk dL_law_1201 (by decide) ?_
  refine xj_iadd hk dL_law_1202 ?_
  refine xj.eqi (x' := nI (i + 2)) (nI_add i 2) ?_
  refine xj_scld (k := i + 2) hk hX hb hbb (xi_n (by omega) (by omega)) dL_law_1203 ?_
  refine xj_callVE hk hz (fr1 := 5) (lo1 := 114) (As := [.int (xs (i + 1)), .int (xs (i + 2))]) (st := [.int x9]) ml_L_165 hm ho rfl dL_law_1204 ⟨Nat.le_of_ble_eq_true rfl, Nat.le_of_ble_eq_true rfl⟩ rfl (Nat.le_of_ble_eq_true rfl) rfl ?_
  rintro _ G2 ⟨rfl, hI2⟩
  show xj v κ post z G2 1207 _ [.int x9, .int x9]
  refine xj_icmp_eq (tgt := 1510) hk dL_law_1207 (by decide) (fun _ => kx G2 hI2) (fun c => absurd rfl c)
set_option maxHeartbeats 1000000 in
set_option maxRecDepth 10000 in
theorem lc_36 {v : xw_V} {κ : xk_K} {post : Option Value → xw_G → Prop} {z : Nat × Nat × Nat} {G : xw_G} {nm : String} {b L i : Nat} {xs : Nat → Int32} (hk : xk_Ok v κ (yLw nm) cL_law 4 (some .boolean) 11 235) (hz : xk_zf κ = z) (hX : va_X b L xs (xk_s κ) (xk_s κ).heap) (hb : b < (xk_s κ).heap.size) (hbb : ¬ xk_b κ ≤ b) (hi : i + 6 ≤ L) (hL : L ≤ 3072) (hI : LI v G) (kx : ∀ G2 : xw_G, LI v G2 → xj v κ post z G2 1510 [some (.ref b), some (.ref (xw_ad v 0 0)), some (.ref (xw_ad v 21 0)), some (.int (nI i))] []) : xj v κ post z G 1212 [some (.ref b), some (.ref (xw_ad v 0 0)), some (.ref (xw_ad v 21 0)), some (.int (nI i))] [] := by
  refine xj_aload_n (i := 1) hk dL_law_1212 rfl rfl ?_
  refine xj_callVE hk hz (fr1 := 7) (lo1 := 159) (As := []) (st := []) ml_L_166 (p_bestOffer hI) (xw_at (LI_0 hI) rfl) rfl dL_law_1213 ⟨Nat.le_of_ble_eq_true rfl, Nat.le_of_ble_eq_true rfl⟩ rfl (Nat.le_of_ble_eq_true rfl) rfl ?_
  rintro _ G1 ⟨x9, rfl, ⟨fs9, ho⟩, hm⟩
  show xj v κ post z G1 1216 _ [.int x9]
  refine xj_aload_n (i := 2) hk dL_law_1216 rfl rfl ?_
  refine xj_callVE hk hz (fr1 := 4) (lo1 := 89) (As := []) (st := [.int x9]) ml_L_169 hm ho rfl dL_law_1217 ⟨Nat.le_of_ble_eq_true rfl, Nat.le_of_ble_eq_true rfl⟩ rfl (Nat.le_of_ble_eq_true rfl) rfl ?_
  rintro _ G2 ⟨rfl, hI2⟩
  show xj v κ post z G2 1220 _ [.int x9, .int x9]
  refine xj_icmp_eq (tgt := 1510) hk dL_law_1220 (by decide) (fun _ => kx G2 hI2) (fun c => absurd rfl c)
set_option maxHeartbeats 1000000 in
set_option maxRecDepth 10000 in
theorem lc_37 {v : xw_V} {κ : xk_K} {post : Option Value → xw_G → Prop} {z : Nat × Nat × Nat} {G : xw_G} {nm : String} {b L i : Nat} {xs : Nat → Int32} (hk : xk_Ok v κ (yLw nm) cL_law 4 (some .boolean) 11 235) (hz : xk_zf κ = z) (hX : va_X b L xs (xk_s κ) (xk_s κ).heap) (hb : b < (xk_s κ).heap.size) (hbb : ¬ xk_b κ ≤ b) (hi : i + 6 ≤ L) (hL : L ≤ 3072) (hI : LI v G) (kx : ∀ G2 : xw_G, LI v G2 → xj v κ post z G2 1510 [some (.ref b), some (.ref (xw_ad v 0 0)), some (.ref (xw_ad v 21 0)), some (.int (nI i))] []) : xj v κ post z G 1225 [some (.ref b), some (.ref (xw_ad v 0 0)), some (.ref (xw_ad v 21 0)), some (.int (nI i))] [] := by
  refine xj_aload_n (i := 1) hk dL_law_1225 rfl rfl ?_
  refine xj_aload_n (i := 0) hk dL_law_1226 rfl rfl ?_
  refine xj_iload_n (i := 3) hk dL_law_1227 rfl rfl ?_
  refine xj_iconst (x := 1) hk dL_law_1228 (by decide) ?_
  refine xj_iadd hk dL_law_1229 ?_
  refine xj.eqi (x' := nI (i + 1)) (nI_add i 1) ?_
  refine xj_scld (k := i + 1) hk hX hb hbb (xi_n (by omega) (by omega)) dL_law_1230 ?_
  refine xj_callVE hk hz (fr1 := 7) (lo1 := 159) (As := [.int (xs (i + 1))]) (st := []) ml_L_170 (p_paidBy hI (xs (i + 1))) (xw_at (LI_0 hI) rfl) rfl dL_law_1231 ⟨Nat.le_of_ble_eq_true rfl, Nat.le_of_ble_eq_true rfl⟩ rfl (Nat.le_of_ble_eq_true rfl) rfl ?_
  rintro _ G1 ⟨x9, rfl, ⟨fs9, ho⟩, hm⟩
  show xj v κ post z G1 1234 _ [.long x9]
  refine xj_aload_n (i := 2) hk dL_law_1234 rfl rfl ?_
  refine xj_aload_n (i := 0) hk dL_law_1235 rfl rfl ?_
  refine xj_iload_n (i := 3) hk dL_law_1236 rfl rfl ?_
  refine xj_iconst (x := 1) hk dL_law_1237 (by decide) ?_
  refine xj_iadd hk dL_law_1238 ?_
  refine xj.eqi (x' := nI (i + 1)) (nI_add i 1) ?_
  refine xj_scld (k := i + 1) hk hX hb hbb (xi_n (by omega) (by omega)) dL_law_1239 ?_
  refine xj_callVE hk hz (fr1 := 4) (lo1 := 89) (As := [.int (xs (i + 1))]) (st := [.long x9]) ml_L_173 hm ho rfl dL_law_1240 ⟨Nat.le_of_ble_eq_true rfl, Nat.le_of_ble_eq_true rfl⟩ rfl (Nat.le_of_ble_eq_true rfl) rfl ?_
  rintro _ G2 ⟨rfl, hI2⟩
  show xj v κ post z G2 1243 _ [.long x9, .long x9]
  refine xj_lcmp hk dL_law_1243 ?_
  refine xj_if_eq (tgt := 1510) hk dL_law_1244 (by decide) (fun _ => kx G2 hI2) (fun c => absurd (lgc x9) c)
set_option maxHeartbeats 1000000 in
set_option maxRecDepth 10000 in
theorem lc_38 {v : xw_V} {κ : xk_K} {post : Option Value → xw_G → Prop} {z : Nat × Nat × Nat} {G : xw_G} {nm : String} {b L i : Nat} {xs : Nat → Int32} (hk : xk_Ok v κ (yLw nm) cL_law 4 (some .boolean) 11 235) (hz : xk_zf κ = z) (hX : va_X b L xs (xk_s κ) (xk_s κ).heap) (hb : b < (xk_s κ).heap.size) (hbb : ¬ xk_b κ ≤ b) (hi : i + 6 ≤ L) (hL : L ≤ 3072) (hI : LI v G) (kx : ∀ G2 : xw_G, LI v G2 → xj v κ post z G2 1510 [some (.ref b), some (.ref (xw_ad v 0 0)), some (.ref (xw_ad v 21 0)), some (.int (nI i))] []) : xj v κ post z G 1249 [some (.ref b), some (.ref (xw_ad v 0 0)), some (.ref (xw_ad v 21 0)), some (.int (nI i))] [] := by
  refine xj_aload_n (i := 1) hk dL_law_1249 rfl rfl ?_
  refine xj_aload_n (i := 0) hk dL_law_1250 rfl rfl ?_
  refine xj_iload_n (i := 3) hk dL_law_1251 rfl rfl ?_
  refine xj_iconst (x := 1) hk dL_law_1252 (by decide) ?_
  refine xj_iadd hk dL_law_1253 ?_
  refine xj.eqi (x' := nI (i + 1)) (nI_add i 1) ?_
  refine xj_scld (k := i + 1) hk hX hb hbb (xi_n (by omega) (by omega)) dL_law_1254 ?_
  refine xj_aload_n (i := 0) hk dL_law_1255 rfl rfl ?_
  refine xj_iload_n (i := 3) hk dL_law_1256 rfl rfl ?_
  refine xj_iconst (x := 2) hk dL_law_1257 (by decide) ?_
  refine xj_iadd hk dL_law_1258 ?_
  refine xj.eqi (x' := nI (i + 2)) (nI_add i 2) ?_
  refine xj_scld (k := i + 2) hk hX hb hbb (xi_n (by omega) (by omega)) dL_law_1259 ?_
  refine xj_callVE hk hz (fr1 := 7) (lo1 := 159) (As := [.int (xs (i + 1)), .int (xs (i + 2))]) (st := []) ml_L_174 (p_soldAt hI (xs (i + 1)) (xs (i + 2))) (xw_at (LI_0 hI) rfl) rfl dL_law_1260 ⟨Nat.le_of_ble_eq_true rfl, Nat.le_of_ble_eq_true rfl⟩ rfl (Nat.le_of_ble_eq_true rfl) rfl ?_
  rintro _ G1 ⟨x9, rfl, ⟨fs9, ho⟩, hm⟩
  show xj v κ post z G1 1263 _ [.int x9]
  refine xj_aload_n (i := 2) hk dL_law_1263 rfl rfl ?_
  refine xj_aload_n (i := 0) hk dL_law_1264 rfl rfl ?_
  refine xj_iload_n (i := 3) hk dL_law_1265 rfl rfl ?_
  refine xj_iconst (x := 1) hk dL_law_1266 (by decide) ?_
  refine xj_iadd hk dL_law_1267 ?_
  refine xj.eqi (x' := nI (i + 1)) (nI_add i 1) ?_
  refine xj_scld (k := i + 1) hk hX hb hbb (xi_n (by omega) (by omega)) dL_law_1268 ?_
  refine xj_aload_n (i := 0) hk dL_law_1269 rfl rfl ?_
  refine xj_iload_n (i := 3) hk dL_law_1270 rfl rfl ?_
  refine xj_iconst (x := 2) hk dL_law_1271 (by decide) ?_
  refine xj_iadd hk dL_law_1272 ?_
  refine xj.eqi (x' := nI (i + 2)) (nI_add i 2) ?_
  refine xj_scld (k := i + 2) hk hX hb hbb (xi_n (by omega) (by omega)) dL_law_1273 ?_
  refine xj_callVE hk hz (fr1 := 5) (lo1 := 114) (As := [.int (xs (i + 1)), .int (xs (i + 2))]) (st := [.int x9]) ml_L_177 hm ho rfl dL_law_1274 ⟨Nat.le_of_ble_eq_true rfl, Nat.le_of_ble_eq_true rfl⟩ rfl (Nat.le_of_ble_eq_true rfl) rfl ?_
  rintro _ G2 ⟨rfl, hI2⟩
  show xj v κ post z G2 1277 _ [.int x9, .int x9]
  refine xj_icmp_eq (tgt := 1510) hk dL_law_1277 (by decide) (fun _ => kx G2 hI2) (fun c => absurd rfl c)
set_option maxHeartbeats 1000000 in
set_option maxRecDepth 10000 in
theorem lc_39 {v : xw_V} {κ : xk_K} {post : Option Value → xw_G → Prop} {z : Nat × Nat × Nat} {G : xw_G} {nm : String} {b L i : Nat} {xs : Nat → Int32} (hk : xk_Ok v κ (yLw nm) cL_law 4 (some .boolean) 11 235) (hz : xk_zf κ = z) (hX : va_X b L xs (xk_s κ) (xk_s κ).heap) (hb : b < (xk_s κ).heap.size) (hbb : ¬ xk_b κ ≤ b) (hi : i + 6 ≤ L) (hL : L ≤ 3072) (hI : LI v G) (kx : ∀ G2 : xw_G, LI v G2 → xj v κ post z G2 1510 [some (.ref b), some (.ref (xw_ad v 0 0)), some (.ref (xw_ad v 21 0)), some (.int (nI i))] []) : xj v κ post z G 1282 [some (.ref b), some (.ref (xw_ad v 0 0)), some (.ref (xw_ad v 21 0)), some (.int (nI i))] [] := by
  refine xj_aload_n (i := 1) hk dL_law_1282 rfl rfl ?_
  refine xj_aload_n (i := 0) hk dL_law_1283 rfl rfl ?_
  refine xj_iload_n (i := 3) hk dL_law_1284 rfl rfl ?_
  refine xj_iconst (x := 1) hk dL_law_1285 (by decide) ?_
  refine xj_iadd hk dL_law_1286 ?_
  refine xj.eqi (x' := nI (i + 1)) (nI_add i 1) ?_
  refine xj_scld (k := i + 1) hk hX hb hbb (xi_n (by omega) (by omega)) dL_law_1287 ?_
  refine xj_aload_n (i := 0) hk dL_law_1288 rfl rfl ?_
  refine xj_iload_n (i := 3) hk dL_law_1289 rfl rfl ?_
  refine xj_iconst (x := 2) hk dL_law_1290 (by decide) ?_
  refine xj_iadd hk dL_law_1291 ?_
  refine xj.eqi (x' := nI (i + 2)) (nI_add i 2) ?_
  refine xj_scld (k := i + 2) hk hX hb hbb (xi_n (by omega) (by omega)) dL_law_1292 ?_
  refine xj_callVE hk hz (fr1 := 7) (lo1 := 159) (As := [.int (xs (i + 1)), .int (xs (i + 2))]) (st := []) ml_L_178 (p_yieldFor hI (xs (i + 1)) (xs (i + 2))) (xw_at (LI_0 hI) rfl) rfl dL_law_1293 ⟨Nat.le_of_ble_eq_true rfl, Nat.le_of_ble_eq_true rfl⟩ rfl (Nat.le_of_ble_eq_true rfl) rfl ?_
  rintro _ G1 ⟨x9, rfl, ⟨fs9, ho⟩, hm⟩
  show xj v κ post z G1 1296 _ [.int x9]
  refine xj_aload_n (i := 2) hk dL_law_1296 rfl rfl ?_
  refine xj_aload_n (i := 0) hk dL_law_1297 rfl rfl ?_
  refine xj_iload_n (i := 3) hk dL_law_1298 rfl rfl ?_
  refine xj_iconst (x := 1) hk dL_law_1299 (by decide) ?_
  refine xj_iadd hk dL_law_1300 ?_
  refine xj.eqi (x' := nI (i + 1)) (nI_add i 1) ?_
  refine xj_scld (k := i + 1) hk hX hb hbb (xi_n (by omega) (by omega)) dL_law_1301 ?_
  refine xj_aload_n (i := 0) hk dL_law_1302 rfl rfl ?_
  refine xj_iload_n (i := 3) hk dL_law_1303 rfl rfl ?_
  refine xj_iconst (x := 2) hk dL_law_1304 (by decide) ?_
  refine xj_iadd hk dL_law_1305 ?_
  refine xj.eqi (x' := nI (i + 2)) (nI_add i 2) ?_
  refine xj_scld (k := i + 2) hk hX hb hbb (xi_n (by omega) (by omega)) dL_law_1306 ?_
  refine xj_callVE hk hz (fr1 := 5) (lo1 := 114) (As := [.int (xs (i + 1)), .int (xs (i + 2))]) (st := [.int x9]) ml_L_181 hm ho rfl dL_law_1307 ⟨Nat.le_of_ble_eq_true rfl, Nat.le_of_ble_eq_true rfl⟩ rfl (Nat.le_of_ble_eq_true rfl) rfl ?_
  rintro _ G2 ⟨rfl, hI2⟩
  show xj v κ post z G2 1310 _ [.int x9, .int x9]
  refine xj_icmp_eq (tgt := 1510) hk dL_law_1310 (by decide) (fun _ => kx G2 hI2) (fun c => absurd rfl c)
set_option maxHeartbeats 1000000 in
set_option maxRecDepth 10000 in
theorem lc_40 {v : xw_V} {κ : xk_K} {post : Option Value → xw_G → Prop} {z : Nat × Nat × Nat} {G : xw_G} {nm : String} {b L i : Nat} {xs : Nat → Int32} (hk : xk_Ok v κ (yLw nm) cL_law 4 (some .boolean) 11 235) (hz : xk_zf κ = z) (hX : va_X b L xs (xk_s κ) (xk_s κ).heap) (hb : b < (xk_s κ).heap.size) (hbb : ¬ xk_b κ ≤ b) (hi : i + 6 ≤ L) (hL : L ≤ 3072) (hI : LI v G) (kx : ∀ G2 : xw_G, LI v G2 → xj v κ post z G2 1510 [some (.ref b), some (.ref (xw_ad v 0 0)), some (.ref (xw_ad v 21 0)), some (.int (nI i))] []) : xj v κ post z G 1315 [some (.ref b), some (.ref (xw_ad v 0 0)), some (.ref (xw_ad v 21 0)), some (.int (nI i))] [] := by
  refine xj_aload_n (i := 1) hk dL_law_1315 rfl rfl ?_
  refine xj_aload_n (i := 0) hk dL_law_1316 rfl rfl ?_
  refine xj_iload_n (i := 3) hk dL_law_1317 rfl rfl ?_
  refine xj_iconst (x := 1) hk dL_law_1318 (by decide) ?_
  refine xj_iadd hk dL_law_1319 ?_
  refine xj.eqi (x' := nI (i + 1)) (nI_add i 1) ?_
  refine xj_scld (k := i + 1) hk hX hb hbb (xi_n (by omega) (by omega)) dL_law_1320 ?_
  refine xj_aload_n (i := 0) hk dL_law_1321 rfl rfl ?_
  refine xj_iload_n (i := 3) hk dL_law_1322 rfl rfl ?_
  refine xj_iconst (x := 2) hk dL_law_1323 (by decide) ?_
  refine xj_iadd hk dL_law_1324 ?_
  refine xj.eqi (x' := nI (i + 2)) (nI_add i 2) ?_
  refine xj_scld (k := i + 2) hk hX hb hbb (xi_n (by omega) (by omega)) dL_law_1325 ?_
  refine xj_callVE hk hz (fr1 := 6) (lo1 := 137) (As := [.int (xs (i + 1)), .int (xs (i + 2))]) (st := []) ml_L_182 (p_soldAllAt hI (xs (i + 1)) (xs (i + 2))) (xw_at (LI_0 hI) rfl) rfl dL_law_1326 ⟨Nat.le_of_ble_eq_true rfl, Nat.le_of_ble_eq_true rfl⟩ rfl (Nat.le_of_ble_eq_true rfl) rfl ?_
  rintro _ G1 ⟨x9, rfl, ⟨fs9, ho⟩, hm⟩
  show xj v κ post z G1 1329 _ [.int x9]
  refine xj_aload_n (i := 2) hk dL_law_1329 rfl rfl ?_
  refine xj_aload_n (i := 0) hk dL_law_1330 rfl rfl ?_
  refine xj_iload_n (i := 3) hk dL_law_1331 rfl rfl ?_
  refine xj_iconst (x := 1) hk dL_law_1332 (by decide) ?_
  refine xj_iadd hk dL_law_1333 ?_
  refine xj.eqi (x' := nI (i + 1)) (nI_add i 1) ?_
  refine xj_scld (k := i + 1) hk hX hb hbb (xi_n (by omega) (by omega)) dL_law_1334 ?_
  refine xj_aload_n (i := 0) hk dL_law_1335 rfl rfl ?_
  refine xj_iload_n (i := 3) hk dL_law_1336 rfl rfl ?_
  refine xj_iconst (x := 2) hk dL_law_1337 (by decide) ?_
  refine xj_iadd hk dL_law_1338 ?_
  refine xj.eqi (x' := nI (i + 2)) (nI_add i 2) ?_
  refine xj_scld (k := i + 2) hk hX hb hbb (xi_n (by omega) (by omega)) dL_law_1339 ?_
  refine xj_callVE hk hz (fr1 := 4) (lo1 := 89) (As := [.int (xs (i + 1)), .int (xs (i + 2))]) (st := [.int x9]) ml_L_185 hm ho rfl dL_law_1340 ⟨Nat.le_of_ble_eq_true rfl, Nat.le_of_ble_eq_true rfl⟩ rfl (Nat.le_of_ble_eq_true rfl) rfl ?_
  rintro _ G2 ⟨rfl, hI2⟩
  show xj v κ post z G2 1343 _ [.int x9, .int x9]
  refine xj_icmp_eq (tgt := 1510) hk dL_law_1343 (by decide) (fun _ => kx G2 hI2) (fun c => absurd rfl c)
set_option maxHeartbeats 1000000 in
set_option maxRecDepth 10000 in
theorem lc_41 {v : xw_V} {κ : xk_K} {post : Option Value → xw_G → Prop} {z : Nat × Nat × Nat} {G : xw_G} {nm : String} {b L i : Nat} {xs : Nat → Int32} (hk : xk_Ok v κ (yLw nm) cL_law 4 (some .boolean) 11 235) (hz : xk_zf κ = z) (hX : va_X b L xs (xk_s κ) (xk_s κ).heap) (hb : b < (xk_s κ).heap.size) (hbb : ¬ xk_b κ ≤ b) (hi : i + 6 ≤ L) (hL : L ≤ 3072) (hI : LI v G) (kx : ∀ G2 : xw_G, LI v G2 → xj v κ post z G2 1510 [some (.ref b), some (.ref (xw_ad v 0 0)), some (.ref (xw_ad v 21 0)), some (.int (nI i))] []) : xj v κ post z G 1348 [some (.ref b), some (.ref (xw_ad v 0 0)), some (.ref (xw_ad v 21 0)), some (.int (nI i))] [] := by
  refine xj_aload_n (i := 1) hk dL_law_1348 rfl rfl ?_
  refine xj_aload_n (i := 0) hk dL_law_1349 rfl rfl ?_
  refine xj_iload_n (i := 3) hk dL_law_1350 rfl rfl ?_
  refine xj_iconst (x := 1) hk dL_law_1351 (by decide) ?_
  refine xj_iadd hk dL_law_1352 ?_
  refine xj.eqi (x' := nI (i + 1)) (nI_add i 1) ?_
  refine xj_scld (k := i + 1) hk hX hb hbb (xi_n (by omega) (by omega)) dL_law_1353 ?_
  refine xj_callVE hk hz (fr1 := 6) (lo1 := 137) (As := [.int (xs (i + 1))]) (st := []) ml_L_186 (p_stopWithout hI (xs (i + 1))) (xw_at (LI_0 hI) rfl) rfl dL_law_1354 ⟨Nat.le_of_ble_eq_true rfl, Nat.le_of_ble_eq_true rfl⟩ rfl (Nat.le_of_ble_eq_true rfl) rfl ?_
  rintro _ G1 ⟨x9, rfl, ⟨fs9, ho⟩, hm⟩
  show xj v κ post z G1 1357 _ [.int x9]
  refine xj_aload_n (i := 2) hk dL_law_1357 rfl rfl ?_
  refine xj_aload_n (i := 0) hk dL_law_1358 rfl rfl ?_
  refine xj_iload_n (i := 3) hk dL_law_1359 rfl rfl ?_
  refine xj_iconst (x := 1) hk dL_law_1360 (by decide) ?_
  refine xj_iadd hk dL_law_1361 ?_
  refine xj.eqi (x' := nI (i + 1)) (nI_add i 1) ?_
  refine xj_scld (k := i + 1) hk hX hb hbb (xi_n (by omega) (by omega)) dL_law_1362 ?_
  refine xj_callVE hk hz (fr1 := 4) (lo1 := 89) (As := [.int (xs (i + 1))]) (st := [.int x9]) ml_L_189 hm ho rfl dL_law_1363 ⟨Nat.le_of_ble_eq_true rfl, Nat.le_of_ble_eq_true rfl⟩ rfl (Nat.le_of_ble_eq_true rfl) rfl ?_
  rintro _ G2 ⟨rfl, hI2⟩
  show xj v κ post z G2 1366 _ [.int x9, .int x9]
  refine xj_icmp_eq (tgt := 1510) hk dL_law_1366 (by decide) (fun _ => kx G2 hI2) (fun c => absurd rfl c)
set_option maxHeartbeats 1000000 in
set_option maxRecDepth 10000 in
theorem lc_42 {v : xw_V} {κ : xk_K} {post : Option Value → xw_G → Prop} {z : Nat × Nat × Nat} {G : xw_G} {nm : String} {b L i : Nat} {xs : Nat → Int32} (hk : xk_Ok v κ (yLw nm) cL_law 4 (some .boolean) 11 235) (hz : xk_zf κ = z) (hX : va_X b L xs (xk_s κ) (xk_s κ).heap) (hb : b < (xk_s κ).heap.size) (hbb : ¬ xk_b κ ≤ b) (hi : i + 6 ≤ L) (hL : L ≤ 3072) (hI : LI v G) (kx : ∀ G2 : xw_G, LI v G2 → xj v κ post z G2 1510 [some (.ref b), some (.ref (xw_ad v 0 0)), some (.ref (xw_ad v 21 0)), some (.int (nI i))] []) : xj v κ post z G 1371 [some (.ref b), some (.ref (xw_ad v 0 0)), some (.ref (xw_ad v 21 0)), some (.int (nI i))] [] := by
  refine xj_aload_n (i := 1) hk dL_law_1371 rfl rfl ?_
  refine xj_callVE hk hz (fr1 := 6) (lo1 := 137) (As := []) (st := []) ml_L_190 (p_pivot hI) (xw_at (LI_0 hI) rfl) rfl dL_law_1372 ⟨Nat.le_of_ble_eq_true rfl, Nat.le_of_ble_eq_true rfl⟩ rfl (Nat.le_of_ble_eq_true rfl) rfl ?_
  rintro _ G1 ⟨x9, rfl, ⟨fs9, ho⟩, hm⟩
  show xj v κ post z G1 1375 _ [.int x9]
  refine xj_aload_n (i := 2) hk dL_law_1375 rfl rfl ?_
  refine xj_callVE hk hz (fr1 := 4) (lo1 := 89) (As := []) (st := [.int x9]) ml_L_193 hm ho rfl dL_law_1376 ⟨Nat.le_of_ble_eq_true rfl, Nat.le_of_ble_eq_true rfl⟩ rfl (Nat.le_of_ble_eq_true rfl) rfl ?_
  rintro _ G2 ⟨rfl, hI2⟩
  show xj v κ post z G2 1379 _ [.int x9, .int x9]
  refine xj_icmp_eq (tgt := 1510) hk dL_law_1379 (by decide) (fun _ => kx G2 hI2) (fun c => absurd rfl c)
set_option maxHeartbeats 1000000 in
set_option maxRecDepth 10000 in
theorem lc_43 {v : xw_V} {κ : xk_K} {post : Option Value → xw_G → Prop} {z : Nat × Nat × Nat} {G : xw_G} {nm : String} {b L i : Nat} {xs : Nat → Int32} (hk : xk_Ok v κ (yLw nm) cL_law 4 (some .boolean) 11 235) (hz : xk_zf κ = z) (hX : va_X b L xs (xk_s κ) (xk_s κ).heap) (hb : b < (xk_s κ).heap.size) (hbb : ¬ xk_b κ ≤ b) (hi : i + 6 ≤ L) (hL : L ≤ 3072) (hI : LI v G) (kx : ∀ G2 : xw_G, LI v G2 → xj v κ post z G2 1510 [some (.ref b), some (.ref (xw_ad v 0 0)), some (.ref (xw_ad v 21 0)), some (.int (nI i))] []) : xj v κ post z G 1384 [some (.ref b), some (.ref (xw_ad v 0 0)), some (.ref (xw_ad v 21 0)), some (.int (nI i))] [] := by
  refine xj_aload_n (i := 1) hk dL_law_1384 rfl rfl ?_
  refine xj_aload_n (i := 0) hk dL_law_1385 rfl rfl ?_
  refine xj_iload_n (i := 3) hk dL_law_1386 rfl rfl ?_
  refine xj_iconst (x := 1) hk dL_law_1387 (by decide) ?_
  refine xj_iadd hk dL_law_1388 ?_
  refine xj.eqi (x' := nI (i + 1)) (nI_add i 1) ?_
  refine xj_scld (k := i + 1) hk hX hb hbb (xi_n (by omega) (by omega)) dL_law_1389 ?_
  refine xj_aload_n (i := 0) hk dL_law_1390 rfl rfl ?_
  refine xj_iload_n (i := 3) hk dL_law_1391 rfl rfl ?_
  refine xj_iconst (x := 2) hk dL_law_1392 (by decide) ?_
  refine xj_iadd hk dL_law_1393 ?_
  refine xj.eqi (x' := nI (i + 2)) (nI_add i 2) ?_
  refine xj_scld (k := i + 2) hk hX hb hbb (xi_n (by omega) (by omega)) dL_law_1394 ?_
  refine xj_callVE hk hz (fr1 := 1) (lo1 := 21) (As := [.int (xs (i + 1)), .int (xs (i + 2))]) (st := []) ml_L_194 (p_record hI (xs (i + 1)) (xs (i + 2))) (xw_at (LI_0 hI) rfl) rfl dL_law_1395 ⟨Nat.le_of_ble_eq_true rfl, Nat.le_of_ble_eq_true rfl⟩ rfl (Nat.le_of_ble_eq_true rfl) rfl ?_
  rintro _ G1 ⟨x9, rfl, ⟨fs9, ho⟩, hm⟩
  show xj v κ post z G1 1398 _ [.int x9]
  refine xj_aload_n (i := 2) hk dL_law_1398 rfl rfl ?_
  refine xj_aload_n (i := 0) hk dL_law_1399 rfl rfl ?_
  refine xj_iload_n (i := 3) hk dL_law_1400 rfl rfl ?_
  refine xj_iconst (x := 1) hk dL_law_1401 (by decide) ?_
  refine xj_iadd hk dL_law_1402 ?_
  refine xj.eqi (x' := nI (i + 1)) (nI_add i 1) ?_
  refine xj_scld (k := i + 1) hk hX hb hbb (xi_n (by omega) (by omega)) dL_law_1403 ?_
  refine xj_aload_n (i := 0) hk dL_law_1404 rfl rfl ?_
  refine xj_iload_n (i := 3) hk dL_law_1405 rfl rfl ?_
  refine xj_iconst (x := 2) hk dL_law_1406 (by decide) ?_
  refine xj_iadd hk dL_law_1407 ?_
  refine xj.eqi (x' := nI (i + 2)) (nI_add i 2) ?_
  refine xj_scld (k := i + 2) hk hX hb hbb (xi_n (by omega) (by omega)) dL_law_1408 ?_
  refine xj_callVE hk hz (fr1 := 2) (lo1 := 43) (As := [.int (xs (i + 1)), .int (xs (i + 2))]) (st := [.int x9]) ml_L_197 hm ho rfl dL_law_1409 ⟨Nat.le_of_ble_eq_true rfl, Nat.le_of_ble_eq_true rfl⟩ rfl (Nat.le_of_ble_eq_true rfl) rfl ?_
  rintro _ G2 ⟨rfl, hI2⟩
  show xj v κ post z G2 1412 _ [.int x9, .int x9]
  refine xj_icmp_eq (tgt := 1510) hk dL_law_1412 (by decide) (fun _ => kx G2 hI2) (fun c => absurd rfl c)
set_option maxHeartbeats 1000000 in
set_option maxRecDepth 10000 in
theorem lc_44 {v : xw_V} {κ : xk_K} {post : Option Value → xw_G → Prop} {z : Nat × Nat × Nat} {G : xw_G} {nm : String} {b L i : Nat} {xs : Nat → Int32} (hk : xk_Ok v κ (yLw nm) cL_law 4 (some .boolean) 11 235) (hz : xk_zf κ = z) (hX : va_X b L xs (xk_s κ) (xk_s κ).heap) (hb : b < (xk_s κ).heap.size) (hbb : ¬ xk_b κ ≤ b) (hi : i + 6 ≤ L) (hL : L ≤ 3072) (hI : LI v G) (kx : ∀ G2 : xw_G, LI v G2 → xj v κ post z G2 1510 [some (.ref b), some (.ref (xw_ad v 0 0)), some (.ref (xw_ad v 21 0)), some (.int (nI i))] []) : xj v κ post z G 1417 [some (.ref b), some (.ref (xw_ad v 0 0)), some (.ref (xw_ad v 21 0)), some (.int (nI i))] [] := by
  refine xj_aload_n (i := 1) hk dL_law_1417 rfl rfl ?_
  refine xj_aload_n (i := 0) hk dL_law_1418 rfl rfl ?_
  refine xj_iload_n (i := 3) hk dL_law_1419 rfl rfl ?_
  refine xj_iconst (x := 1) hk dL_law_1420 (by decide) ?_
  refine xj_iadd hk dL_law_1421 ?_
  refine xj.eqi (x' := nI (i + 1)) (nI_add i 1) ?_
  refine xj_scld (k := i + 1) hk hX hb hbb (xi_n (by omega) (by omega)) dL_law_1422 ?_
  refine xj_callVE hk hz (fr1 := 2) (lo1 := 43) (As := [.int (xs (i + 1))]) (st := []) ml_L_198 (p_records hI (xs (i + 1))) (xw_at (LI_0 hI) rfl) rfl dL_law_1423 ⟨Nat.le_of_ble_eq_true rfl, Nat.le_of_ble_eq_true rfl⟩ rfl (Nat.le_of_ble_eq_true rfl) rfl ?_
  rintro _ G1 ⟨x9, rfl, ⟨fs9, ho⟩, hm⟩
  show xj v κ post z G1 1426 _ [.int x9]
  refine xj_aload_n (i := 2) hk dL_law_1426 rfl rfl ?_
  refine xj_aload_n (i := 0) hk dL_law_1427 rfl rfl ?_
  refine xj_iload_n (i := 3) hk dL_law_1428 rfl rfl ?_
  refine xj_iconst (x := 1) hk dL_law_1429 (by decide) ?_
  refine xj_iadd hk dL_law_1430 ?_
  refine xj.eqi (x' := nI (i + 1)) (nI_add i 1) ?_
  refine xj_scld (k := i + 1) hk hX hb hbb (xi_n (by omega) (by omega)) dL_law_1431 ?_
  refine xj_callVE hk hz (fr1 := 1) (lo1 := 22) (As := [.int (xs (i + 1))]) (st := [.int x9]) ml_L_201 hm ho rfl dL_law_1432 ⟨Nat.le_of_ble_eq_true rfl, Nat.le_of_ble_eq_true rfl⟩ rfl (Nat.le_of_ble_eq_true rfl) rfl ?_
  rintro _ G2 ⟨rfl, hI2⟩
  show xj v κ post z G2 1435 _ [.int x9, .int x9]
  refine xj_icmp_eq (tgt := 1510) hk dL_law_1435 (by decide) (fun _ => kx G2 hI2) (fun c => absurd rfl c)
set_option maxHeartbeats 1000000 in
set_option maxRecDepth 10000 in
theorem lc_45 {v : xw_V} {κ : xk_K} {post : Option Value → xw_G → Prop} {z : Nat × Nat × Nat} {G : xw_G} {nm : String} {b L i : Nat} {xs : Nat → Int32} (hk : xk_Ok v κ (yLw nm) cL_law 4 (some .boolean) 11 235) (hz : xk_zf κ = z) (hX : va_X b L xs (xk_s κ) (xk_s κ).heap) (hb : b < (xk_s κ).heap.size) (hbb : ¬ xk_b κ ≤ b) (hi : i + 6 ≤ L) (hL : L ≤ 3072) (hI : LI v G) (kx : ∀ G2 : xw_G, LI v G2 → xj v κ post z G2 1510 [some (.ref b), some (.ref (xw_ad v 0 0)), some (.ref (xw_ad v 21 0)), some (.int (nI i))] []) : xj v κ post z G 1440 [some (.ref b), some (.ref (xw_ad v 0 0)), some (.ref (xw_ad v 21 0)), some (.int (nI i))] [] := by
  refine xj_aload_n (i := 1) hk dL_law_1440 rfl rfl ?_
  refine xj_aload_n (i := 0) hk dL_law_1441 rfl rfl ?_
  refine xj_iload_n (i := 3) hk dL_law_1442 rfl rfl ?_
  refine xj_iconst (x := 1) hk dL_law_1443 (by decide) ?_
  refine xj_iadd hk dL_law_1444 ?_
  refine xj.eqi (x' := nI (i + 1)) (nI_add i 1) ?_
  refine xj_scld (k := i + 1) hk hX hb hbb (xi_n (by omega) (by omega)) dL_law_1445 ?_
  refine xj_callVE hk hz (fr1 := 1) (lo1 := 21) (As := [.int (xs (i + 1))]) (st := []) ml_L_202 (p_recordPaid hI (xs (i + 1))) (xw_at (LI_0 hI) rfl) rfl dL_law_1446 ⟨Nat.le_of_ble_eq_true rfl, Nat.le_of_ble_eq_true rfl⟩ rfl (Nat.le_of_ble_eq_true rfl) rfl ?_
  rintro _ G1 ⟨x9, rfl, ⟨fs9, ho⟩, hm⟩
  show xj v κ post z G1 1449 _ [.long x9]
  refine xj_aload_n (i := 2) hk dL_law_1449 rfl rfl ?_
  refine xj_aload_n (i := 0) hk dL_law_1450 rfl rfl ?_
  refine xj_iload_n (i := 3) hk dL_law_1451 rfl rfl ?_
  refine xj_iconst (x := 1) hk dL_law_1452 (by decide) ?_
  refine xj_iadd hk dL_law_1453 ?_
  refine xj.eqi (x' := nI (i + 1)) (nI_add i 1) ?_
  refine xj_scld (k := i + 1) hk hX hb hbb (xi_n (by omega) (by omega)) dL_law_1454 ?_
  refine xj_callVE hk hz (fr1 := 2) (lo1 := 43) (As := [.int (xs (i + 1))]) (st := [.long x9]) ml_L_205 hm ho rfl dL_law_1455 ⟨Nat.le_of_ble_eq_true rfl, Nat.le_of_ble_eq_true rfl⟩ rfl (Nat.le_of_ble_eq_true rfl) rfl ?_
  rintro _ G2 ⟨rfl, hI2⟩
  show xj v κ post z G2 1458 _ [.long x9, .long x9]
  refine xj_lcmp hk dL_law_1458 ?_
  refine xj_if_eq (tgt := 1510) hk dL_law_1459 (by decide) (fun _ => kx G2 hI2) (fun c => absurd (lgc x9) c)
set_option maxHeartbeats 1000000 in
set_option maxRecDepth 10000 in
theorem lc_46 {v : xw_V} {κ : xk_K} {post : Option Value → xw_G → Prop} {z : Nat × Nat × Nat} {G : xw_G} {nm : String} {b L i : Nat} {xs : Nat → Int32} (hk : xk_Ok v κ (yLw nm) cL_law 4 (some .boolean) 11 235) (hz : xk_zf κ = z) (hX : va_X b L xs (xk_s κ) (xk_s κ).heap) (hb : b < (xk_s κ).heap.size) (hbb : ¬ xk_b κ ≤ b) (hi : i + 6 ≤ L) (hL : L ≤ 3072) (hI : LI v G) (kx : ∀ G2 : xw_G, LI v G2 → xj v κ post z G2 1510 [some (.ref b), some (.ref (xw_ad v 0 0)), some (.ref (xw_ad v 21 0)), some (.int (nI i))] []) : xj v κ post z G 1464 [some (.ref b), some (.ref (xw_ad v 0 0)), some (.ref (xw_ad v 21 0)), some (.int (nI i))] [] := by
  refine xj_aload_n (i := 1) hk dL_law_1464 rfl rfl ?_
  refine xj_aload_n (i := 0) hk dL_law_1465 rfl rfl ?_
  refine xj_iload_n (i := 3) hk dL_law_1466 rfl rfl ?_
  refine xj_iconst (x := 1) hk dL_law_1467 (by decide) ?_
  refine xj_iadd hk dL_law_1468 ?_
  refine xj.eqi (x' := nI (i + 1)) (nI_add i 1) ?_
  refine xj_scld (k := i + 1) hk hX hb hbb (xi_n (by omega) (by omega)) dL_law_1469 ?_
  refine xj_callVE hk hz (fr1 := 8) (lo1 := 174) (As := [.int (xs (i + 1))]) (st := []) ml_L_206 (p_spell hI (xs (i + 1))) (xw_at (LI_0 hI) rfl) rfl dL_law_1470 ⟨Nat.le_of_ble_eq_true rfl, Nat.le_of_ble_eq_true rfl⟩ rfl (Nat.le_of_ble_eq_true rfl) rfl ?_
  rintro _ G1 ⟨x9, rfl, ⟨fs9, ho⟩, hm⟩
  show xj v κ post z G1 1473 _ [.int x9]
  refine xj_aload_n (i := 2) hk dL_law_1473 rfl rfl ?_
  refine xj_aload_n (i := 0) hk dL_law_1474 rfl rfl ?_
  refine xj_iload_n (i := 3) hk dL_law_1475 rfl rfl ?_
  refine xj_iconst (x := 1) hk dL_law_1476 (by decide) ?_
  refine xj_iadd hk dL_law_1477 ?_
  refine xj.eqi (x' := nI (i + 1)) (nI_add i 1) ?_
  refine xj_scld (k := i + 1) hk hX hb hbb (xi_n (by omega) (by omega)) dL_law_1478 ?_
  refine xj_callVE hk hz (fr1 := 4) (lo1 := 89) (As := [.int (xs (i + 1))]) (st := [.int x9]) ml_L_209 hm ho rfl dL_law_1479 ⟨Nat.le_of_ble_eq_true rfl, Nat.le_of_ble_eq_true rfl⟩ rfl (Nat.le_of_ble_eq_true rfl) rfl ?_
  rintro _ G2 ⟨rfl, hI2⟩
  show xj v κ post z G2 1482 _ [.int x9, .int x9]
  refine xj_icmp_eq (tgt := 1510) hk dL_law_1482 (by decide) (fun _ => kx G2 hI2) (fun c => absurd rfl c)
set_option maxHeartbeats 1000000 in
set_option maxRecDepth 10000 in
theorem lc_47 {v : xw_V} {κ : xk_K} {post : Option Value → xw_G → Prop} {z : Nat × Nat × Nat} {G : xw_G} {nm : String} {b L i : Nat} {xs : Nat → Int32} (hk : xk_Ok v κ (yLw nm) cL_law 4 (some .boolean) 11 235) (hz : xk_zf κ = z) (hX : va_X b L xs (xk_s κ) (xk_s κ).heap) (hb : b < (xk_s κ).heap.size) (hbb : ¬ xk_b κ ≤ b) (hi : i + 6 ≤ L) (hL : L ≤ 3072) (hI : LI v G) (kx : ∀ G2 : xw_G, LI v G2 → xj v κ post z G2 1510 [some (.ref b), some (.ref (xw_ad v 0 0)), some (.ref (xw_ad v 21 0)), some (.int (nI i))] []) : xj v κ post z G 1487 [some (.ref b), some (.ref (xw_ad v 0 0)), some (.ref (xw_ad v 21 0)), some (.int (nI i))] [] := by
  refine xj_aload_n (i := 1) hk dL_law_1487 rfl rfl ?_
  refine xj_aload_n (i := 0) hk dL_law_1488 rfl rfl ?_
  refine xj_iload_n (i := 3) hk dL_law_1489 rfl rfl ?_
  refine xj_iconst (x := 1) hk dL_law_1490 (by decide) ?_
  refine xj_iadd hk dL_law_1491 ?_
  refine xj.eqi (x' := nI (i + 1)) (nI_add i 1) ?_
  refine xj_scld (k := i + 1) hk hX hb hbb (xi_n (by omega) (by omega)) dL_law_1492 ?_
  refine xj_callVE hk hz (fr1 := 6) (lo1 := 137) (As := [.int (xs (i + 1))]) (st := []) ml_L_210 (p_count hI (xs (i + 1))) (xw_at (LI_0 hI) rfl) rfl dL_law_1493 ⟨Nat.le_of_ble_eq_true rfl, Nat.le_of_ble_eq_true rfl⟩ rfl (Nat.le_of_ble_eq_true rfl) rfl ?_
  rintro _ G1 ⟨x9, rfl, ⟨fs9, ho⟩, hm⟩
  show xj v κ post z G1 1496 _ [.int x9]
  refine xj_aload_n (i := 2) hk dL_law_1496 rfl rfl ?_
  refine xj_aload_n (i := 0) hk dL_law_1497 rfl rfl ?_
  refine xj_iload_n (i := 3) hk dL_law_1498 rfl rfl ?_
  refine xj_iconst (x := 1) hk dL_law_1499 (by decide) ?_
  refine xj_iadd hk dL_law_1500 ?_
  refine xj.eqi (x' := nI (i + 1)) (nI_add i 1) ?_
  refine xj_scld (k := i + 1) hk hX hb hbb (xi_n (by omega) (by omega)) dL_law_1501 ?_
  refine xj_callVE hk hz (fr1 := 4) (lo1 := 89) (As := [.int (xs (i + 1))]) (st := [.int x9]) ml_L_213 hm ho rfl dL_law_1502 ⟨Nat.le_of_ble_eq_true rfl, Nat.le_of_ble_eq_true rfl⟩ rfl (Nat.le_of_ble_eq_true rfl) rfl ?_
  rintro _ G2 ⟨rfl, hI2⟩
  show xj v κ post z G2 1505 _ [.int x9, .int x9]
  refine xj_icmp_eq (tgt := 1510) hk dL_law_1505 (by decide) (fun _ => kx G2 hI2) (fun c => absurd rfl c)
set_option maxHeartbeats 1000000 in
set_option maxRecDepth 10000 in
theorem l_law {v : xw_V} {κ : xk_K} {post : Option Value → xw_G → Prop} {z : Nat × Nat × Nat} {nm : String} {b L : Nat} {xs : Nat → Int32} (hk : xk_Ok v κ (yLw nm) cL_law 4 (some .boolean) 11 235) (hz : xk_zf κ = z) (hX : va_X b L xs (xk_s κ) (xk_s κ).heap) (hb : b < (xk_s κ).heap.size) (hbb : ¬ xk_b κ ≤ b) (hL : L ≤ 3072) (hpost : ∀ G', post (some (.int 1)) G') : ∀ (m i : Nat) (G : xw_G), L - i < m → i ≤ L → LI v G → xj v κ post z G 18 [some (.ref b), some (.ref (xw_ad v 0 0)), some (.ref (xw_ad v 21 0)), some (.int (nI i))] [] := by
  intro m
  induction m with
  | zero => intro i G h; exact absurd h (Nat.not_lt_zero _)
  | succ m ih =>
    intro i G hm hi hI
    refine xj_iload_n (i := 3) hk dL_law_18 rfl rfl ?_
    refine xj_aload_n (i := 0) hk dL_law_19 rfl rfl ?_
    refine xj_sclen hk hX hb hbb dL_law_20 ?_
    refine xj_bipush (x := 6) hk dL_law_21 (by decide) ?_
    refine xj_isub hk dL_law_23 ?_
    refine xj_icmp_gt (tgt := 1516) hk dL_law_24 (by decide) (fun c => ?_) (fun c => ?_)
    · refine xj_iconst (x := 1) hk dL_law_1516 (by decide) ?_
      refine xj_zreturn hk hz dL_law_1517 (by decide) ?_
      exact hpost G
    · have hi6 : i + 6 ≤ L := by
        rcases Nat.lt_or_ge L (i + 6) with q | q
        · exact absurd ((scr_gt hL (by omega)).mpr q) c
        · exact q
      have kx : ∀ G2 : xw_G, LI v G2 → xj v κ post z G2 1510 [some (.ref b), some (.ref (xw_ad v 0 0)), some (.ref (xw_ad v 21 0)), some (.int (nI i))] [] := fun G2 h2 => by
        refine xj_iinc (i := 3) (x2 := nI (i + 6)) (ls2 := [some (.ref b), some (.ref (xw_ad v 0 0)), some (.ref (xw_ad v 21 0)), some (.int (nI ((i + 6))))]) hk dL_law_1510 rfl (nI_add i 6) (by decide) rfl rfl ?_
        refine xj_goto (tgt := 18) hk dL_law_1513 (by decide) ?_
        exact ih (i + 6) G2 (by omega) hi6 h2
      refine xj_aload_n (i := 0) hk dL_law_27 rfl rfl ?_
      refine xj_iload_n (i := 3) hk dL_law_28 rfl rfl ?_
      refine xj_scld (k := i) hk hX hb hbb (xi_n (by omega) (by omega)) dL_law_29 ?_
      refine xj_bipush (x := 63) hk dL_law_30 (by decide) ?_
      refine xj_iand hk dL_law_32 ?_
      by_cases s0 : xs i &&& 63 = 0
      · refine xj_swIn (tgt := 240) (off := 207) hk dL_law_33 (by rw [s0]; decide) (by rw [s0]; decide) (by rw [s0]; decide) (by decide) ?_
        exact lc_0 hk hz hX hb hbb hi6 hL hI kx
      by_cases s1 : xs i &&& 63 = 1
      · refine xj_swIn (tgt := 303) (off := 270) hk dL_law_33 (by rw [s1]; decide) (by rw [s1]; decide) (by rw [s1]; decide) (by decide) ?_
        exact lc_1 hk hz hX hb hbb hi6 hL hI kx
      by_cases s2 : xs i &&& 63 = 2
      · refine xj_swIn (tgt := 326) (off := 293) hk dL_law_33 (by rw [s2]; decide) (by rw [s2]; decide) (by rw [s2]; decide) (by decide) ?_
        exact lc_2 hk hz hX hb hbb hi6 hL hI kx
      by_cases s3 : xs i &&& 63 = 3
      · refine xj_swIn (tgt := 339) (off := 306) hk dL_law_33 (by rw [s3]; decide) (by rw [s3]; decide) (by rw [s3]; decide) (by decide) ?_
        exact lc_3 hk hz hX hb hbb hi6 hL hI kx
      by_cases s4 : xs i &&& 63 = 4
      · refine xj_swIn (tgt := 382) (off := 349) hk dL_law_33 (by rw [s4]; decide) (by rw [s4]; decide) (by rw [s4]; decide) (by decide) ?_
        exact lc_4 hk hz hX hb hbb hi6 hL hI kx
      by_cases s5 : xs i &&& 63 = 5
      · refine xj_swIn (tgt := 405) (off := 372) hk dL_law_33 (by rw [s5]; decide) (by rw [s5]; decide) (by rw [s5]; decide) (by decide) ?_
        exact lc_5 hk hz hX hb hbb hi6 hL hI kx
      by_cases s6 : xs i &&& 63 = 6
      · refine xj_swIn (tgt := 448) (off := 415) hk dL_law_33 (by rw [s6]; decide) (by rw [s6]; decide) (by rw [s6]; decide) (by decide) ?_
        exact lc_6 hk hz hX hb hbb hi6 hL hI kx
      by_cases s7 : xs i &&& 63 = 7
      · refine xj_swIn (tgt := 481) (off := 448) hk dL_law_33 (by rw [s7]; decide) (by rw [s7]; decide) (by rw [s7]; decide) (by decide) ?_
        exact lc_7 hk hz hX hb hbb hi6 hL hI kx
      by_cases s8 : xs i &&& 63 = 8
      · refine xj_swIn (tgt := 514) (off := 481) hk dL_law_33 (by rw [s8]; decide) (by rw [s8]; decide) (by rw [s8]; decide) (by decide) ?_
        exact lc_8 hk hz hX hb hbb hi6 hL hI kx
      by_cases s9 : xs i &&& 63 = 9
      · refine xj_swIn (tgt := 547) (off := 514) hk dL_law_33 (by rw [s9]; decide) (by rw [s9]; decide) (by rw [s9]; decide) (by decide) ?_
        exact lc_9 hk hz hX hb hbb hi6 hL hI kx
      by_cases s10 : xs i &&& 63 = 10
      · refine xj_swIn (tgt := 570) (off := 537) hk dL_law_33 (by rw [s10]; decide) (by rw [s10]; decide) (by rw [s10]; decide) (by decide) ?_
        exact lc_10 hk hz hX hb hbb hi6 hL hI kx
      by_cases s11 : xs i &&& 63 = 11
      · refine xj_swIn (tgt := 603) (off := 570) hk dL_law_33 (by rw [s11]; decide) (by rw [s11]; decide) (by rw [s11]; decide) (by decide) ?_
        exact lc_11 hk hz hX hb hbb hi6 hL hI kx
      by_cases s12 : xs i &&& 63 = 12
      · refine xj_swIn (tgt := 636) (off := 603) hk dL_law_33 (by rw [s12]; decide) (by rw [s12]; decide) (by rw [s12]; decide) (by decide) ?_
        exact lc_12 hk hz hX hb hbb hi6 hL hI kx
      by_cases s13 : xs i &&& 63 = 13
      · refine xj_swIn (tgt := 649) (off := 616) hk dL_law_33 (by rw [s13]; decide) (by rw [s13]; decide) (by rw [s13]; decide) (by decide) ?_
        exact lc_13 hk hz hX hb hbb hi6 hL hI kx
      by_cases s14 : xs i &&& 63 = 14
      · refine xj_swIn (tgt := 662) (off := 629) hk dL_law_33 (by rw [s14]; decide) (by rw [s14]; decide) (by rw [s14]; decide) (by decide) ?_
        exact lc_14 hk hz hX hb hbb hi6 hL hI kx
      by_cases s15 : xs i &&& 63 = 15
      · refine xj_swIn (tgt := 685) (off := 652) hk dL_law_33 (by rw [s15]; decide) (by rw [s15]; decide) (by rw [s15]; decide) (by decide) ?_
        exact lc_15 hk hz hX hb hbb hi6 hL hI kx
      by_cases s16 : xs i &&& 63 = 16
      · refine xj_swIn (tgt := 718) (off := 685) hk dL_law_33 (by rw [s16]; decide) (by rw [s16]; decide) (by rw [s16]; decide) (by decide) ?_
        exact lc_16 hk hz hX hb hbb hi6 hL hI kx
      by_cases s17 : xs i &&& 63 = 17
      · refine xj_swIn (tgt := 742) (off := 709) hk dL_law_33 (by rw [s17]; decide) (by rw [s17]; decide) (by rw [s17]; decide) (by decide) ?_
        exact lc_17 hk hz hX hb hbb hi6 hL hI kx
      by_cases s18 : xs i &&& 63 = 18
      · refine xj_swIn (tgt := 775) (off := 742) hk dL_law_33 (by rw [s18]; decide) (by rw [s18]; decide) (by rw [s18]; decide) (by decide) ?_
        exact lc_18 hk hz hX hb hbb hi6 hL hI kx
      by_cases s19 : xs i &&& 63 = 19
      · refine xj_swIn (tgt := 799) (off := 766) hk dL_law_33 (by rw [s19]; decide) (by rw [s19]; decide) (by rw [s19]; decide) (by decide) ?_
        exact lc_19 hk hz hX hb hbb hi6 hL hI kx
      by_cases s20 : xs i &&& 63 = 20
      · refine xj_swIn (tgt := 822) (off := 789) hk dL_law_33 (by rw [s20]; decide) (by rw [s20]; decide) (by rw [s20]; decide) (by decide) ?_
        exact lc_20 hk hz hX hb hbb hi6 hL hI kx
      by_cases s21 : xs i &&& 63 = 21
      · refine xj_swIn (tgt := 836) (off := 803) hk dL_law_33 (by rw [s21]; decide) (by rw [s21]; decide) (by rw [s21]; decide) (by decide) ?_
        exact lc_21 hk hz hX hb hbb hi6 hL hI kx
      by_cases s22 : xs i &&& 63 = 22
      · refine xj_swIn (tgt := 860) (off := 827) hk dL_law_33 (by rw [s22]; decide) (by rw [s22]; decide) (by rw [s22]; decide) (by decide) ?_
        exact lc_22 hk hz hX hb hbb hi6 hL hI kx
      by_cases s23 : xs i &&& 63 = 23
      · refine xj_swIn (tgt := 883) (off := 850) hk dL_law_33 (by rw [s23]; decide) (by rw [s23]; decide) (by rw [s23]; decide) (by decide) ?_
        exact lc_23 hk hz hX hb hbb hi6 hL hI kx
      by_cases s24 : xs i &&& 63 = 24
      · refine xj_swIn (tgt := 896) (off := 863) hk dL_law_33 (by rw [s24]; decide) (by rw [s24]; decide) (by rw [s24]; decide) (by decide) ?_
        exact lc_24 hk hz hX hb hbb hi6 hL hI kx
      by_cases s25 : xs i &&& 63 = 25
      · refine xj_swIn (tgt := 919) (off := 886) hk dL_law_33 (by rw [s25]; decide) (by rw [s25]; decide) (by rw [s25]; decide) (by decide) ?_
        exact lc_25 hk hz hX hb hbb hi6 hL hI kx
      by_cases s26 : xs i &&& 63 = 26
      · refine xj_swIn (tgt := 942) (off := 909) hk dL_law_33 (by rw [s26]; decide) (by rw [s26]; decide) (by rw [s26]; decide) (by decide) ?_
        exact lc_26 hk hz hX hb hbb hi6 hL hI kx
      by_cases s27 : xs i &&& 63 = 27
      · refine xj_swIn (tgt := 965) (off := 932) hk dL_law_33 (by rw [s27]; decide) (by rw [s27]; decide) (by rw [s27]; decide) (by decide) ?_
        exact lc_27 hk hz hX hb hbb hi6 hL hI kx
      by_cases s28 : xs i &&& 63 = 28
      · refine xj_swIn (tgt := 978) (off := 945) hk dL_law_33 (by rw [s28]; decide) (by rw [s28]; decide) (by rw [s28]; decide) (by decide) ?_
        exact lc_28 hk hz hX hb hbb hi6 hL hI kx
      by_cases s29 : xs i &&& 63 = 29
      · refine xj_swIn (tgt := 991) (off := 958) hk dL_law_33 (by rw [s29]; decide) (by rw [s29]; decide) (by rw [s29]; decide) (by decide) ?_
        exact lc_29 hk hz hX hb hbb hi6 hL hI kx
      by_cases s30 : xs i &&& 63 = 30
      · refine xj_swIn (tgt := 1024) (off := 991) hk dL_law_33 (by rw [s30]; decide) (by rw [s30]; decide) (by rw [s30]; decide) (by decide) ?_
        exact lc_30 hk hz hX hb hbb hi6 hL hI kx
      by_cases s31 : xs i &&& 63 = 31
      · refine xj_swIn (tgt := 1057) (off := 1024) hk dL_law_33 (by rw [s31]; decide) (by rw [s31]; decide) (by rw [s31]; decide) (by decide) ?_
        exact lc_31 hk hz hX hb hbb hi6 hL hI kx
      by_cases s32 : xs i &&& 63 = 32
      · refine xj_swIn (tgt := 1080) (off := 1047) hk dL_law_33 (by rw [s32]; decide) (by rw [s32]; decide) (by rw [s32]; decide) (by decide) ?_
        exact lc_32 hk hz hX hb hbb hi6 hL hI kx
      by_cases s33 : xs i &&& 63 = 33
      · refine xj_swIn (tgt := 1123) (off := 1090) hk dL_law_33 (by rw [s33]; decide) (by rw [s33]; decide) (by rw [s33]; decide) (by decide) ?_
        exact lc_33 hk hz hX hb hbb hi6 hL hI kx
      by_cases s34 : xs i &&& 63 = 34
      · refine xj_swIn (tgt := 1156) (off := 1123) hk dL_law_33 (by rw [s34]; decide) (by rw [s34]; decide) (by rw [s34]; decide) (by decide) ?_
        exact lc_34 hk hz hX hb hbb hi6 hL hI kx
      by_cases s35 : xs i &&& 63 = 35
      · refine xj_swIn (tgt := 1179) (off := 1146) hk dL_law_33 (by rw [s35]; decide) (by rw [s35]; decide) (by rw [s35]; decide) (by decide) ?_
        exact lc_35 hk hz hX hb hbb hi6 hL hI kx
      by_cases s36 : xs i &&& 63 = 36
      · refine xj_swIn (tgt := 1212) (off := 1179) hk dL_law_33 (by rw [s36]; decide) (by rw [s36]; decide) (by rw [s36]; decide) (by decide) ?_
        exact lc_36 hk hz hX hb hbb hi6 hL hI kx
      by_cases s37 : xs i &&& 63 = 37
      · refine xj_swIn (tgt := 1225) (off := 1192) hk dL_law_33 (by rw [s37]; decide) (by rw [s37]; decide) (by rw [s37]; decide) (by decide) ?_
        exact lc_37 hk hz hX hb hbb hi6 hL hI kx
      by_cases s38 : xs i &&& 63 = 38
      · refine xj_swIn (tgt := 1249) (off := 1216) hk dL_law_33 (by rw [s38]; decide) (by rw [s38]; decide) (by rw [s38]; decide) (by decide) ?_
        exact lc_38 hk hz hX hb hbb hi6 hL hI kx
      by_cases s39 : xs i &&& 63 = 39
      · refine xj_swIn (tgt := 1282) (off := 1249) hk dL_law_33 (by rw [s39]; decide) (by rw [s39]; decide) (by rw [s39]; decide) (by decide) ?_
        exact lc_39 hk hz hX hb hbb hi6 hL hI kx
      by_cases s40 : xs i &&& 63 = 40
      · refine xj_swIn (tgt := 1315) (off := 1282) hk dL_law_33 (by rw [s40]; decide) (by rw [s40]; decide) (by rw [s40]; decide) (by decide) ?_
        exact lc_40 hk hz hX hb hbb hi6 hL hI kx
      by_cases s41 : xs i &&& 63 = 41
      · refine xj_swIn (tgt := 1348) (off := 1315) hk dL_law_33 (by rw [s41]; decide) (by rw [s41]; decide) (by rw [s41]; decide) (by decide) ?_
        exact lc_41 hk hz hX hb hbb hi6 hL hI kx
      by_cases s42 : xs i &&& 63 = 42
      · refine xj_swIn (tgt := 1371) (off := 1338) hk dL_law_33 (by rw [s42]; decide) (by rw [s42]; decide) (by rw [s42]; decide) (by decide) ?_
        exact lc_42 hk hz hX hb hbb hi6 hL hI kx
      by_cases s43 : xs i &&& 63 = 43
      · refine xj_swIn (tgt := 1384) (off := 1351) hk dL_law_33 (by rw [s43]; decide) (by rw [s43]; decide) (by rw [s43]; decide) (by decide) ?_
        exact lc_43 hk hz hX hb hbb hi6 hL hI kx
      by_cases s44 : xs i &&& 63 = 44
      · refine xj_swIn (tgt := 1417) (off := 1384) hk dL_law_33 (by rw [s44]; decide) (by rw [s44]; decide) (by rw [s44]; decide) (by decide) ?_
        exact lc_44 hk hz hX hb hbb hi6 hL hI kx
      by_cases s45 : xs i &&& 63 = 45
      · refine xj_swIn (tgt := 1440) (off := 1407) hk dL_law_33 (by rw [s45]; decide) (by rw [s45]; decide) (by rw [s45]; decide) (by decide) ?_
        exact lc_45 hk hz hX hb hbb hi6 hL hI kx
      by_cases s46 : xs i &&& 63 = 46
      · refine xj_swIn (tgt := 1464) (off := 1431) hk dL_law_33 (by rw [s46]; decide) (by rw [s46]; decide) (by rw [s46]; decide) (by decide) ?_
        exact lc_46 hk hz hX hb hbb hi6 hL hI kx
      by_cases s47 : xs i &&& 63 = 47
      · refine xj_swIn (tgt := 1487) (off := 1454) hk dL_law_33 (by rw [s47]; decide) (by rw [s47]; decide) (by rw [s47]; decide) (by decide) ?_
        exact lc_47 hk hz hX hb hbb hi6 hL hI kx
      refine xj_swOut (tgt := 1510) hk dL_law_33 (sw_out48 (fun k hk9 => by
        match k, hk9 with
        | 0, _ => exact s0
        | 1, _ => exact s1
        | 2, _ => exact s2
        | 3, _ => exact s3
        | 4, _ => exact s4
        | 5, _ => exact s5
        | 6, _ => exact s6
        | 7, _ => exact s7
        | 8, _ => exact s8
        | 9, _ => exact s9
        | 10, _ => exact s10
        | 11, _ => exact s11
        | 12, _ => exact s12
        | 13, _ => exact s13
        | 14, _ => exact s14
        | 15, _ => exact s15
        | 16, _ => exact s16
        | 17, _ => exact s17
        | 18, _ => exact s18
        | 19, _ => exact s19
        | 20, _ => exact s20
        | 21, _ => exact s21
        | 22, _ => exact s22
        | 23, _ => exact s23
        | 24, _ => exact s24
        | 25, _ => exact s25
        | 26, _ => exact s26
        | 27, _ => exact s27
        | 28, _ => exact s28
        | 29, _ => exact s29
        | 30, _ => exact s30
        | 31, _ => exact s31
        | 32, _ => exact s32
        | 33, _ => exact s33
        | 34, _ => exact s34
        | 35, _ => exact s35
        | 36, _ => exact s36
        | 37, _ => exact s37
        | 38, _ => exact s38
        | 39, _ => exact s39
        | 40, _ => exact s40
        | 41, _ => exact s41
        | 42, _ => exact s42
        | 43, _ => exact s43
        | 44, _ => exact s44
        | 45, _ => exact s45
        | 46, _ => exact s46
        | 47, _ => exact s47
        | k + 48, h => exact absurd h (by omega))) (by decide) ?_
      exact kx G hI

/-! Part 95d: the law's cases, on -/
set_option maxHeartbeats 4000000 in
set_option maxRecDepth 3000 in
theorem lwc_cut {E : GE} {K : KX} {N : Nat} (hN : 16 ≤ N ∧ N ≤ 64) {ax am : Nat → Nat} {X : XS} {M : MS} {b L i : Nat} {xs : Nat → Int32} (hL : L ≤ 257) (hi : i + 4 ≤ L) (C : zC E K cL_law lw_tbl RL room_1 4) (hX : zX K b L xs) (R : Rel N X M) (next : ∀ (X1 : XS) (M1 : MS), Rel N X1 M1 → Z E K 27 8620 (wX E ax N X1 ++ wM E am N M1) 508 [(3, .int (nI i)), (2, .ref (am 0)), (1, .ref (ax 0)), (0, .ref b)] []) : Z E K 27 8620 (wX E ax N X ++ wM E am N M) 304 [(3, .int (nI i)), (2, .ref (am 0)), (1, .ref (ax 0)), (0, .ref b)] [] := by
  obtain ⟨a1, ha1⟩ : ∃ z : Int32, xs (i + 1) = z := ⟨_, rfl⟩
  obtain ⟨a2, ha2⟩ : ∃ z : Int32, xs (i + 2) = z := ⟨_, rfl⟩
  obtain ⟨e, w, c, hy, h1, h2⟩ := r_cut hN R a1 a2
  have ct1 := c_X4_cut E N hN ax X a1 a2 w hy.wa (Nat.le_of_lt hy.w2)
  have ct2 := c_X5_cut E N hN am M a1 a2 w hy.wm hy.w2 hy.wt
  obtain ⟨r1, hr1⟩ : ∃ z : Int32, (xCut N X a1 a2 w).1 = z := ⟨_, rfl⟩
  rw [hr1] at ct1 h1
  obtain ⟨Xq, hXq⟩ : ∃ z : XS, (xCut N X a1 a2 w).2 = z := ⟨_, rfl⟩
  rw [hXq] at ct1 h2
  obtain ⟨r2, hr2⟩ : ∃ z : Int32, (mCut N M a1 a2 w).1 = z := ⟨_, rfl⟩
  rw [hr2] at ct2 h1
  obtain ⟨Mq, hMq⟩ : ∃ z : MS, (mCut N M a1 a2 w).2 = z := ⟨_, rfl⟩
  rw [hMq] at ct2 h2
  refine z_aload_n C 2 rfl rfl dL_law_304 ?_
  refine z_aload_n C 3 rfl rfl dL_law_305 ?_
  refine z_iload_n C 0 rfl rfl dL_law_306 ?_
  refine z_iconst C (v := 1) (by decide) dL_law_307 ?_
  refine z_iadd C dL_law_308 ?_
  refine z_top (nI_add i 1) ?_
  refine z_sld C hX (v := a1) (vp_in_nI (by omega) (by omega)) (by rw [nI_clamp (by omega)]; exact ha1) dL_law_309 ?_
  refine z_aload_n C 3 rfl rfl dL_law_310 ?_
  refine z_iload_n C 0 rfl rfl dL_law_311 ?_
  refine z_iconst C (v := 2) (by decide) dL_law_312 ?_
  refine z_iadd C dL_law_313 ?_
  refine z_top (nI_add i 2) ?_
  refine z_sld C hX (v := a2) (vp_in_nI (by omega) (by omega)) (by rw [nI_clamp (by omega)]; exact ha2) dL_law_314 ?_
  refine z_callVI C ct1 glX4_cut (ci := 4) (q0 := 0) rfl rfl hyX4_cut rfl ⟨rfl, rfl⟩ ⟨by decide, by decide⟩ ⟨by decide, by decide⟩ [0, 1, 2, 3, 4, 5, 6, 7, 8, 9, 10, 11, 12, 13, 14] [15, 16, 17, 18, 19, 20, 21, 22, 23, 24, 25, 26] [12, 13, 14, 15, 16, 17, 18, 19, 20, 21, 22, 23, 24, 25, 26, 0, 1, 2, 3, 4, 5, 6, 7, 8, 9, 10, 11] (wr := wM E am N M) (V' := (wX E ax N Xq ++ wM E am N M)) rfl rfl (by decide) (by decide) (by decide) rfl (by decide) (st := []) (Nat.le_of_ble_eq_true rfl) dL_law_315 ?_ rfl
  refine z_aload_n C 1 rfl rfl dL_law_318 ?_
  refine z_aload_n C 3 rfl rfl dL_law_319 ?_
  refine z_iload_n C 0 rfl rfl dL_law_320 ?_
  refine z_iconst C (v := 1) (by decide) dL_law_321 ?_
  refine z_iadd C dL_law_322 ?_
  refine z_top (nI_add i 1) ?_
  refine z_sld C hX (v := a1) (vp_in_nI (by omega) (by omega)) (by rw [nI_clamp (by omega)]; exact ha1) dL_law_323 ?_
  refine z_aload_n C 3 rfl rfl dL_law_324 ?_
  refine z_iload_n C 0 rfl rfl dL_law_325 ?_
  refine z_iconst C (v := 2) (by decide) dL_law_326 ?_
  refine z_iadd C dL_law_327 ?_
  refine z_top (nI_add i 2) ?_
  refine z_sld C hX (v := a2) (vp_in_nI (by omega) (by omega)) (by rw [nI_clamp (by omega)]; exact ha2) dL_law_328 ?_
  refine z_callVI C ct2 glX5_cut (ci := 5) (q0 := 0) rfl rfl hyX5_cut rfl ⟨rfl, rfl⟩ ⟨by decide, by decide⟩ ⟨by decide, by decide⟩ [15, 16, 17, 18, 19, 20, 21, 22, 23, 24, 25, 26] [0, 1, 2, 3, 4, 5, 6, 7, 8, 9, 10, 11, 12, 13, 14] [0, 1, 2, 3, 4, 5, 6, 7, 8, 9, 10, 11, 12, 13, 14, 15, 16, 17, 18, 19, 20, 21, 22, 23, 24, 25, 26] (wr := wX E ax N Xq) (V' := (wX E ax N Xq ++ wM E am N Mq)) rfl rfl (by decide) (by decide) (by decide) rfl (by decide) (st := [.int r1]) (Nat.le_of_ble_eq_true rfl) dL_law_329 ?_ rfl
  exact z_icmp_eq C (tgt := 508) dL_law_332 (by decide) (fun _ => next Xq Mq h2) (fun h => absurd h1 h)
set_option maxHeartbeats 4000000 in
set_option maxRecDepth 3000 in
theorem lwc_start {E : GE} {K : KX} {N : Nat} (hN : 16 ≤ N ∧ N ≤ 64) {ax am : Nat → Nat} {X : XS} {M : MS} {b L i : Nat} {xs : Nat → Int32} (hL : L ≤ 257) (hi : i + 4 ≤ L) (C : zC E K cL_law lw_tbl RL room_1 4) (hX : zX K b L xs) (R : Rel N X M) (next : ∀ (X1 : XS) (M1 : MS), Rel N X1 M1 → Z E K 27 8620 (wX E ax N X1 ++ wM E am N M1) 508 [(3, .int (nI i)), (2, .ref (am 0)), (1, .ref (ax 0)), (0, .ref b)] []) : Z E K 27 8620 (wX E ax N X ++ wM E am N M) 337 [(3, .int (nI i)), (2, .ref (am 0)), (1, .ref (ax 0)), (0, .ref b)] [] := by
  obtain ⟨h1, h2⟩ := r_start hN R
  have ct1 := c_X4_startA E N hN ax X (fun h => (up01 R h).2.ej)
  have ct2 := c_X5_start E N hN am M
  obtain ⟨r1, hr1⟩ : ∃ z : Int32, (xStart N X).1 = z := ⟨_, rfl⟩
  rw [hr1] at ct1 h1
  obtain ⟨Xq, hXq⟩ : ∃ z : XS, (xStart N X).2 = z := ⟨_, rfl⟩
  rw [hXq] at ct1 h2
  obtain ⟨r2, hr2⟩ : ∃ z : Int32, (mStart N M).1 = z := ⟨_, rfl⟩
  rw [hr2] at ct2 h1
  obtain ⟨Mq, hMq⟩ : ∃ z : MS, (mStart N M).2 = z := ⟨_, rfl⟩
  rw [hMq] at ct2 h2
  refine z_aload_n C 2 rfl rfl dL_law_337 ?_
  refine z_callVI C ct1 glX4_start (ci := 4) (q0 := 0) rfl rfl hyX4_start rfl ⟨rfl, rfl⟩ ⟨by decide, by decide⟩ ⟨by decide, by decide⟩ [0, 1, 2, 3, 4, 5, 6, 7, 8, 9, 10, 11, 12, 13, 14] [15, 16, 17, 18, 19, 20, 21, 22, 23, 24, 25, 26] [12, 13, 14, 15, 16, 17, 18, 19, 20, 21, 22, 23, 24, 25, 26, 0, 1, 2, 3, 4, 5, 6, 7, 8, 9, 10, 11] (wr := wM E am N M) (V' := (wX E ax N Xq ++ wM E am N M)) rfl rfl (by decide) (by decide) (by decide) rfl (by decide) (st := []) (Nat.le_of_ble_eq_true rfl) dL_law_338 ?_ rfl
  refine z_aload_n C 1 rfl rfl dL_law_341 ?_
  refine z_callVI C ct2 glX5_start (ci := 5) (q0 := 0) rfl rfl hyX5_start rfl ⟨rfl, rfl⟩ ⟨by decide, by decide⟩ ⟨by decide, by decide⟩ [15, 16, 17, 18, 19, 20, 21, 22, 23, 24, 25, 26] [0, 1, 2, 3, 4, 5, 6, 7, 8, 9, 10, 11, 12, 13, 14] [0, 1, 2, 3, 4, 5, 6, 7, 8, 9, 10, 11, 12, 13, 14, 15, 16, 17, 18, 19, 20, 21, 22, 23, 24, 25, 26] (wr := wX E ax N Xq) (V' := (wX E ax N Xq ++ wM E am N Mq)) rfl rfl (by decide) (by decide) (by decide) rfl (by decide) (st := [.int r1]) (Nat.le_of_ble_eq_true rfl) dL_law_342 ?_ rfl
  exact z_icmp_eq C (tgt := 508) dL_law_345 (by decide) (fun _ => next Xq Mq h2) (fun h => absurd h1 h)
set_option maxHeartbeats 4000000 in
set_option maxRecDepth 3000 in
theorem lwc_at {E : GE} {K : KX} {N : Nat} (hN : 16 ≤ N ∧ N ≤ 64) {ax am : Nat → Nat} {X : XS} {M : MS} {b L i : Nat} {xs : Nat → Int32} (hL : L ≤ 257) (hi : i + 4 ≤ L) (C : zC E K cL_law lw_tbl RL room_1 4) (hX : zX K b L xs) (R : Rel N X M) (next : ∀ (X1 : XS) (M1 : MS), Rel N X1 M1 → Z E K 27 8620 (wX E ax N X1 ++ wM E am N M1) 508 [(3, .int (nI i)), (2, .ref (am 0)), (1, .ref (ax 0)), (0, .ref b)] []) : Z E K 27 8620 (wX E ax N X ++ wM E am N M) 350 [(3, .int (nI i)), (2, .ref (am 0)), (1, .ref (ax 0)), (0, .ref b)] [] := by
  obtain ⟨a1, ha1⟩ : ∃ z : Int32, xs (i + 1) = z := ⟨_, rfl⟩
  obtain ⟨a2, ha2⟩ : ∃ z : Int32, xs (i + 2) = z := ⟨_, rfl⟩
  have h1 := r_at hN (jDk (xJ X)) M (Rel_dk R) a1 a2
  have ct1 := c_X4_at E N hN ax X a1 a2
  have ct2 := c_X5_at E N hN am M a1 a2
  obtain ⟨r1, hr1⟩ : ∃ z : Int32, bOf N (jDk (xJ X)) a1 a2 = z := ⟨_, rfl⟩
  rw [hr1] at ct1 h1
  obtain ⟨r2, hr2⟩ : ∃ z : Int32, mAt N M a1 a2 = z := ⟨_, rfl⟩
  rw [hr2] at ct2 h1
  refine z_aload_n C 2 rfl rfl dL_law_350 ?_
  refine z_aload_n C 3 rfl rfl dL_law_351 ?_
  refine z_iload_n C 0 rfl rfl dL_law_352 ?_
  refine z_iconst C (v := 1) (by decide) dL_law_353 ?_
  refine z_iadd C dL_law_354 ?_
  refine z_top (nI_add i 1) ?_
  refine z_sld C hX (v := a1) (vp_in_nI (by omega) (by omega)) (by rw [nI_clamp (by omega)]; exact ha1) dL_law_355 ?_
  refine z_aload_n C 3 rfl rfl dL_law_356 ?_
  refine z_iload_n C 0 rfl rfl dL_law_357 ?_
  refine z_iconst C (v := 2) (by decide) dL_law_358 ?_
  refine z_iadd C dL_law_359 ?_
  refine z_top (nI_add i 2) ?_
  refine z_sld C hX (v := a2) (vp_in_nI (by omega) (by omega)) (by rw [nI_clamp (by omega)]; exact ha2) dL_law_360 ?_
  refine z_rVI C ct1 glX4_at (ci := 4) (q0 := 0) rfl rfl hyX4_at rfl ⟨rfl, rfl⟩ ⟨by decide, by decide⟩ ⟨by decide, by decide⟩ [0, 1, 2, 3, 4, 5, 6, 7, 8, 9, 10, 11, 12, 13, 14] rfl (by decide) (st := []) (Nat.le_of_ble_eq_true rfl) dL_law_361 ?_ rfl
  refine z_aload_n C 1 rfl rfl dL_law_364 ?_
  refine z_aload_n C 3 rfl rfl dL_law_365 ?_
  refine z_iload_n C 0 rfl rfl dL_law_366 ?_
  refine z_iconst C (v := 1) (by decide) dL_law_367 ?_
  refine z_iadd C dL_law_368 ?_
  refine z_top (nI_add i 1) ?_
  refine z_sld C hX (v := a1) (vp_in_nI (by omega) (by omega)) (by rw [nI_clamp (by omega)]; exact ha1) dL_law_369 ?_
  refine z_aload_n C 3 rfl rfl dL_law_370 ?_
  refine z_iload_n C 0 rfl rfl dL_law_371 ?_
  refine z_iconst C (v := 2) (by decide) dL_law_372 ?_
  refine z_iadd C dL_law_373 ?_
  refine z_top (nI_add i 2) ?_
  refine z_sld C hX (v := a2) (vp_in_nI (by omega) (by omega)) (by rw [nI_clamp (by omega)]; exact ha2) dL_law_374 ?_
  refine z_rVI C ct2 glX5_at (ci := 5) (q0 := 0) rfl rfl hyX5_at rfl ⟨rfl, rfl⟩ ⟨by decide, by decide⟩ ⟨by decide, by decide⟩ [15, 16, 17, 18, 19, 20, 21, 22, 23, 24, 25, 26] rfl (by decide) (st := [.int r1]) (Nat.le_of_ble_eq_true rfl) dL_law_375 ?_ rfl
  exact z_icmp_eq C (tgt := 508) dL_law_378 (by decide) (fun _ => next X M R) (fun h => absurd h1 h)
set_option maxHeartbeats 4000000 in
set_option maxRecDepth 3000 in
theorem lwc_sound {E : GE} {K : KX} {N : Nat} (hN : 16 ≤ N ∧ N ≤ 64) {ax am : Nat → Nat} {X : XS} {M : MS} {b L i : Nat} {xs : Nat → Int32} (hL : L ≤ 257) (hi : i + 4 ≤ L) (C : zC E K cL_law lw_tbl RL room_1 4) (hX : zX K b L xs) (R : Rel N X M) (next : ∀ (X1 : XS) (M1 : MS), Rel N X1 M1 → Z E K 27 8620 (wX E ax N X1 ++ wM E am N M1) 508 [(3, .int (nI i)), (2, .ref (am 0)), (1, .ref (ax 0)), (0, .ref b)] []) : Z E K 27 8620 (wX E ax N X ++ wM E am N M) 383 [(3, .int (nI i)), (2, .ref (am 0)), (1, .ref (ax 0)), (0, .ref b)] [] := by
  obtain ⟨a1, ha1⟩ : ∃ z : Int32, xs (i + 1) = z := ⟨_, rfl⟩
  have h1 := r_sound hN (jDk (xJ X)) M (Rel_dk R) a1
  have ct1 := c_X4_sound E N hN ax X a1
  have ct2 := c_X5_sound E N hN am M a1
  obtain ⟨r1, hr1⟩ : ∃ z : Int32, isS N (jDk (xJ X)) a1 = z := ⟨_, rfl⟩
  rw [hr1] at ct1 h1
  obtain ⟨r2, hr2⟩ : ∃ z : Int32, mSound N M a1 = z := ⟨_, rfl⟩
  rw [hr2] at ct2 h1
  refine z_aload_n C 2 rfl rfl dL_law_383 ?_
  refine z_aload_n C 3 rfl rfl dL_law_384 ?_
  refine z_iload_n C 0 rfl rfl dL_law_385 ?_
  refine z_iconst C (v := 1) (by decide) dL_law_386 ?_
  refine z_iadd C dL_law_387 ?_
  refine z_top (nI_add i 1) ?_
  refine z_sld C hX (v := a1) (vp_in_nI (by omega) (by omega)) (by rw [nI_clamp (by omega)]; exact ha1) dL_law_388 ?_
  refine z_rVI C ct1 glX4_sound (ci := 4) (q0 := 0) rfl rfl hyX4_sound rfl ⟨rfl, rfl⟩ ⟨by decide, by decide⟩ ⟨by decide, by decide⟩ [0, 1, 2, 3, 4, 5, 6, 7, 8, 9, 10, 11, 12, 13, 14] rfl (by decide) (st := []) (Nat.le_of_ble_eq_true rfl) dL_law_389 ?_ rfl
  refine z_aload_n C 1 rfl rfl dL_law_392 ?_
  refine z_aload_n C 3 rfl rfl dL_law_393 ?_
  refine z_iload_n C 0 rfl rfl dL_law_394 ?_
  refine z_iconst C (v := 1) (by decide) dL_law_395 ?_
  refine z_iadd C dL_law_396 ?_
  refine z_top (nI_add i 1) ?_
  refine z_sld C hX (v := a1) (vp_in_nI (by omega) (by omega)) (by rw [nI_clamp (by omega)]; exact ha1) dL_law_397 ?_
  refine z_rVI C ct2 glX5_sound (ci := 5) (q0 := 0) rfl rfl hyX5_sound rfl ⟨rfl, rfl⟩ ⟨by decide, by decide⟩ ⟨by decide, by decide⟩ [15, 16, 17, 18, 19, 20, 21, 22, 23, 24, 25, 26] rfl (by decide) (st := [.int r1]) (Nat.le_of_ble_eq_true rfl) dL_law_398 ?_ rfl
  exact z_icmp_eq C (tgt := 508) dL_law_401 (by decide) (fun _ => next X M R) (fun h => absurd h1 h)
set_option maxHeartbeats 4000000 in
set_option maxRecDepth 3000 in
theorem lwc_poke {E : GE} {K : KX} {N : Nat} (hN : 16 ≤ N ∧ N ≤ 64) {ax am : Nat → Nat} {X : XS} {M : MS} {b L i : Nat} {xs : Nat → Int32} (hL : L ≤ 257) (hi : i + 4 ≤ L) (C : zC E K cL_law lw_tbl RL room_1 4) (hX : zX K b L xs) (R : Rel N X M) (next : ∀ (X1 : XS) (M1 : MS), Rel N X1 M1 → Z E K 27 8620 (wX E ax N X1 ++ wM E am N M1) 508 [(3, .int (nI i)), (2, .ref (am 0)), (1, .ref (ax 0)), (0, .ref b)] []) : Z E K 27 8620 (wX E ax N X ++ wM E am N M) 406 [(3, .int (nI i)), (2, .ref (am 0)), (1, .ref (ax 0)), (0, .ref b)] [] := by
  obtain ⟨a1, ha1⟩ : ∃ z : Int32, xs (i + 1) = z := ⟨_, rfl⟩
  obtain ⟨a2, ha2⟩ : ∃ z : Int32, xs (i + 2) = z := ⟨_, rfl⟩
  obtain ⟨a3, ha3⟩ : ∃ z : Int32, xs (i + 3) = z := ⟨_, rfl⟩
  obtain ⟨h1, h2⟩ := r_poke hN R a1 a2 a3
  have ct1 := c_X4_poke E N hN ax X a1 a2 a3
  have ct2 := c_X5_poke E N hN am M a1 a2 a3
  obtain ⟨r1, hr1⟩ : ∃ z : Int32, (xPoke N X a1 a2 a3).1 = z := ⟨_, rfl⟩
  rw [hr1] at ct1 h1
  obtain ⟨Xq, hXq⟩ : ∃ z : XS, (xPoke N X a1 a2 a3).2 = z := ⟨_, rfl⟩
  rw [hXq] at ct1 h2
  obtain ⟨r2, hr2⟩ : ∃ z : Int32, (mPoke N M a1 a2 a3).1 = z := ⟨_, rfl⟩
  rw [hr2] at ct2 h1
  obtain ⟨Mq, hMq⟩ : ∃ z : MS, (mPoke N M a1 a2 a3).2 = z := ⟨_, rfl⟩
  rw [hMq] at ct2 h2
  refine z_aload_n C 2 rfl rfl dL_law_406 ?_
  refine z_aload_n C 3 rfl rfl dL_law_407 ?_
  refine z_iload_n C 0 rfl rfl dL_law_408 ?_
  refine z_iconst C (v := 1) (by decide) dL_law_409 ?_
  refine z_iadd C dL_law_410 ?_
  refine z_top (nI_add i 1) ?_
  refine z_sld C hX (v := a1) (vp_in_nI (by omega) (by omega)) (by rw [nI_clamp (by omega)]; exact ha1) dL_law_411 ?_
  refine z_aload_n C 3 rfl rfl dL_law_412 ?_
  refine z_iload_n C 0 rfl rfl dL_law_413 ?_
  refine z_iconst C (v := 2) (by decide) dL_law_414 ?_
  refine z_iadd C dL_law_415 ?_
  refine z_top (nI_add i 2) ?_
  refine z_sld C hX (v := a2) (vp_in_nI (by omega) (by omega)) (by rw [nI_clamp (by omega)]; exact ha2) dL_law_416 ?_
  refine z_aload_n C 3 rfl rfl dL_law_417 ?_
  refine z_iload_n C 0 rfl rfl dL_law_418 ?_
  refine z_iconst C (v := 3) (by decide) dL_law_419 ?_
  refine z_iadd C dL_law_420 ?_
  refine z_top (nI_add i 3) ?_
  refine z_sld C hX (v := a3) (vp_in_nI (by omega) (by omega)) (by rw [nI_clamp (by omega)]; exact ha3) dL_law_421 ?_
  refine z_callVI C ct1 glX4_poke (ci := 4) (q0 := 0) rfl rfl hyX4_poke rfl ⟨rfl, rfl⟩ ⟨by decide, by decide⟩ ⟨by decide, by decide⟩ [0, 1, 2, 3, 4, 5, 6, 7, 8, 9, 10, 11, 12, 13, 14] [15, 16, 17, 18, 19, 20, 21, 22, 23, 24, 25, 26] [12, 13, 14, 15, 16, 17, 18, 19, 20, 21, 22, 23, 24, 25, 26, 0, 1, 2, 3, 4, 5, 6, 7, 8, 9, 10, 11] (wr := wM E am N M) (V' := (wX E ax N Xq ++ wM E am N M)) rfl rfl (by decide) (by decide) (by decide) rfl (by decide) (st := []) (Nat.le_of_ble_eq_true rfl) dL_law_422 ?_ rfl
  refine z_aload_n C 1 rfl rfl dL_law_425 ?_
  refine z_aload_n C 3 rfl rfl dL_law_426 ?_
  refine z_iload_n C 0 rfl rfl dL_law_427 ?_
  refine z_iconst C (v := 1) (by decide) dL_law_428 ?_
  refine z_iadd C dL_law_429 ?_
  refine z_top (nI_add i 1) ?_
  refine z_sld C hX (v := a1) (vp_in_nI (by omega) (by omega)) (by rw [nI_clamp (by omega)]; exact ha1) dL_law_430 ?_
  refine z_aload_n C 3 rfl rfl dL_law_431 ?_
  refine z_iload_n C 0 rfl rfl dL_law_432 ?_
  refine z_iconst C (v := 2) (by decide) dL_law_433 ?_
  refine z_iadd C dL_law_434 ?_
  refine z_top (nI_add i 2) ?_
  refine z_sld C hX (v := a2) (vp_in_nI (by omega) (by omega)) (by rw [nI_clamp (by omega)]; exact ha2) dL_law_435 ?_
  refine z_aload_n C 3 rfl rfl dL_law_436 ?_
  refine z_iload_n C 0 rfl rfl dL_law_437 ?_
  refine z_iconst C (v := 3) (by decide) dL_law_438 ?_
  refine z_iadd C dL_law_439 ?_
  refine z_top (nI_add i 3) ?_
  refine z_sld C hX (v := a3) (vp_in_nI (by omega) (by omega)) (by rw [nI_clamp (by omega)]; exact ha3) dL_law_440 ?_
  refine z_callVI C ct2 glX5_poke (ci := 5) (q0 := 0) rfl rfl hyX5_poke rfl ⟨rfl, rfl⟩ ⟨by decide, by decide⟩ ⟨by decide, by decide⟩ [15, 16, 17, 18, 19, 20, 21, 22, 23, 24, 25, 26] [0, 1, 2, 3, 4, 5, 6, 7, 8, 9, 10, 11, 12, 13, 14] [0, 1, 2, 3, 4, 5, 6, 7, 8, 9, 10, 11, 12, 13, 14, 15, 16, 17, 18, 19, 20, 21, 22, 23, 24, 25, 26] (wr := wX E ax N Xq) (V' := (wX E ax N Xq ++ wM E am N Mq)) rfl rfl (by decide) (by decide) (by decide) rfl (by decide) (st := [.int r1]) (Nat.le_of_ble_eq_true rfl) dL_law_441 ?_ rfl
  exact z_icmp_eq C (tgt := 508) dL_law_444 (by decide) (fun _ => next Xq Mq h2) (fun h => absurd h1 h)
set_option maxHeartbeats 4000000 in
set_option maxRecDepth 3000 in
theorem lwc_count {E : GE} {K : KX} {N : Nat} (hN : 16 ≤ N ∧ N ≤ 64) {ax am : Nat → Nat} {X : XS} {M : MS} {b L i : Nat} {xs : Nat → Int32} (hL : L ≤ 257) (hi : i + 4 ≤ L) (C : zC E K cL_law lw_tbl RL room_1 4) (hX : zX K b L xs) (R : Rel N X M) (next : ∀ (X1 : XS) (M1 : MS), Rel N X1 M1 → Z E K 27 8620 (wX E ax N X1 ++ wM E am N M1) 508 [(3, .int (nI i)), (2, .ref (am 0)), (1, .ref (ax 0)), (0, .ref b)] []) : Z E K 27 8620 (wX E ax N X ++ wM E am N M) 449 [(3, .int (nI i)), (2, .ref (am 0)), (1, .ref (ax 0)), (0, .ref b)] [] := by
  obtain ⟨a1, ha1⟩ : ∃ z : Int32, xs (i + 1) = z := ⟨_, rfl⟩
  have h1 := r_count hN R a1
  have ct1 := c_X4_count E N hN ax X a1
  have ct2 := c_X5_count E N hN am M a1
  obtain ⟨r1, hr1⟩ : ∃ z : Int32, xCount N X a1 = z := ⟨_, rfl⟩
  rw [hr1] at ct1 h1
  obtain ⟨r2, hr2⟩ : ∃ z : Int32, mCount M a1 = z := ⟨_, rfl⟩
  rw [hr2] at ct2 h1
  refine z_aload_n C 2 rfl rfl dL_law_449 ?_
  refine z_aload_n C 3 rfl rfl dL_law_450 ?_
  refine z_iload_n C 0 rfl rfl dL_law_451 ?_
  refine z_iconst C (v := 1) (by decide) dL_law_452 ?_
  refine z_iadd C dL_law_453 ?_
  refine z_top (nI_add i 1) ?_
  refine z_sld C hX (v := a1) (vp_in_nI (by omega) (by omega)) (by rw [nI_clamp (by omega)]; exact ha1) dL_law_454 ?_
  refine z_rVI C ct1 glX4_count (ci := 4) (q0 := 0) rfl rfl hyX4_count rfl ⟨rfl, rfl⟩ ⟨by decide, by decide⟩ ⟨by decide, by decide⟩ [0, 1, 2, 3, 4, 5, 6, 7, 8, 9, 10, 11, 12, 13, 14] rfl (by decide) (st := []) (Nat.le_of_ble_eq_true rfl) dL_law_455 ?_ rfl
  refine z_aload_n C 1 rfl rfl dL_law_458 ?_
  refine z_aload_n C 3 rfl rfl dL_law_459 ?_
  refine z_iload_n C 0 rfl rfl dL_law_460 ?_
  refine z_iconst C (v := 1) (by decide) dL_law_461 ?_
  refine z_iadd C dL_law_462 ?_
  refine z_top (nI_add i 1) ?_
  refine z_sld C hX (v := a1) (vp_in_nI (by omega) (by omega)) (by rw [nI_clamp (by omega)]; exact ha1) dL_law_463 ?_
  refine z_rVI C ct2 glX5_count (ci := 5) (q0 := 0) rfl rfl hyX5_count rfl ⟨rfl, rfl⟩ ⟨by decide, by decide⟩ ⟨by decide, by decide⟩ [15, 16, 17, 18, 19, 20, 21, 22, 23, 24, 25, 26] rfl (by decide) (st := [.int r1]) (Nat.le_of_ble_eq_true rfl) dL_law_464 ?_ rfl
  exact z_icmp_eq C (tgt := 508) dL_law_467 (by decide) (fun _ => next X M R) (fun h => absurd h1 h)
set_option maxHeartbeats 4000000 in
set_option maxRecDepth 3000 in
theorem lwc_holder {E : GE} {K : KX} {N : Nat} (hN : 16 ≤ N ∧ N ≤ 64) {ax am : Nat → Nat} {X : XS} {M : MS} {b L i : Nat} {xs : Nat → Int32} (hL : L ≤ 257) (hi : i + 4 ≤ L) (C : zC E K cL_law lw_tbl RL room_1 4) (hX : zX K b L xs) (R : Rel N X M) (next : ∀ (X1 : XS) (M1 : MS), Rel N X1 M1 → Z E K 27 8620 (wX E ax N X1 ++ wM E am N M1) 508 [(3, .int (nI i)), (2, .ref (am 0)), (1, .ref (ax 0)), (0, .ref b)] []) : Z E K 27 8620 (wX E ax N X ++ wM E am N M) 472 [(3, .int (nI i)), (2, .ref (am 0)), (1, .ref (ax 0)), (0, .ref b)] [] := by
  obtain ⟨a1, ha1⟩ : ∃ z : Int32, xs (i + 1) = z := ⟨_, rfl⟩
  have h1 := r_holder R a1
  have ct1 := c_X4_holder E N hN ax X a1
  have ct2 := c_X5_holder E N hN am M a1
  obtain ⟨r1, hr1⟩ : ∃ z : Int32, xHolder X a1 = z := ⟨_, rfl⟩
  rw [hr1] at ct1 h1
  obtain ⟨r2, hr2⟩ : ∃ z : Int32, mHold M a1 = z := ⟨_, rfl⟩
  rw [hr2] at ct2 h1
  refine z_aload_n C 2 rfl rfl dL_law_472 ?_
  refine z_aload_n C 3 rfl rfl dL_law_473 ?_
  refine z_iload_n C 0 rfl rfl dL_law_474 ?_
  refine z_iconst C (v := 1) (by decide) dL_law_475 ?_
  refine z_iadd C dL_law_476 ?_
  refine z_top (nI_add i 1) ?_
  refine z_sld C hX (v := a1) (vp_in_nI (by omega) (by omega)) (by rw [nI_clamp (by omega)]; exact ha1) dL_law_477 ?_
  refine z_rVI C ct1 glX4_holder (ci := 4) (q0 := 0) rfl rfl hyX4_holder rfl ⟨rfl, rfl⟩ ⟨by decide, by decide⟩ ⟨by decide, by decide⟩ [0, 1, 2, 3, 4, 5, 6, 7, 8, 9, 10, 11, 12, 13, 14] rfl (by decide) (st := []) (Nat.le_of_ble_eq_true rfl) dL_law_478 ?_ rfl
  refine z_aload_n C 1 rfl rfl dL_law_481 ?_
  refine z_aload_n C 3 rfl rfl dL_law_482 ?_
  refine z_iload_n C 0 rfl rfl dL_law_483 ?_
  refine z_iconst C (v := 1) (by decide) dL_law_484 ?_
  refine z_iadd C dL_law_485 ?_
  refine z_top (nI_add i 1) ?_
  refine z_sld C hX (v := a1) (vp_in_nI (by omega) (by omega)) (by rw [nI_clamp (by omega)]; exact ha1) dL_law_486 ?_
  refine z_rVI C ct2 glX5_holder (ci := 5) (q0 := 0) rfl rfl hyX5_holder rfl ⟨rfl, rfl⟩ ⟨by decide, by decide⟩ ⟨by decide, by decide⟩ [15, 16, 17, 18, 19, 20, 21, 22, 23, 24, 25, 26] rfl (by decide) (st := [.int r1]) (Nat.le_of_ble_eq_true rfl) dL_law_487 ?_ rfl
  exact z_icmp_eq C (tgt := 508) dL_law_490 (by decide) (fun _ => next X M R) (fun h => absurd h1 h)
set_option maxHeartbeats 4000000 in
set_option maxRecDepth 3000 in
theorem lwc_format {E : GE} {K : KX} {N : Nat} (hN : 16 ≤ N ∧ N ≤ 64) {ax am : Nat → Nat} {X : XS} {M : MS} {b L i : Nat} {xs : Nat → Int32} (hL : L ≤ 257) (hi : i + 4 ≤ L) (C : zC E K cL_law lw_tbl RL room_1 4) (hX : zX K b L xs) (R : Rel N X M) (next : ∀ (X1 : XS) (M1 : MS), Rel N X1 M1 → Z E K 27 8620 (wX E ax N X1 ++ wM E am N M1) 508 [(3, .int (nI i)), (2, .ref (am 0)), (1, .ref (ax 0)), (0, .ref b)] []) : Z E K 27 8620 (wX E ax N X ++ wM E am N M) 495 [(3, .int (nI i)), (2, .ref (am 0)), (1, .ref (ax 0)), (0, .ref b)] [] := by
  obtain ⟨h1, h2⟩ := r_format hN R
  have ct1 := c_X4_format E N hN ax X
  have ct2 := c_X5_format E N hN am M
  obtain ⟨r1, hr1⟩ : ∃ z : Int32, (xForm N X).1 = z := ⟨_, rfl⟩
  rw [hr1] at ct1 h1
  obtain ⟨Xq, hXq⟩ : ∃ z : XS, (xForm N X).2 = z := ⟨_, rfl⟩
  rw [hXq] at ct1 h2
  obtain ⟨r2, hr2⟩ : ∃ z : Int32, (mForm N M).1 = z := ⟨_, rfl⟩
  rw [hr2] at ct2 h1
  obtain ⟨Mq, hMq⟩ : ∃ z : MS, (mForm N M).2 = z := ⟨_, rfl⟩
  rw [hMq] at ct2 h2
  refine z_aload_n C 2 rfl rfl dL_law_495 ?_
  refine z_callVI C ct1 glX4_format (ci := 4) (q0 := 0) rfl rfl hyX4_format rfl ⟨rfl, rfl⟩ ⟨by decide, by decide⟩ ⟨by decide, by decide⟩ [0, 1, 2, 3, 4, 5, 6, 7, 8, 9, 10, 11, 12, 13, 14] [15, 16, 17, 18, 19, 20, 21, 22, 23, 24, 25, 26] [12, 13, 14, 15, 16, 17, 18, 19, 20, 21, 22, 23, 24, 25, 26, 0, 1, 2, 3, 4, 5, 6, 7, 8, 9, 10, 11] (wr := wM E am N M) (V' := (wX E ax N Xq ++ wM E am N M)) rfl rfl (by decide) (by decide) (by decide) rfl (by decide) (st := []) (Nat.le_of_ble_eq_true rfl) dL_law_496 ?_ rfl
  refine z_aload_n C 1 rfl rfl dL_law_499 ?_
  refine z_callVI C ct2 glX5_format (ci := 5) (q0 := 0) rfl rfl hyX5_format rfl ⟨rfl, rfl⟩ ⟨by decide, by decide⟩ ⟨by decide, by decide⟩ [15, 16, 17, 18, 19, 20, 21, 22, 23, 24, 25, 26] [0, 1, 2, 3, 4, 5, 6, 7, 8, 9, 10, 11, 12, 13, 14] [0, 1, 2, 3, 4, 5, 6, 7, 8, 9, 10, 11, 12, 13, 14, 15, 16, 17, 18, 19, 20, 21, 22, 23, 24, 25, 26] (wr := wX E ax N Xq) (V' := (wX E ax N Xq ++ wM E am N Mq)) rfl rfl (by decide) (by decide) (by decide) rfl (by decide) (st := [.int r1]) (Nat.le_of_ble_eq_true rfl) dL_law_500 ?_ rfl
  exact z_icmp_eq C (tgt := 508) dL_law_503 (by decide) (fun _ => next Xq Mq h2) (fun h => absurd h1 h)

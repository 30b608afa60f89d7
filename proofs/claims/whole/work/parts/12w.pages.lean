abbrev rmX2_writePages : Room := { frames := 4, cells := 0, slots := 0, locals := 99 }
theorem hyX2_writePages : yX2_writePages.cls = RX2 ∧ yX2_writePages.cls ≠ "java/lang/invoke/MethodHandle" ∧ yX2_writePages.cls ≠ "java/lang/invoke/VarHandle" ∧ (parseMethodDescriptor yX2_writePages.desc).map (fun d => d.parameters.length) = some 2 := by decide +kernel
set_option maxHeartbeats 4000000 in
set_option maxRecDepth 3000 in
theorem c_X2_writePages (E : GE) (N : Nat) (hN : 16 ≤ N ∧ N ≤ 64) (a : Nat → Nat) (J : JS) (a2 : Nat → Nat) (D : DS) (P : Nat) (hP : P ≤ 64) : zV E yX2_writePages wsX2_writePages rmX2_writePages [.ref (a 0), .ref (a2 0), .int (nI P)] ((wJ E a N J) ++ (wD E a2 D)) ((wJ E a N (jWPg N J D P)) ++ (wD E a2 D)) := by
  refine zV_of (cc := cX2_writePages) (maxL := 5) (by decide) rfl (Nat.le_of_ble_eq_true rfl) ?_
  intro K C ret
  replace C : zC E K cX2_writePages wsX2_writePages RX2 rmX2_writePages 5 := C
  have in2 : ∀ w ∈ wsX20, w ∈ wsX2_writePages := fun w h => List.mem_cons_of_mem _ (List.mem_append_left _ (List.mem_append_left _ (List.mem_append_right _ (h))))
  have l30 : zw K (.fieldLink RX2 30 "StoreLog3$Journal" "memory" "LStoreLog3$Sectors;") := C.w (List.mem_cons_of_mem _ (List.mem_append_left _ (List.mem_append_left _ (List.mem_append_left _ (List.mem_append_left _ (List.mem_of_getElem? (i := 2) rfl))))))
  have l54 : zw K (.fieldLink RX2 54 "StoreLog3$Journal" "lastSector" "I") := C.w (List.mem_cons_of_mem _ (List.mem_append_left _ (List.mem_append_left _ (List.mem_append_left _ (List.mem_append_left _ (List.mem_of_getElem? (i := 0) rfl))))))
  have l99 : zw K (.fieldLink RX2 99 "StoreLog3$Journal" "firstPageWaiting" "I") := C.w (List.mem_cons_of_mem _ (List.mem_append_left _ (List.mem_append_left _ (List.mem_append_left _ (List.mem_append_left _ (List.mem_of_getElem? (i := 1) rfl))))))
  show Z E K 0 0 ((wJ E a N J) ++ (wD E a2 D)) 0 [(0, .ref (a 0)), (1, .ref (a2 0)), (2, .int (nI P))] []
  refine z_aload_n C 1 rfl rfl dX2_writePages_0 ?_
  refine z_iconst C (v := 0) (by decide) dX2_writePages_1 ?_
  refine z_rVI C (c_X0_nextWithValue E a2 D 0 (by decide)) gX2_writePages_X0_nextWithValue (ci := 0) (q0 := 0) rfl rfl hyX0_nextWithValue rfl ⟨rfl, rfl⟩ ⟨by decide, by decide⟩ ⟨by decide, by decide⟩ [8, 9, 10, 11] rfl (by decide) (st := []) (Nat.le_of_ble_eq_true rfl) dX2_writePages_2 ?_ rfl
  generalize hk0 : nxN D (32 - 0) 0 = k0
  have hk0l : k0 ≤ 32 := by rw [← hk0]; exact nxN_le D _ _ (by omega)
  refine z_istore_n C (lv' := [(3, .int (nI k0)), (0, .ref (a 0)), (1, .ref (a2 0)), (2, .int (nI P))]) rfl rfl (by decide) dX2_writePages_5 ?_
  refine z_iconst C (v := 0) (by decide) dX2_writePages_6 ?_
  refine z_istore C (lv' := [(4, .int 0), (3, .int (nI k0)), (0, .ref (a 0)), (1, .ref (a2 0)), (2, .int (nI P))]) rfl (by decide) dX2_writePages_7 ?_
  have loop9 : ∀ (n j k : Nat) (J1 : JS), j + n = P → k ≤ 32 → wpg N D P n j k J1 = wpg N D P P 0 k0 J → Z E K 0 0 ((wJ E a N J1) ++ (wD E a2 D)) 9 [(0, .ref (a 0)), (1, .ref (a2 0)), (2, .int (nI P)), (3, .int (nI k)), (4, .int (nI j))] [] := by
    intro n
    induction n with
    | zero => 
      intro j k J1 hj hkk hT
      obtain rfl : P = j := by omega
      refine z_iload C 4 rfl dX2_writePages_9 ?_
      refine z_iload_n C 2 rfl rfl dX2_writePages_11 ?_
      refine z_icmp_ge C (tgt := 85) dX2_writePages_12 (by decide) (fun h12_1 => ?_) (fun h12_1 => absurd (nI_le (a := P) (b := P) (Nat.le_refl _) (by omega)) h12_1)
      exact ret _ _ _ (by unfold jWPg; rw [hk0, ← hT]; rfl) dX2_writePages_85
    | succ n ih9 => 
      intro j k J1 hj hkk hT
      refine z_iload C 4 rfl dX2_writePages_9 ?_
      refine z_iload_n C 2 rfl rfl dX2_writePages_11 ?_
      refine z_icmp_ge C (tgt := 85) dX2_writePages_12 (by decide) (fun h12_2 => absurd h12_2 (nI_ge (a := j) (b := P) (by omega) (by omega))) (fun h12_2 => ?_)
      refine z_aload_n C 0 rfl rfl dX2_writePages_15 ?_
      have ct1 := c_X2_goToNext E N hN a J1
      obtain ⟨Jq2, hq16_2⟩ : ∃ z : JS, (jNext N J1) = z := ⟨_, rfl⟩
      rw [hq16_2] at ct1
      refine z_callVV C ct1 gX2_writePages_X2_goToNext (ci := 2) (q0 := 0) rfl rfl hyX2_goToNext rfl ⟨rfl, rfl⟩ ⟨by decide, by decide⟩ ⟨by decide, by decide⟩ [0, 1, 2, 3, 4, 5, 6, 7] [8, 9, 10, 11] [4, 5, 6, 7, 8, 9, 10, 11, 0, 1, 2, 3] (wr := [((a2 0), .inr (0, [.ref (a2 1), .ref (a2 2), .ref (a2 3), .int (dOp D)])), ((a2 1), .inl (gI E, 32, .inl (dCo D))), ((a2 2), .inl (gI E, 32, .inl (dCh D))), ((a2 3), .inl (gI E, 32, .inl (dHo D)))]) (V' := ((wJ E a N Jq2) ++ (wD E a2 D))) rfl rfl (by decide) (by decide) (by decide) rfl (by decide) (st := []) (Nat.le_of_ble_eq_true rfl) dX2_writePages_16 ?_ rfl
      refine z_iload C 4 rfl dX2_writePages_19 ?_
      refine z_if_ne C (tgt := 32) dX2_writePages_21 (by decide) (fun h21_3 => ?_) (fun h21_3 => ?_)
      · refine z_aload_n C 0 rfl rfl dX2_writePages_32 ?_
        refine z_aload_n C 1 rfl rfl dX2_writePages_33 ?_
        refine z_iload_n C 3 rfl rfl dX2_writePages_34 ?_
        have ct3 := c_X2_writePairs E N hN a Jq2 a2 D k hkk
        obtain ⟨Jq4, hq35_4⟩ : ∃ z : JS, (jWPr N Jq2 D k) = z := ⟨_, rfl⟩
        rw [hq35_4] at ct3
        refine z_callVI C ct3 gX2_writePages_X2_writePairs (ci := 2) (q0 := 0) rfl rfl hyX2_writePairs rfl ⟨rfl, rfl⟩ ⟨by decide, by decide⟩ ⟨by decide, by decide⟩ [0, 1, 2, 3, 4, 5, 6, 7, 8, 9, 10, 11] [] [0, 1, 2, 3, 4, 5, 6, 7, 8, 9, 10, 11] (wr := []) (V' := ((wJ E a N Jq4) ++ (wD E a2 D))) rfl rfl (by decide) (by decide) (by decide) rfl (by decide) (st := []) (Nat.le_of_ble_eq_true rfl) dX2_writePages_35 ?_ rfl
        refine z_istore_n C (lv' := [(3, .int (nI (jWPk N Jq2 D k))), (0, .ref (a 0)), (1, .ref (a2 0)), (2, .int (nI P)), (4, .int (nI j))]) rfl rfl (by decide) dX2_writePages_38 ?_
        refine z_aload_n C 1 rfl rfl dX2_writePages_39 ?_
        refine z_get C (Cn := RX2) (T := TX2) (Nf := 12) (ci := 2) in2 0 1 l30 (v := .ref (a 3)) rfl rfl (by decide) rfl dX2_writePages_40 ?_
        refine z_aload_n C 1 rfl rfl dX2_writePages_43 ?_
        refine z_get C (Cn := RX2) (T := TX2) (Nf := 12) (ci := 2) in2 0 9 l54 (v := .int (jSc Jq4)) rfl rfl (by decide) rfl dX2_writePages_44 ?_
        refine z_bipush C (v := 26) (by decide) dX2_writePages_47 ?_
        refine z_iload C 4 rfl dX2_writePages_49 ?_
        have ct5 := c_X3_setByte E N hN (a 3) (a 4) (jMm Jq4) (jSc Jq4) 26 (nI j)
        obtain ⟨fq6, hq51_6⟩ : ∃ z : Nat → Int32, (sB N (jMm Jq4) (jSc Jq4) 26 (nI j)) = z := ⟨_, rfl⟩
        rw [hq51_6] at ct5
        refine z_callVV C ct5 gX2_writePages_X3_setByte (ci := 3) (q0 := 0) rfl rfl hyX3_setByte rfl ⟨rfl, rfl⟩ ⟨by decide, by decide⟩ ⟨by decide, by decide⟩ [3, 4] [0, 1, 2, 5, 6, 7, 8, 9, 10, 11] [0, 1, 2, 10, 11, 3, 4, 5, 6, 7, 8, 9] (wr := [((a 0), .inr (2, [.ref (a 1), .ref (a 3), .ref (a 5), .ref (a 6), .ref (a 7), .int (jEn Jq4), .int (jWa Jq4), .int (jFw Jq4), .int (jSe Jq4), .int (jSc Jq4), .int (jFn Jq4), .int (jFp Jq4)])), ((a 1), .inr (3, [.int (nI N), .ref (a 2)])), ((a 2), .inl (gB E, 32 * N, .inl (jDk Jq4))), ((a 5), .inl (gI E, 4, .inl (jEh Jq4))), ((a 6), .inl (gI E, 4, .inl (jEk Jq4))), ((a 7), .inl (gI E, 4, .inl (jEv Jq4))), ((a2 0), .inr (0, [.ref (a2 1), .ref (a2 2), .ref (a2 3), .int (dOp D)])), ((a2 1), .inl (gI E, 32, .inl (dCo D))), ((a2 2), .inl (gI E, 32, .inl (dCh D))), ((a2 3), .inl (gI E, 32, .inl (dHo D)))]) (V' := ((wJ E a N (jsMm Jq4 fq6)) ++ (wD E a2 D))) rfl rfl (by decide) (by decide) (by decide) rfl (by decide) (st := []) (Nat.le_of_ble_eq_true rfl) dX2_writePages_51 ?_ rfl
        refine z_aload_n C 1 rfl rfl dX2_writePages_54 ?_
        refine z_get C (Cn := RX2) (T := TX2) (Nf := 12) (ci := 2) in2 0 1 l30 (v := .ref (a 3)) rfl rfl (by decide) rfl dX2_writePages_55 ?_
        refine z_aload_n C 1 rfl rfl dX2_writePages_58 ?_
        refine z_get C (Cn := RX2) (T := TX2) (Nf := 12) (ci := 2) in2 0 9 l54 (v := .int (jSc Jq4)) rfl rfl (by decide) rfl dX2_writePages_59 ?_
        refine z_bipush C (v := 27) (by decide) dX2_writePages_62 ?_
        refine z_iload_n C 3 rfl rfl dX2_writePages_64 ?_
        have ct7 := c_X3_setByte E N hN (a 3) (a 4) fq6 (jSc Jq4) 27 (nI P)
        obtain ⟨fq8, hq65_8⟩ : ∃ z : Nat → Int32, (sB N fq6 (jSc Jq4) 27 (nI P)) = z := ⟨_, rfl⟩
        rw [hq65_8] at ct7
        refine z_callVV C ct7 gX2_writePages_X3_setByte (ci := 3) (q0 := 0) rfl rfl hyX3_setByte rfl ⟨rfl, rfl⟩ ⟨by decide, by decide⟩ ⟨by decide, by decide⟩ [3, 4] [0, 1, 2, 5, 6, 7, 8, 9, 10, 11] [0, 1, 2, 10, 11, 3, 4, 5, 6, 7, 8, 9] (wr := [((a 0), .inr (2, [.ref (a 1), .ref (a 3), .ref (a 5), .ref (a 6), .ref (a 7), .int (jEn Jq4), .int (jWa Jq4), .int (jFw Jq4), .int (jSe Jq4), .int (jSc Jq4), .int (jFn Jq4), .int (jFp Jq4)])), ((a 1), .inr (3, [.int (nI N), .ref (a 2)])), ((a 2), .inl (gB E, 32 * N, .inl (jDk Jq4))), ((a 5), .inl (gI E, 4, .inl (jEh Jq4))), ((a 6), .inl (gI E, 4, .inl (jEk Jq4))), ((a 7), .inl (gI E, 4, .inl (jEv Jq4))), ((a2 0), .inr (0, [.ref (a2 1), .ref (a2 2), .ref (a2 3), .int (dOp D)])), ((a2 1), .inl (gI E, 32, .inl (dCo D))), ((a2 2), .inl (gI E, 32, .inl (dCh D))), ((a2 3), .inl (gI E, 32, .inl (dHo D)))]) (V' := ((wJ E a N (jsMm Jq4 fq8)) ++ (wD E a2 D))) rfl rfl (by decide) (by decide) (by decide) rfl (by decide) (st := []) (Nat.le_of_ble_eq_true rfl) dX2_writePages_65 ?_ rfl
        refine z_aload_n C 1 rfl rfl dX2_writePages_68 ?_
        refine z_get C (Cn := RX2) (T := TX2) (Nf := 12) (ci := 2) in2 0 1 l30 (v := .ref (a 3)) rfl rfl (by decide) rfl dX2_writePages_69 ?_
        refine z_aload_n C 1 rfl rfl dX2_writePages_72 ?_
        refine z_get C (Cn := RX2) (T := TX2) (Nf := 12) (ci := 2) in2 0 9 l54 (v := .int (jSc Jq4)) rfl rfl (by decide) rfl dX2_writePages_73 ?_
        have ct9 := c_X3_seal E N hN (a 3) (a 4) fq8 (jSc Jq4)
        obtain ⟨fq10, hq76_10⟩ : ∃ z : Nat → Int32, (sealS N fq8 (jSc Jq4)) = z := ⟨_, rfl⟩
        rw [hq76_10] at ct9
        refine z_callVV C ct9 gX2_writePages_X3_seal (ci := 3) (q0 := 0) rfl rfl hyX3_seal rfl ⟨rfl, rfl⟩ ⟨by decide, by decide⟩ ⟨by decide, by decide⟩ [3, 4] [0, 1, 2, 5, 6, 7, 8, 9, 10, 11] [0, 1, 2, 10, 11, 3, 4, 5, 6, 7, 8, 9] (wr := [((a 0), .inr (2, [.ref (a 1), .ref (a 3), .ref (a 5), .ref (a 6), .ref (a 7), .int (jEn Jq4), .int (jWa Jq4), .int (jFw Jq4), .int (jSe Jq4), .int (jSc Jq4), .int (jFn Jq4), .int (jFp Jq4)])), ((a 1), .inr (3, [.int (nI N), .ref (a 2)])), ((a 2), .inl (gB E, 32 * N, .inl (jDk Jq4))), ((a 5), .inl (gI E, 4, .inl (jEh Jq4))), ((a 6), .inl (gI E, 4, .inl (jEk Jq4))), ((a 7), .inl (gI E, 4, .inl (jEv Jq4))), ((a2 0), .inr (0, [.ref (a2 1), .ref (a2 2), .ref (a2 3), .int (dOp D)])), ((a2 1), .inl (gI E, 32, .inl (dCo D))), ((a2 2), .inl (gI E, 32, .inl (dCh D))), ((a2 3), .inl (gI E, 32, .inl (dHo D)))]) (V' := ((wJ E a N (jsMm Jq4 fq10)) ++ (wD E a2 D))) rfl rfl (by decide) (by decide) (by decide) rfl (by decide) (st := []) (Nat.le_of_ble_eq_true rfl) dX2_writePages_76 ?_ rfl
        refine z_iinc C 4 rfl (v := (nI (j + 1))) (zinc _) (lv' := [(4, .int (nI (j + 1))), (3, .int (nI (jWPk N Jq2 D k))), (0, .ref (a 0)), (1, .ref (a2 0)), (2, .int (nI P))]) rfl (by decide) dX2_writePages_79 ?_
        refine z_goto C (tgt := 9) dX2_writePages_82 (by decide) ?_
        refine z_lv (lv' := [(0, .ref (a 0)), (1, .ref (a2 0)), (2, .int (nI P)), (3, .int (nI (jWPk N Jq2 D k))), (4, .int (nI (j + 1)))]) [2, 3, 4, 1, 0] rfl ?_
        exact ih9 (j + 1) _ _ (by omega) (jWPk_le N _ D k hkk) (by rw [← hT, show wpg N D P (n + 1) j k J1 = wpg N D P n (j + 1) (jWPk N (wp1 N j J1) D k) (wp2 N D P j k J1) from rfl]; unfold wp2; rw [show wp1 N j J1 = Jq2 from by unfold wp1; rw [if_neg h21_3, hq16_2]]; rw [hq35_4, hq51_6, hq65_8, hq76_10])
      · refine z_aload_n C 0 rfl rfl dX2_writePages_24 ?_
        refine z_aload_n C 0 rfl rfl dX2_writePages_25 ?_
        refine z_get C (Cn := RX2) (T := TX2) (Nf := 12) (ci := 2) in2 0 9 l54 (v := .int (jSc Jq2)) rfl rfl (by decide) rfl dX2_writePages_26 ?_
        refine z_put C (Cn := RX2) (T := TX2) (Nf := 12) (ci := 2) in2 0 11 l99 rfl rfl (by decide) tyX2 tyX2_ok nmX2 rfl rfl rfl (Nat.le_of_ble_eq_true rfl) (V' := ((wJ E a N (jsFp Jq2 (jSc Jq2))) ++ (wD E a2 D))) rfl dX2_writePages_29 ?_
        refine z_aload_n C 0 rfl rfl dX2_writePages_32 ?_
        refine z_aload_n C 1 rfl rfl dX2_writePages_33 ?_
        refine z_iload_n C 3 rfl rfl dX2_writePages_34 ?_
        have ct11 := c_X2_writePairs E N hN a (jsFp Jq2 (jSc Jq2)) a2 D k hkk
        obtain ⟨Jq12, hq35_12⟩ : ∃ z : JS, (jWPr N (jsFp Jq2 (jSc Jq2)) D k) = z := ⟨_, rfl⟩
        rw [hq35_12] at ct11
        refine z_callVI C ct11 gX2_writePages_X2_writePairs (ci := 2) (q0 := 0) rfl rfl hyX2_writePairs rfl ⟨rfl, rfl⟩ ⟨by decide, by decide⟩ ⟨by decide, by decide⟩ [0, 1, 2, 3, 4, 5, 6, 7, 8, 9, 10, 11] [] [0, 1, 2, 3, 4, 5, 6, 7, 8, 9, 10, 11] (wr := []) (V' := ((wJ E a N Jq12) ++ (wD E a2 D))) rfl rfl (by decide) (by decide) (by decide) rfl (by decide) (st := []) (Nat.le_of_ble_eq_true rfl) dX2_writePages_35 ?_ rfl
        refine z_istore_n C (lv' := [(3, .int (nI (jWPk N (jsFp Jq2 (jSc Jq2)) D k))), (0, .ref (a 0)), (1, .ref (a2 0)), (2, .int (nI P)), (4, .int (nI j))]) rfl rfl (by decide) dX2_writePages_38 ?_
        refine z_aload_n C 1 rfl rfl dX2_writePages_39 ?_
        refine z_get C (Cn := RX2) (T := TX2) (Nf := 12) (ci := 2) in2 0 1 l30 (v := .ref (a 3)) rfl rfl (by decide) rfl dX2_writePages_40 ?_
        refine z_aload_n C 1 rfl rfl dX2_writePages_43 ?_
        refine z_get C (Cn := RX2) (T := TX2) (Nf := 12) (ci := 2) in2 0 9 l54 (v := .int (jSc Jq12)) rfl rfl (by decide) rfl dX2_writePages_44 ?_
        refine z_bipush C (v := 26) (by decide) dX2_writePages_47 ?_
        refine z_iload C 4 rfl dX2_writePages_49 ?_
        have ct13 := c_X3_setByte E N hN (a 3) (a 4) (jMm Jq12) (jSc Jq12) 26 (nI j)
        obtain ⟨fq14, hq51_14⟩ : ∃ z : Nat → Int32, (sB N (jMm Jq12) (jSc Jq12) 26 (nI j)) = z := ⟨_, rfl⟩
        rw [hq51_14] at ct13
        refine z_callVV C ct13 gX2_writePages_X3_setByte (ci := 3) (q0 := 0) rfl rfl hyX3_setByte rfl ⟨rfl, rfl⟩ ⟨by decide, by decide⟩ ⟨by decide, by decide⟩ [3, 4] [0, 1, 2, 5, 6, 7, 8, 9, 10, 11] [0, 1, 2, 10, 11, 3, 4, 5, 6, 7, 8, 9] (wr := [((a 0), .inr (2, [.ref (a 1), .ref (a 3), .ref (a 5), .ref (a 6), .ref (a 7), .int (jEn Jq12), .int (jWa Jq12), .int (jFw Jq12), .int (jSe Jq12), .int (jSc Jq12), .int (jFn Jq12), .int (jFp Jq12)])), ((a 1), .inr (3, [.int (nI N), .ref (a 2)])), ((a 2), .inl (gB E, 32 * N, .inl (jDk Jq12))), ((a 5), .inl (gI E, 4, .inl (jEh Jq12))), ((a 6), .inl (gI E, 4, .inl (jEk Jq12))), ((a 7), .inl (gI E, 4, .inl (jEv Jq12))), ((a2 0), .inr (0, [.ref (a2 1), .ref (a2 2), .ref (a2 3), .int (dOp D)])), ((a2 1), .inl (gI E, 32, .inl (dCo D))), ((a2 2), .inl (gI E, 32, .inl (dCh D))), ((a2 3), .inl (gI E, 32, .inl (dHo D)))]) (V' := ((wJ E a N (jsMm Jq12 fq14)) ++ (wD E a2 D))) rfl rfl (by decide) (by decide) (by decide) rfl (by decide) (st := []) (Nat.le_of_ble_eq_true rfl) dX2_writePages_51 ?_ rfl
        refine z_aload_n C 1 rfl rfl dX2_writePages_54 ?_
        refine z_get C (Cn := RX2) (T := TX2) (Nf := 12) (ci := 2) in2 0 1 l30 (v := .ref (a 3)) rfl rfl (by decide) rfl dX2_writePages_55 ?_
        refine z_aload_n C 1 rfl rfl dX2_writePages_58 ?_
        refine z_get C (Cn := RX2) (T := TX2) (Nf := 12) (ci := 2) in2 0 9 l54 (v := .int (jSc Jq12)) rfl rfl (by decide) rfl dX2_writePages_59 ?_
        refine z_bipush C (v := 27) (by decide) dX2_writePages_62 ?_
        refine z_iload_n C 3 rfl rfl dX2_writePages_64 ?_
        have ct15 := c_X3_setByte E N hN (a 3) (a 4) fq14 (jSc Jq12) 27 (nI P)
        obtain ⟨fq16, hq65_16⟩ : ∃ z : Nat → Int32, (sB N fq14 (jSc Jq12) 27 (nI P)) = z := ⟨_, rfl⟩
        rw [hq65_16] at ct15
        refine z_callVV C ct15 gX2_writePages_X3_setByte (ci := 3) (q0 := 0) rfl rfl hyX3_setByte rfl ⟨rfl, rfl⟩ ⟨by decide, by decide⟩ ⟨by decide, by decide⟩ [3, 4] [0, 1, 2, 5, 6, 7, 8, 9, 10, 11] [0, 1, 2, 10, 11, 3, 4, 5, 6, 7, 8, 9] (wr := [((a 0), .inr (2, [.ref (a 1), .ref (a 3), .ref (a 5), .ref (a 6), .ref (a 7), .int (jEn Jq12), .int (jWa Jq12), .int (jFw Jq12), .int (jSe Jq12), .int (jSc Jq12), .int (jFn Jq12), .int (jFp Jq12)])), ((a 1), .inr (3, [.int (nI N), .ref (a 2)])), ((a 2), .inl (gB E, 32 * N, .inl (jDk Jq12))), ((a 5), .inl (gI E, 4, .inl (jEh Jq12))), ((a 6), .inl (gI E, 4, .inl (jEk Jq12))), ((a 7), .inl (gI E, 4, .inl (jEv Jq12))), ((a2 0), .inr (0, [.ref (a2 1), .ref (a2 2), .ref (a2 3), .int (dOp D)])), ((a2 1), .inl (gI E, 32, .inl (dCo D))), ((a2 2), .inl (gI E, 32, .inl (dCh D))), ((a2 3), .inl (gI E, 32, .inl (dHo D)))]) (V' := ((wJ E a N (jsMm Jq12 fq16)) ++ (wD E a2 D))) rfl rfl (by decide) (by decide) (by decide) rfl (by decide) (st := []) (Nat.le_of_ble_eq_true rfl) dX2_writePages_65 ?_ rfl
        refine z_aload_n C 1 rfl rfl dX2_writePages_68 ?_
        refine z_get C (Cn := RX2) (T := TX2) (Nf := 12) (ci := 2) in2 0 1 l30 (v := .ref (a 3)) rfl rfl (by decide) rfl dX2_writePages_69 ?_
        refine z_aload_n C 1 rfl rfl dX2_writePages_72 ?_
        refine z_get C (Cn := RX2) (T := TX2) (Nf := 12) (ci := 2) in2 0 9 l54 (v := .int (jSc Jq12)) rfl rfl (by decide) rfl dX2_writePages_73 ?_
        have ct17 := c_X3_seal E N hN (a 3) (a 4) fq16 (jSc Jq12)
        obtain ⟨fq18, hq76_18⟩ : ∃ z : Nat → Int32, (sealS N fq16 (jSc Jq12)) = z := ⟨_, rfl⟩
        rw [hq76_18] at ct17
        refine z_callVV C ct17 gX2_writePages_X3_seal (ci := 3) (q0 := 0) rfl rfl hyX3_seal rfl ⟨rfl, rfl⟩ ⟨by decide, by decide⟩ ⟨by decide, by decide⟩ [3, 4] [0, 1, 2, 5, 6, 7, 8, 9, 10, 11] [0, 1, 2, 10, 11, 3, 4, 5, 6, 7, 8, 9] (wr := [((a 0), .inr (2, [.ref (a 1), .ref (a 3), .ref (a 5), .ref (a 6), .ref (a 7), .int (jEn Jq12), .int (jWa Jq12), .int (jFw Jq12), .int (jSe Jq12), .int (jSc Jq12), .int (jFn Jq12), .int (jFp Jq12)])), ((a 1), .inr (3, [.int (nI N), .ref (a 2)])), ((a 2), .inl (gB E, 32 * N, .inl (jDk Jq12))), ((a 5), .inl (gI E, 4, .inl (jEh Jq12))), ((a 6), .inl (gI E, 4, .inl (jEk Jq12))), ((a 7), .inl (gI E, 4, .inl (jEv Jq12))), ((a2 0), .inr (0, [.ref (a2 1), .ref (a2 2), .ref (a2 3), .int (dOp D)])), ((a2 1), .inl (gI E, 32, .inl (dCo D))), ((a2 2), .inl (gI E, 32, .inl (dCh D))), ((a2 3), .inl (gI E, 32, .inl (dHo D)))]) (V' := ((wJ E a N (jsMm Jq12 fq18)) ++ (wD E a2 D))) rfl rfl (by decide) (by decide) (by decide) rfl (by decide) (st := []) (Nat.le_of_ble_eq_true rfl) dX2_writePages_76 ?_ rfl
        refine z_iinc C 4 rfl (v := (nI (j + 1))) (zinc _) (lv' := [(4, .int (nI (j + 1))), (3, .int (nI (jWPk N (jsFp Jq2 (jSc Jq2)) D k))), (0, .ref (a 0)), (1, .ref (a2 0)), (2, .int (nI P))]) rfl (by decide) dX2_writePages_79 ?_
        refine z_goto C (tgt := 9) dX2_writePages_82 (by decide) ?_
        refine z_lv (lv' := [(0, .ref (a 0)), (1, .ref (a2 0)), (2, .int (nI P)), (3, .int (nI (jWPk N (jsFp Jq2 (jSc Jq2)) D k))), (4, .int (nI (j + 1)))]) [2, 3, 4, 1, 0] rfl ?_
        exact ih9 (j + 1) _ _ (by omega) (jWPk_le N _ D k hkk) (by rw [← hT, show wpg N D P (n + 1) j k J1 = wpg N D P n (j + 1) (jWPk N (wp1 N j J1) D k) (wp2 N D P j k J1) from rfl]; unfold wp2; rw [show wp1 N j J1 = jsFp Jq2 (jSc Jq2) from by unfold wp1; rw [if_pos h21_3, hq16_2]]; rw [hq35_12, hq51_14, hq65_16, hq76_18])
  refine z_lv (lv' := [(0, .ref (a 0)), (1, .ref (a2 0)), (2, .int (nI P)), (3, .int (nI k0)), (4, .int 0)]) [2, 3, 4, 1, 0] rfl ?_
  exact loop9 P 0 k0 J (by omega) hk0l rfl

abbrev rmX5_begin0 : Room := { frames := 2, cells := 0, slots := 0, locals := 47 }
theorem hyX5_begin0 : yX5_begin0.cls = RX5 ∧ yX5_begin0.cls ≠ "java/lang/invoke/MethodHandle" ∧ yX5_begin0.cls ≠ "java/lang/invoke/VarHandle" ∧ (parseMethodDescriptor yX5_begin0.desc).map (fun d => d.parameters.length) = some 0 := by decide +kernel
set_option maxHeartbeats 4000000 in
set_option maxRecDepth 3000 in
theorem c_X5_begin0 (E : GE) (N : Nat) (hN : 16 ≤ N ∧ N ≤ 64) (a : Nat → Nat) (M : MS) : zV E yX5_begin0 wsX5_begin0 rmX5_begin0 [.ref (a 0)] (wM E a N M) (wM E a N (mBeg0 N M)) := by
  refine zV_of (cc := cX5_begin0) (maxL := 2) (by decide) rfl (Nat.le_of_ble_eq_true rfl) ?_
  intro K C ret
  replace C : zC E K cX5_begin0 wsX5_begin0 RX5 rmX5_begin0 2 := C
  have in5 : ∀ w ∈ wsX50, w ∈ wsX5_begin0 := fun w h => List.mem_cons_of_mem _ (List.mem_append_right _ (h))
  have l7 : zw K (.fieldLink RX5 7 "StoreLog3Model" "disk" "[B") := C.w (List.mem_cons_of_mem _ (List.mem_append_left _ (List.mem_append_left _ (List.mem_of_getElem? (i := 2) rfl))))
  have l42 : zw K (.fieldLink RX5 42 "StoreLog3Model" "row" "[B") := C.w (List.mem_cons_of_mem _ (List.mem_append_left _ (List.mem_append_left _ (List.mem_of_getElem? (i := 7) rfl))))
  have l45 : zw K (.fieldLink RX5 45 "StoreLog3Model" "sectors" "I") := C.w (List.mem_cons_of_mem _ (List.mem_append_left _ (List.mem_append_left _ (List.mem_of_getElem? (i := 1) rfl))))
  have l64 : zw K (.fieldLink RX5 64 "StoreLog3Model" "isDown" "Z") := C.w (List.mem_cons_of_mem _ (List.mem_append_left _ (List.mem_append_left _ (List.mem_of_getElem? (i := 0) rfl))))
  have l68 : zw K (.fieldLink RX5 68 "StoreLog3Model" "lastSector" "I") := C.w (List.mem_cons_of_mem _ (List.mem_append_left _ (List.mem_append_left _ (List.mem_of_getElem? (i := 3) rfl))))
  have l71 : zw K (.fieldLink RX5 71 "StoreLog3Model" "lastSerial" "I") := C.w (List.mem_cons_of_mem _ (List.mem_append_left _ (List.mem_append_left _ (List.mem_of_getElem? (i := 4) rfl))))
  have l74 : zw K (.fieldLink RX5 74 "StoreLog3Model" "newFirst" "I") := C.w (List.mem_cons_of_mem _ (List.mem_append_left _ (List.mem_append_left _ (List.mem_of_getElem? (i := 5) rfl))))
  have l77 : zw K (.fieldLink RX5 77 "StoreLog3Model" "wholeFirst" "I") := C.w (List.mem_cons_of_mem _ (List.mem_append_left _ (List.mem_append_left _ (List.mem_of_getElem? (i := 6) rfl))))
  show Z E K 0 0 (wM E a N M) 0 [(0, .ref (a 0))] []
  refine z_aload_n C 0 rfl rfl dX5_begin0_0 ?_
  obtain ⟨fq2, hq1_2⟩ : ∃ z : Nat → Int32, (fgO (mOp M) 3) = z := ⟨_, rfl⟩
  obtain ⟨fq3, hq1_3⟩ : ∃ z : Nat → Int32, (fgV (mVa M) 32) = z := ⟨_, rfl⟩
  obtain ⟨fq4, hq1_4⟩ : ∃ z : Nat → Int32, (fgV (mHo M) 32) = z := ⟨_, rfl⟩
  have ct1 : zV E yX5_forget wsX5_forget rmX5_forget [.ref (a 0)] (wM E a N M) (wM E a N (msHo (msVa (msOp (msCm (msEn (msWa M 0) 0) 0) fq2) fq3) fq4)) := by subst hq1_4; subst hq1_3; subst hq1_2; exact c_X5_forget E N hN a M
  refine z_callVV C ct1 gX5_begin0_X5_forget (ci := 5) (q0 := 0) rfl rfl hyX5_forget rfl ⟨rfl, rfl⟩ ⟨by decide, by decide⟩ ⟨by decide, by decide⟩ [0, 1, 2, 3, 4, 5, 6, 7, 8, 9, 10, 11] [] [0, 1, 2, 3, 4, 5, 6, 7, 8, 9, 10, 11] (wr := []) (V' := (wM E a N (msHo (msVa (msOp (msCm (msEn (msWa M 0) 0) 0) fq2) fq3) fq4))) rfl rfl (by decide) (by decide) (by decide) rfl (by decide) (st := []) (Nat.le_of_ble_eq_true rfl) dX5_begin0_1 ?_ rfl
  refine z_aload_n C 0 rfl rfl dX5_begin0_4 ?_
  refine z_iconst C (v := 0) (by decide) dX5_begin0_5 ?_
  refine z_put C (Cn := RX5) (T := TX5) (Nf := 20) (ci := 5) in5 0 2 l64 rfl rfl (by decide) tyX5 tyX5_ok nmX5 rfl rfl rfl (Nat.le_of_ble_eq_true rfl) (V' := (wM E a N (msDn (msHo (msVa (msOp (msCm (msEn (msWa M 0) 0) 0) fq2) fq3) fq4) 0))) rfl dX5_begin0_6 ?_
  refine z_iconst C (v := 0) (by decide) dX5_begin0_9 ?_
  refine z_istore_n C (lv' := [(1, .int 0), (0, .ref (a 0))]) rfl rfl (by decide) dX5_begin0_10 ?_
  subst hq1_4
  subst hq1_3
  subst hq1_2
  have loop11 : ∀ (n j : Nat), j + n = 32 * N → Z E K 0 0 (wM E a N (msDk (msDn (msHo (msVa (msOp (msCm (msEn (msWa M 0) 0) 0) (fgO (mOp M) 3)) (fgV (mVa M) 32)) (fgV (mHo M) 32)) 0) (clA (mDk M) j))) 11 [(0, .ref (a 0)), (1, .int (nI j))] [] := by
    intro n
    induction n with
    | zero => 
      intro j hj
      have hjB : j = 32 * N := by omega
      subst hjB
      obtain ⟨fz5, hz5⟩ : ∃ z : Nat → Int32, (fgO (mOp M) 3) = z := ⟨_, rfl⟩
      rw [hz5]
      obtain ⟨fz6, hz6⟩ : ∃ z : Nat → Int32, (fgV (mVa M) 32) = z := ⟨_, rfl⟩
      rw [hz6]
      obtain ⟨fz7, hz7⟩ : ∃ z : Nat → Int32, (fgV (mHo M) 32) = z := ⟨_, rfl⟩
      rw [hz7]
      obtain ⟨fz8, hz8⟩ : ∃ z : Nat → Int32, (clA (mDk M) (32 * N)) = z := ⟨_, rfl⟩
      rw [hz8]
      refine z_iload_n C 1 rfl rfl dX5_begin0_11 ?_
      refine z_bipush C (v := 32) (by decide) dX5_begin0_12 ?_
      refine z_aload_n C 0 rfl rfl dX5_begin0_14 ?_
      refine z_get C (Cn := RX5) (T := TX5) (Nf := 20) (ci := 5) in5 0 0 l45 (v := .int (nI N)) rfl rfl (by decide) rfl dX5_begin0_15 ?_
      refine z_imul C dX5_begin0_18 ?_
      refine z_top (y := (nI (32 * N))) (zmul 32 N) ?_
      refine z_icmp_ge C (tgt := 35) dX5_begin0_19 (by decide) (fun h19_1 => ?_) (fun h19_1 => absurd (nI_le (a := 32 * N) (b := 32 * N) (Nat.le_refl _) (by omega)) h19_1)
      refine z_aload_n C 0 rfl rfl dX5_begin0_35 ?_
      refine z_iconst C (v := 0) (by decide) dX5_begin0_36 ?_
      refine z_put C (Cn := RX5) (T := TX5) (Nf := 20) (ci := 5) in5 0 6 l68 rfl rfl (by decide) tyX5 tyX5_ok nmX5 rfl rfl rfl (Nat.le_of_ble_eq_true rfl) (V' := (wM E a N (msSc (msDk (msHo (msVa (msOp (msDn (msCm (msEn (msWa M 0) 0) 0) 0) fz5) fz6) fz7) fz8) 0))) rfl dX5_begin0_37 ?_
      refine z_aload_n C 0 rfl rfl dX5_begin0_40 ?_
      refine z_iconst C (v := 1) (by decide) dX5_begin0_41 ?_
      refine z_put C (Cn := RX5) (T := TX5) (Nf := 20) (ci := 5) in5 0 7 l71 rfl rfl (by decide) tyX5 tyX5_ok nmX5 rfl rfl rfl (Nat.le_of_ble_eq_true rfl) (V' := (wM E a N (msSe (msSc (msDk (msHo (msVa (msOp (msDn (msCm (msEn (msWa M 0) 0) 0) 0) fz5) fz6) fz7) fz8) 0) 1))) rfl dX5_begin0_42 ?_
      refine z_aload_n C 0 rfl rfl dX5_begin0_45 ?_
      refine z_iconst C (v := 1) (by decide) dX5_begin0_46 ?_
      refine z_put C (Cn := RX5) (T := TX5) (Nf := 20) (ci := 5) in5 0 8 l74 rfl rfl (by decide) tyX5 tyX5_ok nmX5 rfl rfl rfl (Nat.le_of_ble_eq_true rfl) (V' := (wM E a N (msNf (msSe (msSc (msDk (msHo (msVa (msOp (msDn (msCm (msEn (msWa M 0) 0) 0) 0) fz5) fz6) fz7) fz8) 0) 1) 1))) rfl dX5_begin0_47 ?_
      refine z_aload_n C 0 rfl rfl dX5_begin0_50 ?_
      refine z_iconst C (v := 1) (by decide) dX5_begin0_51 ?_
      refine z_put C (Cn := RX5) (T := TX5) (Nf := 20) (ci := 5) in5 0 9 l77 rfl rfl (by decide) tyX5 tyX5_ok nmX5 rfl rfl rfl (Nat.le_of_ble_eq_true rfl) (V' := (wM E a N (msWf (msNf (msSe (msSc (msDk (msHo (msVa (msOp (msDn (msCm (msEn (msWa M 0) 0) 0) 0) fz5) fz6) fz7) fz8) 0) 1) 1) 1))) rfl dX5_begin0_52 ?_
      refine z_aload_n C 0 rfl rfl dX5_begin0_55 ?_
      refine z_iconst C (v := 2) (by decide) dX5_begin0_56 ?_
      refine z_iconst C (v := 1) (by decide) dX5_begin0_57 ?_
      obtain ⟨fq10, hq58_10⟩ : ∃ z : Nat → Int32, (clRow (mRw (msWf (msNf (msSe (msSc (msDk (msHo (msVa (msOp (msDn (msCm (msEn (msWa M 0) 0) 0) 0) fz5) fz6) fz7) fz8) 0) 1) 1) 1)) 2 1) = z := ⟨_, rfl⟩
      have ct9 : zV E yX5_clearRow wsX5_clearRow rmX5_clearRow [.ref (a 0), .int 2, .int 1] (wM E a N (msWf (msNf (msSe (msSc (msDk (msHo (msVa (msOp (msDn (msCm (msEn (msWa M 0) 0) 0) 0) fz5) fz6) fz7) fz8) 0) 1) 1) 1)) (wM E a N (msRw (msWf (msNf (msSe (msSc (msDk (msHo (msVa (msOp (msDn (msCm (msEn (msWa M 0) 0) 0) 0) fz5) fz6) fz7) fz8) 0) 1) 1) 1) fq10)) := by subst hq58_10; exact c_X5_clearRow E N hN a (msWf (msNf (msSe (msSc (msDk (msHo (msVa (msOp (msDn (msCm (msEn (msWa M 0) 0) 0) 0) fz5) fz6) fz7) fz8) 0) 1) 1) 1) 2 1
      refine z_callVV C ct9 gX5_begin0_X5_clearRow (ci := 5) (q0 := 0) rfl rfl hyX5_clearRow rfl ⟨rfl, rfl⟩ ⟨by decide, by decide⟩ ⟨by decide, by decide⟩ [0, 1, 2, 3, 4, 5, 6, 7, 8, 9, 10, 11] [] [0, 1, 2, 3, 4, 5, 6, 7, 8, 9, 10, 11] (wr := []) (V' := (wM E a N (msRw (msWf (msNf (msSe (msSc (msDk (msHo (msVa (msOp (msDn (msCm (msEn (msWa M 0) 0) 0) 0) fz5) fz6) fz7) fz8) 0) 1) 1) 1) fq10))) rfl rfl (by decide) (by decide) (by decide) rfl (by decide) (st := []) (Nat.le_of_ble_eq_true rfl) dX5_begin0_58 ?_ rfl
      refine z_aload_n C 0 rfl rfl dX5_begin0_61 ?_
      refine z_get C (Cn := RX5) (T := TX5) (Nf := 20) (ci := 5) in5 0 19 l42 (v := .ref (a 11)) rfl rfl (by decide) rfl dX5_begin0_62 ?_
      refine z_bipush C (v := 27) (by decide) dX5_begin0_65 ?_
      refine z_iconst C (v := 1) (by decide) dX5_begin0_67 ?_
      obtain ⟨fz11, hz11⟩ : ∃ z : Nat → Int32, (upd fq10 27 1) = z := ⟨_, rfl⟩
      refine z_bast C 11 rfl (vp_in_nI (n := 27) (by omega) (by omega)) (g := fz11) (Eq.trans (congrArg (upd fq10 27) b8_1) hz11) (V' := (wM E a N (msRw (msWf (msNf (msSe (msSc (msDk (msHo (msVa (msOp (msDn (msCm (msEn (msWa M 0) 0) 0) 0) fz5) fz6) fz7) fz8) 0) 1) 1) 1) fz11))) rfl dX5_begin0_68 ?_
      refine z_aload_n C 0 rfl rfl dX5_begin0_69 ?_
      refine z_iconst C (v := 0) (by decide) dX5_begin0_70 ?_
      obtain ⟨fq13, hq71_13⟩ : ∃ z : Nat → Int32, (slRow (mRw (msRw (msWf (msNf (msSe (msSc (msDk (msHo (msVa (msOp (msDn (msCm (msEn (msWa M 0) 0) 0) 0) fz5) fz6) fz7) fz8) 0) 1) 1) 1) fz11)) 0) = z := ⟨_, rfl⟩
      have ct12 : zV E yX5_seal wsX5_seal rmX5_seal [.ref (a 0), .int 0] (wM E a N (msRw (msWf (msNf (msSe (msSc (msDk (msHo (msVa (msOp (msDn (msCm (msEn (msWa M 0) 0) 0) 0) fz5) fz6) fz7) fz8) 0) 1) 1) 1) fz11)) (wM E a N (msRw (msWf (msNf (msSe (msSc (msDk (msHo (msVa (msOp (msDn (msCm (msEn (msWa M 0) 0) 0) 0) fz5) fz6) fz7) fz8) 0) 1) 1) 1) fq13)) := by subst hq71_13; exact c_X5_seal E N hN a (msRw (msWf (msNf (msSe (msSc (msDk (msHo (msVa (msOp (msDn (msCm (msEn (msWa M 0) 0) 0) 0) fz5) fz6) fz7) fz8) 0) 1) 1) 1) fz11) 0
      refine z_callVV C ct12 gX5_begin0_X5_seal (ci := 5) (q0 := 0) rfl rfl hyX5_seal rfl ⟨rfl, rfl⟩ ⟨by decide, by decide⟩ ⟨by decide, by decide⟩ [0, 1, 2, 3, 4, 5, 6, 7, 8, 9, 10, 11] [] [0, 1, 2, 3, 4, 5, 6, 7, 8, 9, 10, 11] (wr := []) (V' := (wM E a N (msRw (msWf (msNf (msSe (msSc (msDk (msHo (msVa (msOp (msDn (msCm (msEn (msWa M 0) 0) 0) 0) fz5) fz6) fz7) fz8) 0) 1) 1) 1) fq13))) rfl rfl (by decide) (by decide) (by decide) rfl (by decide) (st := []) (Nat.le_of_ble_eq_true rfl) dX5_begin0_71 ?_ rfl
      refine z_iconst C (v := 0) (by decide) dX5_begin0_74 ?_
      refine z_istore_n C (lv' := [(1, .int 0), (0, .ref (a 0))]) rfl rfl (by decide) dX5_begin0_75 ?_
      subst hq71_13
      subst hz11
      subst hq58_10
      subst hz8
      subst hz7
      subst hz6
      subst hz5
      have loop76 : ∀ (n j : Nat), j + n = 32 → Z E K 0 0 (wM E a N (msDk (msRw (msWf (msNf (msSe (msSc (msHo (msVa (msOp (msDn (msCm (msEn (msWa M 0) 0) 0) 0) (fgO (mOp M) 3)) (fgV (mVa M) 32)) (fgV (mHo M) 32)) 0) 1) 1) 1) (slRow (mRw (msRw (msWf (msNf (msSe (msSc (msDk (msHo (msVa (msOp (msDn (msCm (msEn (msWa M 0) 0) 0) 0) (fgO (mOp M) 3)) (fgV (mVa M) 32)) (fgV (mHo M) 32)) (clA (mDk M) (32 * N))) 0) 1) 1) 1) (upd (clRow (mRw (msWf (msNf (msSe (msSc (msDk (msHo (msVa (msOp (msDn (msCm (msEn (msWa M 0) 0) 0) 0) (fgO (mOp M) 3)) (fgV (mVa M) 32)) (fgV (mHo M) 32)) (clA (mDk M) (32 * N))) 0) 1) 1) 1)) 2 1) 27 1))) 0)) (cpR (mR0 M) (clA (mDk M) (32 * N)) j))) 76 [(0, .ref (a 0)), (1, .int (nI j))] [] := by
        intro n
        induction n with
        | zero => 
          intro j hj
          obtain rfl : j = 32 := by omega
          obtain ⟨fz14, hz14⟩ : ∃ z : Nat → Int32, (fgO (mOp M) 3) = z := ⟨_, rfl⟩
          rw [hz14]
          obtain ⟨fz15, hz15⟩ : ∃ z : Nat → Int32, (fgV (mVa M) 32) = z := ⟨_, rfl⟩
          rw [hz15]
          obtain ⟨fz16, hz16⟩ : ∃ z : Nat → Int32, (fgV (mHo M) 32) = z := ⟨_, rfl⟩
          rw [hz16]
          obtain ⟨fz17, hz17⟩ : ∃ z : Nat → Int32, (slRow (mRw (msRw (msWf (msNf (msSe (msSc (msDk (msHo (msVa (msOp (msDn (msCm (msEn (msWa M 0) 0) 0) 0) fz14) fz15) fz16) (clA (mDk M) (32 * N))) 0) 1) 1) 1) (upd (clRow (mRw (msWf (msNf (msSe (msSc (msDk (msHo (msVa (msOp (msDn (msCm (msEn (msWa M 0) 0) 0) 0) fz14) fz15) fz16) (clA (mDk M) (32 * N))) 0) 1) 1) 1)) 2 1) 27 1))) 0) = z := ⟨_, rfl⟩
          rw [hz17]
          obtain ⟨fz18, hz18⟩ : ∃ z : Nat → Int32, (cpR (mR0 M) (clA (mDk M) (32 * N)) 32) = z := ⟨_, rfl⟩
          rw [hz18]
          refine z_iload_n C 1 rfl rfl dX5_begin0_76 ?_
          refine z_bipush C (v := 32) (by decide) dX5_begin0_77 ?_
          refine z_icmp_ge C (tgt := 100) dX5_begin0_79 (by decide) (fun h79_2 => ?_) (fun h79_2 => absurd (nI_le (a := 32) (b := 32) (Nat.le_refl _) (by omega)) h79_2)
          subst hz18
          subst hz17
          subst hz16
          subst hz15
          subst hz14
          exact ret _ _ _ (by first | rfl | (simp only [if_pos h19_1, if_pos h79_2, ↓reduceIte]; done) | (simp only [if_pos h19_1, if_pos h79_2, ↓reduceIte]; rfl) | (simp [if_pos h19_1, if_pos h79_2, ↓reduceIte]; done)) dX5_begin0_100
        | succ n ih76 => 
          intro j hj
          refine z_iload_n C 1 rfl rfl dX5_begin0_76 ?_
          refine z_bipush C (v := 32) (by decide) dX5_begin0_77 ?_
          refine z_icmp_ge C (tgt := 100) dX5_begin0_79 (by decide) (fun h79_3 => absurd h79_3 (nI_ge (a := j) (b := 32) (by omega) (by omega))) (fun h79_3 => ?_)
          refine z_aload_n C 0 rfl rfl dX5_begin0_82 ?_
          refine z_get C (Cn := RX5) (T := TX5) (Nf := 20) (ci := 5) in5 0 1 l7 (v := .ref (a 1)) rfl rfl (by decide) rfl dX5_begin0_83 ?_
          refine z_iload_n C 1 rfl rfl dX5_begin0_86 ?_
          refine z_aload_n C 0 rfl rfl dX5_begin0_87 ?_
          refine z_get C (Cn := RX5) (T := TX5) (Nf := 20) (ci := 5) in5 0 19 l42 (v := .ref (a 11)) rfl rfl (by decide) rfl dX5_begin0_88 ?_
          refine z_iload_n C 1 rfl rfl dX5_begin0_91 ?_
          refine z_bald C 11 rfl (vp_in_nI (by omega) (by omega)) (v := ((slRow (mRw (msRw (msWf (msNf (msSe (msSc (msDk (msHo (msVa (msOp (msDn (msCm (msEn (msWa M 0) 0) 0) 0) (fgO (mOp M) 3)) (fgV (mVa M) 32)) (fgV (mHo M) 32)) (clA (mDk M) (32 * N))) 0) 1) 1) 1) (upd (clRow (mRw (msWf (msNf (msSe (msSc (msDk (msHo (msVa (msOp (msDn (msCm (msEn (msWa M 0) 0) 0) 0) (fgO (mOp M) 3)) (fgV (mVa M) 32)) (fgV (mHo M) 32)) (clA (mDk M) (32 * N))) 0) 1) 1) 1)) 2 1) 27 1))) 0) j)) (congrArg (slRow (mRw (msRw (msWf (msNf (msSe (msSc (msDk (msHo (msVa (msOp (msDn (msCm (msEn (msWa M 0) 0) 0) 0) (fgO (mOp M) 3)) (fgV (mVa M) 32)) (fgV (mHo M) 32)) (clA (mDk M) (32 * N))) 0) 1) 1) 1) (upd (clRow (mRw (msWf (msNf (msSe (msSc (msDk (msHo (msVa (msOp (msDn (msCm (msEn (msWa M 0) 0) 0) 0) (fgO (mOp M) 3)) (fgV (mVa M) 32)) (fgV (mHo M) 32)) (clA (mDk M) (32 * N))) 0) 1) 1) 1)) 2 1) 27 1))) 0) (nI_clamp (by omega))) dX5_begin0_92 ?_
          obtain ⟨fz19, hz19⟩ : ∃ z : Nat → Int32, (upd (cpR (mR0 M) (clA (mDk M) (32 * N)) j) j (b8 ((slRow (mRw (msRw (msWf (msNf (msSe (msSc (msDk (msHo (msVa (msOp (msDn (msCm (msEn (msWa M 0) 0) 0) 0) (fgO (mOp M) 3)) (fgV (mVa M) 32)) (fgV (mHo M) 32)) (clA (mDk M) (32 * N))) 0) 1) 1) 1) (upd (clRow (mRw (msWf (msNf (msSe (msSc (msDk (msHo (msVa (msOp (msDn (msCm (msEn (msWa M 0) 0) 0) 0) (fgO (mOp M) 3)) (fgV (mVa M) 32)) (fgV (mHo M) 32)) (clA (mDk M) (32 * N))) 0) 1) 1) 1)) 2 1) 27 1))) 0) j))) = z := ⟨_, rfl⟩
          refine z_bast C 1 rfl (vp_in_nI (by omega) (by omega)) (g := fz19) (Eq.trans (by rw [b8_st, nI_clamp (by omega)]) hz19) (V' := (wM E a N (msDk (msRw (msWf (msNf (msSe (msSc (msHo (msVa (msOp (msDn (msCm (msEn (msWa M 0) 0) 0) 0) (fgO (mOp M) 3)) (fgV (mVa M) 32)) (fgV (mHo M) 32)) 0) 1) 1) 1) (slRow (mRw (msRw (msWf (msNf (msSe (msSc (msDk (msHo (msVa (msOp (msDn (msCm (msEn (msWa M 0) 0) 0) 0) (fgO (mOp M) 3)) (fgV (mVa M) 32)) (fgV (mHo M) 32)) (clA (mDk M) (32 * N))) 0) 1) 1) 1) (upd (clRow (mRw (msWf (msNf (msSe (msSc (msDk (msHo (msVa (msOp (msDn (msCm (msEn (msWa M 0) 0) 0) 0) (fgO (mOp M) 3)) (fgV (mVa M) 32)) (fgV (mHo M) 32)) (clA (mDk M) (32 * N))) 0) 1) 1) 1)) 2 1) 27 1))) 0)) fz19))) rfl dX5_begin0_93 ?_
          refine z_iinc C 1 rfl (v := (nI (j + 1))) (zinc _) (lv' := [(1, .int (nI (j + 1))), (0, .ref (a 0))]) rfl (by decide) dX5_begin0_94 ?_
          refine z_goto C (tgt := 76) dX5_begin0_97 (by decide) ?_
          subst hz19
          refine z_lv (lv' := [(0, .ref (a 0)), (1, .int (nI (j + 1)))]) [1, 0] rfl ?_
          exact ih76 (j + 1)  (by omega)
      refine z_lv (lv' := [(0, .ref (a 0)), (1, .int 0)]) [1, 0] rfl ?_
      exact loop76 32 0  (by omega)
    | succ n ih11 => 
      intro j hj
      refine z_iload_n C 1 rfl rfl dX5_begin0_11 ?_
      refine z_bipush C (v := 32) (by decide) dX5_begin0_12 ?_
      refine z_aload_n C 0 rfl rfl dX5_begin0_14 ?_
      refine z_get C (Cn := RX5) (T := TX5) (Nf := 20) (ci := 5) in5 0 0 l45 (v := .int (nI N)) rfl rfl (by decide) rfl dX5_begin0_15 ?_
      refine z_imul C dX5_begin0_18 ?_
      refine z_top (y := (nI (32 * N))) (zmul 32 N) ?_
      refine z_icmp_ge C (tgt := 35) dX5_begin0_19 (by decide) (fun h19_4 => absurd h19_4 (nI_ge (a := j) (b := 32 * N) (by omega) (by omega))) (fun h19_4 => ?_)
      refine z_aload_n C 0 rfl rfl dX5_begin0_22 ?_
      refine z_get C (Cn := RX5) (T := TX5) (Nf := 20) (ci := 5) in5 0 1 l7 (v := .ref (a 1)) rfl rfl (by decide) rfl dX5_begin0_23 ?_
      refine z_iload_n C 1 rfl rfl dX5_begin0_26 ?_
      refine z_iconst C (v := 0) (by decide) dX5_begin0_27 ?_
      obtain ⟨fz20, hz20⟩ : ∃ z : Nat → Int32, (upd (clA (mDk M) j) j 0) = z := ⟨_, rfl⟩
      refine z_bast C 1 rfl (vp_in_nI (by omega) (by omega)) (g := fz20) (Eq.trans (by rw [b8_0, nI_clamp (by omega)]) hz20) (V' := (wM E a N (msDk (msDn (msHo (msVa (msOp (msCm (msEn (msWa M 0) 0) 0) (fgO (mOp M) 3)) (fgV (mVa M) 32)) (fgV (mHo M) 32)) 0) fz20))) rfl dX5_begin0_28 ?_
      refine z_iinc C 1 rfl (v := (nI (j + 1))) (zinc _) (lv' := [(1, .int (nI (j + 1))), (0, .ref (a 0))]) rfl (by decide) dX5_begin0_29 ?_
      refine z_goto C (tgt := 11) dX5_begin0_32 (by decide) ?_
      subst hz20
      refine z_lv (lv' := [(0, .ref (a 0)), (1, .int (nI (j + 1)))]) [1, 0] rfl ?_
      exact ih11 (j + 1)  (by omega)
  refine z_lv (lv' := [(0, .ref (a 0)), (1, .int 0)]) [1, 0] rfl ?_
  exact loop11 (32 * N) 0  (by omega)
abbrev rmX5_format : Room := { frames := 3, cells := 0, slots := 0, locals := 68 }
theorem hyX5_format : yX5_format.cls = RX5 ∧ yX5_format.cls ≠ "java/lang/invoke/MethodHandle" ∧ yX5_format.cls ≠ "java/lang/invoke/VarHandle" ∧ (parseMethodDescriptor yX5_format.desc).map (fun d => d.parameters.length) = some 0 := by decide +kernel
set_option maxHeartbeats 4000000 in
set_option maxRecDepth 3000 in
theorem c_X5_format (E : GE) (N : Nat) (hN : 16 ≤ N ∧ N ≤ 64) (a : Nat → Nat) (M : MS) : zI E yX5_format wsX5_format rmX5_format [.ref (a 0)] (wM E a N M) ((mForm N M).1) (wM E a N ((mForm N M).2)) := by
  refine zI_of (cc := cX5_format) (maxL := 2) (ty := .int) (by decide) rfl (vp_nar_int _) (Nat.le_of_ble_eq_true rfl) ?_
  intro K C ret
  replace C : zC E K cX5_format wsX5_format RX5 rmX5_format 2 := C
  have in5 : ∀ w ∈ wsX50, w ∈ wsX5_format := fun w h => List.mem_cons_of_mem _ (List.mem_append_right _ (h))
  have l58 : zw K (.fieldLink RX5 58 "StoreLog3Model" "commits" "I") := C.w (List.mem_cons_of_mem _ (List.mem_append_left _ (List.mem_append_left _ (List.mem_of_getElem? (i := 1) rfl))))
  have l64 : zw K (.fieldLink RX5 64 "StoreLog3Model" "isDown" "Z") := C.w (List.mem_cons_of_mem _ (List.mem_append_left _ (List.mem_append_left _ (List.mem_of_getElem? (i := 0) rfl))))
  show Z E K 0 0 (wM E a N M) 0 [(0, .ref (a 0))] []
  refine z_aload_n C 0 rfl rfl dX5_format_0 ?_
  refine z_get C (Cn := RX5) (T := TX5) (Nf := 20) (ci := 5) in5 0 2 l64 (v := .int (mDn M)) rfl rfl (by decide) rfl dX5_format_1 ?_
  refine z_if_eq C (tgt := 11) dX5_format_4 (by decide) (fun h4_1t => ?_) (fun h4_1f => ?_)
  · refine z_aload_n C 0 rfl rfl dX5_format_11 ?_
    refine z_get C (Cn := RX5) (T := TX5) (Nf := 20) (ci := 5) in5 0 18 l58 (v := .int (mCm M)) rfl rfl (by decide) rfl dX5_format_12 ?_
    refine z_istore_n C (lv' := [(1, .int (mCm M)), (0, .ref (a 0))]) rfl rfl (by decide) dX5_format_15 ?_
    refine z_aload_n C 1 rfl rfl dX5_format_16 ?_
    obtain ⟨Mq2, hq17_2⟩ : ∃ z : MS, (mBeg0 N M) = z := ⟨_, rfl⟩
    have ct1 : zV E yX5_begin0 wsX5_begin0 rmX5_begin0 [.ref (a 0)] (wM E a N M) (wM E a N Mq2) := by subst hq17_2; exact c_X5_begin0 E N hN a M
    refine z_callVV C ct1 gX5_format_X5_begin0 (ci := 5) (q0 := 0) rfl rfl hyX5_begin0 rfl ⟨rfl, rfl⟩ ⟨by decide, by decide⟩ ⟨by decide, by decide⟩ [0, 1, 2, 3, 4, 5, 6, 7, 8, 9, 10, 11] [] [0, 1, 2, 3, 4, 5, 6, 7, 8, 9, 10, 11] (wr := []) (V' := (wM E a N Mq2)) rfl rfl (by decide) (by decide) (by decide) rfl (by decide) (st := []) (Nat.le_of_ble_eq_true rfl) dX5_format_17 ?_ rfl
    refine z_iload_n C 0 rfl rfl dX5_format_20 ?_
    subst hq17_2
    exact ret _ _ _ _ (by first | rfl | (simp only [mForm, if_pos h4_1t, ↓reduceIte]; done) | (simp only [mForm, if_pos h4_1t, ↓reduceIte]; rfl) | (simp [mForm, if_pos h4_1t, ↓reduceIte]; done)) (by first | rfl | (simp only [mForm, if_pos h4_1t, ↓reduceIte]; done) | (simp only [mForm, if_pos h4_1t, ↓reduceIte]; rfl) | (simp [mForm, if_pos h4_1t, ↓reduceIte]; done)) dX5_format_21
  · refine z_iconst C (v := 0) (by decide) dX5_format_7 ?_
    refine z_goto C (tgt := 15) dX5_format_8 (by decide) ?_
    refine z_istore_n C (lv' := [(1, .int 0), (0, .ref (a 0))]) rfl rfl (by decide) dX5_format_15 ?_
    refine z_aload_n C 1 rfl rfl dX5_format_16 ?_
    obtain ⟨Mq4, hq17_4⟩ : ∃ z : MS, (mBeg0 N M) = z := ⟨_, rfl⟩
    have ct3 : zV E yX5_begin0 wsX5_begin0 rmX5_begin0 [.ref (a 0)] (wM E a N M) (wM E a N Mq4) := by subst hq17_4; exact c_X5_begin0 E N hN a M
    refine z_callVV C ct3 gX5_format_X5_begin0 (ci := 5) (q0 := 0) rfl rfl hyX5_begin0 rfl ⟨rfl, rfl⟩ ⟨by decide, by decide⟩ ⟨by decide, by decide⟩ [0, 1, 2, 3, 4, 5, 6, 7, 8, 9, 10, 11] [] [0, 1, 2, 3, 4, 5, 6, 7, 8, 9, 10, 11] (wr := []) (V' := (wM E a N Mq4)) rfl rfl (by decide) (by decide) (by decide) rfl (by decide) (st := []) (Nat.le_of_ble_eq_true rfl) dX5_format_17 ?_ rfl
    refine z_iload_n C 0 rfl rfl dX5_format_20 ?_
    subst hq17_4
    exact ret _ _ _ _ (by first | rfl | (simp only [mForm, if_neg h4_1f, ↓reduceIte]; done) | (simp only [mForm, if_neg h4_1f, ↓reduceIte]; rfl) | (simp [mForm, if_neg h4_1f, ↓reduceIte]; done)) (by first | rfl | (simp only [mForm, if_neg h4_1f, ↓reduceIte]; done) | (simp only [mForm, if_neg h4_1f, ↓reduceIte]; rfl) | (simp [mForm, if_neg h4_1f, ↓reduceIte]; done)) dX5_format_21

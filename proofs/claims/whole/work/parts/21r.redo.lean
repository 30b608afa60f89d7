abbrev rmX5_redo : Room := { frames := 2, cells := 0, slots := 0, locals := 47 }
theorem hyX5_redo : yX5_redo.cls = RX5 ∧ yX5_redo.cls ≠ "java/lang/invoke/MethodHandle" ∧ yX5_redo.cls ≠ "java/lang/invoke/VarHandle" ∧ (parseMethodDescriptor yX5_redo.desc).map (fun d => d.parameters.length) = some 1 := by decide +kernel
set_option maxHeartbeats 4000000 in
set_option maxRecDepth 3000 in
theorem c_X5_redo (E : GE) (N : Nat) (hN : 16 ≤ N ∧ N ≤ 64) (a : Nat → Nat) (M : MS) (s : Nat) (hs : s < 64) (hn : (bA (mDk M) s 5).toNatClampNeg ≤ 4) (hv : ∀ j, j < (bA (mDk M) s 5).toNatClampNeg → rdH (mDk M) s j < 12 ∧ rdK (mDk M) s j < 32) : zV E yX5_redo wsX5_redo rmX5_redo [.ref (a 0), .int (nI s)] (wM E a N M) (wM E a N (msHe (msHo (msVa (msOp M ((mRedo (mDk M) s ((mOp M), (mVa M), (mHo M), (mHe M))).1)) ((mRedo (mDk M) s ((mOp M), (mVa M), (mHo M), (mHe M))).2.1)) ((mRedo (mDk M) s ((mOp M), (mVa M), (mHo M), (mHe M))).2.2.1)) ((mRedo (mDk M) s ((mOp M), (mVa M), (mHo M), (mHe M))).2.2.2))) := by
  refine zV_of (cc := cX5_redo) (maxL := 7) (by decide) rfl (Nat.le_of_ble_eq_true rfl) ?_
  intro K C ret
  replace C : zC E K cX5_redo wsX5_redo RX5 rmX5_redo 7 := C
  have in5 : ∀ w ∈ wsX50, w ∈ wsX5_redo := fun w h => List.mem_cons_of_mem _ (List.mem_append_right _ (h))
  have l32 : zw K (.fieldLink RX5 32 "StoreLog3Model" "isOpen" "[Z") := C.w (List.mem_cons_of_mem _ (List.mem_append_left _ (List.mem_of_getElem? (i := 0) rfl)))
  have l36 : zw K (.fieldLink RX5 36 "StoreLog3Model" "holders" "[I") := C.w (List.mem_cons_of_mem _ (List.mem_append_left _ (List.mem_of_getElem? (i := 1) rfl)))
  have l39 : zw K (.fieldLink RX5 39 "StoreLog3Model" "held" "[I") := C.w (List.mem_cons_of_mem _ (List.mem_append_left _ (List.mem_of_getElem? (i := 2) rfl)))
  show Z E K 0 0 (wM E a N M) 0 [(0, .ref (a 0)), (1, .int (nI s))] []
  refine z_iconst C (v := 0) (by decide) dX5_redo_0 ?_
  refine z_istore_n C (lv' := [(2, .int 0), (0, .ref (a 0)), (1, .int (nI s))]) rfl rfl (by decide) dX5_redo_1 ?_
  have loop2 : ∀ (n j : Nat) (op va ho he : Nat → Int32), j + n = (bA (mDk M) s 5).toNatClampNeg → rdLp (mDk M) s n j (op, va, ho, he) = rdLp (mDk M) s (bA (mDk M) s 5).toNatClampNeg 0 (mOp M, mVa M, mHo M, mHe M) → Z E K 0 0 (wM E a N (msHe (msHo (msVa (msOp M op) va) ho) he)) 2 [(0, .ref (a 0)), (1, .int (nI s)), (2, .int (nI j))] [] := by
    intro n
    induction n with
    | zero => 
      intro j op va ho he hj hT
      have hjB : j = (bA (mDk M) s 5).toNatClampNeg := by omega
      subst hjB
      refine z_iload_n C 2 rfl rfl dX5_redo_2 ?_
      refine z_aload_n C 0 rfl rfl dX5_redo_3 ?_
      refine z_iload_n C 1 rfl rfl dX5_redo_4 ?_
      refine z_iconst C (v := 5) (by decide) dX5_redo_5 ?_
      refine z_rVI C (c_X5_byteAt E N hN a (msHe (msHo (msVa (msOp M op) va) ho) he) s 5 (by omega)) gX5_redo_X5_byteAt (ci := 5) (q0 := 0) rfl rfl hyX5_byteAt rfl ⟨rfl, rfl⟩ ⟨by decide, by decide⟩ ⟨by decide, by decide⟩ [0, 1, 2, 3, 4, 5, 6, 7, 8, 9, 10, 11] rfl (by decide) (st := [.int (nI ((bA (mDk M) s 5).toNatClampNeg))]) (Nat.le_of_ble_eq_true rfl) dX5_redo_6 ?_ rfl
      refine z_icmp_ge C (tgt := 126) dX5_redo_9 (by decide) (fun h9_1 => ?_) (fun h9_1 => absurd zclY h9_1)
      exact ret _ _ _ (by unfold mRedo; rw [hide_eq, ← hT]; rfl) dX5_redo_126
    | succ n ih2 => 
      intro j op va ho he hj hT
      refine z_iload_n C 2 rfl rfl dX5_redo_2 ?_
      refine z_aload_n C 0 rfl rfl dX5_redo_3 ?_
      refine z_iload_n C 1 rfl rfl dX5_redo_4 ?_
      refine z_iconst C (v := 5) (by decide) dX5_redo_5 ?_
      refine z_rVI C (c_X5_byteAt E N hN a (msHe (msHo (msVa (msOp M op) va) ho) he) s 5 (by omega)) gX5_redo_X5_byteAt (ci := 5) (q0 := 0) rfl rfl hyX5_byteAt rfl ⟨rfl, rfl⟩ ⟨by decide, by decide⟩ ⟨by decide, by decide⟩ [0, 1, 2, 3, 4, 5, 6, 7, 8, 9, 10, 11] rfl (by decide) (st := [.int (nI j)]) (Nat.le_of_ble_eq_true rfl) dX5_redo_6 ?_ rfl
      refine z_icmp_ge C (tgt := 126) dX5_redo_9 (by decide) (fun h9_2 => absurd h9_2 (zclN hj)) (fun h9_2 => ?_)
      obtain ⟨hh12, hk32⟩ := hv j (by omega)
      refine z_aload_n C 0 rfl rfl dX5_redo_12 ?_
      refine z_iload_n C 1 rfl rfl dX5_redo_13 ?_
      refine z_bipush C (v := 6) (by decide) dX5_redo_14 ?_
      refine z_iconst C (v := 5) (by decide) dX5_redo_16 ?_
      refine z_iload_n C 2 rfl rfl dX5_redo_17 ?_
      refine z_imul C dX5_redo_18 ?_
      refine z_top (y := (nI (5 * j))) (zmul 5 j) ?_
      refine z_iadd C dX5_redo_19 ?_
      refine z_top (y := (nI (6 + 5 * j))) (nI_add 6 _) ?_
      refine z_rVI C (c_X5_byteAt E N hN a (msHe (msHo (msVa (msOp M op) va) ho) he) s (6 + 5 * j) (by omega)) gX5_redo_X5_byteAt (ci := 5) (q0 := 0) rfl rfl hyX5_byteAt rfl ⟨rfl, rfl⟩ ⟨by decide, by decide⟩ ⟨by decide, by decide⟩ [0, 1, 2, 3, 4, 5, 6, 7, 8, 9, 10, 11] rfl (by decide) (st := []) (Nat.le_of_ble_eq_true rfl) dX5_redo_20 ?_ rfl
      refine z_top (y := (nI (rdH (mDk M) s j))) (bA_nI _ _ _) ?_
      refine z_istore_n C (lv' := [(3, .int (nI (rdH (mDk M) s j))), (0, .ref (a 0)), (1, .int (nI s)), (2, .int (nI j))]) rfl rfl (by decide) dX5_redo_23 ?_
      refine z_aload_n C 1 rfl rfl dX5_redo_24 ?_
      refine z_iload_n C 2 rfl rfl dX5_redo_25 ?_
      refine z_bipush C (v := 7) (by decide) dX5_redo_26 ?_
      refine z_iconst C (v := 5) (by decide) dX5_redo_28 ?_
      refine z_iload_n C 3 rfl rfl dX5_redo_29 ?_
      refine z_imul C dX5_redo_30 ?_
      refine z_top (y := (nI (5 * j))) (zmul 5 j) ?_
      refine z_iadd C dX5_redo_31 ?_
      refine z_top (y := (nI (7 + 5 * j))) (nI_add 7 _) ?_
      refine z_rVI C (c_X5_byteAt E N hN a (msHe (msHo (msVa (msOp M op) va) ho) he) s (7 + 5 * j) (by omega)) gX5_redo_X5_byteAt (ci := 5) (q0 := 0) rfl rfl hyX5_byteAt rfl ⟨rfl, rfl⟩ ⟨by decide, by decide⟩ ⟨by decide, by decide⟩ [0, 1, 2, 3, 4, 5, 6, 7, 8, 9, 10, 11] rfl (by decide) (st := []) (Nat.le_of_ble_eq_true rfl) dX5_redo_32 ?_ rfl
      refine z_top (y := (nI (rdK (mDk M) s j))) (bA_nI _ _ _) ?_
      refine z_istore C (lv' := [(4, .int (nI (rdK (mDk M) s j))), (3, .int (nI (rdH (mDk M) s j))), (0, .ref (a 0)), (1, .int (nI s)), (2, .int (nI j))]) rfl (by decide) dX5_redo_35 ?_
      refine z_iload_n C 1 rfl rfl dX5_redo_37 ?_
      refine z_iconst C (v := 4) (by decide) dX5_redo_38 ?_
      refine z_idiv C (by decide) dX5_redo_39 ?_
      refine z_top (y := (nI ((rdH (mDk M) s j) / 4))) (zdivc (by omega)) ?_
      refine z_istore C (lv' := [(5, .int (nI ((rdH (mDk M) s j) / 4))), (4, .int (nI (rdK (mDk M) s j))), (3, .int (nI (rdH (mDk M) s j))), (0, .ref (a 0)), (1, .int (nI s)), (2, .int (nI j))]) rfl (by decide) dX5_redo_40 ?_
      refine z_iload_n C 2 rfl rfl dX5_redo_42 ?_
      refine z_iconst C (v := 4) (by decide) dX5_redo_43 ?_
      refine z_irem C (by decide) dX5_redo_44 ?_
      refine z_top (y := (nI ((rdH (mDk M) s j) % 4))) (zrem (v := 4) (by omega) (by omega) (by omega)) ?_
      refine z_istore C (lv' := [(6, .int (nI ((rdH (mDk M) s j) % 4))), (5, .int (nI ((rdH (mDk M) s j) / 4))), (4, .int (nI (rdK (mDk M) s j))), (3, .int (nI (rdH (mDk M) s j))), (0, .ref (a 0)), (1, .int (nI s)), (2, .int (nI j))]) rfl (by decide) dX5_redo_45 ?_
      refine z_iload C 0 rfl dX5_redo_47 ?_
      refine z_iconst C (v := 2) (by decide) dX5_redo_49 ?_
      refine z_icmp_ge C (tgt := 102) dX5_redo_50 (by decide) (fun h50_3t => ?_) (fun h50_3f => ?_)
      · refine z_aload_n C 4 rfl rfl dX5_redo_102 ?_
        refine z_iload C 1 rfl dX5_redo_103 ?_
        refine z_iload C 0 rfl dX5_redo_105 ?_
        refine z_iconst C (v := 2) (by decide) dX5_redo_107 ?_
        refine z_icmp_ne C (tgt := 115) dX5_redo_108 (by decide) (fun h108_4t => ?_) (fun h108_4f => ?_)
        · refine z_iconst C (v := 0) (by decide) dX5_redo_115 ?_
          obtain ⟨yq2, hq116_2⟩ : ∃ z : Int32 × (Nat → Int32) × (Nat → Int32), (mRl (nI ((rdH (mDk M) s j) / 4)) 0 (mHe (msHe (msHo (msVa (msOp M op) va) ho) he)) (mVa (msHe (msHo (msVa (msOp M op) va) ho) he)) (mHo (msHe (msHo (msVa (msOp M op) va) ho) he))) = z := ⟨_, rfl⟩
          obtain ⟨fq3, hq116_3⟩ : ∃ z : Nat → Int32, (upd (mOp (msHe (msHo (msVa (msOp M op) va) ho) he)) ((rdH (mDk M) s j) / 4) 0) = z := ⟨_, rfl⟩
          have ct1 : zI E yX5_release wsX5_release rmX5_release [.ref (a 0), .int (nI ((rdH (mDk M) s j) / 4)), .int 0] (wM E a N (msHe (msHo (msVa (msOp M op) va) ho) he)) (yq2.1) (wM E a N (msOp (msHo (msVa (msHe M he) yq2.2.1) yq2.2.2) fq3)) := by subst hq116_3; subst hq116_2; exact c_X5_release E N hN a (msHe (msHo (msVa (msOp M op) va) ho) he) ((rdH (mDk M) s j) / 4) 0 (by omega)
          refine z_callVI C ct1 gX5_redo_X5_release (ci := 5) (q0 := 0) rfl rfl hyX5_release rfl ⟨rfl, rfl⟩ ⟨by decide, by decide⟩ ⟨by decide, by decide⟩ [0, 1, 2, 3, 4, 5, 6, 7, 8, 9, 10, 11] [] [0, 1, 2, 3, 4, 5, 6, 7, 8, 9, 10, 11] (wr := []) (V' := (wM E a N (msOp (msHo (msVa (msHe M he) yq2.2.1) yq2.2.2) fq3))) rfl rfl (by decide) (by decide) (by decide) rfl (by decide) (st := []) (Nat.le_of_ble_eq_true rfl) dX5_redo_116 ?_ rfl
          refine z_pop C rfl dX5_redo_119 ?_
          refine z_iinc C 6 rfl (v := (nI (j + 1))) (zinc _) (lv' := [(2, .int (nI (j + 1))), (6, .int (nI ((rdH (mDk M) s j) % 4))), (5, .int (nI ((rdH (mDk M) s j) / 4))), (4, .int (nI (rdK (mDk M) s j))), (3, .int (nI (rdH (mDk M) s j))), (0, .ref (a 0)), (1, .int (nI s))]) rfl (by decide) dX5_redo_120 ?_
          refine z_goto C (tgt := 2) dX5_redo_123 (by decide) ?_
          subst hq116_3
          subst hq116_2
          refine z_lv (lv' := [(0, .ref (a 0)), (1, .int (nI s)), (2, .int (nI (j + 1)))]) [5, 6, 0] rfl ?_
          exact ih2 (j + 1) _ _ _ _ (by omega) (by rw [← hT]; first | (simp only [rdLp, rdS, if_neg h9_2, if_pos h50_3t, if_neg h108_4t, ↓reduceIte]; done) | (simp only [rdLp, rdS, if_neg h9_2, if_pos h50_3t, if_neg h108_4t, ↓reduceIte]; rfl))
        · refine z_iconst C (v := 1) (by decide) dX5_redo_111 ?_
          refine z_goto C (tgt := 116) dX5_redo_112 (by decide) ?_
          obtain ⟨yq5, hq116_5⟩ : ∃ z : Int32 × (Nat → Int32) × (Nat → Int32), (mRl (nI ((rdH (mDk M) s j) / 4)) 1 (mHe (msHe (msHo (msVa (msOp M op) va) ho) he)) (mVa (msHe (msHo (msVa (msOp M op) va) ho) he)) (mHo (msHe (msHo (msVa (msOp M op) va) ho) he))) = z := ⟨_, rfl⟩
          obtain ⟨fq6, hq116_6⟩ : ∃ z : Nat → Int32, (upd (mOp (msHe (msHo (msVa (msOp M op) va) ho) he)) ((rdH (mDk M) s j) / 4) 0) = z := ⟨_, rfl⟩
          have ct4 : zI E yX5_release wsX5_release rmX5_release [.ref (a 0), .int (nI ((rdH (mDk M) s j) / 4)), .int 1] (wM E a N (msHe (msHo (msVa (msOp M op) va) ho) he)) (yq5.1) (wM E a N (msOp (msHo (msVa (msHe M he) yq5.2.1) yq5.2.2) fq6)) := by subst hq116_6; subst hq116_5; exact c_X5_release E N hN a (msHe (msHo (msVa (msOp M op) va) ho) he) ((rdH (mDk M) s j) / 4) 1 (by omega)
          refine z_callVI C ct4 gX5_redo_X5_release (ci := 5) (q0 := 0) rfl rfl hyX5_release rfl ⟨rfl, rfl⟩ ⟨by decide, by decide⟩ ⟨by decide, by decide⟩ [0, 1, 2, 3, 4, 5, 6, 7, 8, 9, 10, 11] [] [0, 1, 2, 3, 4, 5, 6, 7, 8, 9, 10, 11] (wr := []) (V' := (wM E a N (msOp (msHo (msVa (msHe M he) yq5.2.1) yq5.2.2) fq6))) rfl rfl (by decide) (by decide) (by decide) rfl (by decide) (st := []) (Nat.le_of_ble_eq_true rfl) dX5_redo_116 ?_ rfl
          refine z_pop C rfl dX5_redo_119 ?_
          refine z_iinc C 6 rfl (v := (nI (j + 1))) (zinc _) (lv' := [(2, .int (nI (j + 1))), (6, .int (nI ((rdH (mDk M) s j) % 4))), (5, .int (nI ((rdH (mDk M) s j) / 4))), (4, .int (nI (rdK (mDk M) s j))), (3, .int (nI (rdH (mDk M) s j))), (0, .ref (a 0)), (1, .int (nI s))]) rfl (by decide) dX5_redo_120 ?_
          refine z_goto C (tgt := 2) dX5_redo_123 (by decide) ?_
          subst hq116_6
          subst hq116_5
          refine z_lv (lv' := [(0, .ref (a 0)), (1, .int (nI s)), (2, .int (nI (j + 1)))]) [5, 6, 0] rfl ?_
          exact ih2 (j + 1) _ _ _ _ (by omega) (by rw [← hT]; first | (simp only [rdLp, rdS, if_neg h9_2, if_pos h50_3t, if_pos h108_4f, ↓reduceIte]; done) | (simp only [rdLp, rdS, if_neg h9_2, if_pos h50_3t, if_pos h108_4f, ↓reduceIte]; rfl))
      · refine z_aload_n C 4 rfl rfl dX5_redo_53 ?_
        refine z_get C (Cn := RX5) (T := TX5) (Nf := 20) (ci := 5) in5 0 15 l32 (v := .ref (a 8)) rfl rfl (by decide) rfl dX5_redo_54 ?_
        refine z_iload C 1 rfl dX5_redo_57 ?_
        refine z_iconst C (v := 1) (by decide) dX5_redo_59 ?_
        obtain ⟨fz7, hz7⟩ : ∃ z : Nat → Int32, (upd op ((rdH (mDk M) s j) / 4) 1) = z := ⟨_, rfl⟩
        refine z_zast C 8 rfl (vp_in_nI (by omega) (by omega)) (g := fz7) (Eq.trans (by rw [vz_1, nI_clamp (by omega)]) hz7) (V' := (wM E a N (msOp (msHe (msHo (msVa M va) ho) he) fz7))) rfl dX5_redo_60 ?_
        refine z_aload_n C 4 rfl rfl dX5_redo_61 ?_
        refine z_get C (Cn := RX5) (T := TX5) (Nf := 20) (ci := 5) in5 0 16 l36 (v := .ref (a 9)) rfl rfl (by decide) rfl dX5_redo_62 ?_
        refine z_iload C 2 rfl dX5_redo_65 ?_
        refine z_iload C 1 rfl dX5_redo_67 ?_
        obtain ⟨fz8, hz8⟩ : ∃ z : Nat → Int32, (upd ho (rdK (mDk M) s j) (nI ((rdH (mDk M) s j) / 4))) = z := ⟨_, rfl⟩
        refine z_iast C 9 rfl (vp_in_nI (by omega) (by omega)) (g := fz8) (Eq.trans (by rw [nI_clamp (by omega)]) hz8) (V' := (wM E a N (msHo (msOp (msHe (msVa M va) he) fz7) fz8))) rfl dX5_redo_69 ?_
        refine z_aload_n C 4 rfl rfl dX5_redo_70 ?_
        refine z_get C (Cn := RX5) (T := TX5) (Nf := 20) (ci := 5) in5 0 17 l39 (v := .ref (a 10)) rfl rfl (by decide) rfl dX5_redo_71 ?_
        refine z_iload C 2 rfl dX5_redo_74 ?_
        refine z_iload C 0 rfl dX5_redo_76 ?_
        refine z_iconst C (v := 1) (by decide) dX5_redo_78 ?_
        refine z_icmp_ne C (tgt := 86) dX5_redo_79 (by decide) (fun h79_5t => ?_) (fun h79_5f => ?_)
        · refine z_aload_n C 4 rfl rfl dX5_redo_86 ?_
          refine z_iload_n C 5 rfl rfl dX5_redo_87 ?_
          refine z_bipush C (v := 8) (by decide) dX5_redo_88 ?_
          refine z_iconst C (v := 5) (by decide) dX5_redo_90 ?_
          refine z_iload_n C 6 rfl rfl dX5_redo_91 ?_
          refine z_imul C dX5_redo_92 ?_
          refine z_top (y := (nI (5 * j))) (zmul 5 j) ?_
          refine z_iadd C dX5_redo_93 ?_
          refine z_top (y := (nI (8 + 5 * j))) (nI_add 8 _) ?_
          refine z_iconst C (v := 3) (by decide) dX5_redo_94 ?_
          refine z_rVI C (c_X5_numberAt E N hN a (msHo (msOp (msHe (msVa M va) he) fz7) fz8) s (8 + 5 * j) 3 (by omega)) gX5_redo_X5_numberAt (ci := 5) (q0 := 0) rfl rfl hyX5_numberAt rfl ⟨rfl, rfl⟩ ⟨by decide, by decide⟩ ⟨by decide, by decide⟩ [0, 1, 2, 3, 4, 5, 6, 7, 8, 9, 10, 11] rfl (by decide) (st := [.int (nI (rdK (mDk M) s j)), .ref (a 10)]) (Nat.le_of_ble_eq_true rfl) dX5_redo_95 ?_ rfl
          obtain ⟨fz9, hz9⟩ : ∃ z : Nat → Int32, (upd he (rdK (mDk M) s j) (nA (mDk (msHo (msOp (msHe (msVa M va) he) fz7) fz8)) s (8 + 5 * j) 3)) = z := ⟨_, rfl⟩
          refine z_iast C 10 rfl (vp_in_nI (by omega) (by omega)) (g := fz9) (Eq.trans (by rw [nI_clamp (by omega)]) hz9) (V' := (wM E a N (msHe (msHo (msOp (msVa M va) fz7) fz8) fz9))) rfl dX5_redo_98 ?_
          refine z_goto C (tgt := 120) dX5_redo_99 (by decide) ?_
          refine z_iinc C 6 rfl (v := (nI (j + 1))) (zinc _) (lv' := [(2, .int (nI (j + 1))), (6, .int (nI ((rdH (mDk M) s j) % 4))), (5, .int (nI ((rdH (mDk M) s j) / 4))), (4, .int (nI (rdK (mDk M) s j))), (3, .int (nI (rdH (mDk M) s j))), (0, .ref (a 0)), (1, .int (nI s))]) rfl (by decide) dX5_redo_120 ?_
          refine z_goto C (tgt := 2) dX5_redo_123 (by decide) ?_
          subst hz9
          subst hz8
          subst hz7
          refine z_lv (lv' := [(0, .ref (a 0)), (1, .int (nI s)), (2, .int (nI (j + 1)))]) [5, 6, 0] rfl ?_
          exact ih2 (j + 1) _ _ _ _ (by omega) (by rw [← hT]; first | (simp only [rdLp, rdS, if_neg h9_2, if_neg h50_3f, if_neg h79_5t, ↓reduceIte]; done) | (simp only [rdLp, rdS, if_neg h9_2, if_neg h50_3f, if_neg h79_5t, ↓reduceIte]; rfl))
        · refine z_iconst C (v := (-1)) (by decide) dX5_redo_82 ?_
          refine z_goto C (tgt := 98) dX5_redo_83 (by decide) ?_
          obtain ⟨fz10, hz10⟩ : ∃ z : Nat → Int32, (upd he (rdK (mDk M) s j) (-1)) = z := ⟨_, rfl⟩
          refine z_iast C 10 rfl (vp_in_nI (by omega) (by omega)) (g := fz10) (Eq.trans (by rw [nI_clamp (by omega)]) hz10) (V' := (wM E a N (msHe (msHo (msOp (msVa M va) fz7) fz8) fz10))) rfl dX5_redo_98 ?_
          refine z_goto C (tgt := 120) dX5_redo_99 (by decide) ?_
          refine z_iinc C 6 rfl (v := (nI (j + 1))) (zinc _) (lv' := [(2, .int (nI (j + 1))), (6, .int (nI ((rdH (mDk M) s j) % 4))), (5, .int (nI ((rdH (mDk M) s j) / 4))), (4, .int (nI (rdK (mDk M) s j))), (3, .int (nI (rdH (mDk M) s j))), (0, .ref (a 0)), (1, .int (nI s))]) rfl (by decide) dX5_redo_120 ?_
          refine z_goto C (tgt := 2) dX5_redo_123 (by decide) ?_
          subst hz10
          subst hz8
          subst hz7
          refine z_lv (lv' := [(0, .ref (a 0)), (1, .int (nI s)), (2, .int (nI (j + 1)))]) [5, 6, 0] rfl ?_
          exact ih2 (j + 1) _ _ _ _ (by omega) (by rw [← hT]; first | (simp only [rdLp, rdS, if_neg h9_2, if_neg h50_3f, if_pos h79_5f, ↓reduceIte]; done) | (simp only [rdLp, rdS, if_neg h9_2, if_neg h50_3f, if_pos h79_5f, ↓reduceIte]; rfl))
  refine z_lv (lv' := [(0, .ref (a 0)), (1, .int (nI s)), (2, .int 0)]) [1, 2, 0] rfl ?_
  exact loop2 (bA (mDk M) s 5).toNatClampNeg 0 _ _ _ _ (by omega) rfl

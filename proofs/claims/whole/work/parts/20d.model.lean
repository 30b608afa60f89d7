abbrev rmX5_finish : Room := { frames := 5, cells := 0, slots := 0, locals := 112 }
theorem hyX5_finish : yX5_finish.cls = RX5 ∧ yX5_finish.cls ≠ "java/lang/invoke/MethodHandle" ∧ yX5_finish.cls ≠ "java/lang/invoke/VarHandle" ∧ (parseMethodDescriptor yX5_finish.desc).map (fun d => d.parameters.length) = some 2 := by decide +kernel
set_option maxHeartbeats 4000000 in
set_option maxRecDepth 3000 in
theorem c_X5_finish (E : GE) (N : Nat) (hN : 16 ≤ N ∧ N ≤ 64) (a : Nat → Nat) (M : MS) (t : Int32) (kp : Int32) (e : Nat) (he : mEn M = nI e) (he3 : e ≤ 3) (w c : Nat) (hw : mWa M = nI w) (hw2 : w < 64) (hc : mSc M = nI c) (hc2 : c < N) : zI E yX5_finish wsX5_finish rmX5_finish [.ref (a 0), .int t, .int kp] (wM E a N M) ((mFin N M t kp e w c).1) (wM E a N ((mFin N M t kp e w c).2)) := by
  refine zI_of (cc := cX5_finish) (maxL := 3) (ty := .int) (by decide) rfl (vp_nar_int _) (Nat.le_of_ble_eq_true rfl) ?_
  intro K C ret
  replace C : zC E K cX5_finish wsX5_finish RX5 rmX5_finish 3 := C
  have in5 : ∀ w ∈ wsX50, w ∈ wsX5_finish := fun w h => List.mem_cons_of_mem _ (List.mem_append_right _ (h))
  have l58 : zw K (.fieldLink RX5 58 "StoreLog3Model" "commits" "I") := C.w (List.mem_cons_of_mem _ (List.mem_append_left _ (List.mem_append_left _ (List.mem_of_getElem? (i := 1) rfl))))
  have l64 : zw K (.fieldLink RX5 64 "StoreLog3Model" "isDown" "Z") := C.w (List.mem_cons_of_mem _ (List.mem_append_left _ (List.mem_append_left _ (List.mem_of_getElem? (i := 0) rfl))))
  show Z E K 0 0 (wM E a N M) 0 [(0, .ref (a 0)), (1, .int t), (2, .int kp)] []
  refine z_aload_n C 0 rfl rfl dX5_finish_0 ?_
  refine z_get C (Cn := RX5) (T := TX5) (Nf := 20) (ci := 5) in5 0 2 l64 (v := .int (mDn M)) rfl rfl (by decide) rfl dX5_finish_1 ?_
  refine z_if_eq C (tgt := 10) dX5_finish_4 (by decide) (fun h4_1t => ?_) (fun h4_1f => ?_)
  · refine z_aload_n C 0 rfl rfl dX5_finish_10 ?_
    refine z_iload_n C 1 rfl rfl dX5_finish_11 ?_
    refine z_rVI C (c_X5_isOpenOne E N hN a M t) gX5_finish_X5_isOpenOne (ci := 5) (q0 := 0) rfl rfl hyX5_isOpenOne rfl ⟨rfl, rfl⟩ ⟨by decide, by decide⟩ ⟨by decide, by decide⟩ [0, 1, 2, 3, 4, 5, 6, 7, 8, 9, 10, 11] rfl (by decide) (st := []) (Nat.le_of_ble_eq_true rfl) dX5_finish_12 ?_ rfl
    refine z_if_ne C (tgt := 20) dX5_finish_15 (by decide) (fun h15_2t => ?_) (fun h15_2f => ?_)
    · refine z_aload_n C 0 rfl rfl dX5_finish_20 ?_
      refine z_rVI C (c_X5_mayAdd E N hN a M) gX5_finish_X5_mayAdd (ci := 5) (q0 := 0) rfl rfl hyX5_mayAdd rfl ⟨rfl, rfl⟩ ⟨by decide, by decide⟩ ⟨by decide, by decide⟩ [0, 1, 2, 3, 4, 5, 6, 7, 8, 9, 10, 11] rfl (by decide) (st := []) (Nat.le_of_ble_eq_true rfl) dX5_finish_21 ?_ rfl
      refine z_if_ne C (tgt := 30) dX5_finish_24 (by decide) (fun h24_3t => ?_) (fun h24_3f => ?_)
      · obtain ⟨t1, ht1, rfl⟩ : ∃ t1 : Nat, t1 ≤ 2 ∧ t = nI t1 := mIn2N (fun q => h15_2t (by simp only [mIsO, q, ↓reduceIte]))
        refine z_aload_n C 0 rfl rfl dX5_finish_30 ?_
        refine z_iconst C (v := 4) (by decide) dX5_finish_31 ?_
        refine z_iload_n C 1 rfl rfl dX5_finish_32 ?_
        refine z_imul C dX5_finish_33 ?_
        refine z_iload_n C 2 rfl rfl dX5_finish_34 ?_
        refine z_if_eq C (tgt := 42) dX5_finish_35 (by decide) (fun h35_4t => ?_) (fun h35_4f => ?_)
        · refine z_iconst C (v := 3) (by decide) dX5_finish_42 ?_
          refine z_iadd C dX5_finish_43 ?_
          refine z_iconst C (v := 0) (by decide) dX5_finish_44 ?_
          refine z_iconst C (v := 0) (by decide) dX5_finish_45 ?_
          obtain ⟨Mq2, hq46_2⟩ : ∃ z : MS, (mAdd N M ((4 * (nI t1)) + 3) 0 0 e w c) = z := ⟨_, rfl⟩
          have ct1 : zV E yX5_add wsX5_add rmX5_add [.ref (a 0), .int ((4 * (nI t1)) + 3), .int 0, .int 0] (wM E a N M) (wM E a N Mq2) := by subst hq46_2; exact c_X5_add E N hN a M ((4 * (nI t1)) + 3) 0 0 e he he3 w c hw hw2 hc hc2
          refine z_callVV C ct1 gX5_finish_X5_add (ci := 5) (q0 := 0) rfl rfl hyX5_add rfl ⟨rfl, rfl⟩ ⟨by decide, by decide⟩ ⟨by decide, by decide⟩ [0, 1, 2, 3, 4, 5, 6, 7, 8, 9, 10, 11] [] [0, 1, 2, 3, 4, 5, 6, 7, 8, 9, 10, 11] (wr := []) (V' := (wM E a N Mq2)) rfl rfl (by decide) (by decide) (by decide) rfl (by decide) (st := []) (Nat.le_of_ble_eq_true rfl) dX5_finish_46 ?_ rfl
          refine z_aload_n C 0 rfl rfl dX5_finish_49 ?_
          refine z_dup C rfl dX5_finish_50 ?_
          refine z_get C (Cn := RX5) (T := TX5) (Nf := 20) (ci := 5) in5 0 18 l58 (v := .int (mCm Mq2)) rfl rfl (by decide) rfl dX5_finish_51 ?_
          refine z_iload_n C 2 rfl rfl dX5_finish_54 ?_
          refine z_if_eq C (tgt := 62) dX5_finish_55 (by decide) (fun h55_5 => ?_) (fun h55_5 => absurd h35_4t h55_5)
          refine z_iconst C (v := 0) (by decide) dX5_finish_62 ?_
          refine z_iadd C dX5_finish_63 ?_
          obtain ⟨iz3, hz3⟩ : ∃ z : Int32, ((mCm Mq2) + 0) = z := ⟨_, rfl⟩
          refine z_top hz3 ?_
          refine z_put C (Cn := RX5) (T := TX5) (Nf := 20) (ci := 5) in5 0 18 l58 rfl rfl (by decide) tyX5 tyX5_ok nmX5 rfl rfl rfl (Nat.le_of_ble_eq_true rfl) (V' := (wM E a N (msCm Mq2 iz3))) rfl dX5_finish_64 ?_
          refine z_aload_n C 0 rfl rfl dX5_finish_67 ?_
          refine z_iload_n C 1 rfl rfl dX5_finish_68 ?_
          refine z_iload_n C 2 rfl rfl dX5_finish_69 ?_
          obtain ⟨yq5, hq70_5⟩ : ∃ z : Int32 × (Nat → Int32) × (Nat → Int32), (mRl (nI t1) kp (mHe (msCm Mq2 iz3)) (mVa (msCm Mq2 iz3)) (mHo (msCm Mq2 iz3))) = z := ⟨_, rfl⟩
          obtain ⟨fq6, hq70_6⟩ : ∃ z : Nat → Int32, (upd (mOp (msCm Mq2 iz3)) t1 0) = z := ⟨_, rfl⟩
          have ct4 : zI E yX5_release wsX5_release rmX5_release [.ref (a 0), .int (nI t1), .int kp] (wM E a N (msCm Mq2 iz3)) (yq5.1) (wM E a N (msOp (msHo (msVa (msCm Mq2 iz3) yq5.2.1) yq5.2.2) fq6)) := by subst hq70_6; subst hq70_5; exact c_X5_release E N hN a (msCm Mq2 iz3) t1 kp ht1
          refine z_callVI C ct4 gX5_finish_X5_release (ci := 5) (q0 := 0) rfl rfl hyX5_release rfl ⟨rfl, rfl⟩ ⟨by decide, by decide⟩ ⟨by decide, by decide⟩ [0, 1, 2, 3, 4, 5, 6, 7, 8, 9, 10, 11] [] [0, 1, 2, 3, 4, 5, 6, 7, 8, 9, 10, 11] (wr := []) (V' := (wM E a N (msOp (msHo (msVa (msCm Mq2 iz3) yq5.2.1) yq5.2.2) fq6))) rfl rfl (by decide) (by decide) (by decide) rfl (by decide) (st := []) (Nat.le_of_ble_eq_true rfl) dX5_finish_70 ?_ rfl
          subst hq70_6
          subst hq70_5
          subst hz3
          subst hq46_2
          exact ret _ _ _ _ (by first | (simp only [mFin, mRel, if_pos h4_1t, if_neg h15_2t, if_neg h24_3t, if_pos h35_4t, if_pos h55_5, ↓reduceIte, nI_clamp (show t1 < 2 ^ 31 by omega)]; done) | (simp only [mFin, mRel, if_pos h4_1t, if_neg h15_2t, if_neg h24_3t, if_pos h35_4t, if_pos h55_5, ↓reduceIte, nI_clamp (show t1 < 2 ^ 31 by omega)]; rfl)) (by first | (simp only [mFin, mRel, if_pos h4_1t, if_neg h15_2t, if_neg h24_3t, if_pos h35_4t, if_pos h55_5, ↓reduceIte, nI_clamp (show t1 < 2 ^ 31 by omega)]; done) | (simp only [mFin, mRel, if_pos h4_1t, if_neg h15_2t, if_neg h24_3t, if_pos h35_4t, if_pos h55_5, ↓reduceIte, nI_clamp (show t1 < 2 ^ 31 by omega)]; rfl)) dX5_finish_73
        · refine z_iconst C (v := 2) (by decide) dX5_finish_38 ?_
          refine z_goto C (tgt := 43) dX5_finish_39 (by decide) ?_
          refine z_iadd C dX5_finish_43 ?_
          refine z_iconst C (v := 0) (by decide) dX5_finish_44 ?_
          refine z_iconst C (v := 0) (by decide) dX5_finish_45 ?_
          obtain ⟨Mq8, hq46_8⟩ : ∃ z : MS, (mAdd N M ((4 * (nI t1)) + 2) 0 0 e w c) = z := ⟨_, rfl⟩
          have ct7 : zV E yX5_add wsX5_add rmX5_add [.ref (a 0), .int ((4 * (nI t1)) + 2), .int 0, .int 0] (wM E a N M) (wM E a N Mq8) := by subst hq46_8; exact c_X5_add E N hN a M ((4 * (nI t1)) + 2) 0 0 e he he3 w c hw hw2 hc hc2
          refine z_callVV C ct7 gX5_finish_X5_add (ci := 5) (q0 := 0) rfl rfl hyX5_add rfl ⟨rfl, rfl⟩ ⟨by decide, by decide⟩ ⟨by decide, by decide⟩ [0, 1, 2, 3, 4, 5, 6, 7, 8, 9, 10, 11] [] [0, 1, 2, 3, 4, 5, 6, 7, 8, 9, 10, 11] (wr := []) (V' := (wM E a N Mq8)) rfl rfl (by decide) (by decide) (by decide) rfl (by decide) (st := []) (Nat.le_of_ble_eq_true rfl) dX5_finish_46 ?_ rfl
          refine z_aload_n C 0 rfl rfl dX5_finish_49 ?_
          refine z_dup C rfl dX5_finish_50 ?_
          refine z_get C (Cn := RX5) (T := TX5) (Nf := 20) (ci := 5) in5 0 18 l58 (v := .int (mCm Mq8)) rfl rfl (by decide) rfl dX5_finish_51 ?_
          refine z_iload_n C 2 rfl rfl dX5_finish_54 ?_
          refine z_if_eq C (tgt := 62) dX5_finish_55 (by decide) (fun h55_6 => absurd h55_6 h35_4f) (fun h55_6 => ?_)
          refine z_iconst C (v := 1) (by decide) dX5_finish_58 ?_
          refine z_goto C (tgt := 63) dX5_finish_59 (by decide) ?_
          refine z_iadd C dX5_finish_63 ?_
          obtain ⟨iz9, hz9⟩ : ∃ z : Int32, ((mCm Mq8) + 1) = z := ⟨_, rfl⟩
          refine z_top hz9 ?_
          refine z_put C (Cn := RX5) (T := TX5) (Nf := 20) (ci := 5) in5 0 18 l58 rfl rfl (by decide) tyX5 tyX5_ok nmX5 rfl rfl rfl (Nat.le_of_ble_eq_true rfl) (V' := (wM E a N (msCm Mq8 iz9))) rfl dX5_finish_64 ?_
          refine z_aload_n C 0 rfl rfl dX5_finish_67 ?_
          refine z_iload_n C 1 rfl rfl dX5_finish_68 ?_
          refine z_iload_n C 2 rfl rfl dX5_finish_69 ?_
          obtain ⟨yq11, hq70_11⟩ : ∃ z : Int32 × (Nat → Int32) × (Nat → Int32), (mRl (nI t1) kp (mHe (msCm Mq8 iz9)) (mVa (msCm Mq8 iz9)) (mHo (msCm Mq8 iz9))) = z := ⟨_, rfl⟩
          obtain ⟨fq12, hq70_12⟩ : ∃ z : Nat → Int32, (upd (mOp (msCm Mq8 iz9)) t1 0) = z := ⟨_, rfl⟩
          have ct10 : zI E yX5_release wsX5_release rmX5_release [.ref (a 0), .int (nI t1), .int kp] (wM E a N (msCm Mq8 iz9)) (yq11.1) (wM E a N (msOp (msHo (msVa (msCm Mq8 iz9) yq11.2.1) yq11.2.2) fq12)) := by subst hq70_12; subst hq70_11; exact c_X5_release E N hN a (msCm Mq8 iz9) t1 kp ht1
          refine z_callVI C ct10 gX5_finish_X5_release (ci := 5) (q0 := 0) rfl rfl hyX5_release rfl ⟨rfl, rfl⟩ ⟨by decide, by decide⟩ ⟨by decide, by decide⟩ [0, 1, 2, 3, 4, 5, 6, 7, 8, 9, 10, 11] [] [0, 1, 2, 3, 4, 5, 6, 7, 8, 9, 10, 11] (wr := []) (V' := (wM E a N (msOp (msHo (msVa (msCm Mq8 iz9) yq11.2.1) yq11.2.2) fq12))) rfl rfl (by decide) (by decide) (by decide) rfl (by decide) (st := []) (Nat.le_of_ble_eq_true rfl) dX5_finish_70 ?_ rfl
          subst hq70_12
          subst hq70_11
          subst hz9
          subst hq46_8
          exact ret _ _ _ _ (by first | (simp only [mFin, mRel, if_pos h4_1t, if_neg h15_2t, if_neg h24_3t, if_neg h35_4f, if_neg h55_6, ↓reduceIte, nI_clamp (show t1 < 2 ^ 31 by omega)]; done) | (simp only [mFin, mRel, if_pos h4_1t, if_neg h15_2t, if_neg h24_3t, if_neg h35_4f, if_neg h55_6, ↓reduceIte, nI_clamp (show t1 < 2 ^ 31 by omega)]; rfl)) (by first | (simp only [mFin, mRel, if_pos h4_1t, if_neg h15_2t, if_neg h24_3t, if_neg h35_4f, if_neg h55_6, ↓reduceIte, nI_clamp (show t1 < 2 ^ 31 by omega)]; done) | (simp only [mFin, mRel, if_pos h4_1t, if_neg h15_2t, if_neg h24_3t, if_neg h35_4f, if_neg h55_6, ↓reduceIte, nI_clamp (show t1 < 2 ^ 31 by omega)]; rfl)) dX5_finish_73
      · refine z_bipush C (v := (-2)) (by decide) dX5_finish_27 ?_
        exact ret _ _ _ _ (by first | rfl | (simp only [mFin, if_pos h4_1t, if_neg h15_2t, if_pos h24_3f, ↓reduceIte]; done) | (simp only [mFin, if_pos h4_1t, if_neg h15_2t, if_pos h24_3f, ↓reduceIte]; rfl) | (simp [mFin, if_pos h4_1t, if_neg h15_2t, if_pos h24_3f, ↓reduceIte]; done)) (by first | rfl | (simp only [mFin, if_pos h4_1t, if_neg h15_2t, if_pos h24_3f, ↓reduceIte]; done) | (simp only [mFin, if_pos h4_1t, if_neg h15_2t, if_pos h24_3f, ↓reduceIte]; rfl) | (simp [mFin, if_pos h4_1t, if_neg h15_2t, if_pos h24_3f, ↓reduceIte]; done)) dX5_finish_29
    · refine z_iconst C (v := (-1)) (by decide) dX5_finish_18 ?_
      exact ret _ _ _ _ (by first | rfl | (simp only [mFin, if_pos h4_1t, if_pos h15_2f, ↓reduceIte]; done) | (simp only [mFin, if_pos h4_1t, if_pos h15_2f, ↓reduceIte]; rfl) | (simp [mFin, if_pos h4_1t, if_pos h15_2f, ↓reduceIte]; done)) (by first | rfl | (simp only [mFin, if_pos h4_1t, if_pos h15_2f, ↓reduceIte]; done) | (simp only [mFin, if_pos h4_1t, if_pos h15_2f, ↓reduceIte]; rfl) | (simp [mFin, if_pos h4_1t, if_pos h15_2f, ↓reduceIte]; done)) dX5_finish_19
  · refine z_bipush C (v := (-3)) (by decide) dX5_finish_7 ?_
    exact ret _ _ _ _ (by first | rfl | (simp only [mFin, if_neg h4_1f, ↓reduceIte]; done) | (simp only [mFin, if_neg h4_1f, ↓reduceIte]; rfl) | (simp [mFin, if_neg h4_1f, ↓reduceIte]; done)) (by first | rfl | (simp only [mFin, if_neg h4_1f, ↓reduceIte]; done) | (simp only [mFin, if_neg h4_1f, ↓reduceIte]; rfl) | (simp [mFin, if_neg h4_1f, ↓reduceIte]; done)) dX5_finish_9
abbrev rmX5_commit : Room := { frames := 6, cells := 0, slots := 0, locals := 134 }
theorem hyX5_commit : yX5_commit.cls = RX5 ∧ yX5_commit.cls ≠ "java/lang/invoke/MethodHandle" ∧ yX5_commit.cls ≠ "java/lang/invoke/VarHandle" ∧ (parseMethodDescriptor yX5_commit.desc).map (fun d => d.parameters.length) = some 1 := by decide +kernel
set_option maxHeartbeats 4000000 in
set_option maxRecDepth 3000 in
theorem c_X5_commit (E : GE) (N : Nat) (hN : 16 ≤ N ∧ N ≤ 64) (a : Nat → Nat) (M : MS) (t : Int32) (e : Nat) (he : mEn M = nI e) (he3 : e ≤ 3) (w c : Nat) (hw : mWa M = nI w) (hw2 : w < 64) (hc : mSc M = nI c) (hc2 : c < N) : zI E yX5_commit wsX5_commit rmX5_commit [.ref (a 0), .int t] (wM E a N M) ((mFin N M t 1 e w c).1) (wM E a N ((mFin N M t 1 e w c).2)) := by
  refine zI_of (cc := cX5_commit) (maxL := 2) (ty := .int) (by decide) rfl (vp_nar_int _) (Nat.le_of_ble_eq_true rfl) ?_
  intro K C ret
  replace C : zC E K cX5_commit wsX5_commit RX5 rmX5_commit 2 := C
  show Z E K 0 0 (wM E a N M) 0 [(0, .ref (a 0)), (1, .int t)] []
  refine z_aload_n C 0 rfl rfl dX5_commit_0 ?_
  refine z_iload_n C 1 rfl rfl dX5_commit_1 ?_
  refine z_iconst C (v := 1) (by decide) dX5_commit_2 ?_
  obtain ⟨Mq2, hq3_2⟩ : ∃ z : MS, ((mFin N M t 1 e w c).2) = z := ⟨_, rfl⟩
  have ct1 : zI E yX5_finish wsX5_finish rmX5_finish [.ref (a 0), .int t, .int 1] (wM E a N M) ((mFin N M t 1 e w c).1) (wM E a N Mq2) := by subst hq3_2; exact c_X5_finish E N hN a M t 1 e he he3 w c hw hw2 hc hc2
  refine z_callVI C ct1 gX5_commit_X5_finish (ci := 5) (q0 := 0) rfl rfl hyX5_finish rfl ⟨rfl, rfl⟩ ⟨by decide, by decide⟩ ⟨by decide, by decide⟩ [0, 1, 2, 3, 4, 5, 6, 7, 8, 9, 10, 11] [] [0, 1, 2, 3, 4, 5, 6, 7, 8, 9, 10, 11] (wr := []) (V' := (wM E a N Mq2)) rfl rfl (by decide) (by decide) (by decide) rfl (by decide) (st := []) (Nat.le_of_ble_eq_true rfl) dX5_commit_3 ?_ rfl
  subst hq3_2
  exact ret _ _ _ _ (by first | rfl | (simp only [↓reduceIte]; done) | (simp only [↓reduceIte]; rfl) | (simp [↓reduceIte]; done)) (by first | rfl | (simp only [↓reduceIte]; done) | (simp only [↓reduceIte]; rfl) | (simp [↓reduceIte]; done)) dX5_commit_6
abbrev rmX5_undo : Room := { frames := 6, cells := 0, slots := 0, locals := 134 }
theorem hyX5_undo : yX5_undo.cls = RX5 ∧ yX5_undo.cls ≠ "java/lang/invoke/MethodHandle" ∧ yX5_undo.cls ≠ "java/lang/invoke/VarHandle" ∧ (parseMethodDescriptor yX5_undo.desc).map (fun d => d.parameters.length) = some 1 := by decide +kernel
set_option maxHeartbeats 4000000 in
set_option maxRecDepth 3000 in
theorem c_X5_undo (E : GE) (N : Nat) (hN : 16 ≤ N ∧ N ≤ 64) (a : Nat → Nat) (M : MS) (t : Int32) (e : Nat) (he : mEn M = nI e) (he3 : e ≤ 3) (w c : Nat) (hw : mWa M = nI w) (hw2 : w < 64) (hc : mSc M = nI c) (hc2 : c < N) : zI E yX5_undo wsX5_undo rmX5_undo [.ref (a 0), .int t] (wM E a N M) ((mFin N M t 0 e w c).1) (wM E a N ((mFin N M t 0 e w c).2)) := by
  refine zI_of (cc := cX5_undo) (maxL := 2) (ty := .int) (by decide) rfl (vp_nar_int _) (Nat.le_of_ble_eq_true rfl) ?_
  intro K C ret
  replace C : zC E K cX5_undo wsX5_undo RX5 rmX5_undo 2 := C
  show Z E K 0 0 (wM E a N M) 0 [(0, .ref (a 0)), (1, .int t)] []
  refine z_aload_n C 0 rfl rfl dX5_undo_0 ?_
  refine z_iload_n C 1 rfl rfl dX5_undo_1 ?_
  refine z_iconst C (v := 0) (by decide) dX5_undo_2 ?_
  obtain ⟨Mq2, hq3_2⟩ : ∃ z : MS, ((mFin N M t 0 e w c).2) = z := ⟨_, rfl⟩
  have ct1 : zI E yX5_finish wsX5_finish rmX5_finish [.ref (a 0), .int t, .int 0] (wM E a N M) ((mFin N M t 0 e w c).1) (wM E a N Mq2) := by subst hq3_2; exact c_X5_finish E N hN a M t 0 e he he3 w c hw hw2 hc hc2
  refine z_callVI C ct1 gX5_undo_X5_finish (ci := 5) (q0 := 0) rfl rfl hyX5_finish rfl ⟨rfl, rfl⟩ ⟨by decide, by decide⟩ ⟨by decide, by decide⟩ [0, 1, 2, 3, 4, 5, 6, 7, 8, 9, 10, 11] [] [0, 1, 2, 3, 4, 5, 6, 7, 8, 9, 10, 11] (wr := []) (V' := (wM E a N Mq2)) rfl rfl (by decide) (by decide) (by decide) rfl (by decide) (st := []) (Nat.le_of_ble_eq_true rfl) dX5_undo_3 ?_ rfl
  subst hq3_2
  exact ret _ _ _ _ (by first | rfl | (simp only [↓reduceIte]; done) | (simp only [↓reduceIte]; rfl) | (simp [↓reduceIte]; done)) (by first | rfl | (simp only [↓reduceIte]; done) | (simp only [↓reduceIte]; rfl) | (simp [↓reduceIte]; done)) dX5_undo_6

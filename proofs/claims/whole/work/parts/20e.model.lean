abbrev rmX5_get : Room := { frames := 2, cells := 0, slots := 0, locals := 42 }
theorem hyX5_get : yX5_get.cls = RX5 ∧ yX5_get.cls ≠ "java/lang/invoke/MethodHandle" ∧ yX5_get.cls ≠ "java/lang/invoke/VarHandle" ∧ (parseMethodDescriptor yX5_get.desc).map (fun d => d.parameters.length) = some 1 := by decide +kernel
set_option maxHeartbeats 4000000 in
set_option maxRecDepth 3000 in
theorem c_X5_get (E : GE) (N : Nat) (hN : 16 ≤ N ∧ N ≤ 64) (a : Nat → Nat) (M : MS) (k : Int32) : zI E yX5_get wsX5_get rmX5_get [.ref (a 0), .int k] (wM E a N M) (mGet M k) (wM E a N M) := by
  refine zI_of (cc := cX5_get) (maxL := 2) (ty := .int) (by decide) rfl (vp_nar_int _) (Nat.le_of_ble_eq_true rfl) ?_
  intro K C ret
  replace C : zC E K cX5_get wsX5_get RX5 rmX5_get 2 := C
  have in5 : ∀ w ∈ wsX50, w ∈ wsX5_get := fun w h => List.mem_cons_of_mem _ (List.mem_append_right _ (h))
  have l29 : zw K (.fieldLink RX5 29 "StoreLog3Model" "values" "[I") := C.w (List.mem_cons_of_mem _ (List.mem_append_left _ (List.mem_of_getElem? (i := 1) rfl)))
  have l64 : zw K (.fieldLink RX5 64 "StoreLog3Model" "isDown" "Z") := C.w (List.mem_cons_of_mem _ (List.mem_append_left _ (List.mem_of_getElem? (i := 0) rfl)))
  show Z E K 0 0 (wM E a N M) 0 [(0, .ref (a 0)), (1, .int k)] []
  refine z_aload_n C 0 rfl rfl dX5_get_0 ?_
  refine z_get C (Cn := RX5) (T := TX5) (Nf := 20) (ci := 5) in5 0 2 l64 (v := .int (mDn M)) rfl rfl (by decide) rfl dX5_get_1 ?_
  refine z_if_eq C (tgt := 12) dX5_get_4 (by decide) (fun h4_1t => ?_) (fun h4_1f => ?_)
  · refine z_iload_n C 1 rfl rfl dX5_get_12 ?_
    refine z_rSI C (c_X5_isKey E k) gX5_get_X5_isKey hyX5_isKey.2 rfl ⟨rfl, rfl⟩ ⟨by decide, by decide⟩ ⟨by decide, by decide⟩ [] rfl (by decide) (st := []) (Nat.le_of_ble_eq_true rfl) dX5_get_13 ?_ rfl
    refine z_if_eq C (tgt := 28) dX5_get_16 (by decide) (fun h16_2t => ?_) (fun h16_2f => ?_)
    · refine z_iconst C (v := (-1)) (by decide) dX5_get_28 ?_
      exact ret _ _ _ _ (by first | rfl | (simp only [mGet, if_pos h4_1t, if_pos h16_2t, ↓reduceIte]; done) | (simp only [mGet, if_pos h4_1t, if_pos h16_2t, ↓reduceIte]; rfl) | (simp [mGet, if_pos h4_1t, if_pos h16_2t, ↓reduceIte]; done)) rfl dX5_get_29
    · refine z_aload_n C 0 rfl rfl dX5_get_19 ?_
      refine z_get C (Cn := RX5) (T := TX5) (Nf := 20) (ci := 5) in5 0 14 l29 (v := .ref (a 7)) rfl rfl (by decide) rfl dX5_get_20 ?_
      refine z_iload_n C 1 rfl rfl dX5_get_23 ?_
      refine z_iald C 7 rfl (mIn31 h16_2f) (v := ((mVa M) k.toNatClampNeg)) rfl dX5_get_24 ?_
      refine z_goto C (tgt := 29) dX5_get_25 (by decide) ?_
      exact ret _ _ _ _ (by first | rfl | (simp only [mGet, if_pos h4_1t, if_neg h16_2f, ↓reduceIte]; done) | (simp only [mGet, if_pos h4_1t, if_neg h16_2f, ↓reduceIte]; rfl) | (simp [mGet, if_pos h4_1t, if_neg h16_2f, ↓reduceIte]; done)) rfl dX5_get_29
  · refine z_bipush C (v := (-3)) (by decide) dX5_get_7 ?_
    refine z_goto C (tgt := 29) dX5_get_9 (by decide) ?_
    exact ret _ _ _ _ (by first | rfl | (simp only [mGet, if_neg h4_1f, ↓reduceIte]; done) | (simp only [mGet, if_neg h4_1f, ↓reduceIte]; rfl) | (simp [mGet, if_neg h4_1f, ↓reduceIte]; done)) rfl dX5_get_29
abbrev rmX5_holder : Room := { frames := 2, cells := 0, slots := 0, locals := 42 }
theorem hyX5_holder : yX5_holder.cls = RX5 ∧ yX5_holder.cls ≠ "java/lang/invoke/MethodHandle" ∧ yX5_holder.cls ≠ "java/lang/invoke/VarHandle" ∧ (parseMethodDescriptor yX5_holder.desc).map (fun d => d.parameters.length) = some 1 := by decide +kernel
set_option maxHeartbeats 4000000 in
set_option maxRecDepth 3000 in
theorem c_X5_holder (E : GE) (N : Nat) (hN : 16 ≤ N ∧ N ≤ 64) (a : Nat → Nat) (M : MS) (k : Int32) : zI E yX5_holder wsX5_holder rmX5_holder [.ref (a 0), .int k] (wM E a N M) (mHold M k) (wM E a N M) := by
  refine zI_of (cc := cX5_holder) (maxL := 2) (ty := .int) (by decide) rfl (vp_nar_int _) (Nat.le_of_ble_eq_true rfl) ?_
  intro K C ret
  replace C : zC E K cX5_holder wsX5_holder RX5 rmX5_holder 2 := C
  have in5 : ∀ w ∈ wsX50, w ∈ wsX5_holder := fun w h => List.mem_cons_of_mem _ (List.mem_append_right _ (h))
  have l36 : zw K (.fieldLink RX5 36 "StoreLog3Model" "holders" "[I") := C.w (List.mem_cons_of_mem _ (List.mem_append_left _ (List.mem_of_getElem? (i := 1) rfl)))
  have l64 : zw K (.fieldLink RX5 64 "StoreLog3Model" "isDown" "Z") := C.w (List.mem_cons_of_mem _ (List.mem_append_left _ (List.mem_of_getElem? (i := 0) rfl)))
  show Z E K 0 0 (wM E a N M) 0 [(0, .ref (a 0)), (1, .int k)] []
  refine z_aload_n C 0 rfl rfl dX5_holder_0 ?_
  refine z_get C (Cn := RX5) (T := TX5) (Nf := 20) (ci := 5) in5 0 2 l64 (v := .int (mDn M)) rfl rfl (by decide) rfl dX5_holder_1 ?_
  refine z_if_eq C (tgt := 12) dX5_holder_4 (by decide) (fun h4_1t => ?_) (fun h4_1f => ?_)
  · refine z_iload_n C 1 rfl rfl dX5_holder_12 ?_
    refine z_rSI C (c_X5_isKey E k) gX5_holder_X5_isKey hyX5_isKey.2 rfl ⟨rfl, rfl⟩ ⟨by decide, by decide⟩ ⟨by decide, by decide⟩ [] rfl (by decide) (st := []) (Nat.le_of_ble_eq_true rfl) dX5_holder_13 ?_ rfl
    refine z_if_eq C (tgt := 28) dX5_holder_16 (by decide) (fun h16_2t => ?_) (fun h16_2f => ?_)
    · refine z_iconst C (v := (-1)) (by decide) dX5_holder_28 ?_
      exact ret _ _ _ _ (by first | rfl | (simp only [mHold, if_pos h4_1t, if_pos h16_2t, ↓reduceIte]; done) | (simp only [mHold, if_pos h4_1t, if_pos h16_2t, ↓reduceIte]; rfl) | (simp [mHold, if_pos h4_1t, if_pos h16_2t, ↓reduceIte]; done)) rfl dX5_holder_29
    · refine z_aload_n C 0 rfl rfl dX5_holder_19 ?_
      refine z_get C (Cn := RX5) (T := TX5) (Nf := 20) (ci := 5) in5 0 16 l36 (v := .ref (a 9)) rfl rfl (by decide) rfl dX5_holder_20 ?_
      refine z_iload_n C 1 rfl rfl dX5_holder_23 ?_
      refine z_iald C 9 rfl (mIn31 h16_2f) (v := ((mHo M) k.toNatClampNeg)) rfl dX5_holder_24 ?_
      refine z_goto C (tgt := 29) dX5_holder_25 (by decide) ?_
      exact ret _ _ _ _ (by first | rfl | (simp only [mHold, if_pos h4_1t, if_neg h16_2f, ↓reduceIte]; done) | (simp only [mHold, if_pos h4_1t, if_neg h16_2f, ↓reduceIte]; rfl) | (simp [mHold, if_pos h4_1t, if_neg h16_2f, ↓reduceIte]; done)) rfl dX5_holder_29
  · refine z_bipush C (v := (-3)) (by decide) dX5_holder_7 ?_
    refine z_goto C (tgt := 29) dX5_holder_9 (by decide) ?_
    exact ret _ _ _ _ (by first | rfl | (simp only [mHold, if_neg h4_1f, ↓reduceIte]; done) | (simp only [mHold, if_neg h4_1f, ↓reduceIte]; rfl) | (simp [mHold, if_neg h4_1f, ↓reduceIte]; done)) rfl dX5_holder_29
abbrev rmX5_seen : Room := { frames := 2, cells := 0, slots := 0, locals := 43 }
theorem hyX5_seen : yX5_seen.cls = RX5 ∧ yX5_seen.cls ≠ "java/lang/invoke/MethodHandle" ∧ yX5_seen.cls ≠ "java/lang/invoke/VarHandle" ∧ (parseMethodDescriptor yX5_seen.desc).map (fun d => d.parameters.length) = some 2 := by decide +kernel
set_option maxHeartbeats 4000000 in
set_option maxRecDepth 3000 in
theorem c_X5_seen (E : GE) (N : Nat) (hN : 16 ≤ N ∧ N ≤ 64) (a : Nat → Nat) (M : MS) (t : Int32) (k : Int32) : zI E yX5_seen wsX5_seen rmX5_seen [.ref (a 0), .int t, .int k] (wM E a N M) (mSeen M t k) (wM E a N M) := by
  refine zI_of (cc := cX5_seen) (maxL := 3) (ty := .int) (by decide) rfl (vp_nar_int _) (Nat.le_of_ble_eq_true rfl) ?_
  intro K C ret
  replace C : zC E K cX5_seen wsX5_seen RX5 rmX5_seen 3 := C
  have in5 : ∀ w ∈ wsX50, w ∈ wsX5_seen := fun w h => List.mem_cons_of_mem _ (List.mem_append_right _ (h))
  have l29 : zw K (.fieldLink RX5 29 "StoreLog3Model" "values" "[I") := C.w (List.mem_cons_of_mem _ (List.mem_append_left _ (List.mem_of_getElem? (i := 3) rfl)))
  have l36 : zw K (.fieldLink RX5 36 "StoreLog3Model" "holders" "[I") := C.w (List.mem_cons_of_mem _ (List.mem_append_left _ (List.mem_of_getElem? (i := 1) rfl)))
  have l39 : zw K (.fieldLink RX5 39 "StoreLog3Model" "held" "[I") := C.w (List.mem_cons_of_mem _ (List.mem_append_left _ (List.mem_of_getElem? (i := 2) rfl)))
  have l64 : zw K (.fieldLink RX5 64 "StoreLog3Model" "isDown" "Z") := C.w (List.mem_cons_of_mem _ (List.mem_append_left _ (List.mem_of_getElem? (i := 0) rfl)))
  show Z E K 0 0 (wM E a N M) 0 [(0, .ref (a 0)), (1, .int t), (2, .int k)] []
  refine z_aload_n C 0 rfl rfl dX5_seen_0 ?_
  refine z_get C (Cn := RX5) (T := TX5) (Nf := 20) (ci := 5) in5 0 2 l64 (v := .int (mDn M)) rfl rfl (by decide) rfl dX5_seen_1 ?_
  refine z_if_eq C (tgt := 10) dX5_seen_4 (by decide) (fun h4_1t => ?_) (fun h4_1f => ?_)
  · refine z_aload_n C 0 rfl rfl dX5_seen_10 ?_
    refine z_iload_n C 1 rfl rfl dX5_seen_11 ?_
    refine z_rVI C (c_X5_isOpenOne E N hN a M t) gX5_seen_X5_isOpenOne (ci := 5) (q0 := 0) rfl rfl hyX5_isOpenOne rfl ⟨rfl, rfl⟩ ⟨by decide, by decide⟩ ⟨by decide, by decide⟩ [0, 1, 2, 3, 4, 5, 6, 7, 8, 9, 10, 11] rfl (by decide) (st := []) (Nat.le_of_ble_eq_true rfl) dX5_seen_12 ?_ rfl
    refine z_if_eq C (tgt := 25) dX5_seen_15 (by decide) (fun h15_2t => ?_) (fun h15_2f => ?_)
    · refine z_iconst C (v := (-1)) (by decide) dX5_seen_25 ?_
      exact ret _ _ _ _ (by first | rfl | (simp only [mSeen, if_pos h4_1t, if_pos h15_2t, ↓reduceIte]; done) | (simp only [mSeen, if_pos h4_1t, if_pos h15_2t, ↓reduceIte]; rfl) | (simp [mSeen, if_pos h4_1t, if_pos h15_2t, ↓reduceIte]; done)) rfl dX5_seen_26
    · refine z_iload_n C 2 rfl rfl dX5_seen_18 ?_
      refine z_rSI C (c_X5_isKey E k) gX5_seen_X5_isKey hyX5_isKey.2 rfl ⟨rfl, rfl⟩ ⟨by decide, by decide⟩ ⟨by decide, by decide⟩ [] rfl (by decide) (st := []) (Nat.le_of_ble_eq_true rfl) dX5_seen_19 ?_ rfl
      refine z_if_ne C (tgt := 27) dX5_seen_22 (by decide) (fun h22_3t => ?_) (fun h22_3f => ?_)
      · refine z_aload_n C 0 rfl rfl dX5_seen_27 ?_
        refine z_get C (Cn := RX5) (T := TX5) (Nf := 20) (ci := 5) in5 0 16 l36 (v := .ref (a 9)) rfl rfl (by decide) rfl dX5_seen_28 ?_
        refine z_iload_n C 2 rfl rfl dX5_seen_31 ?_
        refine z_iald C 9 rfl (mIn31 h22_3t) (v := ((mHo M) k.toNatClampNeg)) rfl dX5_seen_32 ?_
        refine z_iload_n C 1 rfl rfl dX5_seen_33 ?_
        refine z_icmp_ne C (tgt := 46) dX5_seen_34 (by decide) (fun h34_4t => ?_) (fun h34_4f => ?_)
        · refine z_aload_n C 0 rfl rfl dX5_seen_46 ?_
          refine z_get C (Cn := RX5) (T := TX5) (Nf := 20) (ci := 5) in5 0 14 l29 (v := .ref (a 7)) rfl rfl (by decide) rfl dX5_seen_47 ?_
          refine z_iload_n C 2 rfl rfl dX5_seen_50 ?_
          refine z_iald C 7 rfl (mIn31 h22_3t) (v := ((mVa M) k.toNatClampNeg)) rfl dX5_seen_51 ?_
          exact ret _ _ _ _ (by first | rfl | (simp only [mSeen, if_pos h4_1t, if_neg h15_2f, if_neg h22_3t, if_neg h34_4t, ↓reduceIte]; done) | (simp only [mSeen, if_pos h4_1t, if_neg h15_2f, if_neg h22_3t, if_neg h34_4t, ↓reduceIte]; rfl) | (simp [mSeen, if_pos h4_1t, if_neg h15_2f, if_neg h22_3t, if_neg h34_4t, ↓reduceIte]; done)) rfl dX5_seen_52
        · refine z_aload_n C 0 rfl rfl dX5_seen_37 ?_
          refine z_get C (Cn := RX5) (T := TX5) (Nf := 20) (ci := 5) in5 0 17 l39 (v := .ref (a 10)) rfl rfl (by decide) rfl dX5_seen_38 ?_
          refine z_iload_n C 2 rfl rfl dX5_seen_41 ?_
          refine z_iald C 10 rfl (mIn31 h22_3t) (v := ((mHe M) k.toNatClampNeg)) rfl dX5_seen_42 ?_
          refine z_goto C (tgt := 52) dX5_seen_43 (by decide) ?_
          exact ret _ _ _ _ (by first | rfl | (simp only [mSeen, if_pos h4_1t, if_neg h15_2f, if_neg h22_3t, if_pos h34_4f, ↓reduceIte]; done) | (simp only [mSeen, if_pos h4_1t, if_neg h15_2f, if_neg h22_3t, if_pos h34_4f, ↓reduceIte]; rfl) | (simp [mSeen, if_pos h4_1t, if_neg h15_2f, if_neg h22_3t, if_pos h34_4f, ↓reduceIte]; done)) rfl dX5_seen_52
      · refine z_iconst C (v := (-1)) (by decide) dX5_seen_25 ?_
        exact ret _ _ _ _ (by first | rfl | (simp only [mSeen, if_pos h4_1t, if_neg h15_2f, if_pos h22_3f, ↓reduceIte]; done) | (simp only [mSeen, if_pos h4_1t, if_neg h15_2f, if_pos h22_3f, ↓reduceIte]; rfl) | (simp [mSeen, if_pos h4_1t, if_neg h15_2f, if_pos h22_3f, ↓reduceIte]; done)) rfl dX5_seen_26
  · refine z_bipush C (v := (-3)) (by decide) dX5_seen_7 ?_
    exact ret _ _ _ _ (by first | rfl | (simp only [mSeen, if_neg h4_1f, ↓reduceIte]; done) | (simp only [mSeen, if_neg h4_1f, ↓reduceIte]; rfl) | (simp [mSeen, if_neg h4_1f, ↓reduceIte]; done)) rfl dX5_seen_9
abbrev rmX5_forget : Room := { frames := 0, cells := 0, slots := 0, locals := 0 }
theorem hyX5_forget : yX5_forget.cls = RX5 ∧ yX5_forget.cls ≠ "java/lang/invoke/MethodHandle" ∧ yX5_forget.cls ≠ "java/lang/invoke/VarHandle" ∧ (parseMethodDescriptor yX5_forget.desc).map (fun d => d.parameters.length) = some 0 := by decide +kernel
set_option maxHeartbeats 4000000 in
set_option maxRecDepth 3000 in
theorem c_X5_forget (E : GE) (N : Nat) (hN : 16 ≤ N ∧ N ≤ 64) (a : Nat → Nat) (M : MS) : zV E yX5_forget wsX5_forget rmX5_forget [.ref (a 0)] (wM E a N M) (wM E a N (msHo (msVa (msOp (msCm (msEn (msWa M 0) 0) 0) (fgO (mOp M) 3)) (fgV (mVa M) 32)) (fgV (mHo M) 32))) := by
  refine zV_of (cc := cX5_forget) (maxL := 2) (by decide) rfl (Nat.le_of_ble_eq_true rfl) ?_
  intro K C ret
  replace C : zC E K cX5_forget wsX5_forget RX5 rmX5_forget 2 := C
  have in5 : ∀ w ∈ wsX50, w ∈ wsX5_forget := fun w h => List.mem_cons_of_mem _ (List.mem_append_right _ (h))
  have l29 : zw K (.fieldLink RX5 29 "StoreLog3Model" "values" "[I") := C.w (List.mem_cons_of_mem _ (List.mem_append_left _ (List.mem_of_getElem? (i := 4) rfl)))
  have l32 : zw K (.fieldLink RX5 32 "StoreLog3Model" "isOpen" "[Z") := C.w (List.mem_cons_of_mem _ (List.mem_append_left _ (List.mem_of_getElem? (i := 3) rfl)))
  have l36 : zw K (.fieldLink RX5 36 "StoreLog3Model" "holders" "[I") := C.w (List.mem_cons_of_mem _ (List.mem_append_left _ (List.mem_of_getElem? (i := 5) rfl)))
  have l52 : zw K (.fieldLink RX5 52 "StoreLog3Model" "waiting" "I") := C.w (List.mem_cons_of_mem _ (List.mem_append_left _ (List.mem_of_getElem? (i := 0) rfl)))
  have l55 : zw K (.fieldLink RX5 55 "StoreLog3Model" "entries" "I") := C.w (List.mem_cons_of_mem _ (List.mem_append_left _ (List.mem_of_getElem? (i := 1) rfl)))
  have l58 : zw K (.fieldLink RX5 58 "StoreLog3Model" "commits" "I") := C.w (List.mem_cons_of_mem _ (List.mem_append_left _ (List.mem_of_getElem? (i := 2) rfl)))
  show Z E K 0 0 (wM E a N M) 0 [(0, .ref (a 0))] []
  refine z_aload_n C 0 rfl rfl dX5_forget_0 ?_
  refine z_iconst C (v := 0) (by decide) dX5_forget_1 ?_
  refine z_put C (Cn := RX5) (T := TX5) (Nf := 20) (ci := 5) in5 0 3 l52 rfl rfl (by decide) tyX5 tyX5_ok nmX5 rfl rfl rfl (Nat.le_of_ble_eq_true rfl) (V' := (wM E a N (msWa M 0))) rfl dX5_forget_2 ?_
  refine z_aload_n C 0 rfl rfl dX5_forget_5 ?_
  refine z_iconst C (v := 0) (by decide) dX5_forget_6 ?_
  refine z_put C (Cn := RX5) (T := TX5) (Nf := 20) (ci := 5) in5 0 10 l55 rfl rfl (by decide) tyX5 tyX5_ok nmX5 rfl rfl rfl (Nat.le_of_ble_eq_true rfl) (V' := (wM E a N (msEn (msWa M 0) 0))) rfl dX5_forget_7 ?_
  refine z_aload_n C 0 rfl rfl dX5_forget_10 ?_
  refine z_iconst C (v := 0) (by decide) dX5_forget_11 ?_
  refine z_put C (Cn := RX5) (T := TX5) (Nf := 20) (ci := 5) in5 0 18 l58 rfl rfl (by decide) tyX5 tyX5_ok nmX5 rfl rfl rfl (Nat.le_of_ble_eq_true rfl) (V' := (wM E a N (msCm (msEn (msWa M 0) 0) 0))) rfl dX5_forget_12 ?_
  refine z_iconst C (v := 0) (by decide) dX5_forget_15 ?_
  refine z_istore_n C (lv' := [(1, .int 0), (0, .ref (a 0))]) rfl rfl (by decide) dX5_forget_16 ?_
  have loop17 : ∀ (n j : Nat), j + n = 3 → Z E K 0 0 (wM E a N (msOp (msCm (msEn (msWa M 0) 0) 0) (fgO (mOp M) j))) 17 [(0, .ref (a 0)), (1, .int (nI j))] [] := by
    intro n
    induction n with
    | zero => 
      intro j hj
      obtain rfl : j = 3 := by omega
      obtain ⟨fz1, hz1⟩ : ∃ z : Nat → Int32, (fgO (mOp M) 3) = z := ⟨_, rfl⟩
      rw [hz1]
      refine z_iload_n C 1 rfl rfl dX5_forget_17 ?_
      refine z_iconst C (v := 3) (by decide) dX5_forget_18 ?_
      refine z_icmp_ge C (tgt := 35) dX5_forget_19 (by decide) (fun h19_1 => ?_) (fun h19_1 => absurd (nI_le (a := 3) (b := 3) (Nat.le_refl _) (by omega)) h19_1)
      refine z_iconst C (v := 0) (by decide) dX5_forget_35 ?_
      refine z_istore_n C (lv' := [(1, .int 0), (0, .ref (a 0))]) rfl rfl (by decide) dX5_forget_36 ?_
      subst hz1
      have loop37 : ∀ (n j : Nat), j + n = 32 → Z E K 0 0 (wM E a N (msHo (msVa (msOp (msCm (msEn (msWa M 0) 0) 0) (fgO (mOp M) 3)) (fgV (mVa M) j)) (fgV (mHo M) j))) 37 [(0, .ref (a 0)), (1, .int (nI j))] [] := by
        intro n
        induction n with
        | zero => 
          intro j hj
          obtain rfl : j = 32 := by omega
          obtain ⟨fz2, hz2⟩ : ∃ z : Nat → Int32, (fgO (mOp M) 3) = z := ⟨_, rfl⟩
          rw [hz2]
          obtain ⟨fz3, hz3⟩ : ∃ z : Nat → Int32, (fgV (mVa M) 32) = z := ⟨_, rfl⟩
          rw [hz3]
          obtain ⟨fz4, hz4⟩ : ∃ z : Nat → Int32, (fgV (mHo M) 32) = z := ⟨_, rfl⟩
          rw [hz4]
          refine z_iload_n C 1 rfl rfl dX5_forget_37 ?_
          refine z_bipush C (v := 32) (by decide) dX5_forget_38 ?_
          refine z_icmp_ge C (tgt := 63) dX5_forget_40 (by decide) (fun h40_2 => ?_) (fun h40_2 => absurd (nI_le (a := 32) (b := 32) (Nat.le_refl _) (by omega)) h40_2)
          subst hz4
          subst hz3
          subst hz2
          exact ret _ _ _ (by first | rfl | (simp only [if_pos h19_1, if_pos h40_2, ↓reduceIte]; done) | (simp only [if_pos h19_1, if_pos h40_2, ↓reduceIte]; rfl) | (simp [if_pos h19_1, if_pos h40_2, ↓reduceIte]; done)) dX5_forget_63
        | succ n ih37 => 
          intro j hj
          refine z_iload_n C 1 rfl rfl dX5_forget_37 ?_
          refine z_bipush C (v := 32) (by decide) dX5_forget_38 ?_
          refine z_icmp_ge C (tgt := 63) dX5_forget_40 (by decide) (fun h40_3 => absurd h40_3 (nI_ge (a := j) (b := 32) (by omega) (by omega))) (fun h40_3 => ?_)
          refine z_aload_n C 0 rfl rfl dX5_forget_43 ?_
          refine z_get C (Cn := RX5) (T := TX5) (Nf := 20) (ci := 5) in5 0 14 l29 (v := .ref (a 7)) rfl rfl (by decide) rfl dX5_forget_44 ?_
          refine z_iload_n C 1 rfl rfl dX5_forget_47 ?_
          refine z_iconst C (v := (-1)) (by decide) dX5_forget_48 ?_
          obtain ⟨fz5, hz5⟩ : ∃ z : Nat → Int32, (upd (fgV (mVa M) j) j (-1)) = z := ⟨_, rfl⟩
          refine z_iast C 7 rfl (vp_in_nI (by omega) (by omega)) (g := fz5) (Eq.trans (by rw [nI_clamp (by omega)]) hz5) (V' := (wM E a N (msVa (msHo (msOp (msCm (msEn (msWa M 0) 0) 0) (fgO (mOp M) 3)) (fgV (mHo M) j)) fz5))) rfl dX5_forget_49 ?_
          refine z_aload_n C 0 rfl rfl dX5_forget_50 ?_
          refine z_get C (Cn := RX5) (T := TX5) (Nf := 20) (ci := 5) in5 0 16 l36 (v := .ref (a 9)) rfl rfl (by decide) rfl dX5_forget_51 ?_
          refine z_iload_n C 1 rfl rfl dX5_forget_54 ?_
          refine z_iconst C (v := (-1)) (by decide) dX5_forget_55 ?_
          obtain ⟨fz6, hz6⟩ : ∃ z : Nat → Int32, (upd (fgV (mHo M) j) j (-1)) = z := ⟨_, rfl⟩
          refine z_iast C 9 rfl (vp_in_nI (by omega) (by omega)) (g := fz6) (Eq.trans (by rw [nI_clamp (by omega)]) hz6) (V' := (wM E a N (msHo (msVa (msOp (msCm (msEn (msWa M 0) 0) 0) (fgO (mOp M) 3)) fz5) fz6))) rfl dX5_forget_56 ?_
          refine z_iinc C 1 rfl (v := (nI (j + 1))) (zinc _) (lv' := [(1, .int (nI (j + 1))), (0, .ref (a 0))]) rfl (by decide) dX5_forget_57 ?_
          refine z_goto C (tgt := 37) dX5_forget_60 (by decide) ?_
          subst hz6
          subst hz5
          refine z_lv (lv' := [(0, .ref (a 0)), (1, .int (nI (j + 1)))]) [1, 0] rfl ?_
          exact ih37 (j + 1)  (by omega)
      refine z_lv (lv' := [(0, .ref (a 0)), (1, .int 0)]) [1, 0] rfl ?_
      exact loop37 32 0  (by omega)
    | succ n ih17 => 
      intro j hj
      refine z_iload_n C 1 rfl rfl dX5_forget_17 ?_
      refine z_iconst C (v := 3) (by decide) dX5_forget_18 ?_
      refine z_icmp_ge C (tgt := 35) dX5_forget_19 (by decide) (fun h19_4 => absurd h19_4 (nI_ge (a := j) (b := 3) (by omega) (by omega))) (fun h19_4 => ?_)
      refine z_aload_n C 0 rfl rfl dX5_forget_22 ?_
      refine z_get C (Cn := RX5) (T := TX5) (Nf := 20) (ci := 5) in5 0 15 l32 (v := .ref (a 8)) rfl rfl (by decide) rfl dX5_forget_23 ?_
      refine z_iload_n C 1 rfl rfl dX5_forget_26 ?_
      refine z_iconst C (v := 0) (by decide) dX5_forget_27 ?_
      obtain ⟨fz7, hz7⟩ : ∃ z : Nat → Int32, (upd (fgO (mOp M) j) j 0) = z := ⟨_, rfl⟩
      refine z_zast C 8 rfl (vp_in_nI (by omega) (by omega)) (g := fz7) (Eq.trans (by rw [vz_0, nI_clamp (by omega)]) hz7) (V' := (wM E a N (msOp (msCm (msEn (msWa M 0) 0) 0) fz7))) rfl dX5_forget_28 ?_
      refine z_iinc C 1 rfl (v := (nI (j + 1))) (zinc _) (lv' := [(1, .int (nI (j + 1))), (0, .ref (a 0))]) rfl (by decide) dX5_forget_29 ?_
      refine z_goto C (tgt := 17) dX5_forget_32 (by decide) ?_
      subst hz7
      refine z_lv (lv' := [(0, .ref (a 0)), (1, .int (nI (j + 1)))]) [1, 0] rfl ?_
      exact ih17 (j + 1)  (by omega)
  refine z_lv (lv' := [(0, .ref (a 0)), (1, .int 0)]) [1, 0] rfl ?_
  exact loop17 3 0  (by omega)

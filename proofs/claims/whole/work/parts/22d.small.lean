abbrev rmX5_at : Room := { frames := 1, cells := 0, slots := 0, locals := 22 }
theorem hyX5_at : yX5_at.cls = RX5 ∧ yX5_at.cls ≠ "java/lang/invoke/MethodHandle" ∧ yX5_at.cls ≠ "java/lang/invoke/VarHandle" ∧ (parseMethodDescriptor yX5_at.desc).map (fun d => d.parameters.length) = some 2 := by decide +kernel
set_option maxHeartbeats 4000000 in
set_option maxRecDepth 3000 in
theorem c_X5_at (E : GE) (N : Nat) (hN : 16 ≤ N ∧ N ≤ 64) (a : Nat → Nat) (M : MS) (s : Int32) (i : Int32) : zI E yX5_at wsX5_at rmX5_at [.ref (a 0), .int s, .int i] (wM E a N M) (mAt N M s i) (wM E a N M) := by
  refine zI_of (cc := cX5_at) (maxL := 3) (ty := .int) (by decide) rfl (vp_nar_int _) (Nat.le_of_ble_eq_true rfl) ?_
  intro K C ret
  replace C : zC E K cX5_at wsX5_at RX5 rmX5_at 3 := C
  have in5 : ∀ w ∈ wsX50, w ∈ wsX5_at := fun w h => List.mem_cons_of_mem _ (List.mem_append_right _ (h))
  have l45 : zw K (.fieldLink RX5 45 "StoreLog3Model" "sectors" "I") := C.w (List.mem_cons_of_mem _ (List.mem_append_left _ (List.mem_of_getElem? (i := 0) rfl)))
  show Z E K 0 0 (wM E a N M) 0 [(0, .ref (a 0)), (1, .int s), (2, .int i)] []
  refine z_iload_n C 1 rfl rfl dX5_at_0 ?_
  refine z_iconst C (v := 0) (by decide) dX5_at_1 ?_
  refine z_aload_n C 0 rfl rfl dX5_at_2 ?_
  refine z_get C (Cn := RX5) (T := TX5) (Nf := 20) (ci := 5) in5 0 0 l45 (v := .int (nI N)) rfl rfl (by decide) rfl dX5_at_3 ?_
  refine z_iconst C (v := 1) (by decide) dX5_at_6 ?_
  refine z_isub C dX5_at_7 ?_
  refine z_rSI C (c_X5_isIn E s 0 ((nI N) - 1)) gX5_at_X5_isIn hyX5_isIn.2 rfl ⟨rfl, rfl⟩ ⟨by decide, by decide⟩ ⟨by decide, by decide⟩ [] rfl (by decide) (st := []) (Nat.le_of_ble_eq_true rfl) dX5_at_8 ?_ rfl
  refine z_if_eq C (tgt := 33) dX5_at_11 (by decide) (fun h11_1t => ?_) (fun h11_1f => ?_)
  · refine z_iconst C (v := (-1)) (by decide) dX5_at_33 ?_
    exact ret _ _ _ _ (by simp only [mAt, if_pos h11_1t, ↓reduceIte]) rfl dX5_at_34
  · refine z_iload_n C 2 rfl rfl dX5_at_14 ?_
    refine z_iconst C (v := 0) (by decide) dX5_at_15 ?_
    refine z_bipush C (v := 31) (by decide) dX5_at_16 ?_
    refine z_rSI C (c_X5_isIn E i 0 31) gX5_at_X5_isIn hyX5_isIn.2 rfl ⟨rfl, rfl⟩ ⟨by decide, by decide⟩ ⟨by decide, by decide⟩ [] rfl (by decide) (st := []) (Nat.le_of_ble_eq_true rfl) dX5_at_18 ?_ rfl
    refine z_if_eq C (tgt := 33) dX5_at_21 (by decide) (fun h21_2t => ?_) (fun h21_2f => ?_)
    · refine z_iconst C (v := (-1)) (by decide) dX5_at_33 ?_
      exact ret _ _ _ _ (by simp only [mAt, if_neg h11_1f, if_pos h21_2t, ↓reduceIte]) rfl dX5_at_34
    · obtain ⟨s1, hs1, rfl⟩ := mInSec hN h11_1f
      obtain ⟨i1, hi1, rfl⟩ := mIn31N h21_2f
      refine z_aload_n C 0 rfl rfl dX5_at_24 ?_
      refine z_iload_n C 1 rfl rfl dX5_at_25 ?_
      refine z_iload_n C 2 rfl rfl dX5_at_26 ?_
      refine z_rVI C (c_X5_byteAt E N hN a M s1 i1 (by omega)) gX5_at_X5_byteAt (ci := 5) (q0 := 0) rfl rfl hyX5_byteAt rfl ⟨rfl, rfl⟩ ⟨by decide, by decide⟩ ⟨by decide, by decide⟩ [0, 1, 2, 3, 4, 5, 6, 7, 8, 9, 10, 11] rfl (by decide) (st := []) (Nat.le_of_ble_eq_true rfl) dX5_at_27 ?_ rfl
      refine z_goto C (tgt := 34) dX5_at_30 (by decide) ?_
      exact ret _ _ _ _ (by first | (simp only [mAt, if_neg h11_1f, if_neg h21_2f, ↓reduceIte, nI_clamp (show s1 < 2 ^ 31 by omega), nI_clamp (show i1 < 2 ^ 31 by omega)]; done) | (simp only [mAt, if_neg h11_1f, if_neg h21_2f, ↓reduceIte, nI_clamp (show s1 < 2 ^ 31 by omega), nI_clamp (show i1 < 2 ^ 31 by omega)]; rfl)) rfl dX5_at_34
abbrev rmX5_sound : Room := { frames := 3, cells := 0, slots := 0, locals := 70 }
theorem hyX5_sound : yX5_sound.cls = RX5 ∧ yX5_sound.cls ≠ "java/lang/invoke/MethodHandle" ∧ yX5_sound.cls ≠ "java/lang/invoke/VarHandle" ∧ (parseMethodDescriptor yX5_sound.desc).map (fun d => d.parameters.length) = some 1 := by decide +kernel
set_option maxHeartbeats 4000000 in
set_option maxRecDepth 3000 in
theorem c_X5_sound (E : GE) (N : Nat) (hN : 16 ≤ N ∧ N ≤ 64) (a : Nat → Nat) (M : MS) (s : Int32) : zI E yX5_sound wsX5_sound rmX5_sound [.ref (a 0), .int s] (wM E a N M) (mSound N M s) (wM E a N M) := by
  refine zI_of (cc := cX5_sound) (maxL := 2) (ty := .boolean) (by decide) rfl (by unfold mSound; (repeat' split) <;> rfl) (Nat.le_of_ble_eq_true rfl) ?_
  intro K C ret
  replace C : zC E K cX5_sound wsX5_sound RX5 rmX5_sound 2 := C
  have in5 : ∀ w ∈ wsX50, w ∈ wsX5_sound := fun w h => List.mem_cons_of_mem _ (List.mem_append_right _ (h))
  have l45 : zw K (.fieldLink RX5 45 "StoreLog3Model" "sectors" "I") := C.w (List.mem_cons_of_mem _ (List.mem_append_left _ (List.mem_of_getElem? (i := 0) rfl)))
  show Z E K 0 0 (wM E a N M) 0 [(0, .ref (a 0)), (1, .int s)] []
  refine z_iload_n C 1 rfl rfl dX5_sound_0 ?_
  refine z_iconst C (v := 0) (by decide) dX5_sound_1 ?_
  refine z_aload_n C 0 rfl rfl dX5_sound_2 ?_
  refine z_get C (Cn := RX5) (T := TX5) (Nf := 20) (ci := 5) in5 0 0 l45 (v := .int (nI N)) rfl rfl (by decide) rfl dX5_sound_3 ?_
  refine z_iconst C (v := 1) (by decide) dX5_sound_6 ?_
  refine z_isub C dX5_sound_7 ?_
  refine z_rSI C (c_X5_isIn E s 0 ((nI N) - 1)) gX5_sound_X5_isIn hyX5_isIn.2 rfl ⟨rfl, rfl⟩ ⟨by decide, by decide⟩ ⟨by decide, by decide⟩ [] rfl (by decide) (st := []) (Nat.le_of_ble_eq_true rfl) dX5_sound_8 ?_ rfl
  refine z_if_eq C (tgt := 26) dX5_sound_11 (by decide) (fun h11_1t => ?_) (fun h11_1f => ?_)
  · refine z_iconst C (v := 0) (by decide) dX5_sound_26 ?_
    exact ret _ _ _ _ (by simp only [mSound, if_pos h11_1t, ↓reduceIte]) rfl dX5_sound_27
  · obtain ⟨s1, hs1, rfl⟩ := mInSec hN h11_1f
    refine z_aload_n C 0 rfl rfl dX5_sound_14 ?_
    refine z_iload_n C 1 rfl rfl dX5_sound_15 ?_
    refine z_rVI C (c_X5_isSound E N hN a M s1 (by omega)) gX5_sound_X5_isSound (ci := 5) (q0 := 0) rfl rfl hyX5_isSound rfl ⟨rfl, rfl⟩ ⟨by decide, by decide⟩ ⟨by decide, by decide⟩ [0, 1, 2, 3, 4, 5, 6, 7, 8, 9, 10, 11] rfl (by decide) (st := []) (Nat.le_of_ble_eq_true rfl) dX5_sound_16 ?_ rfl
    refine z_if_eq C (tgt := 26) dX5_sound_19 (by decide) (fun h19_2t => ?_) (fun h19_2f => ?_)
    · refine z_iconst C (v := 0) (by decide) dX5_sound_26 ?_
      exact ret _ _ _ _ (by first | (simp only [mSound, if_neg h11_1f, if_pos h19_2t, ↓reduceIte, nI_clamp (show s1 < 2 ^ 31 by omega)]; done) | (simp only [mSound, if_neg h11_1f, if_pos h19_2t, ↓reduceIte, nI_clamp (show s1 < 2 ^ 31 by omega)]; rfl)) rfl dX5_sound_27
    · refine z_iconst C (v := 1) (by decide) dX5_sound_22 ?_
      refine z_goto C (tgt := 27) dX5_sound_23 (by decide) ?_
      exact ret _ _ _ _ (by first | (simp only [mSound, if_neg h11_1f, if_neg h19_2f, ↓reduceIte, nI_clamp (show s1 < 2 ^ 31 by omega)]; done) | (simp only [mSound, if_neg h11_1f, if_neg h19_2f, ↓reduceIte, nI_clamp (show s1 < 2 ^ 31 by omega)]; rfl)) rfl dX5_sound_27
abbrev rmX5_poke : Room := { frames := 1, cells := 0, slots := 0, locals := 22 }
theorem hyX5_poke : yX5_poke.cls = RX5 ∧ yX5_poke.cls ≠ "java/lang/invoke/MethodHandle" ∧ yX5_poke.cls ≠ "java/lang/invoke/VarHandle" ∧ (parseMethodDescriptor yX5_poke.desc).map (fun d => d.parameters.length) = some 3 := by decide +kernel
set_option maxHeartbeats 4000000 in
set_option maxRecDepth 3000 in
theorem c_X5_poke (E : GE) (N : Nat) (hN : 16 ≤ N ∧ N ≤ 64) (a : Nat → Nat) (M : MS) (s : Int32) (i : Int32) (v : Int32) : zI E yX5_poke wsX5_poke rmX5_poke [.ref (a 0), .int s, .int i, .int v] (wM E a N M) ((mPoke N M s i v).1) (wM E a N ((mPoke N M s i v).2)) := by
  refine zI_of (cc := cX5_poke) (maxL := 4) (ty := .boolean) (by decide) rfl (nb01 (by unfold mPoke; (repeat' split) <;> first | exact Or.inl rfl | exact Or.inr rfl)) (Nat.le_of_ble_eq_true rfl) ?_
  intro K C ret
  replace C : zC E K cX5_poke wsX5_poke RX5 rmX5_poke 4 := C
  have in5 : ∀ w ∈ wsX50, w ∈ wsX5_poke := fun w h => List.mem_cons_of_mem _ (List.mem_append_right _ (h))
  have l7 : zw K (.fieldLink RX5 7 "StoreLog3Model" "disk" "[B") := C.w (List.mem_cons_of_mem _ (List.mem_append_left _ (List.mem_of_getElem? (i := 1) rfl)))
  have l45 : zw K (.fieldLink RX5 45 "StoreLog3Model" "sectors" "I") := C.w (List.mem_cons_of_mem _ (List.mem_append_left _ (List.mem_of_getElem? (i := 0) rfl)))
  show Z E K 0 0 (wM E a N M) 0 [(0, .ref (a 0)), (1, .int s), (2, .int i), (3, .int v)] []
  refine z_iload_n C 1 rfl rfl dX5_poke_0 ?_
  refine z_iconst C (v := 0) (by decide) dX5_poke_1 ?_
  refine z_aload_n C 0 rfl rfl dX5_poke_2 ?_
  refine z_get C (Cn := RX5) (T := TX5) (Nf := 20) (ci := 5) in5 0 0 l45 (v := .int (nI N)) rfl rfl (by decide) rfl dX5_poke_3 ?_
  refine z_iconst C (v := 1) (by decide) dX5_poke_6 ?_
  refine z_isub C dX5_poke_7 ?_
  refine z_rSI C (c_X5_isIn E s 0 ((nI N) - 1)) gX5_poke_X5_isIn hyX5_isIn.2 rfl ⟨rfl, rfl⟩ ⟨by decide, by decide⟩ ⟨by decide, by decide⟩ [] rfl (by decide) (st := []) (Nat.le_of_ble_eq_true rfl) dX5_poke_8 ?_ rfl
  refine z_if_eq C (tgt := 35) dX5_poke_11 (by decide) (fun h11_1t => ?_) (fun h11_1f => ?_)
  · refine z_iconst C (v := 0) (by decide) dX5_poke_35 ?_
    exact ret _ _ _ _ (by simp only [mPoke, if_pos h11_1t, ↓reduceIte]) (by simp only [mPoke, if_pos h11_1t, ↓reduceIte]) dX5_poke_36
  · refine z_iload_n C 2 rfl rfl dX5_poke_14 ?_
    refine z_iconst C (v := 0) (by decide) dX5_poke_15 ?_
    refine z_bipush C (v := 31) (by decide) dX5_poke_16 ?_
    refine z_rSI C (c_X5_isIn E i 0 31) gX5_poke_X5_isIn hyX5_isIn.2 rfl ⟨rfl, rfl⟩ ⟨by decide, by decide⟩ ⟨by decide, by decide⟩ [] rfl (by decide) (st := []) (Nat.le_of_ble_eq_true rfl) dX5_poke_18 ?_ rfl
    refine z_if_eq C (tgt := 35) dX5_poke_21 (by decide) (fun h21_2t => ?_) (fun h21_2f => ?_)
    · refine z_iconst C (v := 0) (by decide) dX5_poke_35 ?_
      exact ret _ _ _ _ (by simp only [mPoke, if_neg h11_1f, if_pos h21_2t, ↓reduceIte]) (by simp only [mPoke, if_neg h11_1f, if_pos h21_2t, ↓reduceIte]) dX5_poke_36
    · refine z_iload_n C 3 rfl rfl dX5_poke_24 ?_
      refine z_iconst C (v := 1) (by decide) dX5_poke_25 ?_
      refine z_sipush C (v := 255) (by decide) dX5_poke_26 ?_
      refine z_rSI C (c_X5_isIn E v 1 255) gX5_poke_X5_isIn hyX5_isIn.2 rfl ⟨rfl, rfl⟩ ⟨by decide, by decide⟩ ⟨by decide, by decide⟩ [] rfl (by decide) (st := []) (Nat.le_of_ble_eq_true rfl) dX5_poke_29 ?_ rfl
      refine z_if_ne C (tgt := 37) dX5_poke_32 (by decide) (fun h32_3t => ?_) (fun h32_3f => ?_)
      · obtain ⟨s1, hs1, rfl⟩ := mInSec hN h11_1f
        obtain ⟨i1, hi1, rfl⟩ := mIn31N h21_2f
        refine z_aload_n C 0 rfl rfl dX5_poke_37 ?_
        refine z_get C (Cn := RX5) (T := TX5) (Nf := 20) (ci := 5) in5 0 1 l7 (v := .ref (a 1)) rfl rfl (by decide) rfl dX5_poke_38 ?_
        refine z_bipush C (v := 32) (by decide) dX5_poke_41 ?_
        refine z_iload_n C 1 rfl rfl dX5_poke_43 ?_
        refine z_imul C dX5_poke_44 ?_
        refine z_top (y := (nI (32 * s1))) (zmul 32 s1) ?_
        refine z_iload_n C 2 rfl rfl dX5_poke_45 ?_
        refine z_iadd C dX5_poke_46 ?_
        refine z_top (y := (nI (32 * s1 + i1))) (nI_add _ _) ?_
        refine z_dup2 C rfl rfl dX5_poke_47 ?_
        refine z_bald C 1 rfl (vp_in_nI (by omega) (by omega)) (v := ((mDk M) (32 * s1 + i1))) (congrArg (mDk M) (nI_clamp (by omega))) dX5_poke_48 ?_
        refine z_iload_n C 3 rfl rfl dX5_poke_49 ?_
        refine z_i2b C (v := (b8 v)) rfl dX5_poke_50 ?_
        refine z_ixor C dX5_poke_51 ?_
        refine z_i2b C (v := (b8 (((mDk M) (32 * s1 + i1)) ^^^ (b8 v)))) rfl dX5_poke_52 ?_
        obtain ⟨fz1, hz1⟩ : ∃ z : Nat → Int32, (upd (mDk M) (32 * s1 + i1) (b8 (((mDk M) (32 * s1 + i1)) ^^^ (b8 v)))) = z := ⟨_, rfl⟩
        refine z_bast C 1 rfl (vp_in_nI (by omega) (by omega)) (g := fz1) (Eq.trans (by rw [b8_nar, nI_clamp (by omega)]) hz1) (V' := (wM E a N (msDk M fz1))) rfl dX5_poke_53 ?_
        refine z_iconst C (v := 1) (by decide) dX5_poke_54 ?_
        subst hz1
        exact ret _ _ _ _ (by first | (simp only [mPoke, if_neg h11_1f, if_neg h21_2f, if_neg h32_3t, ↓reduceIte, nI_clamp (show s1 < 2 ^ 31 by omega), nI_clamp (show i1 < 2 ^ 31 by omega)]; done) | (simp only [mPoke, if_neg h11_1f, if_neg h21_2f, if_neg h32_3t, ↓reduceIte, nI_clamp (show s1 < 2 ^ 31 by omega), nI_clamp (show i1 < 2 ^ 31 by omega)]; rfl)) (by first | (simp only [mPoke, if_neg h11_1f, if_neg h21_2f, if_neg h32_3t, ↓reduceIte, nI_clamp (show s1 < 2 ^ 31 by omega), nI_clamp (show i1 < 2 ^ 31 by omega)]; done) | (simp only [mPoke, if_neg h11_1f, if_neg h21_2f, if_neg h32_3t, ↓reduceIte, nI_clamp (show s1 < 2 ^ 31 by omega), nI_clamp (show i1 < 2 ^ 31 by omega)]; rfl)) dX5_poke_55
      · refine z_iconst C (v := 0) (by decide) dX5_poke_35 ?_
        exact ret _ _ _ _ (by simp only [mPoke, if_neg h11_1f, if_neg h21_2f, if_pos h32_3f, ↓reduceIte]) (by simp only [mPoke, if_neg h11_1f, if_neg h21_2f, if_pos h32_3f, ↓reduceIte]) dX5_poke_36
abbrev rmX5_count : Room := { frames := 1, cells := 0, slots := 0, locals := 20 }
theorem hyX5_count : yX5_count.cls = RX5 ∧ yX5_count.cls ≠ "java/lang/invoke/MethodHandle" ∧ yX5_count.cls ≠ "java/lang/invoke/VarHandle" ∧ (parseMethodDescriptor yX5_count.desc).map (fun d => d.parameters.length) = some 1 := by decide +kernel
set_option maxHeartbeats 4000000 in
set_option maxRecDepth 3000 in
theorem c_X5_count (E : GE) (N : Nat) (hN : 16 ≤ N ∧ N ≤ 64) (a : Nat → Nat) (M : MS) (q : Int32) : zI E yX5_count wsX5_count rmX5_count [.ref (a 0), .int q] (wM E a N M) (mCount M q) (wM E a N M) := by
  refine zI_of (cc := cX5_count) (maxL := 2) (ty := .int) (by decide) rfl (vp_nar_int _) (Nat.le_of_ble_eq_true rfl) ?_
  intro K C ret
  replace C : zC E K cX5_count wsX5_count RX5 rmX5_count 2 := C
  have in5 : ∀ w ∈ wsX50, w ∈ wsX5_count := fun w h => List.mem_cons_of_mem _ (List.mem_append_right _ (h))
  have l32 : zw K (.fieldLink RX5 32 "StoreLog3Model" "isOpen" "[Z") := C.w (List.mem_cons_of_mem _ (List.mem_append_left _ (List.mem_of_getElem? (i := 5) rfl)))
  have l52 : zw K (.fieldLink RX5 52 "StoreLog3Model" "waiting" "I") := C.w (List.mem_cons_of_mem _ (List.mem_append_left _ (List.mem_of_getElem? (i := 3) rfl)))
  have l55 : zw K (.fieldLink RX5 55 "StoreLog3Model" "entries" "I") := C.w (List.mem_cons_of_mem _ (List.mem_append_left _ (List.mem_of_getElem? (i := 4) rfl)))
  have l58 : zw K (.fieldLink RX5 58 "StoreLog3Model" "commits" "I") := C.w (List.mem_cons_of_mem _ (List.mem_append_left _ (List.mem_of_getElem? (i := 6) rfl)))
  have l64 : zw K (.fieldLink RX5 64 "StoreLog3Model" "isDown" "Z") := C.w (List.mem_cons_of_mem _ (List.mem_append_left _ (List.mem_of_getElem? (i := 0) rfl)))
  have l68 : zw K (.fieldLink RX5 68 "StoreLog3Model" "lastSector" "I") := C.w (List.mem_cons_of_mem _ (List.mem_append_left _ (List.mem_of_getElem? (i := 2) rfl)))
  have l71 : zw K (.fieldLink RX5 71 "StoreLog3Model" "lastSerial" "I") := C.w (List.mem_cons_of_mem _ (List.mem_append_left _ (List.mem_of_getElem? (i := 1) rfl)))
  show Z E K 0 0 (wM E a N M) 0 [(0, .ref (a 0)), (1, .int q)] []
  refine z_aload_n C 0 rfl rfl dX5_count_0 ?_
  refine z_get C (Cn := RX5) (T := TX5) (Nf := 20) (ci := 5) in5 0 2 l64 (v := .int (mDn M)) rfl rfl (by decide) rfl dX5_count_1 ?_
  refine z_if_eq C (tgt := 10) dX5_count_4 (by decide) (fun h4_1t => ?_) (fun h4_1f => ?_)
  · refine z_iload_n C 1 rfl rfl dX5_count_10 ?_
    by_cases hs11_0 : q = 0
    · subst hs11_0
      refine z_swIn C (tgt := 52) (off := 41) (by decide) (by decide) (by decide) dX5_count_11 (by decide) ?_
      refine z_aload_n C 0 rfl rfl dX5_count_52 ?_
      refine z_get C (Cn := RX5) (T := TX5) (Nf := 20) (ci := 5) in5 0 7 l71 (v := .int (mSe M)) rfl rfl (by decide) rfl dX5_count_53 ?_
      exact ret _ _ _ _ (by first | (simp only [mCount, if_pos h4_1t, ↓reduceIte]; done) | (simp only [mCount, if_pos h4_1t, ↓reduceIte]; rfl)) rfl dX5_count_56
    by_cases hs11_1 : q = 1
    · subst hs11_1
      refine z_swIn C (tgt := 57) (off := 46) (by decide) (by decide) (by decide) dX5_count_11 (by decide) ?_
      refine z_aload_n C 0 rfl rfl dX5_count_57 ?_
      refine z_get C (Cn := RX5) (T := TX5) (Nf := 20) (ci := 5) in5 0 6 l68 (v := .int (mSc M)) rfl rfl (by decide) rfl dX5_count_58 ?_
      exact ret _ _ _ _ (by first | (simp only [mCount, if_pos h4_1t, ↓reduceIte]; done) | (simp only [mCount, if_pos h4_1t, ↓reduceIte]; rfl)) rfl dX5_count_61
    by_cases hs11_2 : q = 2
    · subst hs11_2
      refine z_swIn C (tgt := 62) (off := 51) (by decide) (by decide) (by decide) dX5_count_11 (by decide) ?_
      refine z_aload_n C 0 rfl rfl dX5_count_62 ?_
      refine z_get C (Cn := RX5) (T := TX5) (Nf := 20) (ci := 5) in5 0 3 l52 (v := .int (mWa M)) rfl rfl (by decide) rfl dX5_count_63 ?_
      exact ret _ _ _ _ (by first | (simp only [mCount, if_pos h4_1t, ↓reduceIte]; done) | (simp only [mCount, if_pos h4_1t, ↓reduceIte]; rfl)) rfl dX5_count_66
    by_cases hs11_3 : q = 3
    · subst hs11_3
      refine z_swIn C (tgt := 67) (off := 56) (by decide) (by decide) (by decide) dX5_count_11 (by decide) ?_
      refine z_aload_n C 0 rfl rfl dX5_count_67 ?_
      refine z_get C (Cn := RX5) (T := TX5) (Nf := 20) (ci := 5) in5 0 10 l55 (v := .int (mEn M)) rfl rfl (by decide) rfl dX5_count_68 ?_
      exact ret _ _ _ _ (by first | (simp only [mCount, if_pos h4_1t, ↓reduceIte]; done) | (simp only [mCount, if_pos h4_1t, ↓reduceIte]; rfl)) rfl dX5_count_71
    by_cases hs11_4 : q = 4
    · subst hs11_4
      refine z_swIn C (tgt := 72) (off := 61) (by decide) (by decide) (by decide) dX5_count_11 (by decide) ?_
      refine z_aload_n C 0 rfl rfl dX5_count_72 ?_
      refine z_rVI C (c_X5_needed E N hN a M) gX5_count_X5_needed (ci := 5) (q0 := 0) rfl rfl hyX5_needed rfl ⟨rfl, rfl⟩ ⟨by decide, by decide⟩ ⟨by decide, by decide⟩ [0, 1, 2, 3, 4, 5, 6, 7, 8, 9, 10, 11] rfl (by decide) (st := []) (Nat.le_of_ble_eq_true rfl) dX5_count_73 ?_ rfl
      exact ret _ _ _ _ (by first | (simp only [mCount, if_pos h4_1t, ↓reduceIte]; done) | (simp only [mCount, if_pos h4_1t, ↓reduceIte]; rfl)) rfl dX5_count_76
    by_cases hs11_5 : q = 5
    · subst hs11_5
      refine z_swIn C (tgt := 77) (off := 66) (by decide) (by decide) (by decide) dX5_count_11 (by decide) ?_
      refine z_aload_n C 0 rfl rfl dX5_count_77 ?_
      refine z_get C (Cn := RX5) (T := TX5) (Nf := 20) (ci := 5) in5 0 15 l32 (v := .ref (a 8)) rfl rfl (by decide) rfl dX5_count_78 ?_
      refine z_iconst C (v := 0) (by decide) dX5_count_81 ?_
      refine z_zald C 8 rfl (vp_in_nI (n := 0) (by omega) (by omega)) (v := ((mOp M) 0)) rfl dX5_count_82 ?_
      refine z_if_eq C (tgt := 90) dX5_count_83 (by decide) (fun h83_2t => ?_) (fun h83_2f => ?_)
      · refine z_iconst C (v := 0) (by decide) dX5_count_90 ?_
        refine z_aload_n C 0 rfl rfl dX5_count_91 ?_
        refine z_get C (Cn := RX5) (T := TX5) (Nf := 20) (ci := 5) in5 0 15 l32 (v := .ref (a 8)) rfl rfl (by decide) rfl dX5_count_92 ?_
        refine z_iconst C (v := 1) (by decide) dX5_count_95 ?_
        refine z_zald C 8 rfl (vp_in_nI (n := 1) (by omega) (by omega)) (v := ((mOp M) 1)) rfl dX5_count_96 ?_
        refine z_if_eq C (tgt := 104) dX5_count_97 (by decide) (fun h97_3t => ?_) (fun h97_3f => ?_)
        · refine z_iconst C (v := 0) (by decide) dX5_count_104 ?_
          refine z_iadd C dX5_count_105 ?_
          refine z_aload_n C 0 rfl rfl dX5_count_106 ?_
          refine z_get C (Cn := RX5) (T := TX5) (Nf := 20) (ci := 5) in5 0 15 l32 (v := .ref (a 8)) rfl rfl (by decide) rfl dX5_count_107 ?_
          refine z_iconst C (v := 2) (by decide) dX5_count_110 ?_
          refine z_zald C 8 rfl (vp_in_nI (n := 2) (by omega) (by omega)) (v := ((mOp M) 2)) rfl dX5_count_111 ?_
          refine z_if_eq C (tgt := 119) dX5_count_112 (by decide) (fun h112_4t => ?_) (fun h112_4f => ?_)
          · refine z_iconst C (v := 0) (by decide) dX5_count_119 ?_
            refine z_iadd C dX5_count_120 ?_
            exact ret _ _ _ _ (by first | (simp only [mCount, if_pos h4_1t, if_pos h83_2t, if_pos h97_3t, if_pos h112_4t, ↓reduceIte]; done) | (simp only [mCount, if_pos h4_1t, if_pos h83_2t, if_pos h97_3t, if_pos h112_4t, ↓reduceIte]; rfl)) rfl dX5_count_121
          · refine z_iconst C (v := 4) (by decide) dX5_count_115 ?_
            refine z_goto C (tgt := 120) dX5_count_116 (by decide) ?_
            refine z_iadd C dX5_count_120 ?_
            exact ret _ _ _ _ (by first | (simp only [mCount, if_pos h4_1t, if_pos h83_2t, if_pos h97_3t, if_neg h112_4f, ↓reduceIte]; done) | (simp only [mCount, if_pos h4_1t, if_pos h83_2t, if_pos h97_3t, if_neg h112_4f, ↓reduceIte]; rfl)) rfl dX5_count_121
        · refine z_iconst C (v := 2) (by decide) dX5_count_100 ?_
          refine z_goto C (tgt := 105) dX5_count_101 (by decide) ?_
          refine z_iadd C dX5_count_105 ?_
          refine z_aload_n C 0 rfl rfl dX5_count_106 ?_
          refine z_get C (Cn := RX5) (T := TX5) (Nf := 20) (ci := 5) in5 0 15 l32 (v := .ref (a 8)) rfl rfl (by decide) rfl dX5_count_107 ?_
          refine z_iconst C (v := 2) (by decide) dX5_count_110 ?_
          refine z_zald C 8 rfl (vp_in_nI (n := 2) (by omega) (by omega)) (v := ((mOp M) 2)) rfl dX5_count_111 ?_
          refine z_if_eq C (tgt := 119) dX5_count_112 (by decide) (fun h112_5t => ?_) (fun h112_5f => ?_)
          · refine z_iconst C (v := 0) (by decide) dX5_count_119 ?_
            refine z_iadd C dX5_count_120 ?_
            exact ret _ _ _ _ (by first | (simp only [mCount, if_pos h4_1t, if_pos h83_2t, if_neg h97_3f, if_pos h112_5t, ↓reduceIte]; done) | (simp only [mCount, if_pos h4_1t, if_pos h83_2t, if_neg h97_3f, if_pos h112_5t, ↓reduceIte]; rfl)) rfl dX5_count_121
          · refine z_iconst C (v := 4) (by decide) dX5_count_115 ?_
            refine z_goto C (tgt := 120) dX5_count_116 (by decide) ?_
            refine z_iadd C dX5_count_120 ?_
            exact ret _ _ _ _ (by first | (simp only [mCount, if_pos h4_1t, if_pos h83_2t, if_neg h97_3f, if_neg h112_5f, ↓reduceIte]; done) | (simp only [mCount, if_pos h4_1t, if_pos h83_2t, if_neg h97_3f, if_neg h112_5f, ↓reduceIte]; rfl)) rfl dX5_count_121
      · refine z_iconst C (v := 1) (by decide) dX5_count_86 ?_
        refine z_goto C (tgt := 91) dX5_count_87 (by decide) ?_
        refine z_aload_n C 0 rfl rfl dX5_count_91 ?_
        refine z_get C (Cn := RX5) (T := TX5) (Nf := 20) (ci := 5) in5 0 15 l32 (v := .ref (a 8)) rfl rfl (by decide) rfl dX5_count_92 ?_
        refine z_iconst C (v := 1) (by decide) dX5_count_95 ?_
        refine z_zald C 8 rfl (vp_in_nI (n := 1) (by omega) (by omega)) (v := ((mOp M) 1)) rfl dX5_count_96 ?_
        refine z_if_eq C (tgt := 104) dX5_count_97 (by decide) (fun h97_6t => ?_) (fun h97_6f => ?_)
        · refine z_iconst C (v := 0) (by decide) dX5_count_104 ?_
          refine z_iadd C dX5_count_105 ?_
          refine z_aload_n C 0 rfl rfl dX5_count_106 ?_
          refine z_get C (Cn := RX5) (T := TX5) (Nf := 20) (ci := 5) in5 0 15 l32 (v := .ref (a 8)) rfl rfl (by decide) rfl dX5_count_107 ?_
          refine z_iconst C (v := 2) (by decide) dX5_count_110 ?_
          refine z_zald C 8 rfl (vp_in_nI (n := 2) (by omega) (by omega)) (v := ((mOp M) 2)) rfl dX5_count_111 ?_
          refine z_if_eq C (tgt := 119) dX5_count_112 (by decide) (fun h112_7t => ?_) (fun h112_7f => ?_)
          · refine z_iconst C (v := 0) (by decide) dX5_count_119 ?_
            refine z_iadd C dX5_count_120 ?_
            exact ret _ _ _ _ (by first | (simp only [mCount, if_pos h4_1t, if_neg h83_2f, if_pos h97_6t, if_pos h112_7t, ↓reduceIte]; done) | (simp only [mCount, if_pos h4_1t, if_neg h83_2f, if_pos h97_6t, if_pos h112_7t, ↓reduceIte]; rfl)) rfl dX5_count_121
          · refine z_iconst C (v := 4) (by decide) dX5_count_115 ?_
            refine z_goto C (tgt := 120) dX5_count_116 (by decide) ?_
            refine z_iadd C dX5_count_120 ?_
            exact ret _ _ _ _ (by first | (simp only [mCount, if_pos h4_1t, if_neg h83_2f, if_pos h97_6t, if_neg h112_7f, ↓reduceIte]; done) | (simp only [mCount, if_pos h4_1t, if_neg h83_2f, if_pos h97_6t, if_neg h112_7f, ↓reduceIte]; rfl)) rfl dX5_count_121
        · refine z_iconst C (v := 2) (by decide) dX5_count_100 ?_
          refine z_goto C (tgt := 105) dX5_count_101 (by decide) ?_
          refine z_iadd C dX5_count_105 ?_
          refine z_aload_n C 0 rfl rfl dX5_count_106 ?_
          refine z_get C (Cn := RX5) (T := TX5) (Nf := 20) (ci := 5) in5 0 15 l32 (v := .ref (a 8)) rfl rfl (by decide) rfl dX5_count_107 ?_
          refine z_iconst C (v := 2) (by decide) dX5_count_110 ?_
          refine z_zald C 8 rfl (vp_in_nI (n := 2) (by omega) (by omega)) (v := ((mOp M) 2)) rfl dX5_count_111 ?_
          refine z_if_eq C (tgt := 119) dX5_count_112 (by decide) (fun h112_8t => ?_) (fun h112_8f => ?_)
          · refine z_iconst C (v := 0) (by decide) dX5_count_119 ?_
            refine z_iadd C dX5_count_120 ?_
            exact ret _ _ _ _ (by first | (simp only [mCount, if_pos h4_1t, if_neg h83_2f, if_neg h97_6f, if_pos h112_8t, ↓reduceIte]; done) | (simp only [mCount, if_pos h4_1t, if_neg h83_2f, if_neg h97_6f, if_pos h112_8t, ↓reduceIte]; rfl)) rfl dX5_count_121
          · refine z_iconst C (v := 4) (by decide) dX5_count_115 ?_
            refine z_goto C (tgt := 120) dX5_count_116 (by decide) ?_
            refine z_iadd C dX5_count_120 ?_
            exact ret _ _ _ _ (by first | (simp only [mCount, if_pos h4_1t, if_neg h83_2f, if_neg h97_6f, if_neg h112_8f, ↓reduceIte]; done) | (simp only [mCount, if_pos h4_1t, if_neg h83_2f, if_neg h97_6f, if_neg h112_8f, ↓reduceIte]; rfl)) rfl dX5_count_121
    by_cases hs11_6 : q = 6
    · subst hs11_6
      refine z_swIn C (tgt := 122) (off := 111) (by decide) (by decide) (by decide) dX5_count_11 (by decide) ?_
      refine z_aload_n C 0 rfl rfl dX5_count_122 ?_
      refine z_get C (Cn := RX5) (T := TX5) (Nf := 20) (ci := 5) in5 0 18 l58 (v := .int (mCm M)) rfl rfl (by decide) rfl dX5_count_123 ?_
      exact ret _ _ _ _ (by first | (simp only [mCount, if_pos h4_1t, ↓reduceIte]; done) | (simp only [mCount, if_pos h4_1t, ↓reduceIte]; rfl)) rfl dX5_count_126
    refine z_swOut C (tgt := 127) (zsw7 hs11_0 hs11_1 hs11_2 hs11_3 hs11_4 hs11_5 hs11_6) dX5_count_11 (by decide) ?_
    refine z_iconst C (v := (-1)) (by decide) dX5_count_127 ?_
    exact ret _ _ _ _ (by first | (simp only [mCount, if_pos h4_1t, if_neg hs11_0, if_neg hs11_1, if_neg hs11_2, if_neg hs11_3, if_neg hs11_4, if_neg hs11_5, if_neg hs11_6, ↓reduceIte]; done) | (simp only [mCount, if_pos h4_1t, if_neg hs11_0, if_neg hs11_1, if_neg hs11_2, if_neg hs11_3, if_neg hs11_4, if_neg hs11_5, if_neg hs11_6, ↓reduceIte]; rfl)) rfl dX5_count_128
  · refine z_bipush C (v := (-3)) (by decide) dX5_count_7 ?_
    exact ret _ _ _ _ (by first | (simp only [mCount, if_neg h4_1f, ↓reduceIte]; done) | (simp only [mCount, if_neg h4_1f, ↓reduceIte]; rfl)) rfl dX5_count_9

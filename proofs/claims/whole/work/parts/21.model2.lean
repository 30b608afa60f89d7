/-! Part 21: the reference, second half: the disk is read -/
def bA (d : Nat → Int32) (s i : Nat) : Int32 := d (32 * s + i) &&& 255
theorem and255 (x : Int32) : 0 ≤ (x &&& 255).toInt ∧ (x &&& 255).toInt ≤ 255 := by
  rw [pk_and x (m := 255) 8 rfl, nI_toInt (by omega)]
  omega
theorem bA_rng (d : Nat → Int32) (s i : Nat) : 0 ≤ (bA d s i).toInt ∧ (bA d s i).toInt ≤ 255 := and255 _
theorem bA_nI (d : Nat → Int32) (s i : Nat) : bA d s i = nI (bA d s i).toNatClampNeg := ztoNI (bA_rng d s i).1
theorem bA_lt (d : Nat → Int32) (s i : Nat) : (bA d s i).toNatClampNeg ≤ 255 := by
  have := bA_rng d s i
  have e : (bA d s i).toNatClampNeg = (bA d s i).toInt.toNat := rfl
  omega
theorem bA_le {d : Nat → Int32} {s i : Nat} {k : Int32} {n : Nat} (hk : k.toInt = n) (h : ¬ k < bA d s i) : (bA d s i).toNatClampNeg ≤ n := by
  have a := bA_rng d s i
  have e : (bA d s i).toNatClampNeg = (bA d s i).toInt.toNat := rfl
  rw [Int32.lt_iff_toInt_lt] at h
  omega
theorem zdivc {u : Nat} (hu : u < 2 ^ 31) : nI u / 4 = nI (u / 4) := pk_div (d := 4) hu (by omega) (by omega)
def nA (d : Nat → Int32) (s u : Nat) : Nat → Int32
  | 0 => 0
  | n + 1 => (nA d s u n <<< (8 &&& 31)) ||| bA d s (u + n)
def smA (d : Nat → Int32) (s : Nat) : Nat → Int32
  | 0 => nI s + 1
  | n + 1 => stpM (smA d s n) (bA d s n)
def mSnd (d : Nat → Int32) (s : Nat) : Int32 := if nA d s 28 4 = smA d s 28 then 1 else 0
def tg0 (d : Nat → Int32) (s : Nat) : Int32 := if mSnd d s = 0 then 0 else if bA d s 0 = 1 then (if bA d s 5 < 1 then 0 else if 4 < bA d s 5 then 0 else 1) else if bA d s 0 = 2 then (if 5 < bA d s 5 then 0 else if bA d s 27 ≤ bA d s 26 then 0 else 1) else 0
def teG (d : Nat → Int32) (s j : Nat) : Int32 := if bA d s 0 = 1 then (if 12 ≤ bA d s (6 + 5 * j) then 0 else if 32 ≤ bA d s (7 + 5 * j) then 0 else 1) else if 32 ≤ bA d s (6 + 4 * j) then 0 else 1
def teL (d : Nat → Int32) (s : Nat) : Nat → Nat → Int32 → Int32
  | 0, _, g => g
  | n + 1, j, g => if g = 0 then g else teL d s n (j + 1) (teG d s j)
def mTell (d : Nat → Int32) (s : Nat) : Int32 := teL d s (bA d s 5).toNatClampNeg 0 (tg0 d s)
theorem teG_01 (d : Nat → Int32) (s j : Nat) : teG d s j = 0 ∨ teG d s j = 1 := by
  unfold teG
  (repeat' split) <;> first | exact Or.inl rfl | exact Or.inr rfl
theorem tg0_01 (d : Nat → Int32) (s : Nat) : tg0 d s = 0 ∨ tg0 d s = 1 := by
  unfold tg0
  (repeat' split) <;> first | exact Or.inl rfl | exact Or.inr rfl
theorem teL_01 (d : Nat → Int32) (s : Nat) : ∀ n j g, (g = 0 ∨ g = 1) → (teL d s n j g = 0 ∨ teL d s n j g = 1) := by
  intro n
  induction n with
  | zero => intro j g h; exact h
  | succ n ih =>
    intro j g h
    unfold teL
    split
    · exact h
    · exact ih _ _ (teG_01 d s j)
theorem mTell_01 (d : Nat → Int32) (s : Nat) : mTell d s = 0 ∨ mTell d s = 1 := teL_01 d s _ _ _ (tg0_01 d s)
theorem tg0_5 {d : Nat → Int32} {s : Nat} (h : ¬ tg0 d s = 0) : (bA d s 5).toNatClampNeg ≤ 5 := by
  unfold tg0 at h
  split at h
  · exact absurd rfl h
  · split at h
    · split at h
      · exact absurd rfl h
      · split at h
        · exact absurd rfl h
        · next h4 => exact Nat.le_succ_of_le (bA_le (n := 4) rfl h4)
    · split at h
      · split at h
        · exact absurd rfl h
        · next h4 => exact bA_le (n := 5) rfl h4
      · exact absurd rfl h
def mpG (N : Nat) (d : Nat → Int32) (s j : Nat) : Int32 := if mTell d ((s + j) % N) = 0 then 0 else if bA d ((s + j) % N) 0 = 2 then (if bA d ((s + j) % N) 26 = nI j then (if bA d ((s + j) % N) 27 = bA d s 27 then (if nA d ((s + j) % N) 1 4 = nA d s 1 4 + nI j then 1 else 0) else 0) else 0) else 0
def mpL (N : Nat) (d : Nat → Int32) (s : Nat) : Nat → Nat → Int32 → Int32
  | 0, _, h => h
  | n + 1, j, h => if h = 0 then h else mpL N d s n (j + 1) (mpG N d s j)
def mp0 (N : Nat) (d : Nat → Int32) (s : Nat) : Int32 := if nI N < bA d s 27 then 0 else 1
def mPgs (N : Nat) (d : Nat → Int32) (s : Nat) : Int32 := if mpL N d s (bA d s 27).toNatClampNeg 0 (mp0 N d s) = 0 then 0 else bA d s 27
def rdH (d : Nat → Int32) (s j : Nat) : Nat := (bA d s (6 + 5 * j)).toNatClampNeg
def rdK (d : Nat → Int32) (s j : Nat) : Nat := (bA d s (7 + 5 * j)).toNatClampNeg
abbrev QS : Type := (Nat → Int32) × (Nat → Int32) × (Nat → Int32) × (Nat → Int32)
noncomputable def rdS (d : Nat → Int32) (s j : Nat) (x : QS) : QS := if 2 ≤ nI (rdH d s j % 4) then (if nI (rdH d s j % 4) = 2 then (upd x.1 (rdH d s j / 4) 0, (mRl (nI (rdH d s j / 4)) 1 x.2.2.2 x.2.1 x.2.2.1).2.1, (mRl (nI (rdH d s j / 4)) 1 x.2.2.2 x.2.1 x.2.2.1).2.2, x.2.2.2) else (upd x.1 (rdH d s j / 4) 0, (mRl (nI (rdH d s j / 4)) 0 x.2.2.2 x.2.1 x.2.2.1).2.1, (mRl (nI (rdH d s j / 4)) 0 x.2.2.2 x.2.1 x.2.2.1).2.2, x.2.2.2)) else (upd x.1 (rdH d s j / 4) 1, x.2.1, upd x.2.2.1 (rdK d s j) (nI (rdH d s j / 4)), upd x.2.2.2 (rdK d s j) (if nI (rdH d s j % 4) = 1 then -1 else nA d s (8 + 5 * j) 3))
noncomputable def rdLp (d : Nat → Int32) (s : Nat) : Nat → Nat → QS → QS
  | 0, _, x => x
  | n + 1, j, x => rdLp d s n (j + 1) (rdS d s j x)
noncomputable def mRedo (d : Nat → Int32) (s : Nat) (x : QS) : QS := hide (rdLp d s (bA d s 5).toNatClampNeg 0 x)
abbrev rmX5_byteAt : Room := { frames := 0, cells := 0, slots := 0, locals := 0 }
theorem hyX5_byteAt : yX5_byteAt.cls = RX5 ∧ yX5_byteAt.cls ≠ "java/lang/invoke/MethodHandle" ∧ yX5_byteAt.cls ≠ "java/lang/invoke/VarHandle" ∧ (parseMethodDescriptor yX5_byteAt.desc).map (fun d => d.parameters.length) = some 2 := by decide +kernel
set_option maxHeartbeats 4000000 in
set_option maxRecDepth 3000 in
theorem c_X5_byteAt (E : GE) (N : Nat) (hN : 16 ≤ N ∧ N ≤ 64) (a : Nat → Nat) (M : MS) (s : Nat) (i : Nat) (hi : 32 * s + i < 2048) : zI E yX5_byteAt wsX5_byteAt rmX5_byteAt [.ref (a 0), .int (nI s), .int (nI i)] (wM E a N M) (bA (mDk M) s i) (wM E a N M) := by
  refine zI_of (cc := cX5_byteAt) (maxL := 3) (ty := .int) (by decide) rfl (vp_nar_int _) (Nat.le_of_ble_eq_true rfl) ?_
  intro K C ret
  replace C : zC E K cX5_byteAt wsX5_byteAt RX5 rmX5_byteAt 3 := C
  have in5 : ∀ w ∈ wsX50, w ∈ wsX5_byteAt := fun w h => List.mem_cons_of_mem _ (List.mem_append_right _ (h))
  have l7 : zw K (.fieldLink RX5 7 "StoreLog3Model" "disk" "[B") := C.w (List.mem_cons_of_mem _ (List.mem_append_left _ (List.mem_of_getElem? (i := 0) rfl)))
  show Z E K 0 0 (wM E a N M) 0 [(0, .ref (a 0)), (1, .int (nI s)), (2, .int (nI i))] []
  refine z_aload_n C 0 rfl rfl dX5_byteAt_0 ?_
  refine z_get C (Cn := RX5) (T := TX5) (Nf := 20) (ci := 5) in5 0 1 l7 (v := .ref (a 1)) rfl rfl (by decide) rfl dX5_byteAt_1 ?_
  refine z_bipush C (v := 32) (by decide) dX5_byteAt_4 ?_
  refine z_iload_n C 1 rfl rfl dX5_byteAt_6 ?_
  refine z_imul C dX5_byteAt_7 ?_
  refine z_top (y := (nI (32 * s))) (zmul 32 s) ?_
  refine z_iload_n C 2 rfl rfl dX5_byteAt_8 ?_
  refine z_iadd C dX5_byteAt_9 ?_
  refine z_top (y := (nI (32 * s + i))) (nI_add _ _) ?_
  refine z_bald C 1 rfl (vp_in_nI (by omega) (by omega)) (v := ((mDk M) (32 * s + i))) (congrArg (mDk M) (nI_clamp (by omega))) dX5_byteAt_10 ?_
  refine z_sipush C (v := 255) (by decide) dX5_byteAt_11 ?_
  refine z_iand C dX5_byteAt_14 ?_
  exact ret _ _ _ _ (by first | rfl | (simp only [↓reduceIte]; done) | (simp only [↓reduceIte]; rfl) | (simp [↓reduceIte]; done)) rfl dX5_byteAt_15
abbrev rmX5_numberAt : Room := { frames := 1, cells := 0, slots := 0, locals := 22 }
theorem hyX5_numberAt : yX5_numberAt.cls = RX5 ∧ yX5_numberAt.cls ≠ "java/lang/invoke/MethodHandle" ∧ yX5_numberAt.cls ≠ "java/lang/invoke/VarHandle" ∧ (parseMethodDescriptor yX5_numberAt.desc).map (fun d => d.parameters.length) = some 3 := by decide +kernel
set_option maxHeartbeats 4000000 in
set_option maxRecDepth 3000 in
theorem c_X5_numberAt (E : GE) (N : Nat) (hN : 16 ≤ N ∧ N ≤ 64) (a : Nat → Nat) (M : MS) (s : Nat) (u : Nat) (b : Nat) (hu : b ≤ 4 ∧ 32 * s + u + b ≤ 2048) : zI E yX5_numberAt wsX5_numberAt rmX5_numberAt [.ref (a 0), .int (nI s), .int (nI u), .int (nI b)] (wM E a N M) (nA (mDk M) s u b) (wM E a N M) := by
  refine zI_of (cc := cX5_numberAt) (maxL := 6) (ty := .int) (by decide) rfl (vp_nar_int _) (Nat.le_of_ble_eq_true rfl) ?_
  intro K C ret
  replace C : zC E K cX5_numberAt wsX5_numberAt RX5 rmX5_numberAt 6 := C
  show Z E K 0 0 (wM E a N M) 0 [(0, .ref (a 0)), (1, .int (nI s)), (2, .int (nI u)), (3, .int (nI b))] []
  refine z_iconst C (v := 0) (by decide) dX5_numberAt_0 ?_
  refine z_istore C (lv' := [(4, .int 0), (0, .ref (a 0)), (1, .int (nI s)), (2, .int (nI u)), (3, .int (nI b))]) rfl (by decide) dX5_numberAt_1 ?_
  refine z_iconst C (v := 0) (by decide) dX5_numberAt_3 ?_
  refine z_istore C (lv' := [(5, .int 0), (4, .int 0), (0, .ref (a 0)), (1, .int (nI s)), (2, .int (nI u)), (3, .int (nI b))]) rfl (by decide) dX5_numberAt_4 ?_
  have loop6 : ∀ (n j : Nat), j + n = b → Z E K 0 0 (wM E a N M) 6 [(0, .ref (a 0)), (1, .int (nI s)), (2, .int (nI u)), (3, .int (nI b)), (4, .int (nA (mDk M) s u j)), (5, .int (nI j))] [] := by
    intro n
    induction n with
    | zero => 
      intro j hj
      obtain rfl : b = j := by omega
      refine z_iload C 5 rfl dX5_numberAt_6 ?_
      refine z_iload_n C 3 rfl rfl dX5_numberAt_8 ?_
      refine z_icmp_ge C (tgt := 35) dX5_numberAt_9 (by decide) (fun h9_1 => ?_) (fun h9_1 => absurd (nI_le (a := b) (b := b) (Nat.le_refl _) (by omega)) h9_1)
      refine z_iload C 4 rfl dX5_numberAt_35 ?_
      exact ret _ _ _ _ (by first | rfl | (simp only [if_pos h9_1, ↓reduceIte]; done) | (simp only [if_pos h9_1, ↓reduceIte]; rfl) | (simp [if_pos h9_1, ↓reduceIte]; done)) rfl dX5_numberAt_37
    | succ n ih6 => 
      intro j hj
      refine z_iload C 5 rfl dX5_numberAt_6 ?_
      refine z_iload_n C 3 rfl rfl dX5_numberAt_8 ?_
      refine z_icmp_ge C (tgt := 35) dX5_numberAt_9 (by decide) (fun h9_2 => absurd h9_2 (nI_ge (a := j) (b := b) (by omega) (by omega))) (fun h9_2 => ?_)
      refine z_iload C 4 rfl dX5_numberAt_12 ?_
      refine z_bipush C (v := 8) (by decide) dX5_numberAt_14 ?_
      refine z_ishl C dX5_numberAt_16 ?_
      refine z_aload_n C 0 rfl rfl dX5_numberAt_17 ?_
      refine z_iload_n C 1 rfl rfl dX5_numberAt_18 ?_
      refine z_iload_n C 2 rfl rfl dX5_numberAt_19 ?_
      refine z_iload C 5 rfl dX5_numberAt_20 ?_
      refine z_iadd C dX5_numberAt_22 ?_
      refine z_top (y := (nI (u + j))) (nI_add _ _) ?_
      refine z_rVI C (c_X5_byteAt E N hN a M s (u + j) (by omega)) gX5_numberAt_X5_byteAt (ci := 5) (q0 := 0) rfl rfl hyX5_byteAt rfl ⟨rfl, rfl⟩ ⟨by decide, by decide⟩ ⟨by decide, by decide⟩ [0, 1, 2, 3, 4, 5, 6, 7, 8, 9, 10, 11] rfl (by decide) (st := [.int ((nA (mDk M) s u j) <<< (8 &&& 31))]) (Nat.le_of_ble_eq_true rfl) dX5_numberAt_23 ?_ rfl
      refine z_ior C dX5_numberAt_26 ?_
      refine z_istore C (lv' := [(4, .int (((nA (mDk M) s u j) <<< (8 &&& 31)) ||| (bA (mDk M) s (u + j)))), (0, .ref (a 0)), (1, .int (nI s)), (2, .int (nI u)), (3, .int (nI b)), (5, .int (nI j))]) rfl (by decide) dX5_numberAt_27 ?_
      refine z_iinc C 5 rfl (v := (nI (j + 1))) (zinc _) (lv' := [(5, .int (nI (j + 1))), (4, .int (((nA (mDk M) s u j) <<< (8 &&& 31)) ||| (bA (mDk M) s (u + j)))), (0, .ref (a 0)), (1, .int (nI s)), (2, .int (nI u)), (3, .int (nI b))]) rfl (by decide) dX5_numberAt_29 ?_
      refine z_goto C (tgt := 6) dX5_numberAt_32 (by decide) ?_
      refine z_lv (lv' := [(0, .ref (a 0)), (1, .int (nI s)), (2, .int (nI u)), (3, .int (nI b)), (4, .int (((nA (mDk M) s u j) <<< (8 &&& 31)) ||| (bA (mDk M) s (u + j)))), (5, .int (nI (j + 1)))]) [2, 3, 4, 5, 1, 0] rfl ?_
      exact ih6 (j + 1)  (by omega)
  refine z_lv (lv' := [(0, .ref (a 0)), (1, .int (nI s)), (2, .int (nI u)), (3, .int (nI b)), (4, .int 0), (5, .int 0)]) [2, 3, 4, 5, 1, 0] rfl ?_
  exact loop6 b 0  (by omega)
abbrev rmX5_isSound : Room := { frames := 2, cells := 0, slots := 0, locals := 47 }
theorem hyX5_isSound : yX5_isSound.cls = RX5 ∧ yX5_isSound.cls ≠ "java/lang/invoke/MethodHandle" ∧ yX5_isSound.cls ≠ "java/lang/invoke/VarHandle" ∧ (parseMethodDescriptor yX5_isSound.desc).map (fun d => d.parameters.length) = some 1 := by decide +kernel
set_option maxHeartbeats 4000000 in
set_option maxRecDepth 3000 in
theorem c_X5_isSound (E : GE) (N : Nat) (hN : 16 ≤ N ∧ N ≤ 64) (a : Nat → Nat) (M : MS) (s : Nat) (hs : s < 64) : zI E yX5_isSound wsX5_isSound rmX5_isSound [.ref (a 0), .int (nI s)] (wM E a N M) (mSnd (mDk M) s) (wM E a N M) := by
  refine zI_of (cc := cX5_isSound) (maxL := 4) (ty := .boolean) (by decide) rfl (by unfold mSnd; (repeat' split) <;> rfl) (Nat.le_of_ble_eq_true rfl) ?_
  intro K C ret
  replace C : zC E K cX5_isSound wsX5_isSound RX5 rmX5_isSound 4 := C
  show Z E K 0 0 (wM E a N M) 0 [(0, .ref (a 0)), (1, .int (nI s))] []
  refine z_iload_n C 1 rfl rfl dX5_isSound_0 ?_
  refine z_iconst C (v := 1) (by decide) dX5_isSound_1 ?_
  refine z_iadd C dX5_isSound_2 ?_
  refine z_istore_n C (lv' := [(2, .int ((nI s) + 1)), (0, .ref (a 0)), (1, .int (nI s))]) rfl rfl (by decide) dX5_isSound_3 ?_
  refine z_iconst C (v := 0) (by decide) dX5_isSound_4 ?_
  refine z_istore_n C (lv' := [(3, .int 0), (2, .int ((nI s) + 1)), (0, .ref (a 0)), (1, .int (nI s))]) rfl rfl (by decide) dX5_isSound_5 ?_
  have loop6 : ∀ (n j : Nat), j + n = 28 → Z E K 0 0 (wM E a N M) 6 [(0, .ref (a 0)), (1, .int (nI s)), (2, .int (smA (mDk M) s j)), (3, .int (nI j))] [] := by
    intro n
    induction n with
    | zero => 
      intro j hj
      obtain rfl : j = 28 := by omega
      refine z_iload_n C 3 rfl rfl dX5_isSound_6 ?_
      refine z_bipush C (v := 28) (by decide) dX5_isSound_7 ?_
      refine z_icmp_ge C (tgt := 29) dX5_isSound_9 (by decide) (fun h9_1 => ?_) (fun h9_1 => absurd (nI_le (a := 28) (b := 28) (Nat.le_refl _) (by omega)) h9_1)
      refine z_aload_n C 0 rfl rfl dX5_isSound_29 ?_
      refine z_iload_n C 1 rfl rfl dX5_isSound_30 ?_
      refine z_bipush C (v := 28) (by decide) dX5_isSound_31 ?_
      refine z_iconst C (v := 4) (by decide) dX5_isSound_33 ?_
      refine z_rVI C (c_X5_numberAt E N hN a M s 28 4 (by omega)) gX5_isSound_X5_numberAt (ci := 5) (q0 := 0) rfl rfl hyX5_numberAt rfl ⟨rfl, rfl⟩ ⟨by decide, by decide⟩ ⟨by decide, by decide⟩ [0, 1, 2, 3, 4, 5, 6, 7, 8, 9, 10, 11] rfl (by decide) (st := []) (Nat.le_of_ble_eq_true rfl) dX5_isSound_34 ?_ rfl
      refine z_iload_n C 2 rfl rfl dX5_isSound_37 ?_
      refine z_icmp_ne C (tgt := 45) dX5_isSound_38 (by decide) (fun h38_2t => ?_) (fun h38_2f => ?_)
      · refine z_iconst C (v := 0) (by decide) dX5_isSound_45 ?_
        exact ret _ _ _ _ (by first | rfl | (simp only [mSnd, if_pos h9_1, if_neg h38_2t, ↓reduceIte]; done) | (simp only [mSnd, if_pos h9_1, if_neg h38_2t, ↓reduceIte]; rfl) | (simp [mSnd, if_pos h9_1, if_neg h38_2t, ↓reduceIte]; done)) rfl dX5_isSound_46
      · refine z_iconst C (v := 1) (by decide) dX5_isSound_41 ?_
        refine z_goto C (tgt := 46) dX5_isSound_42 (by decide) ?_
        exact ret _ _ _ _ (by first | rfl | (simp only [mSnd, if_pos h9_1, if_pos h38_2f, ↓reduceIte]; done) | (simp only [mSnd, if_pos h9_1, if_pos h38_2f, ↓reduceIte]; rfl) | (simp [mSnd, if_pos h9_1, if_pos h38_2f, ↓reduceIte]; done)) rfl dX5_isSound_46
    | succ n ih6 => 
      intro j hj
      refine z_iload_n C 3 rfl rfl dX5_isSound_6 ?_
      refine z_bipush C (v := 28) (by decide) dX5_isSound_7 ?_
      refine z_icmp_ge C (tgt := 29) dX5_isSound_9 (by decide) (fun h9_3 => absurd h9_3 (nI_ge (a := j) (b := 28) (by omega) (by omega))) (fun h9_3 => ?_)
      refine z_iload_n C 2 rfl rfl dX5_isSound_12 ?_
      refine z_aload_n C 0 rfl rfl dX5_isSound_13 ?_
      refine z_iload_n C 1 rfl rfl dX5_isSound_14 ?_
      refine z_iload_n C 3 rfl rfl dX5_isSound_15 ?_
      refine z_rVI C (c_X5_byteAt E N hN a M s j (by omega)) gX5_isSound_X5_byteAt (ci := 5) (q0 := 0) rfl rfl hyX5_byteAt rfl ⟨rfl, rfl⟩ ⟨by decide, by decide⟩ ⟨by decide, by decide⟩ [0, 1, 2, 3, 4, 5, 6, 7, 8, 9, 10, 11] rfl (by decide) (st := [.int (smA (mDk M) s j)]) (Nat.le_of_ble_eq_true rfl) dX5_isSound_16 ?_ rfl
      refine z_rSI C (c_X5_step E (smA (mDk M) s j) (bA (mDk M) s j)) gX5_isSound_X5_step hyX5_step.2 rfl ⟨rfl, rfl⟩ ⟨by decide, by decide⟩ ⟨by decide, by decide⟩ [] rfl (by decide) (st := []) (Nat.le_of_ble_eq_true rfl) dX5_isSound_19 ?_ rfl
      refine z_istore_n C (lv' := [(2, .int (stpM (smA (mDk M) s j) (bA (mDk M) s j))), (0, .ref (a 0)), (1, .int (nI s)), (3, .int (nI j))]) rfl rfl (by decide) dX5_isSound_22 ?_
      refine z_iinc C 3 rfl (v := (nI (j + 1))) (zinc _) (lv' := [(3, .int (nI (j + 1))), (2, .int (stpM (smA (mDk M) s j) (bA (mDk M) s j))), (0, .ref (a 0)), (1, .int (nI s))]) rfl (by decide) dX5_isSound_23 ?_
      refine z_goto C (tgt := 6) dX5_isSound_26 (by decide) ?_
      refine z_lv (lv' := [(0, .ref (a 0)), (1, .int (nI s)), (2, .int (stpM (smA (mDk M) s j) (bA (mDk M) s j))), (3, .int (nI (j + 1)))]) [2, 3, 1, 0] rfl ?_
      exact ih6 (j + 1)  (by omega)
  refine z_lv (lv' := [(0, .ref (a 0)), (1, .int (nI s)), (2, .int ((nI s) + 1)), (3, .int 0)]) [2, 3, 1, 0] rfl ?_
  exact loop6 28 0  (by omega)
abbrev rmX5_serialAt : Room := { frames := 2, cells := 0, slots := 0, locals := 47 }
theorem hyX5_serialAt : yX5_serialAt.cls = RX5 ∧ yX5_serialAt.cls ≠ "java/lang/invoke/MethodHandle" ∧ yX5_serialAt.cls ≠ "java/lang/invoke/VarHandle" ∧ (parseMethodDescriptor yX5_serialAt.desc).map (fun d => d.parameters.length) = some 1 := by decide +kernel
set_option maxHeartbeats 4000000 in
set_option maxRecDepth 3000 in
theorem c_X5_serialAt (E : GE) (N : Nat) (hN : 16 ≤ N ∧ N ≤ 64) (a : Nat → Nat) (M : MS) (s : Nat) (hs : s < 64) : zI E yX5_serialAt wsX5_serialAt rmX5_serialAt [.ref (a 0), .int (nI s)] (wM E a N M) (nA (mDk M) s 1 4) (wM E a N M) := by
  refine zI_of (cc := cX5_serialAt) (maxL := 2) (ty := .int) (by decide) rfl (vp_nar_int _) (Nat.le_of_ble_eq_true rfl) ?_
  intro K C ret
  replace C : zC E K cX5_serialAt wsX5_serialAt RX5 rmX5_serialAt 2 := C
  show Z E K 0 0 (wM E a N M) 0 [(0, .ref (a 0)), (1, .int (nI s))] []
  refine z_aload_n C 0 rfl rfl dX5_serialAt_0 ?_
  refine z_iload_n C 1 rfl rfl dX5_serialAt_1 ?_
  refine z_iconst C (v := 1) (by decide) dX5_serialAt_2 ?_
  refine z_iconst C (v := 4) (by decide) dX5_serialAt_3 ?_
  refine z_rVI C (c_X5_numberAt E N hN a M s 1 4 (by omega)) gX5_serialAt_X5_numberAt (ci := 5) (q0 := 0) rfl rfl hyX5_numberAt rfl ⟨rfl, rfl⟩ ⟨by decide, by decide⟩ ⟨by decide, by decide⟩ [0, 1, 2, 3, 4, 5, 6, 7, 8, 9, 10, 11] rfl (by decide) (st := []) (Nat.le_of_ble_eq_true rfl) dX5_serialAt_4 ?_ rfl
  exact ret _ _ _ _ (by first | rfl | (simp only [↓reduceIte]; done) | (simp only [↓reduceIte]; rfl) | (simp [↓reduceIte]; done)) rfl dX5_serialAt_7
abbrev rmX5_tells : Room := { frames := 3, cells := 0, slots := 0, locals := 70 }
theorem hyX5_tells : yX5_tells.cls = RX5 ∧ yX5_tells.cls ≠ "java/lang/invoke/MethodHandle" ∧ yX5_tells.cls ≠ "java/lang/invoke/VarHandle" ∧ (parseMethodDescriptor yX5_tells.desc).map (fun d => d.parameters.length) = some 1 := by decide +kernel
set_option maxHeartbeats 4000000 in
set_option maxRecDepth 3000 in
theorem c_X5_tells (E : GE) (N : Nat) (hN : 16 ≤ N ∧ N ≤ 64) (a : Nat → Nat) (M : MS) (s : Nat) (hs : s < 64) : zI E yX5_tells wsX5_tells rmX5_tells [.ref (a 0), .int (nI s)] (wM E a N M) (mTell (mDk M) s) (wM E a N M) := by
  refine zI_of (cc := cX5_tells) (maxL := 6) (ty := .boolean) (by decide) rfl (nb01 (mTell_01 _ s)) (Nat.le_of_ble_eq_true rfl) ?_
  intro K C ret
  replace C : zC E K cX5_tells wsX5_tells RX5 rmX5_tells 6 := C
  show Z E K 0 0 (wM E a N M) 0 [(0, .ref (a 0)), (1, .int (nI s))] []
  have join74 : ∀ (g : Int32), tg0 (mDk M) s = g → Z E K 0 0 (wM E a N M) 74 [(0, .ref (a 0)), (1, .int (nI s)), (2, .int (bA (mDk M) s 0)), (3, .int (bA (mDk M) s 5)), (4, .int g)] [] := by
    intro g hgg
    refine z_iconst C (v := 0) (by decide) dX5_tells_74 ?_
    refine z_istore C (lv' := [(5, .int 0), (0, .ref (a 0)), (1, .int (nI s)), (2, .int (bA (mDk M) s 0)), (3, .int (bA (mDk M) s 5)), (4, .int g)]) rfl (by decide) dX5_tells_75 ?_
    have loop77 : ∀ (n j : Nat) (g1 : Int32), j + n = (bA (mDk M) s 5).toNatClampNeg → (¬ g1 = 0 → (bA (mDk M) s 5).toNatClampNeg ≤ 5) → teL (mDk M) s n j g1 = teL (mDk M) s (bA (mDk M) s 5).toNatClampNeg 0 g → Z E K 0 0 (wM E a N M) 77 [(0, .ref (a 0)), (1, .int (nI s)), (2, .int (bA (mDk M) s 0)), (3, .int (bA (mDk M) s 5)), (4, .int g1), (5, .int (nI j))] [] := by
      intro n
      induction n with
      | zero => 
        intro j g1 hj hg5 hT
        have hjB : j = (bA (mDk M) s 5).toNatClampNeg := by omega
        subst hjB
        refine z_iload C 5 rfl dX5_tells_77 ?_
        refine z_iload_n C 3 rfl rfl dX5_tells_79 ?_
        refine z_icmp_ge C (tgt := 165) dX5_tells_80 (by decide) (fun h80_1 => ?_) (fun h80_1 => absurd zclY h80_1)
        refine z_iload C 4 rfl dX5_tells_165 ?_
        exact ret _ _ _ _ (by unfold mTell; rw [hgg, ← hT]; first | rfl | (simp only [teL, if_pos h80_1, ↓reduceIte]; done)) rfl dX5_tells_167
      | succ n ih77 => 
        intro j g1 hj hg5 hT
        refine z_iload C 5 rfl dX5_tells_77 ?_
        refine z_iload_n C 3 rfl rfl dX5_tells_79 ?_
        refine z_icmp_ge C (tgt := 165) dX5_tells_80 (by decide) (fun h80_2 => absurd h80_2 (zclN hj)) (fun h80_2 => ?_)
        refine z_iload C 4 rfl dX5_tells_83 ?_
        refine z_if_eq C (tgt := 165) dX5_tells_85 (by decide) (fun h85_3t => ?_) (fun h85_3f => ?_)
        · refine z_iload C 4 rfl dX5_tells_165 ?_
          exact ret _ _ _ _ (by unfold mTell; rw [hgg, ← hT]; first | rfl | (simp only [teL, if_neg h80_2, if_pos h85_3t, ↓reduceIte]; done)) rfl dX5_tells_167
        · have h5 : (bA (mDk M) s 5).toNatClampNeg ≤ 5 := hg5 h85_3f
          refine z_iload_n C 2 rfl rfl dX5_tells_88 ?_
          refine z_iconst C (v := 1) (by decide) dX5_tells_89 ?_
          refine z_icmp_ne C (tgt := 135) dX5_tells_90 (by decide) (fun h90_4t => ?_) (fun h90_4f => ?_)
          · refine z_aload_n C 0 rfl rfl dX5_tells_135 ?_
            refine z_iload_n C 1 rfl rfl dX5_tells_136 ?_
            refine z_bipush C (v := 6) (by decide) dX5_tells_137 ?_
            refine z_iconst C (v := 4) (by decide) dX5_tells_139 ?_
            refine z_iload C 5 rfl dX5_tells_140 ?_
            refine z_imul C dX5_tells_142 ?_
            refine z_top (y := (nI (4 * j))) (zmul 4 j) ?_
            refine z_iadd C dX5_tells_143 ?_
            refine z_top (y := (nI (6 + 4 * j))) (nI_add 6 _) ?_
            refine z_rVI C (c_X5_byteAt E N hN a M s (6 + 4 * j) (by omega)) gX5_tells_X5_byteAt (ci := 5) (q0 := 0) rfl rfl hyX5_byteAt rfl ⟨rfl, rfl⟩ ⟨by decide, by decide⟩ ⟨by decide, by decide⟩ [0, 1, 2, 3, 4, 5, 6, 7, 8, 9, 10, 11] rfl (by decide) (st := []) (Nat.le_of_ble_eq_true rfl) dX5_tells_144 ?_ rfl
            refine z_bipush C (v := 32) (by decide) dX5_tells_147 ?_
            refine z_icmp_ge C (tgt := 156) dX5_tells_149 (by decide) (fun h149_5t => ?_) (fun h149_5f => ?_)
            · refine z_iconst C (v := 0) (by decide) dX5_tells_156 ?_
              refine z_istore C (lv' := [(4, .int 0), (0, .ref (a 0)), (1, .int (nI s)), (2, .int (bA (mDk M) s 0)), (3, .int (bA (mDk M) s 5)), (5, .int (nI j))]) rfl (by decide) dX5_tells_157 ?_
              refine z_iinc C 5 rfl (v := (nI (j + 1))) (zinc _) (lv' := [(5, .int (nI (j + 1))), (4, .int 0), (0, .ref (a 0)), (1, .int (nI s)), (2, .int (bA (mDk M) s 0)), (3, .int (bA (mDk M) s 5))]) rfl (by decide) dX5_tells_159 ?_
              refine z_goto C (tgt := 77) dX5_tells_162 (by decide) ?_
              refine z_lv (lv' := [(0, .ref (a 0)), (1, .int (nI s)), (2, .int (bA (mDk M) s 0)), (3, .int (bA (mDk M) s 5)), (4, .int 0), (5, .int (nI (j + 1)))]) [2, 3, 4, 5, 1, 0] rfl ?_
              exact ih77 (j + 1) _ (by omega) (fun _ => h5) (by rw [← hT]; simp only [teL, teG, if_neg h80_2, if_neg h85_3f, if_neg h90_4t, if_pos h149_5t, ↓reduceIte])
            · refine z_iconst C (v := 1) (by decide) dX5_tells_152 ?_
              refine z_goto C (tgt := 157) dX5_tells_153 (by decide) ?_
              refine z_istore C (lv' := [(4, .int 1), (0, .ref (a 0)), (1, .int (nI s)), (2, .int (bA (mDk M) s 0)), (3, .int (bA (mDk M) s 5)), (5, .int (nI j))]) rfl (by decide) dX5_tells_157 ?_
              refine z_iinc C 5 rfl (v := (nI (j + 1))) (zinc _) (lv' := [(5, .int (nI (j + 1))), (4, .int 1), (0, .ref (a 0)), (1, .int (nI s)), (2, .int (bA (mDk M) s 0)), (3, .int (bA (mDk M) s 5))]) rfl (by decide) dX5_tells_159 ?_
              refine z_goto C (tgt := 77) dX5_tells_162 (by decide) ?_
              refine z_lv (lv' := [(0, .ref (a 0)), (1, .int (nI s)), (2, .int (bA (mDk M) s 0)), (3, .int (bA (mDk M) s 5)), (4, .int 1), (5, .int (nI (j + 1)))]) [2, 3, 4, 5, 1, 0] rfl ?_
              exact ih77 (j + 1) _ (by omega) (fun _ => h5) (by rw [← hT]; simp only [teL, teG, if_neg h80_2, if_neg h85_3f, if_neg h90_4t, if_neg h149_5f, ↓reduceIte])
          · refine z_aload_n C 0 rfl rfl dX5_tells_93 ?_
            refine z_iload_n C 1 rfl rfl dX5_tells_94 ?_
            refine z_bipush C (v := 6) (by decide) dX5_tells_95 ?_
            refine z_iconst C (v := 5) (by decide) dX5_tells_97 ?_
            refine z_iload C 5 rfl dX5_tells_98 ?_
            refine z_imul C dX5_tells_100 ?_
            refine z_top (y := (nI (5 * j))) (zmul 5 j) ?_
            refine z_iadd C dX5_tells_101 ?_
            refine z_top (y := (nI (6 + 5 * j))) (nI_add 6 _) ?_
            refine z_rVI C (c_X5_byteAt E N hN a M s (6 + 5 * j) (by omega)) gX5_tells_X5_byteAt (ci := 5) (q0 := 0) rfl rfl hyX5_byteAt rfl ⟨rfl, rfl⟩ ⟨by decide, by decide⟩ ⟨by decide, by decide⟩ [0, 1, 2, 3, 4, 5, 6, 7, 8, 9, 10, 11] rfl (by decide) (st := []) (Nat.le_of_ble_eq_true rfl) dX5_tells_102 ?_ rfl
            refine z_bipush C (v := 12) (by decide) dX5_tells_105 ?_
            refine z_icmp_ge C (tgt := 131) dX5_tells_107 (by decide) (fun h107_6t => ?_) (fun h107_6f => ?_)
            · refine z_iconst C (v := 0) (by decide) dX5_tells_131 ?_
              refine z_goto C (tgt := 157) dX5_tells_132 (by decide) ?_
              refine z_istore C (lv' := [(4, .int 0), (0, .ref (a 0)), (1, .int (nI s)), (2, .int (bA (mDk M) s 0)), (3, .int (bA (mDk M) s 5)), (5, .int (nI j))]) rfl (by decide) dX5_tells_157 ?_
              refine z_iinc C 5 rfl (v := (nI (j + 1))) (zinc _) (lv' := [(5, .int (nI (j + 1))), (4, .int 0), (0, .ref (a 0)), (1, .int (nI s)), (2, .int (bA (mDk M) s 0)), (3, .int (bA (mDk M) s 5))]) rfl (by decide) dX5_tells_159 ?_
              refine z_goto C (tgt := 77) dX5_tells_162 (by decide) ?_
              refine z_lv (lv' := [(0, .ref (a 0)), (1, .int (nI s)), (2, .int (bA (mDk M) s 0)), (3, .int (bA (mDk M) s 5)), (4, .int 0), (5, .int (nI (j + 1)))]) [2, 3, 4, 5, 1, 0] rfl ?_
              exact ih77 (j + 1) _ (by omega) (fun _ => h5) (by rw [← hT]; simp only [teL, teG, if_neg h80_2, if_neg h85_3f, if_pos h90_4f, if_pos h107_6t, ↓reduceIte])
            · refine z_aload_n C 0 rfl rfl dX5_tells_110 ?_
              refine z_iload_n C 1 rfl rfl dX5_tells_111 ?_
              refine z_bipush C (v := 7) (by decide) dX5_tells_112 ?_
              refine z_iconst C (v := 5) (by decide) dX5_tells_114 ?_
              refine z_iload C 5 rfl dX5_tells_115 ?_
              refine z_imul C dX5_tells_117 ?_
              refine z_top (y := (nI (5 * j))) (zmul 5 j) ?_
              refine z_iadd C dX5_tells_118 ?_
              refine z_top (y := (nI (7 + 5 * j))) (nI_add 7 _) ?_
              refine z_rVI C (c_X5_byteAt E N hN a M s (7 + 5 * j) (by omega)) gX5_tells_X5_byteAt (ci := 5) (q0 := 0) rfl rfl hyX5_byteAt rfl ⟨rfl, rfl⟩ ⟨by decide, by decide⟩ ⟨by decide, by decide⟩ [0, 1, 2, 3, 4, 5, 6, 7, 8, 9, 10, 11] rfl (by decide) (st := []) (Nat.le_of_ble_eq_true rfl) dX5_tells_119 ?_ rfl
              refine z_bipush C (v := 32) (by decide) dX5_tells_122 ?_
              refine z_icmp_ge C (tgt := 131) dX5_tells_124 (by decide) (fun h124_7t => ?_) (fun h124_7f => ?_)
              · refine z_iconst C (v := 0) (by decide) dX5_tells_131 ?_
                refine z_goto C (tgt := 157) dX5_tells_132 (by decide) ?_
                refine z_istore C (lv' := [(4, .int 0), (0, .ref (a 0)), (1, .int (nI s)), (2, .int (bA (mDk M) s 0)), (3, .int (bA (mDk M) s 5)), (5, .int (nI j))]) rfl (by decide) dX5_tells_157 ?_
                refine z_iinc C 5 rfl (v := (nI (j + 1))) (zinc _) (lv' := [(5, .int (nI (j + 1))), (4, .int 0), (0, .ref (a 0)), (1, .int (nI s)), (2, .int (bA (mDk M) s 0)), (3, .int (bA (mDk M) s 5))]) rfl (by decide) dX5_tells_159 ?_
                refine z_goto C (tgt := 77) dX5_tells_162 (by decide) ?_
                refine z_lv (lv' := [(0, .ref (a 0)), (1, .int (nI s)), (2, .int (bA (mDk M) s 0)), (3, .int (bA (mDk M) s 5)), (4, .int 0), (5, .int (nI (j + 1)))]) [2, 3, 4, 5, 1, 0] rfl ?_
                exact ih77 (j + 1) _ (by omega) (fun _ => h5) (by rw [← hT]; simp only [teL, teG, if_neg h80_2, if_neg h85_3f, if_pos h90_4f, if_neg h107_6f, if_pos h124_7t, ↓reduceIte])
              · refine z_iconst C (v := 1) (by decide) dX5_tells_127 ?_
                refine z_goto C (tgt := 157) dX5_tells_128 (by decide) ?_
                refine z_istore C (lv' := [(4, .int 1), (0, .ref (a 0)), (1, .int (nI s)), (2, .int (bA (mDk M) s 0)), (3, .int (bA (mDk M) s 5)), (5, .int (nI j))]) rfl (by decide) dX5_tells_157 ?_
                refine z_iinc C 5 rfl (v := (nI (j + 1))) (zinc _) (lv' := [(5, .int (nI (j + 1))), (4, .int 1), (0, .ref (a 0)), (1, .int (nI s)), (2, .int (bA (mDk M) s 0)), (3, .int (bA (mDk M) s 5))]) rfl (by decide) dX5_tells_159 ?_
                refine z_goto C (tgt := 77) dX5_tells_162 (by decide) ?_
                refine z_lv (lv' := [(0, .ref (a 0)), (1, .int (nI s)), (2, .int (bA (mDk M) s 0)), (3, .int (bA (mDk M) s 5)), (4, .int 1), (5, .int (nI (j + 1)))]) [2, 3, 4, 5, 1, 0] rfl ?_
                exact ih77 (j + 1) _ (by omega) (fun _ => h5) (by rw [← hT]; simp only [teL, teG, if_neg h80_2, if_neg h85_3f, if_pos h90_4f, if_neg h107_6f, if_neg h124_7f, ↓reduceIte])
    refine z_lv (lv' := [(0, .ref (a 0)), (1, .int (nI s)), (2, .int (bA (mDk M) s 0)), (3, .int (bA (mDk M) s 5)), (4, .int g), (5, .int 0)]) [1, 2, 3, 4, 5, 0] rfl ?_
    exact loop77 (bA (mDk M) s 5).toNatClampNeg 0 g (by omega) (fun q => tg0_5 (by rw [hgg]; exact q)) rfl
  refine z_aload_n C 0 rfl rfl dX5_tells_0 ?_
  refine z_iload_n C 1 rfl rfl dX5_tells_1 ?_
  refine z_iconst C (v := 0) (by decide) dX5_tells_2 ?_
  refine z_rVI C (c_X5_byteAt E N hN a M s 0 (by omega)) gX5_tells_X5_byteAt (ci := 5) (q0 := 0) rfl rfl hyX5_byteAt rfl ⟨rfl, rfl⟩ ⟨by decide, by decide⟩ ⟨by decide, by decide⟩ [0, 1, 2, 3, 4, 5, 6, 7, 8, 9, 10, 11] rfl (by decide) (st := []) (Nat.le_of_ble_eq_true rfl) dX5_tells_3 ?_ rfl
  refine z_istore_n C (lv' := [(2, .int (bA (mDk M) s 0)), (0, .ref (a 0)), (1, .int (nI s))]) rfl rfl (by decide) dX5_tells_6 ?_
  refine z_aload_n C 1 rfl rfl dX5_tells_7 ?_
  refine z_iload_n C 2 rfl rfl dX5_tells_8 ?_
  refine z_iconst C (v := 5) (by decide) dX5_tells_9 ?_
  refine z_rVI C (c_X5_byteAt E N hN a M s 5 (by omega)) gX5_tells_X5_byteAt (ci := 5) (q0 := 0) rfl rfl hyX5_byteAt rfl ⟨rfl, rfl⟩ ⟨by decide, by decide⟩ ⟨by decide, by decide⟩ [0, 1, 2, 3, 4, 5, 6, 7, 8, 9, 10, 11] rfl (by decide) (st := []) (Nat.le_of_ble_eq_true rfl) dX5_tells_10 ?_ rfl
  refine z_istore_n C (lv' := [(3, .int (bA (mDk M) s 5)), (2, .int (bA (mDk M) s 0)), (0, .ref (a 0)), (1, .int (nI s))]) rfl rfl (by decide) dX5_tells_13 ?_
  refine z_aload_n C 2 rfl rfl dX5_tells_14 ?_
  refine z_iload_n C 3 rfl rfl dX5_tells_15 ?_
  refine z_rVI C (c_X5_isSound E N hN a M s hs) gX5_tells_X5_isSound (ci := 5) (q0 := 0) rfl rfl hyX5_isSound rfl ⟨rfl, rfl⟩ ⟨by decide, by decide⟩ ⟨by decide, by decide⟩ [0, 1, 2, 3, 4, 5, 6, 7, 8, 9, 10, 11] rfl (by decide) (st := []) (Nat.le_of_ble_eq_true rfl) dX5_tells_16 ?_ rfl
  refine z_if_eq C (tgt := 71) dX5_tells_19 (by decide) (fun h19_8t => ?_) (fun h19_8f => ?_)
  · refine z_iconst C (v := 0) (by decide) dX5_tells_71 ?_
    refine z_istore C (lv' := [(4, .int 0), (3, .int (bA (mDk M) s 5)), (2, .int (bA (mDk M) s 0)), (0, .ref (a 0)), (1, .int (nI s))]) rfl (by decide) dX5_tells_72 ?_
    refine z_lv (lv' := [(0, .ref (a 0)), (1, .int (nI s)), (2, .int (bA (mDk M) s 0)), (3, .int (bA (mDk M) s 5)), (4, .int 0)]) [3, 4, 2, 1, 0] rfl ?_
    exact join74 _ (by simp only [tg0, if_pos h19_8t, ↓reduceIte])
  · refine z_iload_n C 1 rfl rfl dX5_tells_22 ?_
    refine z_iconst C (v := 1) (by decide) dX5_tells_23 ?_
    refine z_icmp_ne C (tgt := 40) dX5_tells_24 (by decide) (fun h24_9t => ?_) (fun h24_9f => ?_)
    · refine z_iload_n C 1 rfl rfl dX5_tells_40 ?_
      refine z_iconst C (v := 2) (by decide) dX5_tells_41 ?_
      refine z_icmp_ne C (tgt := 71) dX5_tells_42 (by decide) (fun h42_10t => ?_) (fun h42_10f => ?_)
      · refine z_iconst C (v := 0) (by decide) dX5_tells_71 ?_
        refine z_istore C (lv' := [(4, .int 0), (3, .int (bA (mDk M) s 5)), (2, .int (bA (mDk M) s 0)), (0, .ref (a 0)), (1, .int (nI s))]) rfl (by decide) dX5_tells_72 ?_
        refine z_lv (lv' := [(0, .ref (a 0)), (1, .int (nI s)), (2, .int (bA (mDk M) s 0)), (3, .int (bA (mDk M) s 5)), (4, .int 0)]) [3, 4, 2, 1, 0] rfl ?_
        exact join74 _ (by simp only [tg0, if_neg h19_8f, if_neg h24_9t, if_neg h42_10t, ↓reduceIte])
      · refine z_iload_n C 0 rfl rfl dX5_tells_45 ?_
        refine z_iconst C (v := 5) (by decide) dX5_tells_46 ?_
        refine z_icmp_gt C (tgt := 71) dX5_tells_47 (by decide) (fun h47_11t => ?_) (fun h47_11f => ?_)
        · refine z_iconst C (v := 0) (by decide) dX5_tells_71 ?_
          refine z_istore C (lv' := [(4, .int 0), (3, .int (bA (mDk M) s 5)), (2, .int (bA (mDk M) s 0)), (0, .ref (a 0)), (1, .int (nI s))]) rfl (by decide) dX5_tells_72 ?_
          refine z_lv (lv' := [(0, .ref (a 0)), (1, .int (nI s)), (2, .int (bA (mDk M) s 0)), (3, .int (bA (mDk M) s 5)), (4, .int 0)]) [3, 4, 2, 1, 0] rfl ?_
          exact join74 _ (by simp only [tg0, if_neg h19_8f, if_neg h24_9t, if_pos h42_10f, if_pos h47_11t, ↓reduceIte])
        · refine z_aload_n C 2 rfl rfl dX5_tells_50 ?_
          refine z_iload_n C 3 rfl rfl dX5_tells_51 ?_
          refine z_bipush C (v := 26) (by decide) dX5_tells_52 ?_
          refine z_rVI C (c_X5_byteAt E N hN a M s 26 (by omega)) gX5_tells_X5_byteAt (ci := 5) (q0 := 0) rfl rfl hyX5_byteAt rfl ⟨rfl, rfl⟩ ⟨by decide, by decide⟩ ⟨by decide, by decide⟩ [0, 1, 2, 3, 4, 5, 6, 7, 8, 9, 10, 11] rfl (by decide) (st := []) (Nat.le_of_ble_eq_true rfl) dX5_tells_54 ?_ rfl
          refine z_aload_n C 2 rfl rfl dX5_tells_57 ?_
          refine z_iload_n C 3 rfl rfl dX5_tells_58 ?_
          refine z_bipush C (v := 27) (by decide) dX5_tells_59 ?_
          refine z_rVI C (c_X5_byteAt E N hN a M s 27 (by omega)) gX5_tells_X5_byteAt (ci := 5) (q0 := 0) rfl rfl hyX5_byteAt rfl ⟨rfl, rfl⟩ ⟨by decide, by decide⟩ ⟨by decide, by decide⟩ [0, 1, 2, 3, 4, 5, 6, 7, 8, 9, 10, 11] rfl (by decide) (st := [.int (bA (mDk M) s 26)]) (Nat.le_of_ble_eq_true rfl) dX5_tells_61 ?_ rfl
          refine z_icmp_ge C (tgt := 71) dX5_tells_64 (by decide) (fun h64_12t => ?_) (fun h64_12f => ?_)
          · refine z_iconst C (v := 0) (by decide) dX5_tells_71 ?_
            refine z_istore C (lv' := [(4, .int 0), (3, .int (bA (mDk M) s 5)), (2, .int (bA (mDk M) s 0)), (0, .ref (a 0)), (1, .int (nI s))]) rfl (by decide) dX5_tells_72 ?_
            refine z_lv (lv' := [(0, .ref (a 0)), (1, .int (nI s)), (2, .int (bA (mDk M) s 0)), (3, .int (bA (mDk M) s 5)), (4, .int 0)]) [3, 4, 2, 1, 0] rfl ?_
            exact join74 _ (by simp only [tg0, if_neg h19_8f, if_neg h24_9t, if_pos h42_10f, if_neg h47_11f, if_pos h64_12t, ↓reduceIte])
          · refine z_iconst C (v := 1) (by decide) dX5_tells_67 ?_
            refine z_goto C (tgt := 72) dX5_tells_68 (by decide) ?_
            refine z_istore C (lv' := [(4, .int 1), (3, .int (bA (mDk M) s 5)), (2, .int (bA (mDk M) s 0)), (0, .ref (a 0)), (1, .int (nI s))]) rfl (by decide) dX5_tells_72 ?_
            refine z_lv (lv' := [(0, .ref (a 0)), (1, .int (nI s)), (2, .int (bA (mDk M) s 0)), (3, .int (bA (mDk M) s 5)), (4, .int 1)]) [3, 4, 2, 1, 0] rfl ?_
            exact join74 _ (by simp only [tg0, if_neg h19_8f, if_neg h24_9t, if_pos h42_10f, if_neg h47_11f, if_neg h64_12f, ↓reduceIte])
    · refine z_iload_n C 0 rfl rfl dX5_tells_27 ?_
      refine z_iconst C (v := 1) (by decide) dX5_tells_28 ?_
      refine z_icmp_lt C (tgt := 71) dX5_tells_29 (by decide) (fun h29_13t => ?_) (fun h29_13f => ?_)
      · refine z_iconst C (v := 0) (by decide) dX5_tells_71 ?_
        refine z_istore C (lv' := [(4, .int 0), (3, .int (bA (mDk M) s 5)), (2, .int (bA (mDk M) s 0)), (0, .ref (a 0)), (1, .int (nI s))]) rfl (by decide) dX5_tells_72 ?_
        refine z_lv (lv' := [(0, .ref (a 0)), (1, .int (nI s)), (2, .int (bA (mDk M) s 0)), (3, .int (bA (mDk M) s 5)), (4, .int 0)]) [3, 4, 2, 1, 0] rfl ?_
        exact join74 _ (by simp only [tg0, if_neg h19_8f, if_pos h24_9f, if_pos h29_13t, ↓reduceIte])
      · refine z_iload_n C 0 rfl rfl dX5_tells_32 ?_
        refine z_iconst C (v := 4) (by decide) dX5_tells_33 ?_
        refine z_icmp_gt C (tgt := 71) dX5_tells_34 (by decide) (fun h34_14t => ?_) (fun h34_14f => ?_)
        · refine z_iconst C (v := 0) (by decide) dX5_tells_71 ?_
          refine z_istore C (lv' := [(4, .int 0), (3, .int (bA (mDk M) s 5)), (2, .int (bA (mDk M) s 0)), (0, .ref (a 0)), (1, .int (nI s))]) rfl (by decide) dX5_tells_72 ?_
          refine z_lv (lv' := [(0, .ref (a 0)), (1, .int (nI s)), (2, .int (bA (mDk M) s 0)), (3, .int (bA (mDk M) s 5)), (4, .int 0)]) [3, 4, 2, 1, 0] rfl ?_
          exact join74 _ (by simp only [tg0, if_neg h19_8f, if_pos h24_9f, if_neg h29_13f, if_pos h34_14t, ↓reduceIte])
        · refine z_goto C (tgt := 67) dX5_tells_37 (by decide) ?_
          refine z_iconst C (v := 1) (by decide) dX5_tells_67 ?_
          refine z_goto C (tgt := 72) dX5_tells_68 (by decide) ?_
          refine z_istore C (lv' := [(4, .int 1), (3, .int (bA (mDk M) s 5)), (2, .int (bA (mDk M) s 0)), (0, .ref (a 0)), (1, .int (nI s))]) rfl (by decide) dX5_tells_72 ?_
          refine z_lv (lv' := [(0, .ref (a 0)), (1, .int (nI s)), (2, .int (bA (mDk M) s 0)), (3, .int (bA (mDk M) s 5)), (4, .int 1)]) [3, 4, 2, 1, 0] rfl ?_
          exact join74 _ (by simp only [tg0, if_neg h19_8f, if_pos h24_9f, if_neg h29_13f, if_neg h34_14f, ↓reduceIte])
abbrev rmX5_pagesFrom : Room := { frames := 4, cells := 0, slots := 0, locals := 95 }
theorem hyX5_pagesFrom : yX5_pagesFrom.cls = RX5 ∧ yX5_pagesFrom.cls ≠ "java/lang/invoke/MethodHandle" ∧ yX5_pagesFrom.cls ≠ "java/lang/invoke/VarHandle" ∧ (parseMethodDescriptor yX5_pagesFrom.desc).map (fun d => d.parameters.length) = some 1 := by decide +kernel
set_option maxHeartbeats 4000000 in
set_option maxRecDepth 3000 in
theorem c_X5_pagesFrom (E : GE) (N : Nat) (hN : 16 ≤ N ∧ N ≤ 64) (a : Nat → Nat) (M : MS) (s : Nat) (hs : s < N) : zI E yX5_pagesFrom wsX5_pagesFrom rmX5_pagesFrom [.ref (a 0), .int (nI s)] (wM E a N M) (mPgs N (mDk M) s) (wM E a N M) := by
  refine zI_of (cc := cX5_pagesFrom) (maxL := 6) (ty := .int) (by decide) rfl (vp_nar_int _) (Nat.le_of_ble_eq_true rfl) ?_
  intro K C ret
  replace C : zC E K cX5_pagesFrom wsX5_pagesFrom RX5 rmX5_pagesFrom 6 := C
  have in5 : ∀ w ∈ wsX50, w ∈ wsX5_pagesFrom := fun w h => List.mem_cons_of_mem _ (List.mem_append_right _ (h))
  have l45 : zw K (.fieldLink RX5 45 "StoreLog3Model" "sectors" "I") := C.w (List.mem_cons_of_mem _ (List.mem_append_left _ (List.mem_append_left _ (List.mem_of_getElem? (i := 0) rfl))))
  show Z E K 0 0 (wM E a N M) 0 [(0, .ref (a 0)), (1, .int (nI s))] []
  have join22 : ∀ (g : Int32), mp0 N (mDk M) s = g → Z E K 0 0 (wM E a N M) 22 [(0, .ref (a 0)), (1, .int (nI s)), (2, .int (bA (mDk M) s 27)), (3, .int g)] [] := by
    intro g hgg
    refine z_iconst C (v := 0) (by decide) dX5_pagesFrom_22 ?_
    refine z_istore C (lv' := [(4, .int 0), (0, .ref (a 0)), (1, .int (nI s)), (2, .int (bA (mDk M) s 27)), (3, .int g)]) rfl (by decide) dX5_pagesFrom_23 ?_
    have loop25 : ∀ (n j : Nat) (g1 : Int32), j + n = (bA (mDk M) s 27).toNatClampNeg → mpL N (mDk M) s n j g1 = mpL N (mDk M) s (bA (mDk M) s 27).toNatClampNeg 0 g → Z E K 0 0 (wM E a N M) 25 [(0, .ref (a 0)), (1, .int (nI s)), (2, .int (bA (mDk M) s 27)), (3, .int g1), (4, .int (nI j))] [] := by
      intro n
      induction n with
      | zero => 
        intro j g1 hj hT
        have hjB : j = (bA (mDk M) s 27).toNatClampNeg := by omega
        subst hjB
        refine z_iload C 4 rfl dX5_pagesFrom_25 ?_
        refine z_iload_n C 2 rfl rfl dX5_pagesFrom_27 ?_
        refine z_icmp_ge C (tgt := 120) dX5_pagesFrom_28 (by decide) (fun h28_1 => ?_) (fun h28_1 => absurd zclY h28_1)
        refine z_iload_n C 3 rfl rfl dX5_pagesFrom_120 ?_
        refine z_if_eq C (tgt := 128) dX5_pagesFrom_121 (by decide) (fun h121_2t => ?_) (fun h121_2f => ?_)
        · refine z_iconst C (v := 0) (by decide) dX5_pagesFrom_128 ?_
          exact ret _ _ _ _ (by unfold mPgs; rw [hgg, ← hT]; exact (if_pos h121_2t).symm) rfl dX5_pagesFrom_129
        · refine z_iload_n C 2 rfl rfl dX5_pagesFrom_124 ?_
          refine z_goto C (tgt := 129) dX5_pagesFrom_125 (by decide) ?_
          exact ret _ _ _ _ (by unfold mPgs; rw [hgg, ← hT]; exact (if_neg h121_2f).symm) rfl dX5_pagesFrom_129
      | succ n ih25 => 
        intro j g1 hj hT
        refine z_iload C 4 rfl dX5_pagesFrom_25 ?_
        refine z_iload_n C 2 rfl rfl dX5_pagesFrom_27 ?_
        refine z_icmp_ge C (tgt := 120) dX5_pagesFrom_28 (by decide) (fun h28_3 => absurd h28_3 (zclN hj)) (fun h28_3 => ?_)
        refine z_iload_n C 3 rfl rfl dX5_pagesFrom_31 ?_
        refine z_if_eq C (tgt := 120) dX5_pagesFrom_32 (by decide) (fun h32_4t => ?_) (fun h32_4f => ?_)
        · refine z_iload_n C 3 rfl rfl dX5_pagesFrom_120 ?_
          refine z_if_eq C (tgt := 128) dX5_pagesFrom_121 (by decide) (fun h121_5 => ?_) (fun h121_5 => absurd h32_4t h121_5)
          refine z_iconst C (v := 0) (by decide) dX5_pagesFrom_128 ?_
          exact ret _ _ _ _ (by unfold mPgs; rw [hgg, ← hT]; exact (if_pos (by unfold mpL; rw [if_pos h32_4t]; exact h32_4t)).symm) rfl dX5_pagesFrom_129
        · have hq64 : (s + j) % N < N := Nat.mod_lt _ (by omega)
          have hb27 := bA_lt (mDk M) s 27
          refine z_iload_n C 1 rfl rfl dX5_pagesFrom_35 ?_
          refine z_iload C 4 rfl dX5_pagesFrom_36 ?_
          refine z_iadd C dX5_pagesFrom_38 ?_
          refine z_top (y := (nI (s + j))) (nI_add _ _) ?_
          refine z_aload_n C 0 rfl rfl dX5_pagesFrom_39 ?_
          refine z_get C (Cn := RX5) (T := TX5) (Nf := 20) (ci := 5) in5 0 0 l45 (v := .int (nI N)) rfl rfl (by decide) rfl dX5_pagesFrom_40 ?_
          refine z_irem C (nI_ne0 (by omega) (by omega)) dX5_pagesFrom_43 ?_
          refine z_top (y := (nI ((s + j) % N))) (zrem (by omega) (by omega) (by omega)) ?_
          refine z_istore C (lv' := [(5, .int (nI ((s + j) % N))), (0, .ref (a 0)), (1, .int (nI s)), (2, .int (bA (mDk M) s 27)), (3, .int g1), (4, .int (nI j))]) rfl (by decide) dX5_pagesFrom_44 ?_
          refine z_aload_n C 1 rfl rfl dX5_pagesFrom_46 ?_
          refine z_iload C 0 rfl dX5_pagesFrom_47 ?_
          refine z_rVI C (c_X5_tells E N hN a M ((s + j) % N) (by omega)) gX5_pagesFrom_X5_tells (ci := 5) (q0 := 0) rfl rfl hyX5_tells rfl ⟨rfl, rfl⟩ ⟨by decide, by decide⟩ ⟨by decide, by decide⟩ [0, 1, 2, 3, 4, 5, 6, 7, 8, 9, 10, 11] rfl (by decide) (st := []) (Nat.le_of_ble_eq_true rfl) dX5_pagesFrom_49 ?_ rfl
          refine z_if_eq C (tgt := 112) dX5_pagesFrom_52 (by decide) (fun h52_6t => ?_) (fun h52_6f => ?_)
          · refine z_iconst C (v := 0) (by decide) dX5_pagesFrom_112 ?_
            refine z_istore_n C (lv' := [(3, .int 0), (5, .int (nI ((s + j) % N))), (0, .ref (a 0)), (1, .int (nI s)), (2, .int (bA (mDk M) s 27)), (4, .int (nI j))]) rfl rfl (by decide) dX5_pagesFrom_113 ?_
            refine z_iinc C 5 rfl (v := (nI (j + 1))) (zinc _) (lv' := [(4, .int (nI (j + 1))), (3, .int 0), (5, .int (nI ((s + j) % N))), (0, .ref (a 0)), (1, .int (nI s)), (2, .int (bA (mDk M) s 27))]) rfl (by decide) dX5_pagesFrom_114 ?_
            refine z_goto C (tgt := 25) dX5_pagesFrom_117 (by decide) ?_
            refine z_lv (lv' := [(0, .ref (a 0)), (1, .int (nI s)), (2, .int (bA (mDk M) s 27)), (3, .int 0), (4, .int (nI (j + 1)))]) [3, 4, 5, 1, 0] rfl ?_
            exact ih25 (j + 1) _ (by omega) (by rw [← hT]; simp only [mpL, mpG, if_neg h28_3, if_neg h32_4f, if_pos h52_6t, ↓reduceIte])
          · refine z_aload_n C 1 rfl rfl dX5_pagesFrom_55 ?_
            refine z_iload C 0 rfl dX5_pagesFrom_56 ?_
            refine z_iconst C (v := 0) (by decide) dX5_pagesFrom_58 ?_
            refine z_rVI C (c_X5_byteAt E N hN a M ((s + j) % N) 0 (by omega)) gX5_pagesFrom_X5_byteAt (ci := 5) (q0 := 0) rfl rfl hyX5_byteAt rfl ⟨rfl, rfl⟩ ⟨by decide, by decide⟩ ⟨by decide, by decide⟩ [0, 1, 2, 3, 4, 5, 6, 7, 8, 9, 10, 11] rfl (by decide) (st := []) (Nat.le_of_ble_eq_true rfl) dX5_pagesFrom_59 ?_ rfl
            refine z_iconst C (v := 2) (by decide) dX5_pagesFrom_62 ?_
            refine z_icmp_ne C (tgt := 112) dX5_pagesFrom_63 (by decide) (fun h63_7t => ?_) (fun h63_7f => ?_)
            · refine z_iconst C (v := 0) (by decide) dX5_pagesFrom_112 ?_
              refine z_istore_n C (lv' := [(3, .int 0), (5, .int (nI ((s + j) % N))), (0, .ref (a 0)), (1, .int (nI s)), (2, .int (bA (mDk M) s 27)), (4, .int (nI j))]) rfl rfl (by decide) dX5_pagesFrom_113 ?_
              refine z_iinc C 5 rfl (v := (nI (j + 1))) (zinc _) (lv' := [(4, .int (nI (j + 1))), (3, .int 0), (5, .int (nI ((s + j) % N))), (0, .ref (a 0)), (1, .int (nI s)), (2, .int (bA (mDk M) s 27))]) rfl (by decide) dX5_pagesFrom_114 ?_
              refine z_goto C (tgt := 25) dX5_pagesFrom_117 (by decide) ?_
              refine z_lv (lv' := [(0, .ref (a 0)), (1, .int (nI s)), (2, .int (bA (mDk M) s 27)), (3, .int 0), (4, .int (nI (j + 1)))]) [3, 4, 5, 1, 0] rfl ?_
              exact ih25 (j + 1) _ (by omega) (by rw [← hT]; simp only [mpL, mpG, if_neg h28_3, if_neg h32_4f, if_neg h52_6f, if_neg h63_7t, ↓reduceIte])
            · refine z_aload_n C 1 rfl rfl dX5_pagesFrom_66 ?_
              refine z_iload C 0 rfl dX5_pagesFrom_67 ?_
              refine z_bipush C (v := 26) (by decide) dX5_pagesFrom_69 ?_
              refine z_rVI C (c_X5_byteAt E N hN a M ((s + j) % N) 26 (by omega)) gX5_pagesFrom_X5_byteAt (ci := 5) (q0 := 0) rfl rfl hyX5_byteAt rfl ⟨rfl, rfl⟩ ⟨by decide, by decide⟩ ⟨by decide, by decide⟩ [0, 1, 2, 3, 4, 5, 6, 7, 8, 9, 10, 11] rfl (by decide) (st := []) (Nat.le_of_ble_eq_true rfl) dX5_pagesFrom_71 ?_ rfl
              refine z_iload C 5 rfl dX5_pagesFrom_74 ?_
              refine z_icmp_ne C (tgt := 112) dX5_pagesFrom_76 (by decide) (fun h76_8t => ?_) (fun h76_8f => ?_)
              · refine z_iconst C (v := 0) (by decide) dX5_pagesFrom_112 ?_
                refine z_istore_n C (lv' := [(3, .int 0), (5, .int (nI ((s + j) % N))), (0, .ref (a 0)), (1, .int (nI s)), (2, .int (bA (mDk M) s 27)), (4, .int (nI j))]) rfl rfl (by decide) dX5_pagesFrom_113 ?_
                refine z_iinc C 5 rfl (v := (nI (j + 1))) (zinc _) (lv' := [(4, .int (nI (j + 1))), (3, .int 0), (5, .int (nI ((s + j) % N))), (0, .ref (a 0)), (1, .int (nI s)), (2, .int (bA (mDk M) s 27))]) rfl (by decide) dX5_pagesFrom_114 ?_
                refine z_goto C (tgt := 25) dX5_pagesFrom_117 (by decide) ?_
                refine z_lv (lv' := [(0, .ref (a 0)), (1, .int (nI s)), (2, .int (bA (mDk M) s 27)), (3, .int 0), (4, .int (nI (j + 1)))]) [3, 4, 5, 1, 0] rfl ?_
                exact ih25 (j + 1) _ (by omega) (by rw [← hT]; simp only [mpL, mpG, if_neg h28_3, if_neg h32_4f, if_neg h52_6f, if_pos h63_7f, if_neg h76_8t, ↓reduceIte])
              · refine z_aload_n C 1 rfl rfl dX5_pagesFrom_79 ?_
                refine z_iload C 0 rfl dX5_pagesFrom_80 ?_
                refine z_bipush C (v := 27) (by decide) dX5_pagesFrom_82 ?_
                refine z_rVI C (c_X5_byteAt E N hN a M ((s + j) % N) 27 (by omega)) gX5_pagesFrom_X5_byteAt (ci := 5) (q0 := 0) rfl rfl hyX5_byteAt rfl ⟨rfl, rfl⟩ ⟨by decide, by decide⟩ ⟨by decide, by decide⟩ [0, 1, 2, 3, 4, 5, 6, 7, 8, 9, 10, 11] rfl (by decide) (st := []) (Nat.le_of_ble_eq_true rfl) dX5_pagesFrom_84 ?_ rfl
                refine z_iload_n C 3 rfl rfl dX5_pagesFrom_87 ?_
                refine z_icmp_ne C (tgt := 112) dX5_pagesFrom_88 (by decide) (fun h88_9t => ?_) (fun h88_9f => ?_)
                · refine z_iconst C (v := 0) (by decide) dX5_pagesFrom_112 ?_
                  refine z_istore_n C (lv' := [(3, .int 0), (5, .int (nI ((s + j) % N))), (0, .ref (a 0)), (1, .int (nI s)), (2, .int (bA (mDk M) s 27)), (4, .int (nI j))]) rfl rfl (by decide) dX5_pagesFrom_113 ?_
                  refine z_iinc C 5 rfl (v := (nI (j + 1))) (zinc _) (lv' := [(4, .int (nI (j + 1))), (3, .int 0), (5, .int (nI ((s + j) % N))), (0, .ref (a 0)), (1, .int (nI s)), (2, .int (bA (mDk M) s 27))]) rfl (by decide) dX5_pagesFrom_114 ?_
                  refine z_goto C (tgt := 25) dX5_pagesFrom_117 (by decide) ?_
                  refine z_lv (lv' := [(0, .ref (a 0)), (1, .int (nI s)), (2, .int (bA (mDk M) s 27)), (3, .int 0), (4, .int (nI (j + 1)))]) [3, 4, 5, 1, 0] rfl ?_
                  exact ih25 (j + 1) _ (by omega) (by rw [← hT]; simp only [mpL, mpG, if_neg h28_3, if_neg h32_4f, if_neg h52_6f, if_pos h63_7f, if_pos h76_8f, if_neg h88_9t, ↓reduceIte])
                · refine z_aload_n C 1 rfl rfl dX5_pagesFrom_91 ?_
                  refine z_iload C 0 rfl dX5_pagesFrom_92 ?_
                  refine z_rVI C (c_X5_serialAt E N hN a M ((s + j) % N) (by omega)) gX5_pagesFrom_X5_serialAt (ci := 5) (q0 := 0) rfl rfl hyX5_serialAt rfl ⟨rfl, rfl⟩ ⟨by decide, by decide⟩ ⟨by decide, by decide⟩ [0, 1, 2, 3, 4, 5, 6, 7, 8, 9, 10, 11] rfl (by decide) (st := []) (Nat.le_of_ble_eq_true rfl) dX5_pagesFrom_94 ?_ rfl
                  refine z_aload_n C 1 rfl rfl dX5_pagesFrom_97 ?_
                  refine z_iload_n C 2 rfl rfl dX5_pagesFrom_98 ?_
                  refine z_rVI C (c_X5_serialAt E N hN a M s (by omega)) gX5_pagesFrom_X5_serialAt (ci := 5) (q0 := 0) rfl rfl hyX5_serialAt rfl ⟨rfl, rfl⟩ ⟨by decide, by decide⟩ ⟨by decide, by decide⟩ [0, 1, 2, 3, 4, 5, 6, 7, 8, 9, 10, 11] rfl (by decide) (st := [.int (nA (mDk M) ((s + j) % N) 1 4)]) (Nat.le_of_ble_eq_true rfl) dX5_pagesFrom_99 ?_ rfl
                  refine z_iload C 5 rfl dX5_pagesFrom_102 ?_
                  refine z_iadd C dX5_pagesFrom_104 ?_
                  refine z_icmp_ne C (tgt := 112) dX5_pagesFrom_105 (by decide) (fun h105_10t => ?_) (fun h105_10f => ?_)
                  · refine z_iconst C (v := 0) (by decide) dX5_pagesFrom_112 ?_
                    refine z_istore_n C (lv' := [(3, .int 0), (5, .int (nI ((s + j) % N))), (0, .ref (a 0)), (1, .int (nI s)), (2, .int (bA (mDk M) s 27)), (4, .int (nI j))]) rfl rfl (by decide) dX5_pagesFrom_113 ?_
                    refine z_iinc C 5 rfl (v := (nI (j + 1))) (zinc _) (lv' := [(4, .int (nI (j + 1))), (3, .int 0), (5, .int (nI ((s + j) % N))), (0, .ref (a 0)), (1, .int (nI s)), (2, .int (bA (mDk M) s 27))]) rfl (by decide) dX5_pagesFrom_114 ?_
                    refine z_goto C (tgt := 25) dX5_pagesFrom_117 (by decide) ?_
                    refine z_lv (lv' := [(0, .ref (a 0)), (1, .int (nI s)), (2, .int (bA (mDk M) s 27)), (3, .int 0), (4, .int (nI (j + 1)))]) [3, 4, 5, 1, 0] rfl ?_
                    exact ih25 (j + 1) _ (by omega) (by rw [← hT]; simp only [mpL, mpG, if_neg h28_3, if_neg h32_4f, if_neg h52_6f, if_pos h63_7f, if_pos h76_8f, if_pos h88_9f, if_neg h105_10t, ↓reduceIte])
                  · refine z_iconst C (v := 1) (by decide) dX5_pagesFrom_108 ?_
                    refine z_goto C (tgt := 113) dX5_pagesFrom_109 (by decide) ?_
                    refine z_istore_n C (lv' := [(3, .int 1), (5, .int (nI ((s + j) % N))), (0, .ref (a 0)), (1, .int (nI s)), (2, .int (bA (mDk M) s 27)), (4, .int (nI j))]) rfl rfl (by decide) dX5_pagesFrom_113 ?_
                    refine z_iinc C 5 rfl (v := (nI (j + 1))) (zinc _) (lv' := [(4, .int (nI (j + 1))), (3, .int 1), (5, .int (nI ((s + j) % N))), (0, .ref (a 0)), (1, .int (nI s)), (2, .int (bA (mDk M) s 27))]) rfl (by decide) dX5_pagesFrom_114 ?_
                    refine z_goto C (tgt := 25) dX5_pagesFrom_117 (by decide) ?_
                    refine z_lv (lv' := [(0, .ref (a 0)), (1, .int (nI s)), (2, .int (bA (mDk M) s 27)), (3, .int 1), (4, .int (nI (j + 1)))]) [3, 4, 5, 1, 0] rfl ?_
                    exact ih25 (j + 1) _ (by omega) (by rw [← hT]; simp only [mpL, mpG, if_neg h28_3, if_neg h32_4f, if_neg h52_6f, if_pos h63_7f, if_pos h76_8f, if_pos h88_9f, if_pos h105_10f, ↓reduceIte])
    refine z_lv (lv' := [(0, .ref (a 0)), (1, .int (nI s)), (2, .int (bA (mDk M) s 27)), (3, .int g), (4, .int 0)]) [1, 2, 3, 4, 0] rfl ?_
    exact loop25 (bA (mDk M) s 27).toNatClampNeg 0 g (by omega) rfl
  refine z_aload_n C 0 rfl rfl dX5_pagesFrom_0 ?_
  refine z_iload_n C 1 rfl rfl dX5_pagesFrom_1 ?_
  refine z_bipush C (v := 27) (by decide) dX5_pagesFrom_2 ?_
  refine z_rVI C (c_X5_byteAt E N hN a M s 27 (by omega)) gX5_pagesFrom_X5_byteAt (ci := 5) (q0 := 0) rfl rfl hyX5_byteAt rfl ⟨rfl, rfl⟩ ⟨by decide, by decide⟩ ⟨by decide, by decide⟩ [0, 1, 2, 3, 4, 5, 6, 7, 8, 9, 10, 11] rfl (by decide) (st := []) (Nat.le_of_ble_eq_true rfl) dX5_pagesFrom_4 ?_ rfl
  refine z_istore_n C (lv' := [(2, .int (bA (mDk M) s 27)), (0, .ref (a 0)), (1, .int (nI s))]) rfl rfl (by decide) dX5_pagesFrom_7 ?_
  refine z_iload_n C 0 rfl rfl dX5_pagesFrom_8 ?_
  refine z_aload_n C 1 rfl rfl dX5_pagesFrom_9 ?_
  refine z_get C (Cn := RX5) (T := TX5) (Nf := 20) (ci := 5) in5 0 0 l45 (v := .int (nI N)) rfl rfl (by decide) rfl dX5_pagesFrom_10 ?_
  refine z_icmp_gt C (tgt := 20) dX5_pagesFrom_13 (by decide) (fun h13_11t => ?_) (fun h13_11f => ?_)
  · refine z_iconst C (v := 0) (by decide) dX5_pagesFrom_20 ?_
    refine z_istore_n C (lv' := [(3, .int 0), (2, .int (bA (mDk M) s 27)), (0, .ref (a 0)), (1, .int (nI s))]) rfl rfl (by decide) dX5_pagesFrom_21 ?_
    refine z_lv (lv' := [(0, .ref (a 0)), (1, .int (nI s)), (2, .int (bA (mDk M) s 27)), (3, .int 0)]) [2, 3, 1, 0] rfl ?_
    exact join22 _ (by simp only [mp0, if_pos h13_11t, ↓reduceIte])
  · refine z_iconst C (v := 1) (by decide) dX5_pagesFrom_16 ?_
    refine z_goto C (tgt := 21) dX5_pagesFrom_17 (by decide) ?_
    refine z_istore_n C (lv' := [(3, .int 1), (2, .int (bA (mDk M) s 27)), (0, .ref (a 0)), (1, .int (nI s))]) rfl rfl (by decide) dX5_pagesFrom_21 ?_
    refine z_lv (lv' := [(0, .ref (a 0)), (1, .int (nI s)), (2, .int (bA (mDk M) s 27)), (3, .int 1)]) [2, 3, 1, 0] rfl ?_
    exact join22 _ (by simp only [mp0, if_neg h13_11f, ↓reduceIte])

/-! Part 20: the reference, first half: rows, entries, the dictionary -/
theorem b8_1 : vp_nar .byte 1 = 1 := rfl
/-- a value that nothing unfolds by itself -/
noncomputable def hide {α : Type} (x : α) : α := Classical.choose (⟨x, rfl⟩ : ∃ y : α, y = x)
theorem hide_eq {α : Type} (x : α) : hide x = x := Classical.choose_spec (⟨x, rfl⟩ : ∃ y : α, y = x)
def mIn (v lo hi : Int32) : Int32 := if v < lo then 0 else if hi < v then 0 else 1
theorem mIn_nb (v lo hi : Int32) : narrow .boolean (.int (mIn v lo hi)) = .int (mIn v lo hi) := by unfold mIn; (repeat' split) <;> rfl
theorem mIn_of {v lo hi : Int32} (h : ¬ mIn v lo hi = 0) : lo.toInt ≤ v.toInt ∧ v.toInt ≤ hi.toInt := by
  unfold mIn at h
  by_cases h1 : v < lo
  · simp [h1] at h
  · by_cases h2 : hi < v
    · simp [h1, h2] at h
    · exact ⟨znlt h1, by rw [Int32.lt_iff_toInt_lt] at h2; omega⟩
theorem mIn31 {k : Int32} (h : ¬ mIn k 0 31 = 0) : vp_in k 32 := by
  have := mIn_of h
  exact zvin (by simpa using this.1) (by have h2 : k.toInt ≤ 31 := by simpa using this.2
                                         omega)
theorem mIn2 {k : Int32} (h : ¬ mIn k 0 2 = 0) : vp_in k 3 := by
  have := mIn_of h
  exact zvin (by simpa using this.1) (by have h2 : k.toInt ≤ 2 := by simpa using this.2
                                         omega)
theorem mIn2N {t : Int32} (h : ¬ mIn t 0 2 = 0) : ∃ t1 : Nat, t1 ≤ 2 ∧ t = nI t1 := by
  have h1 := mIn_of h
  have e0 : (0 : Int32).toInt = 0 := rfl
  have e2 : (2 : Int32).toInt = 2 := rfl
  have e1 : t.toNatClampNeg = t.toInt.toNat := rfl
  exact ⟨t.toNatClampNeg, by omega, ztoNI (by omega)⟩
theorem zrem {u v : Nat} (hu : u < 2 ^ 31) (hv : v < 2 ^ 31) (hv0 : 0 < v) : nI u - nI u / nI v * nI v = nI (u % v) := pk_rem hu hv0 hv
def stpM (s b : Int32) : Int32 := (((s ^^^ b) <<< (11 &&& 31)) ||| ush (s ^^^ b) 21) * (-2048144777)
def nmL (v : Int32) (b u : Nat) (r : Nat → Int32) : Nat → Nat → Int32
  | 0 => r
  | n + 1 => upd (nmL v b u r n) (u + n) (b8 (v >>> ((8 * (nI b - 1 - nI n)) &&& 31)))
def clRow (r : Nat → Int32) (q se : Int32) : Nat → Int32 := nmL se 4 1 (upd (clA r 32) 0 (b8 q)) 4
def smR (r : Nat → Int32) (s : Int32) : Nat → Int32
  | 0 => s + 1
  | n + 1 => stpM (smR r s n) (r n &&& 255)
def slRow (r : Nat → Int32) (s : Int32) : Nat → Int32 := nmL (smR r s 28) 4 28 r 4
def mNeed (M : MS) : Int32 := mSe M - mWf M + 1
def mMay (N : Nat) (M : MS) (q : Int32) : Int32 := if nI N < mNeed M + q then 0 else 1
def mwS (w : Nat) (r g : Nat → Int32) : Nat → Nat → Int32
  | 0 => g
  | n + 1 => upd (mwS w r g n) (32 * w + n) (b8 (r n))
def weL (eh ek ev r : Nat → Int32) : Nat → Nat → Int32
  | 0 => r
  | n + 1 => nmL (ev n) 3 (8 + 5 * n) (upd (upd (weL eh ek ev r n) (6 + 5 * n) (b8 (eh n))) (7 + 5 * n) (b8 (ek n))) 3
def mWr (N : Nat) (M : MS) (w c : Nat) : MS := msSe (msWa (msWs (msWt (msRw (msSc M (nI ((c + 1) % N))) (slRow (mRw M) (nI ((c + 1) % N)))) (upd (mWt M) w (nI ((c + 1) % N)))) (mwS w (slRow (mRw M) (nI ((c + 1) % N))) (mWs M) 32)) (nI (w + 1))) (mSe M + 1)
def mWE (N : Nat) (M : MS) (e w c : Nat) : MS := msEn (mWr N (msRw M (weL (mEh M) (mEk M) (mEv M) (upd (clRow (mRw M) 1 (mSe M + 1)) 5 (b8 (nI e))) e)) w c) 0
def mPut1 (M : MS) (h k v : Int32) (e : Nat) : MS := msEn (msEv (msEk (msEh M (upd (mEh M) e h)) (upd (mEk M) e k)) (upd (mEv M) e v)) (nI (e + 1))
def mAdd (N : Nat) (M : MS) (h k v : Int32) (e w c : Nat) : MS := if nI (e + 1) = 4 then mWE N (mPut1 M h k v e) 4 w c else mPut1 M h k v e
def mCan (N : Nat) (M : MS) : Int32 := if mEn M < 3 then 1 else if mMay N M 1 = 0 then 0 else 1
def mIsO (M : MS) (t : Int32) : Int32 := if mIn t 0 2 = 0 then 0 else if mOp M t.toNatClampNeg = 0 then 0 else 1
def mbL (M : MS) : Nat → Nat → Int32 × MS
  | 0, _ => (-1, M)
  | n + 1, j => if mOp M j = 0 then (nI j, msOp M (upd (mOp M) j 1)) else mbL M n (j + 1)
def mBegin (M : MS) : Int32 × MS := if mDn M = 0 then mbL M 3 0 else (-3, M)
def mPutE (N : Nat) (M : MS) (t k v : Int32) (e w c : Nat) : Int32 × MS := if mCan N M = 0 then (-2, M) else if v = -1 then (1, mAdd N (msHe (msHo M (upd (mHo M) k.toNatClampNeg t)) (upd (mHe M) k.toNatClampNeg v)) (4 * t + 1) k 0 e w c) else (1, mAdd N (msHe (msHo M (upd (mHo M) k.toNatClampNeg t)) (upd (mHe M) k.toNatClampNeg v)) (4 * t + 0) k v e w c)
def mPut (N : Nat) (M : MS) (t k v : Int32) (e w c : Nat) : Int32 × MS := if mDn M = 0 then (if mIsO M t = 0 then (-1, M) else if mIn k 0 31 = 0 then (-1, M) else if mIn v (-1) 16777215 = 0 then (-1, M) else if mHo M k.toNatClampNeg = -1 then mPutE N M t k v e w c else if mHo M k.toNatClampNeg = t then mPutE N M t k v e w c else (0, M)) else (-3, M)
def rlS (t kp : Int32) (he : Nat → Int32) (j : Nat) (x : Int32 × (Nat → Int32) × (Nat → Int32)) : Int32 × (Nat → Int32) × (Nat → Int32) := if x.2.2 j = t then (x.1 + 1, upd x.2.1 j (if kp = 0 then x.2.1 j else he j), upd x.2.2 j (-1)) else x
def rlL (t kp : Int32) (he : Nat → Int32) : Nat → Nat → Int32 × (Nat → Int32) × (Nat → Int32) → Int32 × (Nat → Int32) × (Nat → Int32)
  | 0, _, x => x
  | n + 1, j, x => rlL t kp he n (j + 1) (rlS t kp he j x)
noncomputable def mRl (t kp : Int32) (he va ho : Nat → Int32) : Int32 × (Nat → Int32) × (Nat → Int32) := hide (rlL t kp he 32 0 (0, va, ho))
noncomputable def mRel (M : MS) (t : Nat) (kp : Int32) : Int32 × MS := ((mRl (nI t) kp (mHe M) (mVa M) (mHo M)).1, msOp (msHo (msVa M (mRl (nI t) kp (mHe M) (mVa M) (mHo M)).2.1) (mRl (nI t) kp (mHe M) (mVa M) (mHo M)).2.2) (upd (mOp M) t 0))
noncomputable def mFin (N : Nat) (M : MS) (t kp : Int32) (e w c : Nat) : Int32 × MS := if mDn M = 0 then (if mIsO M t = 0 then (-1, M) else if mCan N M = 0 then (-2, M) else if kp = 0 then mRel (msCm (mAdd N M (4 * t + 3) 0 0 e w c) (mCm (mAdd N M (4 * t + 3) 0 0 e w c) + 0)) t.toNatClampNeg kp else mRel (msCm (mAdd N M (4 * t + 2) 0 0 e w c) (mCm (mAdd N M (4 * t + 2) 0 0 e w c) + 1)) t.toNatClampNeg kp) else (-3, M)
def mGet (M : MS) (k : Int32) : Int32 := if mDn M = 0 then (if mIn k 0 31 = 0 then -1 else mVa M k.toNatClampNeg) else -3
def mHold (M : MS) (k : Int32) : Int32 := if mDn M = 0 then (if mIn k 0 31 = 0 then -1 else mHo M k.toNatClampNeg) else -3
def mSeen (M : MS) (t k : Int32) : Int32 := if mDn M = 0 then (if mIsO M t = 0 then -1 else if mIn k 0 31 = 0 then -1 else if mHo M k.toNatClampNeg = t then mHe M k.toNatClampNeg else mVa M k.toNatClampNeg) else -3
def fgO (f : Nat → Int32) : Nat → Nat → Int32
  | 0 => f
  | n + 1 => upd (fgO f n) n 0
def fgV (f : Nat → Int32) : Nat → Nat → Int32
  | 0 => f
  | n + 1 => upd (fgV f n) n (-1)
def mForget (M : MS) : MS := msHo (msVa (msOp (msCm (msEn (msWa M 0) 0) 0) (fgO (mOp M) 3)) (fgV (mVa M) 32)) (fgV (mHo M) 32)
abbrev rmX5_isIn : Room := { frames := 0, cells := 0, slots := 0, locals := 0 }
theorem hyX5_isIn : yX5_isIn.cls = RX5 ∧ yX5_isIn.cls ≠ "java/lang/invoke/MethodHandle" ∧ yX5_isIn.cls ≠ "java/lang/invoke/VarHandle" ∧ (parseMethodDescriptor yX5_isIn.desc).map (fun d => d.parameters.length) = some 3 := by decide +kernel
set_option maxHeartbeats 4000000 in
set_option maxRecDepth 3000 in
theorem c_X5_isIn (E : GE) (v lo hi : Int32) : zI E yX5_isIn wsX5_isIn rmX5_isIn [.int v, .int lo, .int hi] [] (mIn v lo hi) [] := by
  refine zI_of (cc := cX5_isIn) (maxL := 3) (ty := .boolean) (by decide) rfl (mIn_nb v lo hi) (Nat.le_of_ble_eq_true rfl) ?_
  intro K C ret
  replace C : zC E K cX5_isIn wsX5_isIn RX5 rmX5_isIn 3 := C
  show Z E K 0 0 [] 0 [(0, .int v), (1, .int lo), (2, .int hi)] []
  refine z_iload_n C 0 rfl rfl dX5_isIn_0 ?_
  refine z_iload_n C 1 rfl rfl dX5_isIn_1 ?_
  refine z_icmp_lt C (tgt := 14) dX5_isIn_2 (by decide) (fun h2_1t => ?_) (fun h2_1f => ?_)
  · refine z_iconst C (v := 0) (by decide) dX5_isIn_14 ?_
    exact ret _ _ _ _ (by first | rfl | (simp only [mIn, if_pos h2_1t, ↓reduceIte]; done) | (simp only [mIn, if_pos h2_1t, ↓reduceIte]; rfl) | (simp [mIn, if_pos h2_1t, ↓reduceIte]; done)) rfl dX5_isIn_15
  · refine z_iload_n C 0 rfl rfl dX5_isIn_5 ?_
    refine z_iload_n C 2 rfl rfl dX5_isIn_6 ?_
    refine z_icmp_gt C (tgt := 14) dX5_isIn_7 (by decide) (fun h7_2t => ?_) (fun h7_2f => ?_)
    · refine z_iconst C (v := 0) (by decide) dX5_isIn_14 ?_
      exact ret _ _ _ _ (by first | rfl | (simp only [mIn, if_neg h2_1f, if_pos h7_2t, ↓reduceIte]; done) | (simp only [mIn, if_neg h2_1f, if_pos h7_2t, ↓reduceIte]; rfl) | (simp [mIn, if_neg h2_1f, if_pos h7_2t, ↓reduceIte]; done)) rfl dX5_isIn_15
    · refine z_iconst C (v := 1) (by decide) dX5_isIn_10 ?_
      refine z_goto C (tgt := 15) dX5_isIn_11 (by decide) ?_
      exact ret _ _ _ _ (by first | rfl | (simp only [mIn, if_neg h2_1f, if_neg h7_2f, ↓reduceIte]; done) | (simp only [mIn, if_neg h2_1f, if_neg h7_2f, ↓reduceIte]; rfl) | (simp [mIn, if_neg h2_1f, if_neg h7_2f, ↓reduceIte]; done)) rfl dX5_isIn_15
abbrev rmX5_isKey : Room := { frames := 1, cells := 0, slots := 0, locals := 22 }
theorem hyX5_isKey : yX5_isKey.cls = RX5 ∧ yX5_isKey.cls ≠ "java/lang/invoke/MethodHandle" ∧ yX5_isKey.cls ≠ "java/lang/invoke/VarHandle" ∧ (parseMethodDescriptor yX5_isKey.desc).map (fun d => d.parameters.length) = some 1 := by decide +kernel
set_option maxHeartbeats 4000000 in
set_option maxRecDepth 3000 in
theorem c_X5_isKey (E : GE) (k : Int32) : zI E yX5_isKey wsX5_isKey rmX5_isKey [.int k] [] (mIn k 0 31) [] := by
  refine zI_of (cc := cX5_isKey) (maxL := 1) (ty := .boolean) (by decide) rfl (mIn_nb _ _ _) (Nat.le_of_ble_eq_true rfl) ?_
  intro K C ret
  replace C : zC E K cX5_isKey wsX5_isKey RX5 rmX5_isKey 1 := C
  show Z E K 0 0 [] 0 [(0, .int k)] []
  refine z_iload_n C 0 rfl rfl dX5_isKey_0 ?_
  refine z_iconst C (v := 0) (by decide) dX5_isKey_1 ?_
  refine z_bipush C (v := 31) (by decide) dX5_isKey_2 ?_
  refine z_rSI C (c_X5_isIn E k 0 31) gX5_isKey_X5_isIn hyX5_isIn.2 rfl ⟨rfl, rfl⟩ ⟨by decide, by decide⟩ ⟨by decide, by decide⟩ [] rfl (by decide) (st := []) (Nat.le_of_ble_eq_true rfl) dX5_isKey_4 ?_ rfl
  exact ret _ _ _ _ (by first | rfl | (simp only [↓reduceIte]; done) | (simp only [↓reduceIte]; rfl) | (simp [↓reduceIte]; done)) rfl dX5_isKey_7
abbrev rmX5_step : Room := { frames := 0, cells := 0, slots := 0, locals := 0 }
theorem hyX5_step : yX5_step.cls = RX5 ∧ yX5_step.cls ≠ "java/lang/invoke/MethodHandle" ∧ yX5_step.cls ≠ "java/lang/invoke/VarHandle" ∧ (parseMethodDescriptor yX5_step.desc).map (fun d => d.parameters.length) = some 2 := by decide +kernel
set_option maxHeartbeats 4000000 in
set_option maxRecDepth 3000 in
theorem c_X5_step (E : GE) (s b : Int32) : zI E yX5_step wsX5_step rmX5_step [.int s, .int b] [] (stpM s b) [] := by
  refine zI_of (cc := cX5_step) (maxL := 3) (ty := .int) (by decide) rfl (vp_nar_int _) (Nat.le_of_ble_eq_true rfl) ?_
  intro K C ret
  replace C : zC E K cX5_step wsX5_step RX5 rmX5_step 3 := C
  have l92 : zw K (.constant RX5 92 (-2048144777)) := C.w (List.mem_cons_of_mem _ (List.mem_of_getElem? (i := 0) rfl))
  show Z E K 0 0 [] 0 [(0, .int s), (1, .int b)] []
  refine z_iload_n C 0 rfl rfl dX5_step_0 ?_
  refine z_iload_n C 1 rfl rfl dX5_step_1 ?_
  refine z_ixor C dX5_step_2 ?_
  refine z_istore_n C (lv' := [(2, .int (s ^^^ b)), (0, .int s), (1, .int b)]) rfl rfl (by decide) dX5_step_3 ?_
  refine z_iload_n C 0 rfl rfl dX5_step_4 ?_
  refine z_bipush C (v := 11) (by decide) dX5_step_5 ?_
  refine z_ishl C dX5_step_7 ?_
  refine z_iload_n C 0 rfl rfl dX5_step_8 ?_
  refine z_bipush C (v := 21) (by decide) dX5_step_9 ?_
  refine z_iushr C (v := (ush (s ^^^ b) 21)) rfl dX5_step_11 ?_
  refine z_ior C dX5_step_12 ?_
  refine z_ldc C l92 dX5_step_13 ?_
  refine z_imul C dX5_step_15 ?_
  exact ret _ _ _ _ (by first | rfl | (simp only [↓reduceIte]; done) | (simp only [↓reduceIte]; rfl) | (simp [↓reduceIte]; done)) rfl dX5_step_16
abbrev rmX5_number : Room := { frames := 0, cells := 0, slots := 0, locals := 0 }
theorem hyX5_number : yX5_number.cls = RX5 ∧ yX5_number.cls ≠ "java/lang/invoke/MethodHandle" ∧ yX5_number.cls ≠ "java/lang/invoke/VarHandle" ∧ (parseMethodDescriptor yX5_number.desc).map (fun d => d.parameters.length) = some 3 := by decide +kernel
set_option maxHeartbeats 4000000 in
set_option maxRecDepth 3000 in
theorem c_X5_number (E : GE) (N : Nat) (hN : 16 ≤ N ∧ N ≤ 64) (a : Nat → Nat) (M : MS) (u : Nat) (v : Int32) (b : Nat) (hb : b ≤ 4 ∧ u + b ≤ 32) : zV E yX5_number wsX5_number rmX5_number [.ref (a 0), .int (nI u), .int v, .int (nI b)] (wM E a N M) (wM E a N (msRw M (nmL v b u (mRw M) b))) := by
  refine zV_of (cc := cX5_number) (maxL := 5) (by decide) rfl (Nat.le_of_ble_eq_true rfl) ?_
  intro K C ret
  replace C : zC E K cX5_number wsX5_number RX5 rmX5_number 5 := C
  have in5 : ∀ w ∈ wsX50, w ∈ wsX5_number := fun w h => List.mem_cons_of_mem _ (List.mem_append_right _ (h))
  have l42 : zw K (.fieldLink RX5 42 "StoreLog3Model" "row" "[B") := C.w (List.mem_cons_of_mem _ (List.mem_append_left _ (List.mem_of_getElem? (i := 0) rfl)))
  show Z E K 0 0 (wM E a N M) 0 [(0, .ref (a 0)), (1, .int (nI u)), (2, .int v), (3, .int (nI b))] []
  refine z_iconst C (v := 0) (by decide) dX5_number_0 ?_
  refine z_istore C (lv' := [(4, .int 0), (0, .ref (a 0)), (1, .int (nI u)), (2, .int v), (3, .int (nI b))]) rfl (by decide) dX5_number_1 ?_
  have loop3 : ∀ (n j : Nat), j + n = b → Z E K 0 0 (wM E a N (msRw M (nmL v b u (mRw M) j))) 3 [(0, .ref (a 0)), (1, .int (nI u)), (2, .int v), (3, .int (nI b)), (4, .int (nI j))] [] := by
    intro n
    induction n with
    | zero => 
      intro j hj
      obtain rfl : b = j := by omega
      obtain ⟨fz1, hz1⟩ : ∃ z : Nat → Int32, (nmL v b u (mRw M) b) = z := ⟨_, rfl⟩
      rw [hz1]
      refine z_iload C 4 rfl dX5_number_3 ?_
      refine z_iload_n C 3 rfl rfl dX5_number_5 ?_
      refine z_icmp_ge C (tgt := 36) dX5_number_6 (by decide) (fun h6_1 => ?_) (fun h6_1 => absurd (nI_le (a := b) (b := b) (Nat.le_refl _) (by omega)) h6_1)
      subst hz1
      exact ret _ _ _ (by first | rfl | (simp only [if_pos h6_1, ↓reduceIte]; done) | (simp only [if_pos h6_1, ↓reduceIte]; rfl) | (simp [if_pos h6_1, ↓reduceIte]; done)) dX5_number_36
    | succ n ih3 => 
      intro j hj
      refine z_iload C 4 rfl dX5_number_3 ?_
      refine z_iload_n C 3 rfl rfl dX5_number_5 ?_
      refine z_icmp_ge C (tgt := 36) dX5_number_6 (by decide) (fun h6_2 => absurd h6_2 (nI_ge (a := j) (b := b) (by omega) (by omega))) (fun h6_2 => ?_)
      refine z_aload_n C 0 rfl rfl dX5_number_9 ?_
      refine z_get C (Cn := RX5) (T := TX5) (Nf := 20) (ci := 5) in5 0 19 l42 (v := .ref (a 11)) rfl rfl (by decide) rfl dX5_number_10 ?_
      refine z_iload_n C 1 rfl rfl dX5_number_13 ?_
      refine z_iload C 4 rfl dX5_number_14 ?_
      refine z_iadd C dX5_number_16 ?_
      refine z_top (y := (nI (u + j))) (nI_add _ _) ?_
      refine z_iload_n C 2 rfl rfl dX5_number_17 ?_
      refine z_bipush C (v := 8) (by decide) dX5_number_18 ?_
      refine z_iload_n C 3 rfl rfl dX5_number_20 ?_
      refine z_iconst C (v := 1) (by decide) dX5_number_21 ?_
      refine z_isub C dX5_number_22 ?_
      refine z_iload C 4 rfl dX5_number_23 ?_
      refine z_isub C dX5_number_25 ?_
      refine z_imul C dX5_number_26 ?_
      refine z_ishr C dX5_number_27 ?_
      refine z_i2b C (v := (b8 (v >>> ((8 * (((nI b) - 1) - (nI j))) &&& 31)))) rfl dX5_number_28 ?_
      obtain ⟨fz2, hz2⟩ : ∃ z : Nat → Int32, (upd (nmL v b u (mRw M) j) (u + j) (b8 (v >>> ((8 * (((nI b) - 1) - (nI j))) &&& 31)))) = z := ⟨_, rfl⟩
      refine z_bast C 11 rfl (vp_in_nI (by omega) (by omega)) (g := fz2) (Eq.trans (by rw [b8_nar, nI_clamp (by omega)]) hz2) (V' := (wM E a N (msRw M fz2))) rfl dX5_number_29 ?_
      refine z_iinc C 4 rfl (v := (nI (j + 1))) (zinc _) (lv' := [(4, .int (nI (j + 1))), (0, .ref (a 0)), (1, .int (nI u)), (2, .int v), (3, .int (nI b))]) rfl (by decide) dX5_number_30 ?_
      refine z_goto C (tgt := 3) dX5_number_33 (by decide) ?_
      subst hz2
      refine z_lv (lv' := [(0, .ref (a 0)), (1, .int (nI u)), (2, .int v), (3, .int (nI b)), (4, .int (nI (j + 1)))]) [1, 2, 3, 4, 0] rfl ?_
      exact ih3 (j + 1)  (by omega)
  refine z_lv (lv' := [(0, .ref (a 0)), (1, .int (nI u)), (2, .int v), (3, .int (nI b)), (4, .int 0)]) [1, 2, 3, 4, 0] rfl ?_
  exact loop3 b 0  (by omega)
abbrev rmX5_clearRow : Room := { frames := 1, cells := 0, slots := 0, locals := 24 }
theorem hyX5_clearRow : yX5_clearRow.cls = RX5 ∧ yX5_clearRow.cls ≠ "java/lang/invoke/MethodHandle" ∧ yX5_clearRow.cls ≠ "java/lang/invoke/VarHandle" ∧ (parseMethodDescriptor yX5_clearRow.desc).map (fun d => d.parameters.length) = some 2 := by decide +kernel
set_option maxHeartbeats 4000000 in
set_option maxRecDepth 3000 in
theorem c_X5_clearRow (E : GE) (N : Nat) (hN : 16 ≤ N ∧ N ≤ 64) (a : Nat → Nat) (M : MS) (q : Int32) (se : Int32) : zV E yX5_clearRow wsX5_clearRow rmX5_clearRow [.ref (a 0), .int q, .int se] (wM E a N M) (wM E a N (msRw M (clRow (mRw M) q se))) := by
  refine zV_of (cc := cX5_clearRow) (maxL := 4) (by decide) rfl (Nat.le_of_ble_eq_true rfl) ?_
  intro K C ret
  replace C : zC E K cX5_clearRow wsX5_clearRow RX5 rmX5_clearRow 4 := C
  have in5 : ∀ w ∈ wsX50, w ∈ wsX5_clearRow := fun w h => List.mem_cons_of_mem _ (List.mem_append_right _ (h))
  have l42 : zw K (.fieldLink RX5 42 "StoreLog3Model" "row" "[B") := C.w (List.mem_cons_of_mem _ (List.mem_append_left _ (List.mem_of_getElem? (i := 0) rfl)))
  show Z E K 0 0 (wM E a N M) 0 [(0, .ref (a 0)), (1, .int q), (2, .int se)] []
  refine z_iconst C (v := 0) (by decide) dX5_clearRow_0 ?_
  refine z_istore_n C (lv' := [(3, .int 0), (0, .ref (a 0)), (1, .int q), (2, .int se)]) rfl rfl (by decide) dX5_clearRow_1 ?_
  have loop2 : ∀ (n j : Nat), j + n = 32 → Z E K 0 0 (wM E a N (msRw M (clA (mRw M) j))) 2 [(0, .ref (a 0)), (1, .int q), (2, .int se), (3, .int (nI j))] [] := by
    intro n
    induction n with
    | zero => 
      intro j hj
      obtain rfl : j = 32 := by omega
      obtain ⟨fz1, hz1⟩ : ∃ z : Nat → Int32, (clA (mRw M) 32) = z := ⟨_, rfl⟩
      rw [hz1]
      refine z_iload_n C 3 rfl rfl dX5_clearRow_2 ?_
      refine z_bipush C (v := 32) (by decide) dX5_clearRow_3 ?_
      refine z_icmp_ge C (tgt := 21) dX5_clearRow_5 (by decide) (fun h5_1 => ?_) (fun h5_1 => absurd (nI_le (a := 32) (b := 32) (Nat.le_refl _) (by omega)) h5_1)
      refine z_aload_n C 0 rfl rfl dX5_clearRow_21 ?_
      refine z_get C (Cn := RX5) (T := TX5) (Nf := 20) (ci := 5) in5 0 19 l42 (v := .ref (a 11)) rfl rfl (by decide) rfl dX5_clearRow_22 ?_
      refine z_iconst C (v := 0) (by decide) dX5_clearRow_25 ?_
      refine z_iload_n C 1 rfl rfl dX5_clearRow_26 ?_
      refine z_i2b C (v := (b8 q)) rfl dX5_clearRow_27 ?_
      obtain ⟨fz2, hz2⟩ : ∃ z : Nat → Int32, (upd fz1 0 (b8 q)) = z := ⟨_, rfl⟩
      refine z_bast C 11 rfl (vp_in_nI (n := 0) (by omega) (by omega)) (g := fz2) (Eq.trans (congrArg (upd fz1 0) (b8_nar _)) hz2) (V' := (wM E a N (msRw M fz2))) rfl dX5_clearRow_28 ?_
      refine z_aload_n C 0 rfl rfl dX5_clearRow_29 ?_
      refine z_iconst C (v := 1) (by decide) dX5_clearRow_30 ?_
      refine z_iload_n C 2 rfl rfl dX5_clearRow_31 ?_
      refine z_iconst C (v := 4) (by decide) dX5_clearRow_32 ?_
      obtain ⟨fq4, hq33_4⟩ : ∃ z : Nat → Int32, (nmL se 4 1 (mRw (msRw M fz2)) 4) = z := ⟨_, rfl⟩
      have ct3 : zV E yX5_number wsX5_number rmX5_number [.ref (a 0), .int 1, .int se, .int 4] (wM E a N (msRw M fz2)) (wM E a N (msRw M fq4)) := by subst hq33_4; exact c_X5_number E N hN a (msRw M fz2) 1 se 4 (by omega)
      refine z_callVV C ct3 gX5_clearRow_X5_number (ci := 5) (q0 := 0) rfl rfl hyX5_number rfl ⟨rfl, rfl⟩ ⟨by decide, by decide⟩ ⟨by decide, by decide⟩ [0, 1, 2, 3, 4, 5, 6, 7, 8, 9, 10, 11] [] [0, 1, 2, 3, 4, 5, 6, 7, 8, 9, 10, 11] (wr := []) (V' := (wM E a N (msRw M fq4))) rfl rfl (by decide) (by decide) (by decide) rfl (by decide) (st := []) (Nat.le_of_ble_eq_true rfl) dX5_clearRow_33 ?_ rfl
      subst hq33_4
      subst hz2
      subst hz1
      exact ret _ _ _ (by first | rfl | (simp only [if_pos h5_1, ↓reduceIte]; done) | (simp only [if_pos h5_1, ↓reduceIte]; rfl) | (simp [if_pos h5_1, ↓reduceIte]; done)) dX5_clearRow_36
    | succ n ih2 => 
      intro j hj
      refine z_iload_n C 3 rfl rfl dX5_clearRow_2 ?_
      refine z_bipush C (v := 32) (by decide) dX5_clearRow_3 ?_
      refine z_icmp_ge C (tgt := 21) dX5_clearRow_5 (by decide) (fun h5_2 => absurd h5_2 (nI_ge (a := j) (b := 32) (by omega) (by omega))) (fun h5_2 => ?_)
      refine z_aload_n C 0 rfl rfl dX5_clearRow_8 ?_
      refine z_get C (Cn := RX5) (T := TX5) (Nf := 20) (ci := 5) in5 0 19 l42 (v := .ref (a 11)) rfl rfl (by decide) rfl dX5_clearRow_9 ?_
      refine z_iload_n C 3 rfl rfl dX5_clearRow_12 ?_
      refine z_iconst C (v := 0) (by decide) dX5_clearRow_13 ?_
      obtain ⟨fz5, hz5⟩ : ∃ z : Nat → Int32, (upd (clA (mRw M) j) j 0) = z := ⟨_, rfl⟩
      refine z_bast C 11 rfl (vp_in_nI (by omega) (by omega)) (g := fz5) (Eq.trans (by rw [b8_0, nI_clamp (by omega)]) hz5) (V' := (wM E a N (msRw M fz5))) rfl dX5_clearRow_14 ?_
      refine z_iinc C 3 rfl (v := (nI (j + 1))) (zinc _) (lv' := [(3, .int (nI (j + 1))), (0, .ref (a 0)), (1, .int q), (2, .int se)]) rfl (by decide) dX5_clearRow_15 ?_
      refine z_goto C (tgt := 2) dX5_clearRow_18 (by decide) ?_
      subst hz5
      refine z_lv (lv' := [(0, .ref (a 0)), (1, .int q), (2, .int se), (3, .int (nI (j + 1)))]) [1, 2, 3, 0] rfl ?_
      exact ih2 (j + 1)  (by omega)
  refine z_lv (lv' := [(0, .ref (a 0)), (1, .int q), (2, .int se), (3, .int 0)]) [1, 2, 3, 0] rfl ?_
  exact loop2 32 0  (by omega)
abbrev rmX5_seal : Room := { frames := 1, cells := 0, slots := 0, locals := 24 }
theorem hyX5_seal : yX5_seal.cls = RX5 ∧ yX5_seal.cls ≠ "java/lang/invoke/MethodHandle" ∧ yX5_seal.cls ≠ "java/lang/invoke/VarHandle" ∧ (parseMethodDescriptor yX5_seal.desc).map (fun d => d.parameters.length) = some 1 := by decide +kernel
set_option maxHeartbeats 4000000 in
set_option maxRecDepth 3000 in
theorem c_X5_seal (E : GE) (N : Nat) (hN : 16 ≤ N ∧ N ≤ 64) (a : Nat → Nat) (M : MS) (s : Int32) : zV E yX5_seal wsX5_seal rmX5_seal [.ref (a 0), .int s] (wM E a N M) (wM E a N (msRw M (slRow (mRw M) s))) := by
  refine zV_of (cc := cX5_seal) (maxL := 4) (by decide) rfl (Nat.le_of_ble_eq_true rfl) ?_
  intro K C ret
  replace C : zC E K cX5_seal wsX5_seal RX5 rmX5_seal 4 := C
  have in5 : ∀ w ∈ wsX50, w ∈ wsX5_seal := fun w h => List.mem_cons_of_mem _ (List.mem_append_right _ (h))
  have l42 : zw K (.fieldLink RX5 42 "StoreLog3Model" "row" "[B") := C.w (List.mem_cons_of_mem _ (List.mem_append_left _ (List.mem_of_getElem? (i := 0) rfl)))
  show Z E K 0 0 (wM E a N M) 0 [(0, .ref (a 0)), (1, .int s)] []
  refine z_iload_n C 1 rfl rfl dX5_seal_0 ?_
  refine z_iconst C (v := 1) (by decide) dX5_seal_1 ?_
  refine z_iadd C dX5_seal_2 ?_
  refine z_istore_n C (lv' := [(2, .int (s + 1)), (0, .ref (a 0)), (1, .int s)]) rfl rfl (by decide) dX5_seal_3 ?_
  refine z_iconst C (v := 0) (by decide) dX5_seal_4 ?_
  refine z_istore_n C (lv' := [(3, .int 0), (2, .int (s + 1)), (0, .ref (a 0)), (1, .int s)]) rfl rfl (by decide) dX5_seal_5 ?_
  have loop6 : ∀ (n j : Nat), j + n = 28 → Z E K 0 0 (wM E a N M) 6 [(0, .ref (a 0)), (1, .int s), (2, .int (smR (mRw M) s j)), (3, .int (nI j))] [] := by
    intro n
    induction n with
    | zero => 
      intro j hj
      obtain rfl : j = 28 := by omega
      refine z_iload_n C 3 rfl rfl dX5_seal_6 ?_
      refine z_bipush C (v := 28) (by decide) dX5_seal_7 ?_
      refine z_icmp_ge C (tgt := 33) dX5_seal_9 (by decide) (fun h9_1 => ?_) (fun h9_1 => absurd (nI_le (a := 28) (b := 28) (Nat.le_refl _) (by omega)) h9_1)
      refine z_aload_n C 0 rfl rfl dX5_seal_33 ?_
      refine z_bipush C (v := 28) (by decide) dX5_seal_34 ?_
      refine z_iload_n C 2 rfl rfl dX5_seal_36 ?_
      refine z_iconst C (v := 4) (by decide) dX5_seal_37 ?_
      obtain ⟨fq2, hq38_2⟩ : ∃ z : Nat → Int32, (nmL (smR (mRw M) s 28) 4 28 (mRw M) 4) = z := ⟨_, rfl⟩
      have ct1 : zV E yX5_number wsX5_number rmX5_number [.ref (a 0), .int 28, .int (smR (mRw M) s 28), .int 4] (wM E a N M) (wM E a N (msRw M fq2)) := by subst hq38_2; exact c_X5_number E N hN a M 28 (smR (mRw M) s 28) 4 (by omega)
      refine z_callVV C ct1 gX5_seal_X5_number (ci := 5) (q0 := 0) rfl rfl hyX5_number rfl ⟨rfl, rfl⟩ ⟨by decide, by decide⟩ ⟨by decide, by decide⟩ [0, 1, 2, 3, 4, 5, 6, 7, 8, 9, 10, 11] [] [0, 1, 2, 3, 4, 5, 6, 7, 8, 9, 10, 11] (wr := []) (V' := (wM E a N (msRw M fq2))) rfl rfl (by decide) (by decide) (by decide) rfl (by decide) (st := []) (Nat.le_of_ble_eq_true rfl) dX5_seal_38 ?_ rfl
      subst hq38_2
      exact ret _ _ _ (by first | rfl | (simp only [if_pos h9_1, ↓reduceIte]; done) | (simp only [if_pos h9_1, ↓reduceIte]; rfl) | (simp [if_pos h9_1, ↓reduceIte]; done)) dX5_seal_41
    | succ n ih6 => 
      intro j hj
      refine z_iload_n C 3 rfl rfl dX5_seal_6 ?_
      refine z_bipush C (v := 28) (by decide) dX5_seal_7 ?_
      refine z_icmp_ge C (tgt := 33) dX5_seal_9 (by decide) (fun h9_2 => absurd h9_2 (nI_ge (a := j) (b := 28) (by omega) (by omega))) (fun h9_2 => ?_)
      refine z_iload_n C 2 rfl rfl dX5_seal_12 ?_
      refine z_aload_n C 0 rfl rfl dX5_seal_13 ?_
      refine z_get C (Cn := RX5) (T := TX5) (Nf := 20) (ci := 5) in5 0 19 l42 (v := .ref (a 11)) rfl rfl (by decide) rfl dX5_seal_14 ?_
      refine z_iload_n C 3 rfl rfl dX5_seal_17 ?_
      refine z_bald C 11 rfl (vp_in_nI (by omega) (by omega)) (v := ((mRw M) j)) (congrArg (mRw M) (nI_clamp (by omega))) dX5_seal_18 ?_
      refine z_sipush C (v := 255) (by decide) dX5_seal_19 ?_
      refine z_iand C dX5_seal_22 ?_
      refine z_rSI C (c_X5_step E (smR (mRw M) s j) (((mRw M) j) &&& 255)) gX5_seal_X5_step hyX5_step.2 rfl ⟨rfl, rfl⟩ ⟨by decide, by decide⟩ ⟨by decide, by decide⟩ [] rfl (by decide) (st := []) (Nat.le_of_ble_eq_true rfl) dX5_seal_23 ?_ rfl
      refine z_istore_n C (lv' := [(2, .int (stpM (smR (mRw M) s j) (((mRw M) j) &&& 255))), (0, .ref (a 0)), (1, .int s), (3, .int (nI j))]) rfl rfl (by decide) dX5_seal_26 ?_
      refine z_iinc C 3 rfl (v := (nI (j + 1))) (zinc _) (lv' := [(3, .int (nI (j + 1))), (2, .int (stpM (smR (mRw M) s j) (((mRw M) j) &&& 255))), (0, .ref (a 0)), (1, .int s)]) rfl (by decide) dX5_seal_27 ?_
      refine z_goto C (tgt := 6) dX5_seal_30 (by decide) ?_
      refine z_lv (lv' := [(0, .ref (a 0)), (1, .int s), (2, .int (stpM (smR (mRw M) s j) (((mRw M) j) &&& 255))), (3, .int (nI (j + 1)))]) [2, 3, 1, 0] rfl ?_
      exact ih6 (j + 1)  (by omega)
  refine z_lv (lv' := [(0, .ref (a 0)), (1, .int s), (2, .int (s + 1)), (3, .int 0)]) [2, 3, 1, 0] rfl ?_
  exact loop6 28 0  (by omega)
abbrev rmX5_needed : Room := { frames := 0, cells := 0, slots := 0, locals := 0 }
theorem hyX5_needed : yX5_needed.cls = RX5 ∧ yX5_needed.cls ≠ "java/lang/invoke/MethodHandle" ∧ yX5_needed.cls ≠ "java/lang/invoke/VarHandle" ∧ (parseMethodDescriptor yX5_needed.desc).map (fun d => d.parameters.length) = some 0 := by decide +kernel
set_option maxHeartbeats 4000000 in
set_option maxRecDepth 3000 in
theorem c_X5_needed (E : GE) (N : Nat) (hN : 16 ≤ N ∧ N ≤ 64) (a : Nat → Nat) (M : MS) : zI E yX5_needed wsX5_needed rmX5_needed [.ref (a 0)] (wM E a N M) (mNeed M) (wM E a N M) := by
  refine zI_of (cc := cX5_needed) (maxL := 1) (ty := .int) (by decide) rfl (vp_nar_int _) (Nat.le_of_ble_eq_true rfl) ?_
  intro K C ret
  replace C : zC E K cX5_needed wsX5_needed RX5 rmX5_needed 1 := C
  have in5 : ∀ w ∈ wsX50, w ∈ wsX5_needed := fun w h => List.mem_cons_of_mem _ (List.mem_append_right _ (h))
  have l71 : zw K (.fieldLink RX5 71 "StoreLog3Model" "lastSerial" "I") := C.w (List.mem_cons_of_mem _ (List.mem_append_left _ (List.mem_of_getElem? (i := 0) rfl)))
  have l77 : zw K (.fieldLink RX5 77 "StoreLog3Model" "wholeFirst" "I") := C.w (List.mem_cons_of_mem _ (List.mem_append_left _ (List.mem_of_getElem? (i := 1) rfl)))
  show Z E K 0 0 (wM E a N M) 0 [(0, .ref (a 0))] []
  refine z_aload_n C 0 rfl rfl dX5_needed_0 ?_
  refine z_get C (Cn := RX5) (T := TX5) (Nf := 20) (ci := 5) in5 0 7 l71 (v := .int (mSe M)) rfl rfl (by decide) rfl dX5_needed_1 ?_
  refine z_aload_n C 0 rfl rfl dX5_needed_4 ?_
  refine z_get C (Cn := RX5) (T := TX5) (Nf := 20) (ci := 5) in5 0 9 l77 (v := .int (mWf M)) rfl rfl (by decide) rfl dX5_needed_5 ?_
  refine z_isub C dX5_needed_8 ?_
  refine z_iconst C (v := 1) (by decide) dX5_needed_9 ?_
  refine z_iadd C dX5_needed_10 ?_
  exact ret _ _ _ _ (by first | rfl | (simp only [↓reduceIte]; done) | (simp only [↓reduceIte]; rfl) | (simp [↓reduceIte]; done)) rfl dX5_needed_11
abbrev rmX5_mayWrite : Room := { frames := 1, cells := 0, slots := 0, locals := 20 }
theorem hyX5_mayWrite : yX5_mayWrite.cls = RX5 ∧ yX5_mayWrite.cls ≠ "java/lang/invoke/MethodHandle" ∧ yX5_mayWrite.cls ≠ "java/lang/invoke/VarHandle" ∧ (parseMethodDescriptor yX5_mayWrite.desc).map (fun d => d.parameters.length) = some 1 := by decide +kernel
set_option maxHeartbeats 4000000 in
set_option maxRecDepth 3000 in
theorem c_X5_mayWrite (E : GE) (N : Nat) (hN : 16 ≤ N ∧ N ≤ 64) (a : Nat → Nat) (M : MS) (q : Int32) : zI E yX5_mayWrite wsX5_mayWrite rmX5_mayWrite [.ref (a 0), .int q] (wM E a N M) (mMay N M q) (wM E a N M) := by
  refine zI_of (cc := cX5_mayWrite) (maxL := 2) (ty := .boolean) (by decide) rfl (by unfold mMay; (repeat' split) <;> rfl) (Nat.le_of_ble_eq_true rfl) ?_
  intro K C ret
  replace C : zC E K cX5_mayWrite wsX5_mayWrite RX5 rmX5_mayWrite 2 := C
  have in5 : ∀ w ∈ wsX50, w ∈ wsX5_mayWrite := fun w h => List.mem_cons_of_mem _ (List.mem_append_right _ (h))
  have l45 : zw K (.fieldLink RX5 45 "StoreLog3Model" "sectors" "I") := C.w (List.mem_cons_of_mem _ (List.mem_append_left _ (List.mem_of_getElem? (i := 0) rfl)))
  show Z E K 0 0 (wM E a N M) 0 [(0, .ref (a 0)), (1, .int q)] []
  refine z_aload_n C 0 rfl rfl dX5_mayWrite_0 ?_
  refine z_rVI C (c_X5_needed E N hN a M) gX5_mayWrite_X5_needed (ci := 5) (q0 := 0) rfl rfl hyX5_needed rfl ⟨rfl, rfl⟩ ⟨by decide, by decide⟩ ⟨by decide, by decide⟩ [0, 1, 2, 3, 4, 5, 6, 7, 8, 9, 10, 11] rfl (by decide) (st := []) (Nat.le_of_ble_eq_true rfl) dX5_mayWrite_1 ?_ rfl
  refine z_iload_n C 1 rfl rfl dX5_mayWrite_4 ?_
  refine z_iadd C dX5_mayWrite_5 ?_
  refine z_aload_n C 0 rfl rfl dX5_mayWrite_6 ?_
  refine z_get C (Cn := RX5) (T := TX5) (Nf := 20) (ci := 5) in5 0 0 l45 (v := .int (nI N)) rfl rfl (by decide) rfl dX5_mayWrite_7 ?_
  refine z_icmp_gt C (tgt := 17) dX5_mayWrite_10 (by decide) (fun h10_1t => ?_) (fun h10_1f => ?_)
  · refine z_iconst C (v := 0) (by decide) dX5_mayWrite_17 ?_
    exact ret _ _ _ _ (by first | rfl | (simp only [mMay, if_pos h10_1t, ↓reduceIte]; done) | (simp only [mMay, if_pos h10_1t, ↓reduceIte]; rfl) | (simp [mMay, if_pos h10_1t, ↓reduceIte]; done)) rfl dX5_mayWrite_18
  · refine z_iconst C (v := 1) (by decide) dX5_mayWrite_13 ?_
    refine z_goto C (tgt := 18) dX5_mayWrite_14 (by decide) ?_
    exact ret _ _ _ _ (by first | rfl | (simp only [mMay, if_neg h10_1f, ↓reduceIte]; done) | (simp only [mMay, if_neg h10_1f, ↓reduceIte]; rfl) | (simp [mMay, if_neg h10_1f, ↓reduceIte]; done)) rfl dX5_mayWrite_18
abbrev rmX5_write : Room := { frames := 2, cells := 0, slots := 0, locals := 47 }
theorem hyX5_write : yX5_write.cls = RX5 ∧ yX5_write.cls ≠ "java/lang/invoke/MethodHandle" ∧ yX5_write.cls ≠ "java/lang/invoke/VarHandle" ∧ (parseMethodDescriptor yX5_write.desc).map (fun d => d.parameters.length) = some 0 := by decide +kernel
set_option maxHeartbeats 4000000 in
set_option maxRecDepth 3000 in
theorem c_X5_write (E : GE) (N : Nat) (hN : 16 ≤ N ∧ N ≤ 64) (a : Nat → Nat) (M : MS) (w c : Nat) (hw : mWa M = nI w) (hw2 : w < 64) (hc : mSc M = nI c) (hc2 : c < N) : zV E yX5_write wsX5_write rmX5_write [.ref (a 0)] (wM E a N M) (wM E a N (mWr N M w c)) := by
  refine zV_of (cc := cX5_write) (maxL := 2) (by decide) rfl (Nat.le_of_ble_eq_true rfl) ?_
  intro K C ret
  replace C : zC E K cX5_write wsX5_write RX5 rmX5_write 2 := C
  have in5 : ∀ w ∈ wsX50, w ∈ wsX5_write := fun w h => List.mem_cons_of_mem _ (List.mem_append_right _ (h))
  have l13 : zw K (.fieldLink RX5 13 "StoreLog3Model" "whereTo" "[I") := C.w (List.mem_cons_of_mem _ (List.mem_append_left _ (List.mem_of_getElem? (i := 2) rfl)))
  have l17 : zw K (.fieldLink RX5 17 "StoreLog3Model" "waits" "[B") := C.w (List.mem_cons_of_mem _ (List.mem_append_left _ (List.mem_of_getElem? (i := 4) rfl)))
  have l42 : zw K (.fieldLink RX5 42 "StoreLog3Model" "row" "[B") := C.w (List.mem_cons_of_mem _ (List.mem_append_left _ (List.mem_of_getElem? (i := 5) rfl)))
  have l45 : zw K (.fieldLink RX5 45 "StoreLog3Model" "sectors" "I") := C.w (List.mem_cons_of_mem _ (List.mem_append_left _ (List.mem_of_getElem? (i := 1) rfl)))
  have l52 : zw K (.fieldLink RX5 52 "StoreLog3Model" "waiting" "I") := C.w (List.mem_cons_of_mem _ (List.mem_append_left _ (List.mem_of_getElem? (i := 3) rfl)))
  have l68 : zw K (.fieldLink RX5 68 "StoreLog3Model" "lastSector" "I") := C.w (List.mem_cons_of_mem _ (List.mem_append_left _ (List.mem_of_getElem? (i := 0) rfl)))
  have l71 : zw K (.fieldLink RX5 71 "StoreLog3Model" "lastSerial" "I") := C.w (List.mem_cons_of_mem _ (List.mem_append_left _ (List.mem_of_getElem? (i := 6) rfl)))
  show Z E K 0 0 (wM E a N M) 0 [(0, .ref (a 0))] []
  refine z_aload_n C 0 rfl rfl dX5_write_0 ?_
  refine z_aload_n C 0 rfl rfl dX5_write_1 ?_
  refine z_get C (Cn := RX5) (T := TX5) (Nf := 20) (ci := 5) in5 0 6 l68 (v := .int (mSc M)) rfl rfl (by decide) rfl dX5_write_2 ?_
  refine z_top (y := (nI c)) hc ?_
  refine z_iconst C (v := 1) (by decide) dX5_write_5 ?_
  refine z_iadd C dX5_write_6 ?_
  refine z_top (y := (nI (c + 1))) (nI_1 _) ?_
  refine z_aload_n C 0 rfl rfl dX5_write_7 ?_
  refine z_get C (Cn := RX5) (T := TX5) (Nf := 20) (ci := 5) in5 0 0 l45 (v := .int (nI N)) rfl rfl (by decide) rfl dX5_write_8 ?_
  refine z_irem C (nI_ne0 (by omega) (by omega)) dX5_write_11 ?_
  refine z_top (y := (nI ((c + 1) % N))) (zrem (by omega) (by omega) (by omega)) ?_
  refine z_put C (Cn := RX5) (T := TX5) (Nf := 20) (ci := 5) in5 0 6 l68 rfl rfl (by decide) tyX5 tyX5_ok nmX5 rfl rfl rfl (Nat.le_of_ble_eq_true rfl) (V' := (wM E a N (msSc M (nI ((c + 1) % N))))) rfl dX5_write_12 ?_
  refine z_aload_n C 0 rfl rfl dX5_write_15 ?_
  refine z_aload_n C 0 rfl rfl dX5_write_16 ?_
  refine z_get C (Cn := RX5) (T := TX5) (Nf := 20) (ci := 5) in5 0 6 l68 (v := .int (nI ((c + 1) % N))) rfl rfl (by decide) rfl dX5_write_17 ?_
  obtain ⟨fq2, hq20_2⟩ : ∃ z : Nat → Int32, (slRow (mRw (msSc M (nI ((c + 1) % N)))) (nI ((c + 1) % N))) = z := ⟨_, rfl⟩
  have ct1 : zV E yX5_seal wsX5_seal rmX5_seal [.ref (a 0), .int (nI ((c + 1) % N))] (wM E a N (msSc M (nI ((c + 1) % N)))) (wM E a N (msRw (msSc M (nI ((c + 1) % N))) fq2)) := by subst hq20_2; exact c_X5_seal E N hN a (msSc M (nI ((c + 1) % N))) (nI ((c + 1) % N))
  refine z_callVV C ct1 gX5_write_X5_seal (ci := 5) (q0 := 0) rfl rfl hyX5_seal rfl ⟨rfl, rfl⟩ ⟨by decide, by decide⟩ ⟨by decide, by decide⟩ [0, 1, 2, 3, 4, 5, 6, 7, 8, 9, 10, 11] [] [0, 1, 2, 3, 4, 5, 6, 7, 8, 9, 10, 11] (wr := []) (V' := (wM E a N (msRw (msSc M (nI ((c + 1) % N))) fq2))) rfl rfl (by decide) (by decide) (by decide) rfl (by decide) (st := []) (Nat.le_of_ble_eq_true rfl) dX5_write_20 ?_ rfl
  refine z_aload_n C 0 rfl rfl dX5_write_23 ?_
  refine z_get C (Cn := RX5) (T := TX5) (Nf := 20) (ci := 5) in5 0 4 l13 (v := .ref (a 2)) rfl rfl (by decide) rfl dX5_write_24 ?_
  refine z_aload_n C 0 rfl rfl dX5_write_27 ?_
  refine z_get C (Cn := RX5) (T := TX5) (Nf := 20) (ci := 5) in5 0 3 l52 (v := .int (mWa M)) rfl rfl (by decide) rfl dX5_write_28 ?_
  refine z_top (y := (nI w)) hw ?_
  refine z_aload_n C 0 rfl rfl dX5_write_31 ?_
  refine z_get C (Cn := RX5) (T := TX5) (Nf := 20) (ci := 5) in5 0 6 l68 (v := .int (nI ((c + 1) % N))) rfl rfl (by decide) rfl dX5_write_32 ?_
  obtain ⟨fz3, hz3⟩ : ∃ z : Nat → Int32, (upd (mWt M) w (nI ((c + 1) % N))) = z := ⟨_, rfl⟩
  refine z_iast C 2 rfl (vp_in_nI (by omega) (by omega)) (g := fz3) (Eq.trans (by rw [nI_clamp (by omega)]) hz3) (V' := (wM E a N (msWt (msRw (msSc M (nI ((c + 1) % N))) fq2) fz3))) rfl dX5_write_35 ?_
  refine z_iconst C (v := 0) (by decide) dX5_write_36 ?_
  refine z_istore_n C (lv' := [(1, .int 0), (0, .ref (a 0))]) rfl rfl (by decide) dX5_write_37 ?_
  subst hz3
  subst hq20_2
  have loop38 : ∀ (n j : Nat), j + n = 32 → Z E K 0 0 (wM E a N (msWs (msWt (msRw (msSc M (nI ((c + 1) % N))) (slRow (mRw (msSc M (nI ((c + 1) % N)))) (nI ((c + 1) % N)))) (upd (mWt M) w (nI ((c + 1) % N)))) (mwS w (slRow (mRw (msSc M (nI ((c + 1) % N)))) (nI ((c + 1) % N))) (mWs M) j))) 38 [(0, .ref (a 0)), (1, .int (nI j))] [] := by
    intro n
    induction n with
    | zero => 
      intro j hj
      obtain rfl : j = 32 := by omega
      obtain ⟨fz4, hz4⟩ : ∃ z : Nat → Int32, (slRow (mRw (msSc M (nI ((c + 1) % N)))) (nI ((c + 1) % N))) = z := ⟨_, rfl⟩
      rw [hz4]
      obtain ⟨fz5, hz5⟩ : ∃ z : Nat → Int32, (upd (mWt M) w (nI ((c + 1) % N))) = z := ⟨_, rfl⟩
      rw [hz5]
      obtain ⟨fz6, hz6⟩ : ∃ z : Nat → Int32, (mwS w fz4 (mWs M) 32) = z := ⟨_, rfl⟩
      rw [hz6]
      refine z_iload_n C 1 rfl rfl dX5_write_38 ?_
      refine z_bipush C (v := 32) (by decide) dX5_write_39 ?_
      refine z_icmp_ge C (tgt := 70) dX5_write_41 (by decide) (fun h41_1 => ?_) (fun h41_1 => absurd (nI_le (a := 32) (b := 32) (Nat.le_refl _) (by omega)) h41_1)
      refine z_aload_n C 0 rfl rfl dX5_write_70 ?_
      refine z_dup C rfl dX5_write_71 ?_
      refine z_get C (Cn := RX5) (T := TX5) (Nf := 20) (ci := 5) in5 0 3 l52 (v := .int (mWa M)) rfl rfl (by decide) rfl dX5_write_72 ?_
      refine z_top (y := (nI w)) hw ?_
      refine z_iconst C (v := 1) (by decide) dX5_write_75 ?_
      refine z_iadd C dX5_write_76 ?_
      refine z_top (y := (nI (w + 1))) (nI_1 _) ?_
      refine z_put C (Cn := RX5) (T := TX5) (Nf := 20) (ci := 5) in5 0 3 l52 rfl rfl (by decide) tyX5 tyX5_ok nmX5 rfl rfl rfl (Nat.le_of_ble_eq_true rfl) (V' := (wM E a N (msWa (msWs (msWt (msRw (msSc M (nI ((c + 1) % N))) fz4) fz5) fz6) (nI (w + 1))))) rfl dX5_write_77 ?_
      refine z_aload_n C 0 rfl rfl dX5_write_80 ?_
      refine z_dup C rfl dX5_write_81 ?_
      refine z_get C (Cn := RX5) (T := TX5) (Nf := 20) (ci := 5) in5 0 7 l71 (v := .int (mSe M)) rfl rfl (by decide) rfl dX5_write_82 ?_
      refine z_iconst C (v := 1) (by decide) dX5_write_85 ?_
      refine z_iadd C dX5_write_86 ?_
      obtain ⟨iz7, hz7⟩ : ∃ z : Int32, ((mSe M) + 1) = z := ⟨_, rfl⟩
      refine z_top hz7 ?_
      refine z_put C (Cn := RX5) (T := TX5) (Nf := 20) (ci := 5) in5 0 7 l71 rfl rfl (by decide) tyX5 tyX5_ok nmX5 rfl rfl rfl (Nat.le_of_ble_eq_true rfl) (V' := (wM E a N (msSe (msWa (msWs (msWt (msRw (msSc M (nI ((c + 1) % N))) fz4) fz5) fz6) (nI (w + 1))) iz7))) rfl dX5_write_87 ?_
      subst hz7
      subst hz6
      subst hz5
      subst hz4
      exact ret _ _ _ (by first | rfl | (simp only [if_pos h41_1, ↓reduceIte]; done) | (simp only [if_pos h41_1, ↓reduceIte]; rfl) | (simp [if_pos h41_1, ↓reduceIte]; done)) dX5_write_90
    | succ n ih38 => 
      intro j hj
      refine z_iload_n C 1 rfl rfl dX5_write_38 ?_
      refine z_bipush C (v := 32) (by decide) dX5_write_39 ?_
      refine z_icmp_ge C (tgt := 70) dX5_write_41 (by decide) (fun h41_2 => absurd h41_2 (nI_ge (a := j) (b := 32) (by omega) (by omega))) (fun h41_2 => ?_)
      refine z_aload_n C 0 rfl rfl dX5_write_44 ?_
      refine z_get C (Cn := RX5) (T := TX5) (Nf := 20) (ci := 5) in5 0 5 l17 (v := .ref (a 3)) rfl rfl (by decide) rfl dX5_write_45 ?_
      refine z_bipush C (v := 32) (by decide) dX5_write_48 ?_
      refine z_aload_n C 0 rfl rfl dX5_write_50 ?_
      refine z_get C (Cn := RX5) (T := TX5) (Nf := 20) (ci := 5) in5 0 3 l52 (v := .int (mWa M)) rfl rfl (by decide) rfl dX5_write_51 ?_
      refine z_top (y := (nI w)) hw ?_
      refine z_imul C dX5_write_54 ?_
      refine z_top (y := (nI (32 * w))) (zmul 32 w) ?_
      refine z_iload_n C 1 rfl rfl dX5_write_55 ?_
      refine z_iadd C dX5_write_56 ?_
      refine z_top (y := (nI (32 * w + j))) (nI_add _ _) ?_
      refine z_aload_n C 0 rfl rfl dX5_write_57 ?_
      refine z_get C (Cn := RX5) (T := TX5) (Nf := 20) (ci := 5) in5 0 19 l42 (v := .ref (a 11)) rfl rfl (by decide) rfl dX5_write_58 ?_
      refine z_iload_n C 1 rfl rfl dX5_write_61 ?_
      refine z_bald C 11 rfl (vp_in_nI (by omega) (by omega)) (v := ((slRow (mRw (msSc M (nI ((c + 1) % N)))) (nI ((c + 1) % N))) j)) (congrArg (slRow (mRw (msSc M (nI ((c + 1) % N)))) (nI ((c + 1) % N))) (nI_clamp (by omega))) dX5_write_62 ?_
      obtain ⟨fz8, hz8⟩ : ∃ z : Nat → Int32, (upd (mwS w (slRow (mRw (msSc M (nI ((c + 1) % N)))) (nI ((c + 1) % N))) (mWs M) j) (32 * w + j) (b8 ((slRow (mRw (msSc M (nI ((c + 1) % N)))) (nI ((c + 1) % N))) j))) = z := ⟨_, rfl⟩
      refine z_bast C 3 rfl (vp_in_nI (by omega) (by omega)) (g := fz8) (Eq.trans (by rw [b8_st, nI_clamp (by omega)]) hz8) (V' := (wM E a N (msWs (msWt (msRw (msSc M (nI ((c + 1) % N))) (slRow (mRw (msSc M (nI ((c + 1) % N)))) (nI ((c + 1) % N)))) (upd (mWt M) w (nI ((c + 1) % N)))) fz8))) rfl dX5_write_63 ?_
      refine z_iinc C 1 rfl (v := (nI (j + 1))) (zinc _) (lv' := [(1, .int (nI (j + 1))), (0, .ref (a 0))]) rfl (by decide) dX5_write_64 ?_
      refine z_goto C (tgt := 38) dX5_write_67 (by decide) ?_
      subst hz8
      refine z_lv (lv' := [(0, .ref (a 0)), (1, .int (nI (j + 1)))]) [1, 0] rfl ?_
      exact ih38 (j + 1)  (by omega)
  refine z_lv (lv' := [(0, .ref (a 0)), (1, .int 0)]) [1, 0] rfl ?_
  exact loop38 32 0  (by omega)
abbrev rmX5_writeEntries : Room := { frames := 3, cells := 0, slots := 0, locals := 68 }
theorem hyX5_writeEntries : yX5_writeEntries.cls = RX5 ∧ yX5_writeEntries.cls ≠ "java/lang/invoke/MethodHandle" ∧ yX5_writeEntries.cls ≠ "java/lang/invoke/VarHandle" ∧ (parseMethodDescriptor yX5_writeEntries.desc).map (fun d => d.parameters.length) = some 0 := by decide +kernel
set_option maxHeartbeats 4000000 in
set_option maxRecDepth 3000 in
theorem c_X5_writeEntries (E : GE) (N : Nat) (hN : 16 ≤ N ∧ N ≤ 64) (a : Nat → Nat) (M : MS) (e : Nat) (he : mEn M = nI e) (he4 : e ≤ 4) (w c : Nat) (hw : mWa M = nI w) (hw2 : w < 64) (hc : mSc M = nI c) (hc2 : c < N) : zV E yX5_writeEntries wsX5_writeEntries rmX5_writeEntries [.ref (a 0)] (wM E a N M) (wM E a N (mWE N M e w c)) := by
  refine zV_of (cc := cX5_writeEntries) (maxL := 2) (by decide) rfl (Nat.le_of_ble_eq_true rfl) ?_
  intro K C ret
  replace C : zC E K cX5_writeEntries wsX5_writeEntries RX5 rmX5_writeEntries 2 := C
  have in5 : ∀ w ∈ wsX50, w ∈ wsX5_writeEntries := fun w h => List.mem_cons_of_mem _ (List.mem_append_right _ (h))
  have l20 : zw K (.fieldLink RX5 20 "StoreLog3Model" "entryHeads" "[I") := C.w (List.mem_cons_of_mem _ (List.mem_append_left _ (List.mem_append_left _ (List.mem_of_getElem? (i := 3) rfl))))
  have l23 : zw K (.fieldLink RX5 23 "StoreLog3Model" "entryKeys" "[I") := C.w (List.mem_cons_of_mem _ (List.mem_append_left _ (List.mem_append_left _ (List.mem_of_getElem? (i := 4) rfl))))
  have l26 : zw K (.fieldLink RX5 26 "StoreLog3Model" "entryValues" "[I") := C.w (List.mem_cons_of_mem _ (List.mem_append_left _ (List.mem_append_left _ (List.mem_of_getElem? (i := 5) rfl))))
  have l42 : zw K (.fieldLink RX5 42 "StoreLog3Model" "row" "[B") := C.w (List.mem_cons_of_mem _ (List.mem_append_left _ (List.mem_append_left _ (List.mem_of_getElem? (i := 1) rfl))))
  have l55 : zw K (.fieldLink RX5 55 "StoreLog3Model" "entries" "I") := C.w (List.mem_cons_of_mem _ (List.mem_append_left _ (List.mem_append_left _ (List.mem_of_getElem? (i := 2) rfl))))
  have l71 : zw K (.fieldLink RX5 71 "StoreLog3Model" "lastSerial" "I") := C.w (List.mem_cons_of_mem _ (List.mem_append_left _ (List.mem_append_left _ (List.mem_of_getElem? (i := 0) rfl))))
  show Z E K 0 0 (wM E a N M) 0 [(0, .ref (a 0))] []
  refine z_aload_n C 0 rfl rfl dX5_writeEntries_0 ?_
  refine z_iconst C (v := 1) (by decide) dX5_writeEntries_1 ?_
  refine z_aload_n C 0 rfl rfl dX5_writeEntries_2 ?_
  refine z_get C (Cn := RX5) (T := TX5) (Nf := 20) (ci := 5) in5 0 7 l71 (v := .int (mSe M)) rfl rfl (by decide) rfl dX5_writeEntries_3 ?_
  refine z_iconst C (v := 1) (by decide) dX5_writeEntries_6 ?_
  refine z_iadd C dX5_writeEntries_7 ?_
  obtain ⟨fq2, hq8_2⟩ : ∃ z : Nat → Int32, (clRow (mRw M) 1 ((mSe M) + 1)) = z := ⟨_, rfl⟩
  have ct1 : zV E yX5_clearRow wsX5_clearRow rmX5_clearRow [.ref (a 0), .int 1, .int ((mSe M) + 1)] (wM E a N M) (wM E a N (msRw M fq2)) := by subst hq8_2; exact c_X5_clearRow E N hN a M 1 ((mSe M) + 1)
  refine z_callVV C ct1 gX5_writeEntries_X5_clearRow (ci := 5) (q0 := 0) rfl rfl hyX5_clearRow rfl ⟨rfl, rfl⟩ ⟨by decide, by decide⟩ ⟨by decide, by decide⟩ [0, 1, 2, 3, 4, 5, 6, 7, 8, 9, 10, 11] [] [0, 1, 2, 3, 4, 5, 6, 7, 8, 9, 10, 11] (wr := []) (V' := (wM E a N (msRw M fq2))) rfl rfl (by decide) (by decide) (by decide) rfl (by decide) (st := []) (Nat.le_of_ble_eq_true rfl) dX5_writeEntries_8 ?_ rfl
  refine z_aload_n C 0 rfl rfl dX5_writeEntries_11 ?_
  refine z_get C (Cn := RX5) (T := TX5) (Nf := 20) (ci := 5) in5 0 19 l42 (v := .ref (a 11)) rfl rfl (by decide) rfl dX5_writeEntries_12 ?_
  refine z_iconst C (v := 5) (by decide) dX5_writeEntries_15 ?_
  refine z_aload_n C 0 rfl rfl dX5_writeEntries_16 ?_
  refine z_get C (Cn := RX5) (T := TX5) (Nf := 20) (ci := 5) in5 0 10 l55 (v := .int (mEn M)) rfl rfl (by decide) rfl dX5_writeEntries_17 ?_
  refine z_top (y := (nI e)) he ?_
  refine z_i2b C (v := (b8 (nI e))) rfl dX5_writeEntries_20 ?_
  obtain ⟨fz3, hz3⟩ : ∃ z : Nat → Int32, (upd fq2 5 (b8 (nI e))) = z := ⟨_, rfl⟩
  refine z_bast C 11 rfl (vp_in_nI (n := 5) (by omega) (by omega)) (g := fz3) (Eq.trans (congrArg (upd fq2 5) (b8_nar _)) hz3) (V' := (wM E a N (msRw M fz3))) rfl dX5_writeEntries_21 ?_
  refine z_iconst C (v := 0) (by decide) dX5_writeEntries_22 ?_
  refine z_istore_n C (lv' := [(1, .int 0), (0, .ref (a 0))]) rfl rfl (by decide) dX5_writeEntries_23 ?_
  subst hz3
  subst hq8_2
  have loop24 : ∀ (n j : Nat), j + n = e → Z E K 0 0 (wM E a N (msRw M (weL (mEh M) (mEk M) (mEv M) (upd (clRow (mRw M) 1 ((mSe M) + 1)) 5 (b8 (nI e))) j))) 24 [(0, .ref (a 0)), (1, .int (nI j))] [] := by
    intro n
    induction n with
    | zero => 
      intro j hj
      obtain rfl : e = j := by omega
      obtain ⟨fz4, hz4⟩ : ∃ z : Nat → Int32, (weL (mEh M) (mEk M) (mEv M) (upd (clRow (mRw M) 1 ((mSe M) + 1)) 5 (b8 (nI e))) e) = z := ⟨_, rfl⟩
      rw [hz4]
      refine z_iload_n C 1 rfl rfl dX5_writeEntries_24 ?_
      refine z_aload_n C 0 rfl rfl dX5_writeEntries_25 ?_
      refine z_get C (Cn := RX5) (T := TX5) (Nf := 20) (ci := 5) in5 0 10 l55 (v := .int (mEn M)) rfl rfl (by decide) rfl dX5_writeEntries_26 ?_
      refine z_top (y := (nI e)) he ?_
      refine z_icmp_ge C (tgt := 91) dX5_writeEntries_29 (by decide) (fun h29_1 => ?_) (fun h29_1 => absurd (nI_le (a := e) (b := e) (Nat.le_refl _) (by omega)) h29_1)
      refine z_aload_n C 0 rfl rfl dX5_writeEntries_91 ?_
      obtain ⟨Mq6, hq92_6⟩ : ∃ z : MS, (mWr N (msRw M fz4) w c) = z := ⟨_, rfl⟩
      have ct5 : zV E yX5_write wsX5_write rmX5_write [.ref (a 0)] (wM E a N (msRw M fz4)) (wM E a N Mq6) := by subst hq92_6; exact c_X5_write E N hN a (msRw M fz4) w c hw hw2 hc hc2
      refine z_callVV C ct5 gX5_writeEntries_X5_write (ci := 5) (q0 := 0) rfl rfl hyX5_write rfl ⟨rfl, rfl⟩ ⟨by decide, by decide⟩ ⟨by decide, by decide⟩ [0, 1, 2, 3, 4, 5, 6, 7, 8, 9, 10, 11] [] [0, 1, 2, 3, 4, 5, 6, 7, 8, 9, 10, 11] (wr := []) (V' := (wM E a N Mq6)) rfl rfl (by decide) (by decide) (by decide) rfl (by decide) (st := []) (Nat.le_of_ble_eq_true rfl) dX5_writeEntries_92 ?_ rfl
      refine z_aload_n C 0 rfl rfl dX5_writeEntries_95 ?_
      refine z_iconst C (v := 0) (by decide) dX5_writeEntries_96 ?_
      refine z_put C (Cn := RX5) (T := TX5) (Nf := 20) (ci := 5) in5 0 10 l55 rfl rfl (by decide) tyX5 tyX5_ok nmX5 rfl rfl rfl (Nat.le_of_ble_eq_true rfl) (V' := (wM E a N (msEn Mq6 0))) rfl dX5_writeEntries_97 ?_
      subst hq92_6
      subst hz4
      exact ret _ _ _ (by first | rfl | (simp only [if_pos h29_1, ↓reduceIte]; done) | (simp only [if_pos h29_1, ↓reduceIte]; rfl) | (simp [if_pos h29_1, ↓reduceIte]; done)) dX5_writeEntries_100
    | succ n ih24 => 
      intro j hj
      refine z_iload_n C 1 rfl rfl dX5_writeEntries_24 ?_
      refine z_aload_n C 0 rfl rfl dX5_writeEntries_25 ?_
      refine z_get C (Cn := RX5) (T := TX5) (Nf := 20) (ci := 5) in5 0 10 l55 (v := .int (mEn M)) rfl rfl (by decide) rfl dX5_writeEntries_26 ?_
      refine z_top (y := (nI e)) he ?_
      refine z_icmp_ge C (tgt := 91) dX5_writeEntries_29 (by decide) (fun h29_2 => absurd h29_2 (nI_ge (a := j) (b := e) (by omega) (by omega))) (fun h29_2 => ?_)
      refine z_aload_n C 0 rfl rfl dX5_writeEntries_32 ?_
      refine z_get C (Cn := RX5) (T := TX5) (Nf := 20) (ci := 5) in5 0 19 l42 (v := .ref (a 11)) rfl rfl (by decide) rfl dX5_writeEntries_33 ?_
      refine z_bipush C (v := 6) (by decide) dX5_writeEntries_36 ?_
      refine z_iconst C (v := 5) (by decide) dX5_writeEntries_38 ?_
      refine z_iload_n C 1 rfl rfl dX5_writeEntries_39 ?_
      refine z_imul C dX5_writeEntries_40 ?_
      refine z_top (y := (nI (5 * j))) (zmul 5 j) ?_
      refine z_iadd C dX5_writeEntries_41 ?_
      refine z_top (y := (nI (6 + 5 * j))) (nI_add 6 _) ?_
      refine z_aload_n C 0 rfl rfl dX5_writeEntries_42 ?_
      refine z_get C (Cn := RX5) (T := TX5) (Nf := 20) (ci := 5) in5 0 11 l20 (v := .ref (a 4)) rfl rfl (by decide) rfl dX5_writeEntries_43 ?_
      refine z_iload_n C 1 rfl rfl dX5_writeEntries_46 ?_
      refine z_iald C 4 rfl (vp_in_nI (by omega) (by omega)) (v := ((mEh M) j)) (congrArg (mEh M) (nI_clamp (by omega))) dX5_writeEntries_47 ?_
      refine z_i2b C (v := (b8 ((mEh M) j))) rfl dX5_writeEntries_48 ?_
      obtain ⟨fz7, hz7⟩ : ∃ z : Nat → Int32, (upd (weL (mEh M) (mEk M) (mEv M) (upd (clRow (mRw M) 1 ((mSe M) + 1)) 5 (b8 (nI e))) j) (6 + 5 * j) (b8 ((mEh M) j))) = z := ⟨_, rfl⟩
      refine z_bast C 11 rfl (vp_in_nI (by omega) (by omega)) (g := fz7) (Eq.trans (by rw [b8_nar, nI_clamp (by omega)]) hz7) (V' := (wM E a N (msRw M fz7))) rfl dX5_writeEntries_49 ?_
      refine z_aload_n C 0 rfl rfl dX5_writeEntries_50 ?_
      refine z_get C (Cn := RX5) (T := TX5) (Nf := 20) (ci := 5) in5 0 19 l42 (v := .ref (a 11)) rfl rfl (by decide) rfl dX5_writeEntries_51 ?_
      refine z_bipush C (v := 7) (by decide) dX5_writeEntries_54 ?_
      refine z_iconst C (v := 5) (by decide) dX5_writeEntries_56 ?_
      refine z_iload_n C 1 rfl rfl dX5_writeEntries_57 ?_
      refine z_imul C dX5_writeEntries_58 ?_
      refine z_top (y := (nI (5 * j))) (zmul 5 j) ?_
      refine z_iadd C dX5_writeEntries_59 ?_
      refine z_top (y := (nI (7 + 5 * j))) (nI_add 7 _) ?_
      refine z_aload_n C 0 rfl rfl dX5_writeEntries_60 ?_
      refine z_get C (Cn := RX5) (T := TX5) (Nf := 20) (ci := 5) in5 0 12 l23 (v := .ref (a 5)) rfl rfl (by decide) rfl dX5_writeEntries_61 ?_
      refine z_iload_n C 1 rfl rfl dX5_writeEntries_64 ?_
      refine z_iald C 5 rfl (vp_in_nI (by omega) (by omega)) (v := ((mEk M) j)) (congrArg (mEk M) (nI_clamp (by omega))) dX5_writeEntries_65 ?_
      refine z_i2b C (v := (b8 ((mEk M) j))) rfl dX5_writeEntries_66 ?_
      obtain ⟨fz8, hz8⟩ : ∃ z : Nat → Int32, (upd fz7 (7 + 5 * j) (b8 ((mEk M) j))) = z := ⟨_, rfl⟩
      refine z_bast C 11 rfl (vp_in_nI (by omega) (by omega)) (g := fz8) (Eq.trans (by rw [b8_nar, nI_clamp (by omega)]) hz8) (V' := (wM E a N (msRw M fz8))) rfl dX5_writeEntries_67 ?_
      refine z_aload_n C 0 rfl rfl dX5_writeEntries_68 ?_
      refine z_bipush C (v := 8) (by decide) dX5_writeEntries_69 ?_
      refine z_iconst C (v := 5) (by decide) dX5_writeEntries_71 ?_
      refine z_iload_n C 1 rfl rfl dX5_writeEntries_72 ?_
      refine z_imul C dX5_writeEntries_73 ?_
      refine z_top (y := (nI (5 * j))) (zmul 5 j) ?_
      refine z_iadd C dX5_writeEntries_74 ?_
      refine z_top (y := (nI (8 + 5 * j))) (nI_add 8 _) ?_
      refine z_aload_n C 0 rfl rfl dX5_writeEntries_75 ?_
      refine z_get C (Cn := RX5) (T := TX5) (Nf := 20) (ci := 5) in5 0 13 l26 (v := .ref (a 6)) rfl rfl (by decide) rfl dX5_writeEntries_76 ?_
      refine z_iload_n C 1 rfl rfl dX5_writeEntries_79 ?_
      refine z_iald C 6 rfl (vp_in_nI (by omega) (by omega)) (v := ((mEv M) j)) (congrArg (mEv M) (nI_clamp (by omega))) dX5_writeEntries_80 ?_
      refine z_iconst C (v := 3) (by decide) dX5_writeEntries_81 ?_
      obtain ⟨fq10, hq82_10⟩ : ∃ z : Nat → Int32, (nmL ((mEv M) j) 3 (8 + 5 * j) (mRw (msRw M fz8)) 3) = z := ⟨_, rfl⟩
      have ct9 : zV E yX5_number wsX5_number rmX5_number [.ref (a 0), .int (nI (8 + 5 * j)), .int ((mEv M) j), .int 3] (wM E a N (msRw M fz8)) (wM E a N (msRw M fq10)) := by subst hq82_10; exact c_X5_number E N hN a (msRw M fz8) (8 + 5 * j) ((mEv M) j) 3 (by omega)
      refine z_callVV C ct9 gX5_writeEntries_X5_number (ci := 5) (q0 := 0) rfl rfl hyX5_number rfl ⟨rfl, rfl⟩ ⟨by decide, by decide⟩ ⟨by decide, by decide⟩ [0, 1, 2, 3, 4, 5, 6, 7, 8, 9, 10, 11] [] [0, 1, 2, 3, 4, 5, 6, 7, 8, 9, 10, 11] (wr := []) (V' := (wM E a N (msRw M fq10))) rfl rfl (by decide) (by decide) (by decide) rfl (by decide) (st := []) (Nat.le_of_ble_eq_true rfl) dX5_writeEntries_82 ?_ rfl
      refine z_iinc C 1 rfl (v := (nI (j + 1))) (zinc _) (lv' := [(1, .int (nI (j + 1))), (0, .ref (a 0))]) rfl (by decide) dX5_writeEntries_85 ?_
      refine z_goto C (tgt := 24) dX5_writeEntries_88 (by decide) ?_
      subst hq82_10
      subst hz8
      subst hz7
      refine z_lv (lv' := [(0, .ref (a 0)), (1, .int (nI (j + 1)))]) [1, 0] rfl ?_
      exact ih24 (j + 1)  (by omega)
  refine z_lv (lv' := [(0, .ref (a 0)), (1, .int 0)]) [1, 0] rfl ?_
  exact loop24 e 0  (by omega)
abbrev rmX5_add : Room := { frames := 4, cells := 0, slots := 0, locals := 89 }
theorem hyX5_add : yX5_add.cls = RX5 ∧ yX5_add.cls ≠ "java/lang/invoke/MethodHandle" ∧ yX5_add.cls ≠ "java/lang/invoke/VarHandle" ∧ (parseMethodDescriptor yX5_add.desc).map (fun d => d.parameters.length) = some 3 := by decide +kernel
set_option maxHeartbeats 4000000 in
set_option maxRecDepth 3000 in
theorem c_X5_add (E : GE) (N : Nat) (hN : 16 ≤ N ∧ N ≤ 64) (a : Nat → Nat) (M : MS) (h : Int32) (k : Int32) (v : Int32) (e : Nat) (he : mEn M = nI e) (he3 : e ≤ 3) (w c : Nat) (hw : mWa M = nI w) (hw2 : w < 64) (hc : mSc M = nI c) (hc2 : c < N) : zV E yX5_add wsX5_add rmX5_add [.ref (a 0), .int h, .int k, .int v] (wM E a N M) (wM E a N (mAdd N M h k v e w c)) := by
  refine zV_of (cc := cX5_add) (maxL := 4) (by decide) rfl (Nat.le_of_ble_eq_true rfl) ?_
  intro K C ret
  replace C : zC E K cX5_add wsX5_add RX5 rmX5_add 4 := C
  have in5 : ∀ w ∈ wsX50, w ∈ wsX5_add := fun w h => List.mem_cons_of_mem _ (List.mem_append_right _ (h))
  have l20 : zw K (.fieldLink RX5 20 "StoreLog3Model" "entryHeads" "[I") := C.w (List.mem_cons_of_mem _ (List.mem_append_left _ (List.mem_append_left _ (List.mem_of_getElem? (i := 0) rfl))))
  have l23 : zw K (.fieldLink RX5 23 "StoreLog3Model" "entryKeys" "[I") := C.w (List.mem_cons_of_mem _ (List.mem_append_left _ (List.mem_append_left _ (List.mem_of_getElem? (i := 2) rfl))))
  have l26 : zw K (.fieldLink RX5 26 "StoreLog3Model" "entryValues" "[I") := C.w (List.mem_cons_of_mem _ (List.mem_append_left _ (List.mem_append_left _ (List.mem_of_getElem? (i := 3) rfl))))
  have l55 : zw K (.fieldLink RX5 55 "StoreLog3Model" "entries" "I") := C.w (List.mem_cons_of_mem _ (List.mem_append_left _ (List.mem_append_left _ (List.mem_of_getElem? (i := 1) rfl))))
  show Z E K 0 0 (wM E a N M) 0 [(0, .ref (a 0)), (1, .int h), (2, .int k), (3, .int v)] []
  refine z_aload_n C 0 rfl rfl dX5_add_0 ?_
  refine z_get C (Cn := RX5) (T := TX5) (Nf := 20) (ci := 5) in5 0 11 l20 (v := .ref (a 4)) rfl rfl (by decide) rfl dX5_add_1 ?_
  refine z_aload_n C 0 rfl rfl dX5_add_4 ?_
  refine z_get C (Cn := RX5) (T := TX5) (Nf := 20) (ci := 5) in5 0 10 l55 (v := .int (mEn M)) rfl rfl (by decide) rfl dX5_add_5 ?_
  refine z_top (y := (nI e)) he ?_
  refine z_iload_n C 1 rfl rfl dX5_add_8 ?_
  obtain ⟨fz1, hz1⟩ : ∃ z : Nat → Int32, (upd (mEh M) e h) = z := ⟨_, rfl⟩
  refine z_iast C 4 rfl (vp_in_nI (by omega) (by omega)) (g := fz1) (Eq.trans (by rw [nI_clamp (by omega)]) hz1) (V' := (wM E a N (msEh M fz1))) rfl dX5_add_9 ?_
  refine z_aload_n C 0 rfl rfl dX5_add_10 ?_
  refine z_get C (Cn := RX5) (T := TX5) (Nf := 20) (ci := 5) in5 0 12 l23 (v := .ref (a 5)) rfl rfl (by decide) rfl dX5_add_11 ?_
  refine z_aload_n C 0 rfl rfl dX5_add_14 ?_
  refine z_get C (Cn := RX5) (T := TX5) (Nf := 20) (ci := 5) in5 0 10 l55 (v := .int (mEn M)) rfl rfl (by decide) rfl dX5_add_15 ?_
  refine z_top (y := (nI e)) he ?_
  refine z_iload_n C 2 rfl rfl dX5_add_18 ?_
  obtain ⟨fz2, hz2⟩ : ∃ z : Nat → Int32, (upd (mEk M) e k) = z := ⟨_, rfl⟩
  refine z_iast C 5 rfl (vp_in_nI (by omega) (by omega)) (g := fz2) (Eq.trans (by rw [nI_clamp (by omega)]) hz2) (V' := (wM E a N (msEk (msEh M fz1) fz2))) rfl dX5_add_19 ?_
  refine z_aload_n C 0 rfl rfl dX5_add_20 ?_
  refine z_get C (Cn := RX5) (T := TX5) (Nf := 20) (ci := 5) in5 0 13 l26 (v := .ref (a 6)) rfl rfl (by decide) rfl dX5_add_21 ?_
  refine z_aload_n C 0 rfl rfl dX5_add_24 ?_
  refine z_get C (Cn := RX5) (T := TX5) (Nf := 20) (ci := 5) in5 0 10 l55 (v := .int (mEn M)) rfl rfl (by decide) rfl dX5_add_25 ?_
  refine z_top (y := (nI e)) he ?_
  refine z_iload_n C 3 rfl rfl dX5_add_28 ?_
  obtain ⟨fz3, hz3⟩ : ∃ z : Nat → Int32, (upd (mEv M) e v) = z := ⟨_, rfl⟩
  refine z_iast C 6 rfl (vp_in_nI (by omega) (by omega)) (g := fz3) (Eq.trans (by rw [nI_clamp (by omega)]) hz3) (V' := (wM E a N (msEv (msEk (msEh M fz1) fz2) fz3))) rfl dX5_add_29 ?_
  refine z_aload_n C 0 rfl rfl dX5_add_30 ?_
  refine z_dup C rfl dX5_add_31 ?_
  refine z_get C (Cn := RX5) (T := TX5) (Nf := 20) (ci := 5) in5 0 10 l55 (v := .int (mEn M)) rfl rfl (by decide) rfl dX5_add_32 ?_
  refine z_top (y := (nI e)) he ?_
  refine z_iconst C (v := 1) (by decide) dX5_add_35 ?_
  refine z_iadd C dX5_add_36 ?_
  refine z_top (y := (nI (e + 1))) (nI_1 _) ?_
  refine z_put C (Cn := RX5) (T := TX5) (Nf := 20) (ci := 5) in5 0 10 l55 rfl rfl (by decide) tyX5 tyX5_ok nmX5 rfl rfl rfl (Nat.le_of_ble_eq_true rfl) (V' := (wM E a N (msEn (msEv (msEk (msEh M fz1) fz2) fz3) (nI (e + 1))))) rfl dX5_add_37 ?_
  refine z_aload_n C 0 rfl rfl dX5_add_40 ?_
  refine z_get C (Cn := RX5) (T := TX5) (Nf := 20) (ci := 5) in5 0 10 l55 (v := .int (nI (e + 1))) rfl rfl (by decide) rfl dX5_add_41 ?_
  refine z_iconst C (v := 4) (by decide) dX5_add_44 ?_
  refine z_icmp_ne C (tgt := 52) dX5_add_45 (by decide) (fun h45_1t => ?_) (fun h45_1f => ?_)
  · subst hz3
    subst hz2
    subst hz1
    exact ret _ _ _ (by first | rfl | (simp only [mAdd, mPut1, if_neg h45_1t, ↓reduceIte]; done) | (simp only [mAdd, mPut1, if_neg h45_1t, ↓reduceIte]; rfl) | (simp [mAdd, mPut1, if_neg h45_1t, ↓reduceIte]; done)) dX5_add_52
  · refine z_aload_n C 0 rfl rfl dX5_add_48 ?_
    obtain ⟨Mq5, hq49_5⟩ : ∃ z : MS, (mWE N (msEn (msEv (msEk (msEh M fz1) fz2) fz3) (nI (e + 1))) 4 w c) = z := ⟨_, rfl⟩
    have ct4 : zV E yX5_writeEntries wsX5_writeEntries rmX5_writeEntries [.ref (a 0)] (wM E a N (msEn (msEv (msEk (msEh M fz1) fz2) fz3) (nI (e + 1)))) (wM E a N Mq5) := by subst hq49_5; exact c_X5_writeEntries E N hN a (msEn (msEv (msEk (msEh M fz1) fz2) fz3) (nI (e + 1))) 4 h45_1f (by decide) w c hw hw2 hc hc2
    refine z_callVV C ct4 gX5_add_X5_writeEntries (ci := 5) (q0 := 0) rfl rfl hyX5_writeEntries rfl ⟨rfl, rfl⟩ ⟨by decide, by decide⟩ ⟨by decide, by decide⟩ [0, 1, 2, 3, 4, 5, 6, 7, 8, 9, 10, 11] [] [0, 1, 2, 3, 4, 5, 6, 7, 8, 9, 10, 11] (wr := []) (V' := (wM E a N Mq5)) rfl rfl (by decide) (by decide) (by decide) rfl (by decide) (st := []) (Nat.le_of_ble_eq_true rfl) dX5_add_49 ?_ rfl
    subst hq49_5
    subst hz3
    subst hz2
    subst hz1
    exact ret _ _ _ (by first | rfl | (simp only [mAdd, mPut1, if_pos h45_1f, ↓reduceIte]; done) | (simp only [mAdd, mPut1, if_pos h45_1f, ↓reduceIte]; rfl) | (simp [mAdd, mPut1, if_pos h45_1f, ↓reduceIte]; done)) dX5_add_52
abbrev rmX5_mayAdd : Room := { frames := 2, cells := 0, slots := 0, locals := 41 }
theorem hyX5_mayAdd : yX5_mayAdd.cls = RX5 ∧ yX5_mayAdd.cls ≠ "java/lang/invoke/MethodHandle" ∧ yX5_mayAdd.cls ≠ "java/lang/invoke/VarHandle" ∧ (parseMethodDescriptor yX5_mayAdd.desc).map (fun d => d.parameters.length) = some 0 := by decide +kernel
set_option maxHeartbeats 4000000 in
set_option maxRecDepth 3000 in
theorem c_X5_mayAdd (E : GE) (N : Nat) (hN : 16 ≤ N ∧ N ≤ 64) (a : Nat → Nat) (M : MS) : zI E yX5_mayAdd wsX5_mayAdd rmX5_mayAdd [.ref (a 0)] (wM E a N M) (mCan N M) (wM E a N M) := by
  refine zI_of (cc := cX5_mayAdd) (maxL := 1) (ty := .boolean) (by decide) rfl (by unfold mCan; (repeat' split) <;> rfl) (Nat.le_of_ble_eq_true rfl) ?_
  intro K C ret
  replace C : zC E K cX5_mayAdd wsX5_mayAdd RX5 rmX5_mayAdd 1 := C
  have in5 : ∀ w ∈ wsX50, w ∈ wsX5_mayAdd := fun w h => List.mem_cons_of_mem _ (List.mem_append_right _ (h))
  have l55 : zw K (.fieldLink RX5 55 "StoreLog3Model" "entries" "I") := C.w (List.mem_cons_of_mem _ (List.mem_append_left _ (List.mem_of_getElem? (i := 0) rfl)))
  show Z E K 0 0 (wM E a N M) 0 [(0, .ref (a 0))] []
  refine z_aload_n C 0 rfl rfl dX5_mayAdd_0 ?_
  refine z_get C (Cn := RX5) (T := TX5) (Nf := 20) (ci := 5) in5 0 10 l55 (v := .int (mEn M)) rfl rfl (by decide) rfl dX5_mayAdd_1 ?_
  refine z_iconst C (v := 3) (by decide) dX5_mayAdd_4 ?_
  refine z_icmp_lt C (tgt := 16) dX5_mayAdd_5 (by decide) (fun h5_1t => ?_) (fun h5_1f => ?_)
  · refine z_iconst C (v := 1) (by decide) dX5_mayAdd_16 ?_
    refine z_goto C (tgt := 21) dX5_mayAdd_17 (by decide) ?_
    exact ret _ _ _ _ (by first | rfl | (simp only [mCan, if_pos h5_1t, ↓reduceIte]; done) | (simp only [mCan, if_pos h5_1t, ↓reduceIte]; rfl) | (simp [mCan, if_pos h5_1t, ↓reduceIte]; done)) rfl dX5_mayAdd_21
  · refine z_aload_n C 0 rfl rfl dX5_mayAdd_8 ?_
    refine z_iconst C (v := 1) (by decide) dX5_mayAdd_9 ?_
    refine z_rVI C (c_X5_mayWrite E N hN a M 1) gX5_mayAdd_X5_mayWrite (ci := 5) (q0 := 0) rfl rfl hyX5_mayWrite rfl ⟨rfl, rfl⟩ ⟨by decide, by decide⟩ ⟨by decide, by decide⟩ [0, 1, 2, 3, 4, 5, 6, 7, 8, 9, 10, 11] rfl (by decide) (st := []) (Nat.le_of_ble_eq_true rfl) dX5_mayAdd_10 ?_ rfl
    refine z_if_eq C (tgt := 20) dX5_mayAdd_13 (by decide) (fun h13_2t => ?_) (fun h13_2f => ?_)
    · refine z_iconst C (v := 0) (by decide) dX5_mayAdd_20 ?_
      exact ret _ _ _ _ (by first | rfl | (simp only [mCan, if_neg h5_1f, if_pos h13_2t, ↓reduceIte]; done) | (simp only [mCan, if_neg h5_1f, if_pos h13_2t, ↓reduceIte]; rfl) | (simp [mCan, if_neg h5_1f, if_pos h13_2t, ↓reduceIte]; done)) rfl dX5_mayAdd_21
    · refine z_iconst C (v := 1) (by decide) dX5_mayAdd_16 ?_
      refine z_goto C (tgt := 21) dX5_mayAdd_17 (by decide) ?_
      exact ret _ _ _ _ (by first | rfl | (simp only [mCan, if_neg h5_1f, if_neg h13_2f, ↓reduceIte]; done) | (simp only [mCan, if_neg h5_1f, if_neg h13_2f, ↓reduceIte]; rfl) | (simp [mCan, if_neg h5_1f, if_neg h13_2f, ↓reduceIte]; done)) rfl dX5_mayAdd_21
abbrev rmX5_isOpenOne : Room := { frames := 1, cells := 0, slots := 0, locals := 22 }
theorem hyX5_isOpenOne : yX5_isOpenOne.cls = RX5 ∧ yX5_isOpenOne.cls ≠ "java/lang/invoke/MethodHandle" ∧ yX5_isOpenOne.cls ≠ "java/lang/invoke/VarHandle" ∧ (parseMethodDescriptor yX5_isOpenOne.desc).map (fun d => d.parameters.length) = some 1 := by decide +kernel
set_option maxHeartbeats 4000000 in
set_option maxRecDepth 3000 in
theorem c_X5_isOpenOne (E : GE) (N : Nat) (hN : 16 ≤ N ∧ N ≤ 64) (a : Nat → Nat) (M : MS) (t : Int32) : zI E yX5_isOpenOne wsX5_isOpenOne rmX5_isOpenOne [.ref (a 0), .int t] (wM E a N M) (mIsO M t) (wM E a N M) := by
  refine zI_of (cc := cX5_isOpenOne) (maxL := 2) (ty := .boolean) (by decide) rfl (by unfold mIsO; (repeat' split) <;> rfl) (Nat.le_of_ble_eq_true rfl) ?_
  intro K C ret
  replace C : zC E K cX5_isOpenOne wsX5_isOpenOne RX5 rmX5_isOpenOne 2 := C
  have in5 : ∀ w ∈ wsX50, w ∈ wsX5_isOpenOne := fun w h => List.mem_cons_of_mem _ (List.mem_append_right _ (h))
  have l32 : zw K (.fieldLink RX5 32 "StoreLog3Model" "isOpen" "[Z") := C.w (List.mem_cons_of_mem _ (List.mem_append_left _ (List.mem_of_getElem? (i := 0) rfl)))
  show Z E K 0 0 (wM E a N M) 0 [(0, .ref (a 0)), (1, .int t)] []
  refine z_iload_n C 1 rfl rfl dX5_isOpenOne_0 ?_
  refine z_iconst C (v := 0) (by decide) dX5_isOpenOne_1 ?_
  refine z_iconst C (v := 2) (by decide) dX5_isOpenOne_2 ?_
  refine z_rSI C (c_X5_isIn E t 0 2) gX5_isOpenOne_X5_isIn hyX5_isIn.2 rfl ⟨rfl, rfl⟩ ⟨by decide, by decide⟩ ⟨by decide, by decide⟩ [] rfl (by decide) (st := []) (Nat.le_of_ble_eq_true rfl) dX5_isOpenOne_3 ?_ rfl
  refine z_if_eq C (tgt := 22) dX5_isOpenOne_6 (by decide) (fun h6_1t => ?_) (fun h6_1f => ?_)
  · refine z_iconst C (v := 0) (by decide) dX5_isOpenOne_22 ?_
    exact ret _ _ _ _ (by first | rfl | (simp only [mIsO, if_pos h6_1t, ↓reduceIte]; done) | (simp only [mIsO, if_pos h6_1t, ↓reduceIte]; rfl) | (simp [mIsO, if_pos h6_1t, ↓reduceIte]; done)) rfl dX5_isOpenOne_23
  · refine z_aload_n C 0 rfl rfl dX5_isOpenOne_9 ?_
    refine z_get C (Cn := RX5) (T := TX5) (Nf := 20) (ci := 5) in5 0 15 l32 (v := .ref (a 8)) rfl rfl (by decide) rfl dX5_isOpenOne_10 ?_
    refine z_iload_n C 1 rfl rfl dX5_isOpenOne_13 ?_
    refine z_zald C 8 rfl (mIn2 h6_1f) (v := ((mOp M) t.toNatClampNeg)) rfl dX5_isOpenOne_14 ?_
    refine z_if_eq C (tgt := 22) dX5_isOpenOne_15 (by decide) (fun h15_2t => ?_) (fun h15_2f => ?_)
    · refine z_iconst C (v := 0) (by decide) dX5_isOpenOne_22 ?_
      exact ret _ _ _ _ (by first | rfl | (simp only [mIsO, if_neg h6_1f, if_pos h15_2t, ↓reduceIte]; done) | (simp only [mIsO, if_neg h6_1f, if_pos h15_2t, ↓reduceIte]; rfl) | (simp [mIsO, if_neg h6_1f, if_pos h15_2t, ↓reduceIte]; done)) rfl dX5_isOpenOne_23
    · refine z_iconst C (v := 1) (by decide) dX5_isOpenOne_18 ?_
      refine z_goto C (tgt := 23) dX5_isOpenOne_19 (by decide) ?_
      exact ret _ _ _ _ (by first | rfl | (simp only [mIsO, if_neg h6_1f, if_neg h15_2f, ↓reduceIte]; done) | (simp only [mIsO, if_neg h6_1f, if_neg h15_2f, ↓reduceIte]; rfl) | (simp [mIsO, if_neg h6_1f, if_neg h15_2f, ↓reduceIte]; done)) rfl dX5_isOpenOne_23
abbrev rmX5_begin : Room := { frames := 0, cells := 0, slots := 0, locals := 0 }
theorem hyX5_begin : yX5_begin.cls = RX5 ∧ yX5_begin.cls ≠ "java/lang/invoke/MethodHandle" ∧ yX5_begin.cls ≠ "java/lang/invoke/VarHandle" ∧ (parseMethodDescriptor yX5_begin.desc).map (fun d => d.parameters.length) = some 0 := by decide +kernel
set_option maxHeartbeats 4000000 in
set_option maxRecDepth 3000 in
theorem c_X5_begin (E : GE) (N : Nat) (hN : 16 ≤ N ∧ N ≤ 64) (a : Nat → Nat) (M : MS) : zI E yX5_begin wsX5_begin rmX5_begin [.ref (a 0)] (wM E a N M) ((mBegin M).1) (wM E a N ((mBegin M).2)) := by
  refine zI_of (cc := cX5_begin) (maxL := 2) (ty := .int) (by decide) rfl (vp_nar_int _) (Nat.le_of_ble_eq_true rfl) ?_
  intro K C ret
  replace C : zC E K cX5_begin wsX5_begin RX5 rmX5_begin 2 := C
  have in5 : ∀ w ∈ wsX50, w ∈ wsX5_begin := fun w h => List.mem_cons_of_mem _ (List.mem_append_right _ (h))
  have l32 : zw K (.fieldLink RX5 32 "StoreLog3Model" "isOpen" "[Z") := C.w (List.mem_cons_of_mem _ (List.mem_append_left _ (List.mem_of_getElem? (i := 1) rfl)))
  have l64 : zw K (.fieldLink RX5 64 "StoreLog3Model" "isDown" "Z") := C.w (List.mem_cons_of_mem _ (List.mem_append_left _ (List.mem_of_getElem? (i := 0) rfl)))
  show Z E K 0 0 (wM E a N M) 0 [(0, .ref (a 0))] []
  refine z_aload_n C 0 rfl rfl dX5_begin_0 ?_
  refine z_get C (Cn := RX5) (T := TX5) (Nf := 20) (ci := 5) in5 0 2 l64 (v := .int (mDn M)) rfl rfl (by decide) rfl dX5_begin_1 ?_
  refine z_if_eq C (tgt := 10) dX5_begin_4 (by decide) (fun h4_1t => ?_) (fun h4_1f => ?_)
  · refine z_iconst C (v := 0) (by decide) dX5_begin_10 ?_
    refine z_istore_n C (lv' := [(1, .int 0), (0, .ref (a 0))]) rfl rfl (by decide) dX5_begin_11 ?_
    have loop12 : ∀ (n j : Nat), j + n = 3 → mbL M n j = mbL M 3 0 → Z E K 0 0 (wM E a N M) 12 [(0, .ref (a 0)), (1, .int (nI j))] [] := by
      intro n
      induction n with
      | zero => 
        intro j hj hT
        obtain rfl : j = 3 := by omega
        refine z_iload_n C 1 rfl rfl dX5_begin_12 ?_
        refine z_iconst C (v := 3) (by decide) dX5_begin_13 ?_
        refine z_icmp_ge C (tgt := 41) dX5_begin_14 (by decide) (fun h14_2 => ?_) (fun h14_2 => absurd (nI_le (a := 3) (b := 3) (Nat.le_refl _) (by omega)) h14_2)
        refine z_iconst C (v := (-1)) (by decide) dX5_begin_41 ?_
        exact ret _ _ _ _ (by simp only [mBegin, h4_1t, ↓reduceIte]; rw [← hT]; first | rfl | (simp only [mbL, if_pos h4_1t, if_pos h14_2, ↓reduceIte]; done)) (by simp only [mBegin, h4_1t, ↓reduceIte]; rw [← hT]; first | rfl | (simp only [mbL, if_pos h4_1t, if_pos h14_2, ↓reduceIte]; done)) dX5_begin_42
      | succ n ih12 => 
        intro j hj hT
        refine z_iload_n C 1 rfl rfl dX5_begin_12 ?_
        refine z_iconst C (v := 3) (by decide) dX5_begin_13 ?_
        refine z_icmp_ge C (tgt := 41) dX5_begin_14 (by decide) (fun h14_3 => absurd h14_3 (nI_ge (a := j) (b := 3) (by omega) (by omega))) (fun h14_3 => ?_)
        refine z_aload_n C 0 rfl rfl dX5_begin_17 ?_
        refine z_get C (Cn := RX5) (T := TX5) (Nf := 20) (ci := 5) in5 0 15 l32 (v := .ref (a 8)) rfl rfl (by decide) rfl dX5_begin_18 ?_
        refine z_iload_n C 1 rfl rfl dX5_begin_21 ?_
        refine z_zald C 8 rfl (vp_in_nI (by omega) (by omega)) (v := ((mOp M) j)) (congrArg (mOp M) (nI_clamp (by omega))) dX5_begin_22 ?_
        refine z_if_ne C (tgt := 35) dX5_begin_23 (by decide) (fun h23_4t => ?_) (fun h23_4f => ?_)
        · refine z_iinc C 1 rfl (v := (nI (j + 1))) (zinc _) (lv' := [(1, .int (nI (j + 1))), (0, .ref (a 0))]) rfl (by decide) dX5_begin_35 ?_
          refine z_goto C (tgt := 12) dX5_begin_38 (by decide) ?_
          refine z_lv (lv' := [(0, .ref (a 0)), (1, .int (nI (j + 1)))]) [1, 0] rfl ?_
          exact ih12 (j + 1) (by omega) (by rw [← hT]; simp only [mbL, if_pos h4_1t, if_neg h14_3, if_neg h23_4t, ↓reduceIte])
        · refine z_aload_n C 0 rfl rfl dX5_begin_26 ?_
          refine z_get C (Cn := RX5) (T := TX5) (Nf := 20) (ci := 5) in5 0 15 l32 (v := .ref (a 8)) rfl rfl (by decide) rfl dX5_begin_27 ?_
          refine z_iload_n C 1 rfl rfl dX5_begin_30 ?_
          refine z_iconst C (v := 1) (by decide) dX5_begin_31 ?_
          obtain ⟨fz1, hz1⟩ : ∃ z : Nat → Int32, (upd (mOp M) j 1) = z := ⟨_, rfl⟩
          refine z_zast C 8 rfl (vp_in_nI (by omega) (by omega)) (g := fz1) (Eq.trans (by rw [vz_1, nI_clamp (by omega)]) hz1) (V' := (wM E a N (msOp M fz1))) rfl dX5_begin_32 ?_
          refine z_iload_n C 1 rfl rfl dX5_begin_33 ?_
          subst hz1
          exact ret _ _ _ _ (by simp only [mBegin, h4_1t, ↓reduceIte]; rw [← hT]; first | rfl | (simp only [mbL, if_pos h4_1t, if_neg h14_3, if_pos h23_4f, ↓reduceIte]; done)) (by simp only [mBegin, h4_1t, ↓reduceIte]; rw [← hT]; first | rfl | (simp only [mbL, if_pos h4_1t, if_neg h14_3, if_pos h23_4f, ↓reduceIte]; done)) dX5_begin_34
    refine z_lv (lv' := [(0, .ref (a 0)), (1, .int 0)]) [1, 0] rfl ?_
    exact loop12 3 0  (by omega) rfl
  · refine z_bipush C (v := (-3)) (by decide) dX5_begin_7 ?_
    exact ret _ _ _ _ (by first | rfl | (simp only [mBegin, if_neg h4_1f, ↓reduceIte]; done) | (simp only [mBegin, if_neg h4_1f, ↓reduceIte]; rfl) | (simp [mBegin, if_neg h4_1f, ↓reduceIte]; done)) (by first | rfl | (simp only [mBegin, if_neg h4_1f, ↓reduceIte]; done) | (simp only [mBegin, if_neg h4_1f, ↓reduceIte]; rfl) | (simp [mBegin, if_neg h4_1f, ↓reduceIte]; done)) dX5_begin_9

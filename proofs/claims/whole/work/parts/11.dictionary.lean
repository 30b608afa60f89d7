/-! Part 11: the dictionary -/
theorem isK_in {k : Int32} (h : ¬ isK k = 0) : vp_in k 32 := by
  unfold isK at h
  by_cases h1 : k < 0
  · simp [h1] at h
  · by_cases h2 : (32 : Int32) ≤ k
    · simp [h1, h2] at h
    · have a1 := znlt h1
      have a2 := znle h2
      exact zvin (by simpa using a1) (by simpa using a2)
def dIsO (D : DS) (t : Int32) : Int32 := if isT t = 0 then 0 else if (dOp D >>> (t &&& 31)) &&& 1 = 1 then 1 else 0
def opL (D : DS) : Nat → Nat → Int32 × DS
  | 0, _ => (-1, D)
  | n + 1, j => if dIsO D (nI j) = 0 then (nI j, dsOp D (dOp D ||| (1 <<< (nI j &&& 31)))) else opL D n (j + 1)
def dHolder (D : DS) (k : Int32) : Int32 := if isK k = 0 then -1 else dHo D k.toNatClampNeg
def dValue (D : DS) (k : Int32) : Int32 := if isK k = 0 then -1 else dCo D k.toNatClampNeg
def dFor (D : DS) (t k : Int32) : Int32 := if isK k = 0 then -1 else if dHo D k.toNatClampNeg = t then dCh D k.toNatClampNeg else dCo D k.toNatClampNeg
def dSetC (D : DS) (k v : Int32) : DS := if isK k = 0 then D else dsCo D (upd (dCo D) k.toNatClampNeg v)
def dChg (D : DS) (t k v : Int32) : DS := if isT t = 0 then D else if isK k = 0 then D else dsCh (dsHo (dsOp D (dOp D ||| (1 <<< (t &&& 31)))) (upd (dHo D) k.toNatClampNeg t)) (upd (dCh D) k.toNatClampNeg v)
def clS (t kp : Int32) (j : Nat) (x : Int32 × DS) : Int32 × DS := if dHo x.2 j = t then (x.1 + 1, dsCo (dsHo x.2 (upd (dHo x.2) j (-1))) (upd (dCo x.2) j (if kp = 0 then dCo x.2 j else dCh x.2 j))) else x
def clL (t kp : Int32) : Nat → Nat → Int32 × DS → Int32 × DS
  | 0, _, x => x
  | n + 1, j, x => clL t kp n (j + 1) (clS t kp j x)
def dClose (D : DS) (t kp : Int32) : Int32 × DS := if dIsO D t = 0 then (0, D) else ((clL t kp 32 0 (0, D)).1, dsOp (clL t kp 32 0 (0, D)).2 (dOp (clL t kp 32 0 (0, D)).2 &&& ((1 <<< (t &&& 31)) ^^^ (-1))))
def pgF (D : DS) : Nat → Int32 × Int32
  | 0 => (0, 1)
  | n + 1 => if dCo D n = -1 then pgF D n else if (pgF D n).1 + 1 ≤ (pgF D n).2 * 5 then ((pgF D n).1 + 1, (pgF D n).2) else ((pgF D n).1 + 1, (pgF D n).2 + 1)
def nxN (D : DS) : Nat → Nat → Nat
  | 0, _ => 32
  | n + 1, j => if dCo D j = -1 then nxN D n (j + 1) else j
def dcl (D : DS) : Nat → DS
  | 0 => D
  | n + 1 => dsHo (dsCh (dsCo (dcl D n) (upd (dCo (dcl D n)) n (-1))) (upd (dCh (dcl D n)) n (-1))) (upd (dHo (dcl D n)) n (-1))
def dClear (D : DS) : DS := dsOp (dcl D 32) 0
abbrev rmX0_isOpen : Room := { frames := 1, cells := 0, slots := 0, locals := 20 }
theorem hyX0_isOpen : yX0_isOpen.cls = RX0 ∧ yX0_isOpen.cls ≠ "java/lang/invoke/MethodHandle" ∧ yX0_isOpen.cls ≠ "java/lang/invoke/VarHandle" ∧ (parseMethodDescriptor yX0_isOpen.desc).map (fun d => d.parameters.length) = some 1 := by decide +kernel
set_option maxHeartbeats 4000000 in
set_option maxRecDepth 3000 in
theorem c_X0_isOpen (E : GE) (a : Nat → Nat) (D : DS) (t : Int32) : zI E yX0_isOpen wsX0_isOpen rmX0_isOpen [.ref (a 0), .int t] (wD E a D) (dIsO D t) (wD E a D) := by
  refine zI_of (cc := cX0_isOpen) (maxL := 2) (ty := .boolean) (by decide) rfl (by unfold dIsO; (repeat' split) <;> rfl) (Nat.le_of_ble_eq_true rfl) ?_
  intro K C ret
  replace C : zC E K cX0_isOpen wsX0_isOpen RX0 rmX0_isOpen 2 := C
  have in0 : ∀ w ∈ wsX00, w ∈ wsX0_isOpen := fun w h => List.mem_cons_of_mem _ (List.mem_append_right _ (h))
  have l24 : zw K (.fieldLink RX0 24 "StoreLog3$Dictionary" "open" "I") := C.w (List.mem_cons_of_mem _ (List.mem_append_left _ (List.mem_of_getElem? (i := 0) rfl)))
  show Z E K 0 0 (wD E a D) 0 [(0, .ref (a 0)), (1, .int t)] []
  refine z_iload_n C 1 rfl rfl dX0_isOpen_0 ?_
  refine z_rNI C (c_X4_isTransaction E t) gX0_isOpen_X4_isTransaction_n32 (fun _ h => h.2.2.1) (C.w (List.mem_cons_of_mem _ (List.mem_append_left _ (List.mem_of_getElem? (i := 2) rfl)))) (C.w (List.mem_cons_of_mem _ (List.mem_append_left _ (List.mem_of_getElem? (i := 1) rfl)))) hyX4_isTransaction.2 rfl ⟨rfl, rfl⟩ ⟨by decide, by decide⟩ ⟨by decide, by decide⟩ [] rfl (by decide) (st := []) (Nat.le_of_ble_eq_true rfl) dX0_isOpen_1 ?_ rfl
  refine z_if_eq C (tgt := 23) dX0_isOpen_4 (by decide) (fun h4_1 => ?_) (fun h4_1 => ?_)
  · refine z_iconst C (v := 0) (by decide) dX0_isOpen_23 ?_
    exact ret _ _ _ _ (by first | rfl | (simp only [dIsO, h4_1, ↓reduceIte]; done) | (simp only [dIsO, h4_1, ↓reduceIte]; rfl) | (simp [dIsO, h4_1, ↓reduceIte]; done)) rfl dX0_isOpen_24
  · refine z_aload_n C 0 rfl rfl dX0_isOpen_7 ?_
    refine z_get C (Cn := RX0) (T := TX0) (Nf := 4) (ci := 0) in0 0 3 l24 (v := .int (dOp D)) rfl rfl (by decide) rfl dX0_isOpen_8 ?_
    refine z_iload_n C 1 rfl rfl dX0_isOpen_11 ?_
    refine z_ishr C dX0_isOpen_12 ?_
    refine z_iconst C (v := 1) (by decide) dX0_isOpen_13 ?_
    refine z_iand C dX0_isOpen_14 ?_
    refine z_iconst C (v := 1) (by decide) dX0_isOpen_15 ?_
    refine z_icmp_ne C (tgt := 23) dX0_isOpen_16 (by decide) (fun h16_2 => ?_) (fun h16_2 => ?_)
    · refine z_iconst C (v := 0) (by decide) dX0_isOpen_23 ?_
      exact ret _ _ _ _ (by first | rfl | (simp only [dIsO, h4_1, h16_2, ↓reduceIte]; done) | (simp only [dIsO, h4_1, h16_2, ↓reduceIte]; rfl) | (simp [dIsO, h4_1, h16_2, ↓reduceIte]; done)) rfl dX0_isOpen_24
    · refine z_iconst C (v := 1) (by decide) dX0_isOpen_19 ?_
      refine z_goto C (tgt := 24) dX0_isOpen_20 (by decide) ?_
      exact ret _ _ _ _ (by first | rfl | (simp only [dIsO, h4_1, h16_2, ↓reduceIte]; done) | (simp only [dIsO, h4_1, h16_2, ↓reduceIte]; rfl) | (simp [dIsO, h4_1, h16_2, ↓reduceIte]; done)) rfl dX0_isOpen_24
abbrev rmX0_openLeast : Room := { frames := 2, cells := 0, slots := 0, locals := 41 }
theorem hyX0_openLeast : yX0_openLeast.cls = RX0 ∧ yX0_openLeast.cls ≠ "java/lang/invoke/MethodHandle" ∧ yX0_openLeast.cls ≠ "java/lang/invoke/VarHandle" ∧ (parseMethodDescriptor yX0_openLeast.desc).map (fun d => d.parameters.length) = some 0 := by decide +kernel
set_option maxHeartbeats 4000000 in
set_option maxRecDepth 3000 in
theorem c_X0_openLeast (E : GE) (a : Nat → Nat) (D : DS) : zI E yX0_openLeast wsX0_openLeast rmX0_openLeast [.ref (a 0)] (wD E a D) ((opL D 3 0).1) (wD E a ((opL D 3 0).2)) := by
  refine zI_of (cc := cX0_openLeast) (maxL := 2) (ty := .int) (by decide) rfl (vp_nar_int _) (Nat.le_of_ble_eq_true rfl) ?_
  intro K C ret
  replace C : zC E K cX0_openLeast wsX0_openLeast RX0 rmX0_openLeast 2 := C
  have in0 : ∀ w ∈ wsX00, w ∈ wsX0_openLeast := fun w h => List.mem_cons_of_mem _ (List.mem_append_right _ (h))
  have l24 : zw K (.fieldLink RX0 24 "StoreLog3$Dictionary" "open" "I") := C.w (List.mem_cons_of_mem _ (List.mem_append_left _ (List.mem_of_getElem? (i := 0) rfl)))
  show Z E K 0 0 (wD E a D) 0 [(0, .ref (a 0))] []
  refine z_iconst C (v := 0) (by decide) dX0_openLeast_0 ?_
  refine z_istore_n C (lv' := [(1, .int 0), (0, .ref (a 0))]) rfl rfl (by decide) dX0_openLeast_1 ?_
  have loop2 : ∀ (n j : Nat), j + n = 3 → opL D n j = opL D 3 0 → Z E K 0 0 (wD E a D) 2 [(0, .ref (a 0)), (1, .int (nI j))] [] := by
    intro n
    induction n with
    | zero => 
      intro j hj hT
      obtain rfl : j = 3 := by omega
      refine z_iload_n C 1 rfl rfl dX0_openLeast_2 ?_
      refine z_iconst C (v := 3) (by decide) dX0_openLeast_3 ?_
      refine z_icmp_ge C (tgt := 35) dX0_openLeast_4 (by decide) (fun h4_1 => ?_) (fun h4_1 => absurd (nI_le (a := 3) (b := 3) (Nat.le_refl _) (by omega)) h4_1)
      refine z_iconst C (v := (-1)) (by decide) dX0_openLeast_35 ?_
      exact ret _ _ _ _ (by rw [← hT]; first | rfl | (simp only [opL, h4_1, ↓reduceIte]; done) | (simp only [opL, h4_1, ↓reduceIte]; rfl)) (by rw [← hT]; first | rfl | (simp only [opL, h4_1, ↓reduceIte]; done) | (simp only [opL, h4_1, ↓reduceIte]; rfl)) dX0_openLeast_36
    | succ n ih2 => 
      intro j hj hT
      refine z_iload_n C 1 rfl rfl dX0_openLeast_2 ?_
      refine z_iconst C (v := 3) (by decide) dX0_openLeast_3 ?_
      refine z_icmp_ge C (tgt := 35) dX0_openLeast_4 (by decide) (fun h4_2 => absurd h4_2 (nI_ge (a := j) (b := 3) (by omega) (by omega))) (fun h4_2 => ?_)
      refine z_aload_n C 0 rfl rfl dX0_openLeast_7 ?_
      refine z_iload_n C 1 rfl rfl dX0_openLeast_8 ?_
      refine z_rVI C (c_X0_isOpen E a D (nI j)) gX0_openLeast_X0_isOpen (ci := 0) (q0 := 0) rfl rfl hyX0_isOpen rfl ⟨rfl, rfl⟩ ⟨by decide, by decide⟩ ⟨by decide, by decide⟩ [0, 1, 2, 3] rfl (by decide) (st := []) (Nat.le_of_ble_eq_true rfl) dX0_openLeast_9 ?_ rfl
      refine z_if_ne C (tgt := 29) dX0_openLeast_12 (by decide) (fun h12_3 => ?_) (fun h12_3 => ?_)
      · refine z_iinc C 1 rfl (v := (nI (j + 1))) (zinc _) (lv' := [(1, .int (nI (j + 1))), (0, .ref (a 0))]) rfl (by decide) dX0_openLeast_29 ?_
        refine z_goto C (tgt := 2) dX0_openLeast_32 (by decide) ?_
        refine z_lv (lv' := [(0, .ref (a 0)), (1, .int (nI (j + 1)))]) [1, 0] rfl ?_
        exact ih2 (j + 1) (by omega) (by rw [← hT]; simp only [opL, h4_2, h12_3, ↓reduceIte])
      · refine z_aload_n C 0 rfl rfl dX0_openLeast_15 ?_
        refine z_dup C rfl dX0_openLeast_16 ?_
        refine z_get C (Cn := RX0) (T := TX0) (Nf := 4) (ci := 0) in0 0 3 l24 (v := .int (dOp D)) rfl rfl (by decide) rfl dX0_openLeast_17 ?_
        refine z_iconst C (v := 1) (by decide) dX0_openLeast_20 ?_
        refine z_iload_n C 1 rfl rfl dX0_openLeast_21 ?_
        refine z_ishl C dX0_openLeast_22 ?_
        refine z_ior C dX0_openLeast_23 ?_
        refine z_put C (Cn := RX0) (T := TX0) (Nf := 4) (ci := 0) in0 0 3 l24 rfl rfl (by decide) tyX0 tyX0_ok nmX0 rfl rfl rfl (Nat.le_of_ble_eq_true rfl) (V' := (wD E a (dsOp D ((dOp D) ||| (1 <<< ((nI j) &&& 31)))))) rfl dX0_openLeast_24 ?_
        refine z_iload_n C 1 rfl rfl dX0_openLeast_27 ?_
        exact ret _ _ _ _ (by rw [← hT]; first | rfl | (simp only [opL, h4_2, h12_3, ↓reduceIte]; done) | (simp only [opL, h4_2, h12_3, ↓reduceIte]; rfl)) (by rw [← hT]; first | rfl | (simp only [opL, h4_2, h12_3, ↓reduceIte]; done) | (simp only [opL, h4_2, h12_3, ↓reduceIte]; rfl)) dX0_openLeast_28
  refine z_lv (lv' := [(0, .ref (a 0)), (1, .int 0)]) [1, 0] rfl ?_
  exact loop2 3 0  (by omega) rfl
abbrev rmX0_openBits : Room := { frames := 0, cells := 0, slots := 0, locals := 0 }
theorem hyX0_openBits : yX0_openBits.cls = RX0 ∧ yX0_openBits.cls ≠ "java/lang/invoke/MethodHandle" ∧ yX0_openBits.cls ≠ "java/lang/invoke/VarHandle" ∧ (parseMethodDescriptor yX0_openBits.desc).map (fun d => d.parameters.length) = some 0 := by decide +kernel
set_option maxHeartbeats 4000000 in
set_option maxRecDepth 3000 in
theorem c_X0_openBits (E : GE) (a : Nat → Nat) (D : DS) : zI E yX0_openBits wsX0_openBits rmX0_openBits [.ref (a 0)] (wD E a D) (dOp D) (wD E a D) := by
  refine zI_of (cc := cX0_openBits) (maxL := 1) (ty := .int) (by decide) rfl (vp_nar_int _) (Nat.le_of_ble_eq_true rfl) ?_
  intro K C ret
  replace C : zC E K cX0_openBits wsX0_openBits RX0 rmX0_openBits 1 := C
  have in0 : ∀ w ∈ wsX00, w ∈ wsX0_openBits := fun w h => List.mem_cons_of_mem _ (List.mem_append_right _ (h))
  have l24 : zw K (.fieldLink RX0 24 "StoreLog3$Dictionary" "open" "I") := C.w (List.mem_cons_of_mem _ (List.mem_append_left _ (List.mem_of_getElem? (i := 0) rfl)))
  show Z E K 0 0 (wD E a D) 0 [(0, .ref (a 0))] []
  refine z_aload_n C 0 rfl rfl dX0_openBits_0 ?_
  refine z_get C (Cn := RX0) (T := TX0) (Nf := 4) (ci := 0) in0 0 3 l24 (v := .int (dOp D)) rfl rfl (by decide) rfl dX0_openBits_1 ?_
  exact ret _ _ _ _ (by first | rfl | (simp only [↓reduceIte]; done) | (simp only [↓reduceIte]; rfl) | (simp [↓reduceIte]; done)) rfl dX0_openBits_4
abbrev rmX0_holderOf : Room := { frames := 1, cells := 0, slots := 0, locals := 20 }
theorem hyX0_holderOf : yX0_holderOf.cls = RX0 ∧ yX0_holderOf.cls ≠ "java/lang/invoke/MethodHandle" ∧ yX0_holderOf.cls ≠ "java/lang/invoke/VarHandle" ∧ (parseMethodDescriptor yX0_holderOf.desc).map (fun d => d.parameters.length) = some 1 := by decide +kernel
set_option maxHeartbeats 4000000 in
set_option maxRecDepth 3000 in
theorem c_X0_holderOf (E : GE) (a : Nat → Nat) (D : DS) (k : Int32) : zI E yX0_holderOf wsX0_holderOf rmX0_holderOf [.ref (a 0), .int k] (wD E a D) (dHolder D k) (wD E a D) := by
  refine zI_of (cc := cX0_holderOf) (maxL := 2) (ty := .int) (by decide) rfl (vp_nar_int _) (Nat.le_of_ble_eq_true rfl) ?_
  intro K C ret
  replace C : zC E K cX0_holderOf wsX0_holderOf RX0 rmX0_holderOf 2 := C
  have in0 : ∀ w ∈ wsX00, w ∈ wsX0_holderOf := fun w h => List.mem_cons_of_mem _ (List.mem_append_right _ (h))
  have l18 : zw K (.fieldLink RX0 18 "StoreLog3$Dictionary" "holders" "[I") := C.w (List.mem_cons_of_mem _ (List.mem_append_left _ (List.mem_of_getElem? (i := 0) rfl)))
  show Z E K 0 0 (wD E a D) 0 [(0, .ref (a 0)), (1, .int k)] []
  refine z_iload_n C 1 rfl rfl dX0_holderOf_0 ?_
  refine z_rNI C (c_X4_isKey E k) gX0_holderOf_X4_isKey_n35 (fun _ h => h.2.2.2.1) (C.w (List.mem_cons_of_mem _ (List.mem_append_left _ (List.mem_of_getElem? (i := 2) rfl)))) (C.w (List.mem_cons_of_mem _ (List.mem_append_left _ (List.mem_of_getElem? (i := 1) rfl)))) hyX4_isKey.2 rfl ⟨rfl, rfl⟩ ⟨by decide, by decide⟩ ⟨by decide, by decide⟩ [] rfl (by decide) (st := []) (Nat.le_of_ble_eq_true rfl) dX0_holderOf_1 ?_ rfl
  refine z_if_eq C (tgt := 16) dX0_holderOf_4 (by decide) (fun h4_1 => ?_) (fun h4_1 => ?_)
  · refine z_iconst C (v := (-1)) (by decide) dX0_holderOf_16 ?_
    exact ret _ _ _ _ (by first | rfl | (simp only [dHolder, h4_1, ↓reduceIte]; done) | (simp only [dHolder, h4_1, ↓reduceIte]; rfl) | (simp [dHolder, h4_1, ↓reduceIte]; done)) rfl dX0_holderOf_17
  · refine z_aload_n C 0 rfl rfl dX0_holderOf_7 ?_
    refine z_get C (Cn := RX0) (T := TX0) (Nf := 4) (ci := 0) in0 0 2 l18 (v := .ref (a 3)) rfl rfl (by decide) rfl dX0_holderOf_8 ?_
    refine z_iload_n C 1 rfl rfl dX0_holderOf_11 ?_
    refine z_iald C 3 rfl (isK_in h4_1) (v := ((dHo D) k.toNatClampNeg)) rfl dX0_holderOf_12 ?_
    refine z_goto C (tgt := 17) dX0_holderOf_13 (by decide) ?_
    exact ret _ _ _ _ (by first | rfl | (simp only [dHolder, h4_1, ↓reduceIte]; done) | (simp only [dHolder, h4_1, ↓reduceIte]; rfl) | (simp [dHolder, h4_1, ↓reduceIte]; done)) rfl dX0_holderOf_17
abbrev rmX0_committedValue : Room := { frames := 1, cells := 0, slots := 0, locals := 20 }
theorem hyX0_committedValue : yX0_committedValue.cls = RX0 ∧ yX0_committedValue.cls ≠ "java/lang/invoke/MethodHandle" ∧ yX0_committedValue.cls ≠ "java/lang/invoke/VarHandle" ∧ (parseMethodDescriptor yX0_committedValue.desc).map (fun d => d.parameters.length) = some 1 := by decide +kernel
set_option maxHeartbeats 4000000 in
set_option maxRecDepth 3000 in
theorem c_X0_committedValue (E : GE) (a : Nat → Nat) (D : DS) (k : Int32) : zI E yX0_committedValue wsX0_committedValue rmX0_committedValue [.ref (a 0), .int k] (wD E a D) (dValue D k) (wD E a D) := by
  refine zI_of (cc := cX0_committedValue) (maxL := 2) (ty := .int) (by decide) rfl (vp_nar_int _) (Nat.le_of_ble_eq_true rfl) ?_
  intro K C ret
  replace C : zC E K cX0_committedValue wsX0_committedValue RX0 rmX0_committedValue 2 := C
  have in0 : ∀ w ∈ wsX00, w ∈ wsX0_committedValue := fun w h => List.mem_cons_of_mem _ (List.mem_append_right _ (h))
  have l9 : zw K (.fieldLink RX0 9 "StoreLog3$Dictionary" "committed" "[I") := C.w (List.mem_cons_of_mem _ (List.mem_append_left _ (List.mem_of_getElem? (i := 0) rfl)))
  show Z E K 0 0 (wD E a D) 0 [(0, .ref (a 0)), (1, .int k)] []
  refine z_iload_n C 1 rfl rfl dX0_committedValue_0 ?_
  refine z_rNI C (c_X4_isKey E k) gX0_committedValue_X4_isKey_n35 (fun _ h => h.2.2.2.1) (C.w (List.mem_cons_of_mem _ (List.mem_append_left _ (List.mem_of_getElem? (i := 2) rfl)))) (C.w (List.mem_cons_of_mem _ (List.mem_append_left _ (List.mem_of_getElem? (i := 1) rfl)))) hyX4_isKey.2 rfl ⟨rfl, rfl⟩ ⟨by decide, by decide⟩ ⟨by decide, by decide⟩ [] rfl (by decide) (st := []) (Nat.le_of_ble_eq_true rfl) dX0_committedValue_1 ?_ rfl
  refine z_if_eq C (tgt := 16) dX0_committedValue_4 (by decide) (fun h4_1 => ?_) (fun h4_1 => ?_)
  · refine z_iconst C (v := (-1)) (by decide) dX0_committedValue_16 ?_
    exact ret _ _ _ _ (by first | rfl | (simp only [dValue, h4_1, ↓reduceIte]; done) | (simp only [dValue, h4_1, ↓reduceIte]; rfl) | (simp [dValue, h4_1, ↓reduceIte]; done)) rfl dX0_committedValue_17
  · refine z_aload_n C 0 rfl rfl dX0_committedValue_7 ?_
    refine z_get C (Cn := RX0) (T := TX0) (Nf := 4) (ci := 0) in0 0 0 l9 (v := .ref (a 1)) rfl rfl (by decide) rfl dX0_committedValue_8 ?_
    refine z_iload_n C 1 rfl rfl dX0_committedValue_11 ?_
    refine z_iald C 1 rfl (isK_in h4_1) (v := ((dCo D) k.toNatClampNeg)) rfl dX0_committedValue_12 ?_
    refine z_goto C (tgt := 17) dX0_committedValue_13 (by decide) ?_
    exact ret _ _ _ _ (by first | rfl | (simp only [dValue, h4_1, ↓reduceIte]; done) | (simp only [dValue, h4_1, ↓reduceIte]; rfl) | (simp [dValue, h4_1, ↓reduceIte]; done)) rfl dX0_committedValue_17
abbrev rmX0_valueFor : Room := { frames := 1, cells := 0, slots := 0, locals := 20 }
theorem hyX0_valueFor : yX0_valueFor.cls = RX0 ∧ yX0_valueFor.cls ≠ "java/lang/invoke/MethodHandle" ∧ yX0_valueFor.cls ≠ "java/lang/invoke/VarHandle" ∧ (parseMethodDescriptor yX0_valueFor.desc).map (fun d => d.parameters.length) = some 2 := by decide +kernel
set_option maxHeartbeats 4000000 in
set_option maxRecDepth 3000 in
theorem c_X0_valueFor (E : GE) (a : Nat → Nat) (D : DS) (t k : Int32) : zI E yX0_valueFor wsX0_valueFor rmX0_valueFor [.ref (a 0), .int t, .int k] (wD E a D) (dFor D t k) (wD E a D) := by
  refine zI_of (cc := cX0_valueFor) (maxL := 3) (ty := .int) (by decide) rfl (vp_nar_int _) (Nat.le_of_ble_eq_true rfl) ?_
  intro K C ret
  replace C : zC E K cX0_valueFor wsX0_valueFor RX0 rmX0_valueFor 3 := C
  have in0 : ∀ w ∈ wsX00, w ∈ wsX0_valueFor := fun w h => List.mem_cons_of_mem _ (List.mem_append_right _ (h))
  have l9 : zw K (.fieldLink RX0 9 "StoreLog3$Dictionary" "committed" "[I") := C.w (List.mem_cons_of_mem _ (List.mem_append_left _ (List.mem_of_getElem? (i := 2) rfl)))
  have l15 : zw K (.fieldLink RX0 15 "StoreLog3$Dictionary" "changed" "[I") := C.w (List.mem_cons_of_mem _ (List.mem_append_left _ (List.mem_of_getElem? (i := 1) rfl)))
  have l18 : zw K (.fieldLink RX0 18 "StoreLog3$Dictionary" "holders" "[I") := C.w (List.mem_cons_of_mem _ (List.mem_append_left _ (List.mem_of_getElem? (i := 0) rfl)))
  show Z E K 0 0 (wD E a D) 0 [(0, .ref (a 0)), (1, .int t), (2, .int k)] []
  refine z_iload_n C 2 rfl rfl dX0_valueFor_0 ?_
  refine z_rNI C (c_X4_isKey E k) gX0_valueFor_X4_isKey_n35 (fun _ h => h.2.2.2.1) (C.w (List.mem_cons_of_mem _ (List.mem_append_left _ (List.mem_of_getElem? (i := 4) rfl)))) (C.w (List.mem_cons_of_mem _ (List.mem_append_left _ (List.mem_of_getElem? (i := 3) rfl)))) hyX4_isKey.2 rfl ⟨rfl, rfl⟩ ⟨by decide, by decide⟩ ⟨by decide, by decide⟩ [] rfl (by decide) (st := []) (Nat.le_of_ble_eq_true rfl) dX0_valueFor_1 ?_ rfl
  refine z_if_ne C (tgt := 9) dX0_valueFor_4 (by decide) (fun h4_1 => ?_) (fun h4_1 => ?_)
  · refine z_aload_n C 0 rfl rfl dX0_valueFor_9 ?_
    refine z_get C (Cn := RX0) (T := TX0) (Nf := 4) (ci := 0) in0 0 2 l18 (v := .ref (a 3)) rfl rfl (by decide) rfl dX0_valueFor_10 ?_
    refine z_iload_n C 2 rfl rfl dX0_valueFor_13 ?_
    refine z_iald C 3 rfl (isK_in h4_1) (v := ((dHo D) k.toNatClampNeg)) rfl dX0_valueFor_14 ?_
    refine z_iload_n C 1 rfl rfl dX0_valueFor_15 ?_
    refine z_icmp_ne C (tgt := 28) dX0_valueFor_16 (by decide) (fun h16_2 => ?_) (fun h16_2 => ?_)
    · refine z_aload_n C 0 rfl rfl dX0_valueFor_28 ?_
      refine z_get C (Cn := RX0) (T := TX0) (Nf := 4) (ci := 0) in0 0 0 l9 (v := .ref (a 1)) rfl rfl (by decide) rfl dX0_valueFor_29 ?_
      refine z_iload_n C 2 rfl rfl dX0_valueFor_32 ?_
      refine z_iald C 1 rfl (isK_in h4_1) (v := ((dCo D) k.toNatClampNeg)) rfl dX0_valueFor_33 ?_
      exact ret _ _ _ _ (by first | rfl | (simp only [dFor, h4_1, h16_2, ↓reduceIte]; done) | (simp only [dFor, h4_1, h16_2, ↓reduceIte]; rfl) | (simp [dFor, h4_1, h16_2, ↓reduceIte]; done)) rfl dX0_valueFor_34
    · refine z_aload_n C 0 rfl rfl dX0_valueFor_19 ?_
      refine z_get C (Cn := RX0) (T := TX0) (Nf := 4) (ci := 0) in0 0 1 l15 (v := .ref (a 2)) rfl rfl (by decide) rfl dX0_valueFor_20 ?_
      refine z_iload_n C 2 rfl rfl dX0_valueFor_23 ?_
      refine z_iald C 2 rfl (isK_in h4_1) (v := ((dCh D) k.toNatClampNeg)) rfl dX0_valueFor_24 ?_
      refine z_goto C (tgt := 34) dX0_valueFor_25 (by decide) ?_
      exact ret _ _ _ _ (by first | rfl | (simp only [dFor, h4_1, h16_2, ↓reduceIte]; done) | (simp only [dFor, h4_1, h16_2, ↓reduceIte]; rfl) | (simp [dFor, h4_1, h16_2, ↓reduceIte]; done)) rfl dX0_valueFor_34
  · refine z_iconst C (v := (-1)) (by decide) dX0_valueFor_7 ?_
    exact ret _ _ _ _ (by first | rfl | (simp only [dFor, h4_1, ↓reduceIte]; done) | (simp only [dFor, h4_1, ↓reduceIte]; rfl) | (simp [dFor, h4_1, ↓reduceIte]; done)) rfl dX0_valueFor_8
abbrev rmX0_setCommitted : Room := { frames := 1, cells := 0, slots := 0, locals := 20 }
theorem hyX0_setCommitted : yX0_setCommitted.cls = RX0 ∧ yX0_setCommitted.cls ≠ "java/lang/invoke/MethodHandle" ∧ yX0_setCommitted.cls ≠ "java/lang/invoke/VarHandle" ∧ (parseMethodDescriptor yX0_setCommitted.desc).map (fun d => d.parameters.length) = some 2 := by decide +kernel
set_option maxHeartbeats 4000000 in
set_option maxRecDepth 3000 in
theorem c_X0_setCommitted (E : GE) (a : Nat → Nat) (D : DS) (k v : Int32) : zV E yX0_setCommitted wsX0_setCommitted rmX0_setCommitted [.ref (a 0), .int k, .int v] (wD E a D) (wD E a (dSetC D k v)) := by
  refine zV_of (cc := cX0_setCommitted) (maxL := 3) (by decide) rfl (Nat.le_of_ble_eq_true rfl) ?_
  intro K C ret
  replace C : zC E K cX0_setCommitted wsX0_setCommitted RX0 rmX0_setCommitted 3 := C
  have in0 : ∀ w ∈ wsX00, w ∈ wsX0_setCommitted := fun w h => List.mem_cons_of_mem _ (List.mem_append_right _ (h))
  have l9 : zw K (.fieldLink RX0 9 "StoreLog3$Dictionary" "committed" "[I") := C.w (List.mem_cons_of_mem _ (List.mem_append_left _ (List.mem_of_getElem? (i := 0) rfl)))
  show Z E K 0 0 (wD E a D) 0 [(0, .ref (a 0)), (1, .int k), (2, .int v)] []
  refine z_iload_n C 1 rfl rfl dX0_setCommitted_0 ?_
  refine z_rNI C (c_X4_isKey E k) gX0_setCommitted_X4_isKey_n35 (fun _ h => h.2.2.2.1) (C.w (List.mem_cons_of_mem _ (List.mem_append_left _ (List.mem_of_getElem? (i := 2) rfl)))) (C.w (List.mem_cons_of_mem _ (List.mem_append_left _ (List.mem_of_getElem? (i := 1) rfl)))) hyX4_isKey.2 rfl ⟨rfl, rfl⟩ ⟨by decide, by decide⟩ ⟨by decide, by decide⟩ [] rfl (by decide) (st := []) (Nat.le_of_ble_eq_true rfl) dX0_setCommitted_1 ?_ rfl
  refine z_if_eq C (tgt := 14) dX0_setCommitted_4 (by decide) (fun h4_1 => ?_) (fun h4_1 => ?_)
  · exact ret _ _ _ (by first | rfl | (simp only [dSetC, h4_1, ↓reduceIte]; done) | (simp only [dSetC, h4_1, ↓reduceIte]; rfl) | (simp [dSetC, h4_1, ↓reduceIte]; done)) dX0_setCommitted_14
  · refine z_aload_n C 0 rfl rfl dX0_setCommitted_7 ?_
    refine z_get C (Cn := RX0) (T := TX0) (Nf := 4) (ci := 0) in0 0 0 l9 (v := .ref (a 1)) rfl rfl (by decide) rfl dX0_setCommitted_8 ?_
    refine z_iload_n C 1 rfl rfl dX0_setCommitted_11 ?_
    refine z_iload_n C 2 rfl rfl dX0_setCommitted_12 ?_
    refine z_iast C 1 rfl (isK_in h4_1) (g := (upd (dCo D) k.toNatClampNeg v)) rfl (V' := (wD E a (dsCo D (upd (dCo D) k.toNatClampNeg v)))) rfl dX0_setCommitted_13 ?_
    exact ret _ _ _ (by first | rfl | (simp only [dSetC, h4_1, ↓reduceIte]; done) | (simp only [dSetC, h4_1, ↓reduceIte]; rfl) | (simp [dSetC, h4_1, ↓reduceIte]; done)) dX0_setCommitted_14
abbrev rmX0_change : Room := { frames := 1, cells := 0, slots := 0, locals := 20 }
theorem hyX0_change : yX0_change.cls = RX0 ∧ yX0_change.cls ≠ "java/lang/invoke/MethodHandle" ∧ yX0_change.cls ≠ "java/lang/invoke/VarHandle" ∧ (parseMethodDescriptor yX0_change.desc).map (fun d => d.parameters.length) = some 3 := by decide +kernel
set_option maxHeartbeats 4000000 in
set_option maxRecDepth 3000 in
theorem c_X0_change (E : GE) (a : Nat → Nat) (D : DS) (t k v : Int32) : zV E yX0_change wsX0_change rmX0_change [.ref (a 0), .int t, .int k, .int v] (wD E a D) (wD E a (dChg D t k v)) := by
  refine zV_of (cc := cX0_change) (maxL := 4) (by decide) rfl (Nat.le_of_ble_eq_true rfl) ?_
  intro K C ret
  replace C : zC E K cX0_change wsX0_change RX0 rmX0_change 4 := C
  have in0 : ∀ w ∈ wsX00, w ∈ wsX0_change := fun w h => List.mem_cons_of_mem _ (List.mem_append_right _ (h))
  have l15 : zw K (.fieldLink RX0 15 "StoreLog3$Dictionary" "changed" "[I") := C.w (List.mem_cons_of_mem _ (List.mem_append_left _ (List.mem_of_getElem? (i := 2) rfl)))
  have l18 : zw K (.fieldLink RX0 18 "StoreLog3$Dictionary" "holders" "[I") := C.w (List.mem_cons_of_mem _ (List.mem_append_left _ (List.mem_of_getElem? (i := 1) rfl)))
  have l24 : zw K (.fieldLink RX0 24 "StoreLog3$Dictionary" "open" "I") := C.w (List.mem_cons_of_mem _ (List.mem_append_left _ (List.mem_of_getElem? (i := 0) rfl)))
  show Z E K 0 0 (wD E a D) 0 [(0, .ref (a 0)), (1, .int t), (2, .int k), (3, .int v)] []
  refine z_iload_n C 1 rfl rfl dX0_change_0 ?_
  refine z_rNI C (c_X4_isTransaction E t) gX0_change_X4_isTransaction_n32 (fun _ h => h.2.2.1) (C.w (List.mem_cons_of_mem _ (List.mem_append_left _ (List.mem_of_getElem? (i := 4) rfl)))) (C.w (List.mem_cons_of_mem _ (List.mem_append_left _ (List.mem_of_getElem? (i := 3) rfl)))) hyX4_isTransaction.2 rfl ⟨rfl, rfl⟩ ⟨by decide, by decide⟩ ⟨by decide, by decide⟩ [] rfl (by decide) (st := []) (Nat.le_of_ble_eq_true rfl) dX0_change_1 ?_ rfl
  refine z_if_eq C (tgt := 40) dX0_change_4 (by decide) (fun h4_1 => ?_) (fun h4_1 => ?_)
  · exact ret _ _ _ (by first | rfl | (simp only [dChg, h4_1, ↓reduceIte]; done) | (simp only [dChg, h4_1, ↓reduceIte]; rfl) | (simp [dChg, h4_1, ↓reduceIte]; done)) dX0_change_40
  · refine z_iload_n C 2 rfl rfl dX0_change_7 ?_
    refine z_rNI C (c_X4_isKey E k) gX0_change_X4_isKey_n35 (fun _ h => h.2.2.2.1) (C.w (List.mem_cons_of_mem _ (List.mem_append_left _ (List.mem_of_getElem? (i := 4) rfl)))) (C.w (List.mem_cons_of_mem _ (List.mem_append_left _ (List.mem_of_getElem? (i := 6) rfl)))) hyX4_isKey.2 rfl ⟨rfl, rfl⟩ ⟨by decide, by decide⟩ ⟨by decide, by decide⟩ [] rfl (by decide) (st := []) (Nat.le_of_ble_eq_true rfl) dX0_change_8 ?_ rfl
    refine z_if_eq C (tgt := 40) dX0_change_11 (by decide) (fun h11_2 => ?_) (fun h11_2 => ?_)
    · exact ret _ _ _ (by first | rfl | (simp only [dChg, h4_1, h11_2, ↓reduceIte]; done) | (simp only [dChg, h4_1, h11_2, ↓reduceIte]; rfl) | (simp [dChg, h4_1, h11_2, ↓reduceIte]; done)) dX0_change_40
    · refine z_aload_n C 0 rfl rfl dX0_change_14 ?_
      refine z_dup C rfl dX0_change_15 ?_
      refine z_get C (Cn := RX0) (T := TX0) (Nf := 4) (ci := 0) in0 0 3 l24 (v := .int (dOp D)) rfl rfl (by decide) rfl dX0_change_16 ?_
      refine z_iconst C (v := 1) (by decide) dX0_change_19 ?_
      refine z_iload_n C 1 rfl rfl dX0_change_20 ?_
      refine z_ishl C dX0_change_21 ?_
      refine z_ior C dX0_change_22 ?_
      refine z_put C (Cn := RX0) (T := TX0) (Nf := 4) (ci := 0) in0 0 3 l24 rfl rfl (by decide) tyX0 tyX0_ok nmX0 rfl rfl rfl (Nat.le_of_ble_eq_true rfl) (V' := (wD E a (dsOp D ((dOp D) ||| (1 <<< (t &&& 31)))))) rfl dX0_change_23 ?_
      refine z_aload_n C 0 rfl rfl dX0_change_26 ?_
      refine z_get C (Cn := RX0) (T := TX0) (Nf := 4) (ci := 0) in0 0 2 l18 (v := .ref (a 3)) rfl rfl (by decide) rfl dX0_change_27 ?_
      refine z_iload_n C 2 rfl rfl dX0_change_30 ?_
      refine z_iload_n C 1 rfl rfl dX0_change_31 ?_
      refine z_iast C 3 rfl (isK_in h11_2) (g := (upd (dHo D) k.toNatClampNeg t)) rfl (V' := (wD E a (dsHo (dsOp D ((dOp D) ||| (1 <<< (t &&& 31)))) (upd (dHo D) k.toNatClampNeg t)))) rfl dX0_change_32 ?_
      refine z_aload_n C 0 rfl rfl dX0_change_33 ?_
      refine z_get C (Cn := RX0) (T := TX0) (Nf := 4) (ci := 0) in0 0 1 l15 (v := .ref (a 2)) rfl rfl (by decide) rfl dX0_change_34 ?_
      refine z_iload_n C 2 rfl rfl dX0_change_37 ?_
      refine z_iload_n C 3 rfl rfl dX0_change_38 ?_
      refine z_iast C 2 rfl (isK_in h11_2) (g := (upd (dCh D) k.toNatClampNeg v)) rfl (V' := (wD E a (dsCh (dsHo (dsOp D ((dOp D) ||| (1 <<< (t &&& 31)))) (upd (dHo D) k.toNatClampNeg t)) (upd (dCh D) k.toNatClampNeg v)))) rfl dX0_change_39 ?_
      exact ret _ _ _ (by first | rfl | (simp only [dChg, h4_1, h11_2, ↓reduceIte]; done) | (simp only [dChg, h4_1, h11_2, ↓reduceIte]; rfl) | (simp [dChg, h4_1, h11_2, ↓reduceIte]; done)) dX0_change_40
abbrev rmX0_close : Room := { frames := 2, cells := 0, slots := 0, locals := 41 }
theorem hyX0_close : yX0_close.cls = RX0 ∧ yX0_close.cls ≠ "java/lang/invoke/MethodHandle" ∧ yX0_close.cls ≠ "java/lang/invoke/VarHandle" ∧ (parseMethodDescriptor yX0_close.desc).map (fun d => d.parameters.length) = some 2 := by decide +kernel
set_option maxHeartbeats 4000000 in
set_option maxRecDepth 3000 in
theorem c_X0_close (E : GE) (a : Nat → Nat) (D : DS) (t kp : Int32) : zI E yX0_close wsX0_close rmX0_close [.ref (a 0), .int t, .int kp] (wD E a D) ((dClose D t kp).1) (wD E a ((dClose D t kp).2)) := by
  refine zI_of (cc := cX0_close) (maxL := 5) (ty := .int) (by decide) rfl (vp_nar_int _) (Nat.le_of_ble_eq_true rfl) ?_
  intro K C ret
  replace C : zC E K cX0_close wsX0_close RX0 rmX0_close 5 := C
  have in0 : ∀ w ∈ wsX00, w ∈ wsX0_close := fun w h => List.mem_cons_of_mem _ (List.mem_append_right _ (h))
  have l9 : zw K (.fieldLink RX0 9 "StoreLog3$Dictionary" "committed" "[I") := C.w (List.mem_cons_of_mem _ (List.mem_append_left _ (List.mem_of_getElem? (i := 1) rfl)))
  have l15 : zw K (.fieldLink RX0 15 "StoreLog3$Dictionary" "changed" "[I") := C.w (List.mem_cons_of_mem _ (List.mem_append_left _ (List.mem_of_getElem? (i := 2) rfl)))
  have l18 : zw K (.fieldLink RX0 18 "StoreLog3$Dictionary" "holders" "[I") := C.w (List.mem_cons_of_mem _ (List.mem_append_left _ (List.mem_of_getElem? (i := 0) rfl)))
  have l24 : zw K (.fieldLink RX0 24 "StoreLog3$Dictionary" "open" "I") := C.w (List.mem_cons_of_mem _ (List.mem_append_left _ (List.mem_of_getElem? (i := 3) rfl)))
  show Z E K 0 0 (wD E a D) 0 [(0, .ref (a 0)), (1, .int t), (2, .int kp)] []
  refine z_aload_n C 0 rfl rfl dX0_close_0 ?_
  refine z_iload_n C 1 rfl rfl dX0_close_1 ?_
  refine z_rVI C (c_X0_isOpen E a D t) gX0_close_X0_isOpen (ci := 0) (q0 := 0) rfl rfl hyX0_isOpen rfl ⟨rfl, rfl⟩ ⟨by decide, by decide⟩ ⟨by decide, by decide⟩ [0, 1, 2, 3] rfl (by decide) (st := []) (Nat.le_of_ble_eq_true rfl) dX0_close_2 ?_ rfl
  refine z_if_ne C (tgt := 10) dX0_close_5 (by decide) (fun h5_1 => ?_) (fun h5_1 => ?_)
  · refine z_iconst C (v := 0) (by decide) dX0_close_10 ?_
    refine z_istore_n C (lv' := [(3, .int 0), (0, .ref (a 0)), (1, .int t), (2, .int kp)]) rfl rfl (by decide) dX0_close_11 ?_
    refine z_iconst C (v := 0) (by decide) dX0_close_12 ?_
    refine z_istore C (lv' := [(4, .int 0), (3, .int 0), (0, .ref (a 0)), (1, .int t), (2, .int kp)]) rfl (by decide) dX0_close_13 ?_
    have loop15 : ∀ (n j : Nat) (h : Int32) (D1 : DS), j + n = 32 → clL t kp n j (h, D1) = clL t kp 32 0 (0, D) → Z E K 0 0 (wD E a D1) 15 [(0, .ref (a 0)), (1, .int t), (2, .int kp), (3, .int h), (4, .int (nI j))] [] := by
      intro n
      induction n with
      | zero => 
        intro j h D1 hj hT
        obtain rfl : j = 32 := by omega
        refine z_iload C 4 rfl dX0_close_15 ?_
        refine z_bipush C (v := 32) (by decide) dX0_close_17 ?_
        refine z_icmp_ge C (tgt := 78) dX0_close_19 (by decide) (fun h19_2 => ?_) (fun h19_2 => absurd (nI_le (a := 32) (b := 32) (Nat.le_refl _) (by omega)) h19_2)
        refine z_aload_n C 0 rfl rfl dX0_close_78 ?_
        refine z_dup C rfl dX0_close_79 ?_
        refine z_get C (Cn := RX0) (T := TX0) (Nf := 4) (ci := 0) in0 0 3 l24 (v := .int (dOp D1)) rfl rfl (by decide) rfl dX0_close_80 ?_
        refine z_iconst C (v := 1) (by decide) dX0_close_83 ?_
        refine z_iload_n C 1 rfl rfl dX0_close_84 ?_
        refine z_ishl C dX0_close_85 ?_
        refine z_iconst C (v := (-1)) (by decide) dX0_close_86 ?_
        refine z_ixor C dX0_close_87 ?_
        refine z_iand C dX0_close_88 ?_
        refine z_put C (Cn := RX0) (T := TX0) (Nf := 4) (ci := 0) in0 0 3 l24 rfl rfl (by decide) tyX0 tyX0_ok nmX0 rfl rfl rfl (Nat.le_of_ble_eq_true rfl) (V' := (wD E a (dsOp D1 ((dOp D1) &&& ((1 <<< (t &&& 31)) ^^^ (-1)))))) rfl dX0_close_89 ?_
        refine z_iload_n C 3 rfl rfl dX0_close_92 ?_
        exact ret _ _ _ _ (by simp only [dClose, h5_1, ↓reduceIte, ← hT]; rfl) (by simp only [dClose, h5_1, ↓reduceIte, ← hT]; rfl) dX0_close_93
      | succ n ih15 => 
        intro j h D1 hj hT
        refine z_iload C 4 rfl dX0_close_15 ?_
        refine z_bipush C (v := 32) (by decide) dX0_close_17 ?_
        refine z_icmp_ge C (tgt := 78) dX0_close_19 (by decide) (fun h19_3 => absurd h19_3 (nI_ge (a := j) (b := 32) (by omega) (by omega))) (fun h19_3 => ?_)
        refine z_aload_n C 0 rfl rfl dX0_close_22 ?_
        refine z_get C (Cn := RX0) (T := TX0) (Nf := 4) (ci := 0) in0 0 2 l18 (v := .ref (a 3)) rfl rfl (by decide) rfl dX0_close_23 ?_
        refine z_iload C 4 rfl dX0_close_26 ?_
        refine z_iald C 3 rfl (vp_in_nI (by omega) (by omega)) (v := ((dHo D1) j)) (congrArg (dHo D1) (nI_clamp (by omega))) dX0_close_28 ?_
        refine z_iload_n C 1 rfl rfl dX0_close_29 ?_
        refine z_icmp_ne C (tgt := 72) dX0_close_30 (by decide) (fun h30_4 => ?_) (fun h30_4 => ?_)
        · refine z_iinc C 4 rfl (v := (nI (j + 1))) (zinc _) (lv' := [(4, .int (nI (j + 1))), (0, .ref (a 0)), (1, .int t), (2, .int kp), (3, .int h)]) rfl (by decide) dX0_close_72 ?_
          refine z_goto C (tgt := 15) dX0_close_75 (by decide) ?_
          refine z_lv (lv' := [(0, .ref (a 0)), (1, .int t), (2, .int kp), (3, .int h), (4, .int (nI (j + 1)))]) [1, 2, 3, 4, 0] rfl ?_
          exact ih15 (j + 1) _ _ (by omega) (by rw [← hT]; simp only [clL, clS, h5_1, h19_3, h30_4, ↓reduceIte])
        · refine z_iinc C 3 rfl (v := (h + 1)) rfl (lv' := [(3, .int (h + 1)), (0, .ref (a 0)), (1, .int t), (2, .int kp), (4, .int (nI j))]) rfl (by decide) dX0_close_33 ?_
          refine z_aload_n C 1 rfl rfl dX0_close_36 ?_
          refine z_get C (Cn := RX0) (T := TX0) (Nf := 4) (ci := 0) in0 0 2 l18 (v := .ref (a 3)) rfl rfl (by decide) rfl dX0_close_37 ?_
          refine z_iload C 4 rfl dX0_close_40 ?_
          refine z_iconst C (v := (-1)) (by decide) dX0_close_42 ?_
          refine z_iast C 3 rfl (vp_in_nI (by omega) (by omega)) (g := (upd (dHo D1) j (-1))) (by rw [nI_clamp (by omega)]) (V' := (wD E a (dsHo D1 (upd (dHo D1) j (-1))))) rfl dX0_close_43 ?_
          refine z_aload_n C 1 rfl rfl dX0_close_44 ?_
          refine z_get C (Cn := RX0) (T := TX0) (Nf := 4) (ci := 0) in0 0 0 l9 (v := .ref (a 1)) rfl rfl (by decide) rfl dX0_close_45 ?_
          refine z_iload C 4 rfl dX0_close_48 ?_
          refine z_iload_n C 3 rfl rfl dX0_close_50 ?_
          refine z_if_eq C (tgt := 64) dX0_close_51 (by decide) (fun h51_5 => ?_) (fun h51_5 => ?_)
          · refine z_aload_n C 1 rfl rfl dX0_close_64 ?_
            refine z_get C (Cn := RX0) (T := TX0) (Nf := 4) (ci := 0) in0 0 0 l9 (v := .ref (a 1)) rfl rfl (by decide) rfl dX0_close_65 ?_
            refine z_iload C 4 rfl dX0_close_68 ?_
            refine z_iald C 1 rfl (vp_in_nI (by omega) (by omega)) (v := ((dCo D1) j)) (congrArg (dCo D1) (nI_clamp (by omega))) dX0_close_70 ?_
            refine z_iast C 1 rfl (vp_in_nI (by omega) (by omega)) (g := (upd (dCo D1) j ((dCo D1) j))) (by rw [nI_clamp (by omega)]) (V' := (wD E a (dsCo (dsHo D1 (upd (dHo D1) j (-1))) (upd (dCo D1) j ((dCo D1) j))))) rfl dX0_close_71 ?_
            refine z_iinc C 4 rfl (v := (nI (j + 1))) (zinc _) (lv' := [(4, .int (nI (j + 1))), (3, .int (h + 1)), (0, .ref (a 0)), (1, .int t), (2, .int kp)]) rfl (by decide) dX0_close_72 ?_
            refine z_goto C (tgt := 15) dX0_close_75 (by decide) ?_
            refine z_lv (lv' := [(0, .ref (a 0)), (1, .int t), (2, .int kp), (3, .int (h + 1)), (4, .int (nI (j + 1)))]) [2, 3, 4, 1, 0] rfl ?_
            exact ih15 (j + 1) _ _ (by omega) (by rw [← hT]; simp only [clL, clS, h5_1, h19_3, h30_4, h51_5, ↓reduceIte])
          · refine z_aload_n C 1 rfl rfl dX0_close_54 ?_
            refine z_get C (Cn := RX0) (T := TX0) (Nf := 4) (ci := 0) in0 0 1 l15 (v := .ref (a 2)) rfl rfl (by decide) rfl dX0_close_55 ?_
            refine z_iload C 4 rfl dX0_close_58 ?_
            refine z_iald C 2 rfl (vp_in_nI (by omega) (by omega)) (v := ((dCh D1) j)) (congrArg (dCh D1) (nI_clamp (by omega))) dX0_close_60 ?_
            refine z_goto C (tgt := 71) dX0_close_61 (by decide) ?_
            refine z_iast C 1 rfl (vp_in_nI (by omega) (by omega)) (g := (upd (dCo D1) j ((dCh D1) j))) (by rw [nI_clamp (by omega)]) (V' := (wD E a (dsCo (dsHo D1 (upd (dHo D1) j (-1))) (upd (dCo D1) j ((dCh D1) j))))) rfl dX0_close_71 ?_
            refine z_iinc C 4 rfl (v := (nI (j + 1))) (zinc _) (lv' := [(4, .int (nI (j + 1))), (3, .int (h + 1)), (0, .ref (a 0)), (1, .int t), (2, .int kp)]) rfl (by decide) dX0_close_72 ?_
            refine z_goto C (tgt := 15) dX0_close_75 (by decide) ?_
            refine z_lv (lv' := [(0, .ref (a 0)), (1, .int t), (2, .int kp), (3, .int (h + 1)), (4, .int (nI (j + 1)))]) [2, 3, 4, 1, 0] rfl ?_
            exact ih15 (j + 1) _ _ (by omega) (by rw [← hT]; simp only [clL, clS, h5_1, h19_3, h30_4, h51_5, ↓reduceIte])
    refine z_lv (lv' := [(0, .ref (a 0)), (1, .int t), (2, .int kp), (3, .int 0), (4, .int 0)]) [2, 3, 4, 1, 0] rfl ?_
    exact loop15 32 0 0 D (by omega) rfl
  · refine z_iconst C (v := 0) (by decide) dX0_close_8 ?_
    exact ret _ _ _ _ (by first | rfl | (simp only [dClose, h5_1, ↓reduceIte]; done) | (simp only [dClose, h5_1, ↓reduceIte]; rfl) | (simp [dClose, h5_1, ↓reduceIte]; done)) (by first | rfl | (simp only [dClose, h5_1, ↓reduceIte]; done) | (simp only [dClose, h5_1, ↓reduceIte]; rfl) | (simp [dClose, h5_1, ↓reduceIte]; done)) dX0_close_9
abbrev rmX0_pagesDue : Room := { frames := 0, cells := 0, slots := 0, locals := 0 }
theorem hyX0_pagesDue : yX0_pagesDue.cls = RX0 ∧ yX0_pagesDue.cls ≠ "java/lang/invoke/MethodHandle" ∧ yX0_pagesDue.cls ≠ "java/lang/invoke/VarHandle" ∧ (parseMethodDescriptor yX0_pagesDue.desc).map (fun d => d.parameters.length) = some 0 := by decide +kernel
set_option maxHeartbeats 4000000 in
set_option maxRecDepth 3000 in
theorem c_X0_pagesDue (E : GE) (a : Nat → Nat) (D : DS) : zI E yX0_pagesDue wsX0_pagesDue rmX0_pagesDue [.ref (a 0)] (wD E a D) ((pgF D 32).2) (wD E a D) := by
  refine zI_of (cc := cX0_pagesDue) (maxL := 4) (ty := .int) (by decide) rfl (vp_nar_int _) (Nat.le_of_ble_eq_true rfl) ?_
  intro K C ret
  replace C : zC E K cX0_pagesDue wsX0_pagesDue RX0 rmX0_pagesDue 4 := C
  have in0 : ∀ w ∈ wsX00, w ∈ wsX0_pagesDue := fun w h => List.mem_cons_of_mem _ (List.mem_append_right _ (h))
  have l9 : zw K (.fieldLink RX0 9 "StoreLog3$Dictionary" "committed" "[I") := C.w (List.mem_cons_of_mem _ (List.mem_append_left _ (List.mem_of_getElem? (i := 0) rfl)))
  show Z E K 0 0 (wD E a D) 0 [(0, .ref (a 0))] []
  refine z_iconst C (v := 0) (by decide) dX0_pagesDue_0 ?_
  refine z_istore_n C (lv' := [(1, .int 0), (0, .ref (a 0))]) rfl rfl (by decide) dX0_pagesDue_1 ?_
  refine z_iconst C (v := 1) (by decide) dX0_pagesDue_2 ?_
  refine z_istore_n C (lv' := [(2, .int 1), (1, .int 0), (0, .ref (a 0))]) rfl rfl (by decide) dX0_pagesDue_3 ?_
  refine z_iconst C (v := 0) (by decide) dX0_pagesDue_4 ?_
  refine z_istore_n C (lv' := [(3, .int 0), (2, .int 1), (1, .int 0), (0, .ref (a 0))]) rfl rfl (by decide) dX0_pagesDue_5 ?_
  have loop6 : ∀ (n j : Nat), j + n = 32 → Z E K 0 0 (wD E a D) 6 [(0, .ref (a 0)), (1, .int (pgF D j).1), (2, .int (pgF D j).2), (3, .int (nI j))] [] := by
    intro n
    induction n with
    | zero => 
      intro j hj
      obtain rfl : j = 32 := by omega
      refine z_iload_n C 3 rfl rfl dX0_pagesDue_6 ?_
      refine z_bipush C (v := 32) (by decide) dX0_pagesDue_7 ?_
      refine z_icmp_ge C (tgt := 41) dX0_pagesDue_9 (by decide) (fun h9_1 => ?_) (fun h9_1 => absurd (nI_le (a := 32) (b := 32) (Nat.le_refl _) (by omega)) h9_1)
      refine z_iload_n C 2 rfl rfl dX0_pagesDue_41 ?_
      exact ret _ _ _ _ (by first | rfl | (simp only [pgF, h9_1, ↓reduceIte]; done) | (simp only [pgF, h9_1, ↓reduceIte]; rfl) | (simp [pgF, h9_1, ↓reduceIte]; done)) rfl dX0_pagesDue_42
    | succ n ih6 => 
      intro j hj
      refine z_iload_n C 3 rfl rfl dX0_pagesDue_6 ?_
      refine z_bipush C (v := 32) (by decide) dX0_pagesDue_7 ?_
      refine z_icmp_ge C (tgt := 41) dX0_pagesDue_9 (by decide) (fun h9_2 => absurd h9_2 (nI_ge (a := j) (b := 32) (by omega) (by omega))) (fun h9_2 => ?_)
      refine z_aload_n C 0 rfl rfl dX0_pagesDue_12 ?_
      refine z_get C (Cn := RX0) (T := TX0) (Nf := 4) (ci := 0) in0 0 0 l9 (v := .ref (a 1)) rfl rfl (by decide) rfl dX0_pagesDue_13 ?_
      refine z_iload_n C 3 rfl rfl dX0_pagesDue_16 ?_
      refine z_iald C 1 rfl (vp_in_nI (by omega) (by omega)) (v := ((dCo D) j)) (congrArg (dCo D) (nI_clamp (by omega))) dX0_pagesDue_17 ?_
      refine z_iconst C (v := (-1)) (by decide) dX0_pagesDue_18 ?_
      refine z_icmp_eq C (tgt := 35) dX0_pagesDue_19 (by decide) (fun h19_3 => ?_) (fun h19_3 => ?_)
      · refine z_iinc C 3 rfl (v := (nI (j + 1))) (zinc _) (lv' := [(3, .int (nI (j + 1))), (0, .ref (a 0)), (1, .int (pgF D j).1), (2, .int (pgF D j).2)]) rfl (by decide) dX0_pagesDue_35 ?_
        refine z_goto C (tgt := 6) dX0_pagesDue_38 (by decide) ?_
        refine z_lv (lv' := [(0, .ref (a 0)), (1, .int (pgF D j).1), (2, .int (pgF D j).2), (3, .int (nI (j + 1)))]) [1, 2, 3, 0] rfl ?_
        refine z_eq (V2 := (wD E a D)) (lv2 := [(0, .ref (a 0)), (1, .int (pgF D (j + 1)).1), (2, .int (pgF D (j + 1)).2), (3, .int (nI (j + 1)))]) (by first | rfl | (simp only [pgF, h9_2, h19_3, ↓reduceIte]; done) | (simp only [pgF, h9_2, h19_3, ↓reduceIte]; rfl)) (by first | rfl | (simp only [pgF, h9_2, h19_3, ↓reduceIte]; done) | (simp only [pgF, h9_2, h19_3, ↓reduceIte]; rfl)) rfl ?_
        exact ih6 (j + 1)  (by omega)
      · refine z_iinc C 1 rfl (v := ((pgF D j).1 + 1)) rfl (lv' := [(1, .int ((pgF D j).1 + 1)), (0, .ref (a 0)), (2, .int (pgF D j).2), (3, .int (nI j))]) rfl (by decide) dX0_pagesDue_22 ?_
        refine z_iload_n C 0 rfl rfl dX0_pagesDue_25 ?_
        refine z_iload_n C 2 rfl rfl dX0_pagesDue_26 ?_
        refine z_iconst C (v := 5) (by decide) dX0_pagesDue_27 ?_
        refine z_imul C dX0_pagesDue_28 ?_
        refine z_icmp_le C (tgt := 35) dX0_pagesDue_29 (by decide) (fun h29_4 => ?_) (fun h29_4 => ?_)
        · refine z_iinc C 3 rfl (v := (nI (j + 1))) (zinc _) (lv' := [(3, .int (nI (j + 1))), (1, .int ((pgF D j).1 + 1)), (0, .ref (a 0)), (2, .int (pgF D j).2)]) rfl (by decide) dX0_pagesDue_35 ?_
          refine z_goto C (tgt := 6) dX0_pagesDue_38 (by decide) ?_
          refine z_lv (lv' := [(0, .ref (a 0)), (1, .int ((pgF D j).1 + 1)), (2, .int (pgF D j).2), (3, .int (nI (j + 1)))]) [2, 1, 3, 0] rfl ?_
          refine z_eq (V2 := (wD E a D)) (lv2 := [(0, .ref (a 0)), (1, .int (pgF D (j + 1)).1), (2, .int (pgF D (j + 1)).2), (3, .int (nI (j + 1)))]) (by first | rfl | (simp only [pgF, h9_2, h19_3, h29_4, ↓reduceIte]; done) | (simp only [pgF, h9_2, h19_3, h29_4, ↓reduceIte]; rfl)) (by first | rfl | (simp only [pgF, h9_2, h19_3, h29_4, ↓reduceIte]; done) | (simp only [pgF, h9_2, h19_3, h29_4, ↓reduceIte]; rfl)) rfl ?_
          exact ih6 (j + 1)  (by omega)
        · refine z_iinc C 2 rfl (v := ((pgF D j).2 + 1)) rfl (lv' := [(2, .int ((pgF D j).2 + 1)), (1, .int ((pgF D j).1 + 1)), (0, .ref (a 0)), (3, .int (nI j))]) rfl (by decide) dX0_pagesDue_32 ?_
          refine z_iinc C 3 rfl (v := (nI (j + 1))) (zinc _) (lv' := [(3, .int (nI (j + 1))), (2, .int ((pgF D j).2 + 1)), (1, .int ((pgF D j).1 + 1)), (0, .ref (a 0))]) rfl (by decide) dX0_pagesDue_35 ?_
          refine z_goto C (tgt := 6) dX0_pagesDue_38 (by decide) ?_
          refine z_lv (lv' := [(0, .ref (a 0)), (1, .int ((pgF D j).1 + 1)), (2, .int ((pgF D j).2 + 1)), (3, .int (nI (j + 1)))]) [3, 2, 1, 0] rfl ?_
          refine z_eq (V2 := (wD E a D)) (lv2 := [(0, .ref (a 0)), (1, .int (pgF D (j + 1)).1), (2, .int (pgF D (j + 1)).2), (3, .int (nI (j + 1)))]) (by first | rfl | (simp only [pgF, h9_2, h19_3, h29_4, ↓reduceIte]; done) | (simp only [pgF, h9_2, h19_3, h29_4, ↓reduceIte]; rfl)) (by first | rfl | (simp only [pgF, h9_2, h19_3, h29_4, ↓reduceIte]; done) | (simp only [pgF, h9_2, h19_3, h29_4, ↓reduceIte]; rfl)) rfl ?_
          exact ih6 (j + 1)  (by omega)
  refine z_lv (lv' := [(0, .ref (a 0)), (1, .int 0), (2, .int 1), (3, .int 0)]) [3, 2, 1, 0] rfl ?_
  exact loop6 32 0  (by omega)
abbrev rmX0_nextWithValue : Room := { frames := 1, cells := 0, slots := 0, locals := 21 }
theorem hyX0_nextWithValue : yX0_nextWithValue.cls = RX0 ∧ yX0_nextWithValue.cls ≠ "java/lang/invoke/MethodHandle" ∧ yX0_nextWithValue.cls ≠ "java/lang/invoke/VarHandle" ∧ (parseMethodDescriptor yX0_nextWithValue.desc).map (fun d => d.parameters.length) = some 1 := by decide +kernel
set_option maxHeartbeats 4000000 in
set_option maxRecDepth 3000 in
theorem c_X0_nextWithValue (E : GE) (a : Nat → Nat) (D : DS) (k : Nat) (hk : k ≤ 32) : zI E yX0_nextWithValue wsX0_nextWithValue rmX0_nextWithValue [.ref (a 0), .int (nI k)] (wD E a D) (nI (nxN D (32 - k) k)) (wD E a D) := by
  refine zI_of (cc := cX0_nextWithValue) (maxL := 3) (ty := .int) (by decide) rfl (vp_nar_int _) (Nat.le_of_ble_eq_true rfl) ?_
  intro K C ret
  replace C : zC E K cX0_nextWithValue wsX0_nextWithValue RX0 rmX0_nextWithValue 3 := C
  have in0 : ∀ w ∈ wsX00, w ∈ wsX0_nextWithValue := fun w h => List.mem_cons_of_mem _ (List.mem_append_right _ (h))
  have l9 : zw K (.fieldLink RX0 9 "StoreLog3$Dictionary" "committed" "[I") := C.w (List.mem_cons_of_mem _ (List.mem_append_left _ (List.mem_of_getElem? (i := 4) rfl)))
  show Z E K 0 0 (wD E a D) 0 [(0, .ref (a 0)), (1, .int (nI k))] []
  refine z_iload_n C 1 rfl rfl dX0_nextWithValue_0 ?_
  refine z_iconst C (v := 0) (by decide) dX0_nextWithValue_1 ?_
  refine z_mmax C (v := (nI k)) (if_neg (nI_pos (by omega))) (C.w (List.mem_cons_of_mem _ (List.mem_append_left _ (List.mem_of_getElem? (i := 0) rfl)))) (C.w (List.mem_cons_of_mem _ (List.mem_append_left _ (List.mem_of_getElem? (i := 1) rfl)))) (C.w (List.mem_cons_of_mem _ (List.mem_append_left _ (List.mem_of_getElem? (i := 2) rfl)))) (C.w (List.mem_cons_of_mem _ (List.mem_append_left _ (List.mem_of_getElem? (i := 3) rfl)))) ⟨by decide, by decide, by decide, by decide⟩ dX0_nextWithValue_2 ?_
  refine z_istore_n C (lv' := [(2, .int (nI k)), (0, .ref (a 0)), (1, .int (nI k))]) rfl rfl (by decide) dX0_nextWithValue_5 ?_
  have loop6 : ∀ (n j : Nat), j + n = 32 → nxN D n j = nxN D (32 - k) k → Z E K 0 0 (wD E a D) 6 [(0, .ref (a 0)), (1, .int (nI k)), (2, .int (nI j))] [] := by
    intro n
    induction n with
    | zero => 
      intro j hj hT
      obtain rfl : j = 32 := by omega
      refine z_iload_n C 2 rfl rfl dX0_nextWithValue_6 ?_
      refine z_bipush C (v := 32) (by decide) dX0_nextWithValue_7 ?_
      refine z_icmp_ge C (tgt := 30) dX0_nextWithValue_9 (by decide) (fun h9_1 => ?_) (fun h9_1 => absurd (nI_le (a := 32) (b := 32) (Nat.le_refl _) (by omega)) h9_1)
      refine z_bipush C (v := 32) (by decide) dX0_nextWithValue_30 ?_
      exact ret _ _ _ _ (by rw [← hT]; first | rfl | (simp only [nxN, h9_1, ↓reduceIte]; done) | (simp only [nxN, h9_1, ↓reduceIte]; rfl)) rfl dX0_nextWithValue_32
    | succ n ih6 => 
      intro j hj hT
      refine z_iload_n C 2 rfl rfl dX0_nextWithValue_6 ?_
      refine z_bipush C (v := 32) (by decide) dX0_nextWithValue_7 ?_
      refine z_icmp_ge C (tgt := 30) dX0_nextWithValue_9 (by decide) (fun h9_2 => absurd h9_2 (nI_ge (a := j) (b := 32) (by omega) (by omega))) (fun h9_2 => ?_)
      refine z_aload_n C 0 rfl rfl dX0_nextWithValue_12 ?_
      refine z_get C (Cn := RX0) (T := TX0) (Nf := 4) (ci := 0) in0 0 0 l9 (v := .ref (a 1)) rfl rfl (by decide) rfl dX0_nextWithValue_13 ?_
      refine z_iload_n C 2 rfl rfl dX0_nextWithValue_16 ?_
      refine z_iald C 1 rfl (vp_in_nI (by omega) (by omega)) (v := ((dCo D) j)) (congrArg (dCo D) (nI_clamp (by omega))) dX0_nextWithValue_17 ?_
      refine z_iconst C (v := (-1)) (by decide) dX0_nextWithValue_18 ?_
      refine z_icmp_eq C (tgt := 24) dX0_nextWithValue_19 (by decide) (fun h19_3 => ?_) (fun h19_3 => ?_)
      · refine z_iinc C 2 rfl (v := (nI (j + 1))) (zinc _) (lv' := [(2, .int (nI (j + 1))), (0, .ref (a 0)), (1, .int (nI k))]) rfl (by decide) dX0_nextWithValue_24 ?_
        refine z_goto C (tgt := 6) dX0_nextWithValue_27 (by decide) ?_
        refine z_lv (lv' := [(0, .ref (a 0)), (1, .int (nI k)), (2, .int (nI (j + 1)))]) [1, 2, 0] rfl ?_
        exact ih6 (j + 1) (by omega) (by rw [← hT]; simp only [nxN, h9_2, h19_3, ↓reduceIte])
      · refine z_iload_n C 2 rfl rfl dX0_nextWithValue_22 ?_
        exact ret _ _ _ _ (by rw [← hT]; first | rfl | (simp only [nxN, h9_2, h19_3, ↓reduceIte]; done) | (simp only [nxN, h9_2, h19_3, ↓reduceIte]; rfl)) rfl dX0_nextWithValue_23
  refine z_lv (lv' := [(0, .ref (a 0)), (1, .int (nI k)), (2, .int (nI k))]) [1, 2, 0] rfl ?_
  exact loop6 (32 - k) k  (by omega) rfl
abbrev rmX0_clear : Room := { frames := 0, cells := 0, slots := 0, locals := 0 }
theorem hyX0_clear : yX0_clear.cls = RX0 ∧ yX0_clear.cls ≠ "java/lang/invoke/MethodHandle" ∧ yX0_clear.cls ≠ "java/lang/invoke/VarHandle" ∧ (parseMethodDescriptor yX0_clear.desc).map (fun d => d.parameters.length) = some 0 := by decide +kernel
set_option maxHeartbeats 4000000 in
set_option maxRecDepth 3000 in
theorem c_X0_clear (E : GE) (a : Nat → Nat) (D : DS) : zV E yX0_clear wsX0_clear rmX0_clear [.ref (a 0)] (wD E a D) (wD E a (dClear D)) := by
  refine zV_of (cc := cX0_clear) (maxL := 2) (by decide) rfl (Nat.le_of_ble_eq_true rfl) ?_
  intro K C ret
  replace C : zC E K cX0_clear wsX0_clear RX0 rmX0_clear 2 := C
  have in0 : ∀ w ∈ wsX00, w ∈ wsX0_clear := fun w h => List.mem_cons_of_mem _ (List.mem_append_right _ (h))
  have l9 : zw K (.fieldLink RX0 9 "StoreLog3$Dictionary" "committed" "[I") := C.w (List.mem_cons_of_mem _ (List.mem_append_left _ (List.mem_of_getElem? (i := 0) rfl)))
  have l15 : zw K (.fieldLink RX0 15 "StoreLog3$Dictionary" "changed" "[I") := C.w (List.mem_cons_of_mem _ (List.mem_append_left _ (List.mem_of_getElem? (i := 1) rfl)))
  have l18 : zw K (.fieldLink RX0 18 "StoreLog3$Dictionary" "holders" "[I") := C.w (List.mem_cons_of_mem _ (List.mem_append_left _ (List.mem_of_getElem? (i := 2) rfl)))
  have l24 : zw K (.fieldLink RX0 24 "StoreLog3$Dictionary" "open" "I") := C.w (List.mem_cons_of_mem _ (List.mem_append_left _ (List.mem_of_getElem? (i := 3) rfl)))
  show Z E K 0 0 (wD E a D) 0 [(0, .ref (a 0))] []
  refine z_iconst C (v := 0) (by decide) dX0_clear_0 ?_
  refine z_istore_n C (lv' := [(1, .int 0), (0, .ref (a 0))]) rfl rfl (by decide) dX0_clear_1 ?_
  have loop2 : ∀ (n j : Nat), j + n = 32 → Z E K 0 0 (wD E a (dcl D j)) 2 [(0, .ref (a 0)), (1, .int (nI j))] [] := by
    intro n
    induction n with
    | zero => 
      intro j hj
      obtain rfl : j = 32 := by omega
      refine z_iload_n C 1 rfl rfl dX0_clear_2 ?_
      refine z_bipush C (v := 32) (by decide) dX0_clear_3 ?_
      refine z_icmp_ge C (tgt := 35) dX0_clear_5 (by decide) (fun h5_1 => ?_) (fun h5_1 => absurd (nI_le (a := 32) (b := 32) (Nat.le_refl _) (by omega)) h5_1)
      refine z_aload_n C 0 rfl rfl dX0_clear_35 ?_
      refine z_iconst C (v := 0) (by decide) dX0_clear_36 ?_
      refine z_put C (Cn := RX0) (T := TX0) (Nf := 4) (ci := 0) in0 0 3 l24 rfl rfl (by decide) tyX0 tyX0_ok nmX0 rfl rfl rfl (Nat.le_of_ble_eq_true rfl) (V' := (wD E a (dsOp (dcl D 32) 0))) rfl dX0_clear_37 ?_
      exact ret _ _ _ (by first | rfl | (simp only [h5_1, ↓reduceIte]; done) | (simp only [h5_1, ↓reduceIte]; rfl) | (simp [h5_1, ↓reduceIte]; done)) dX0_clear_40
    | succ n ih2 => 
      intro j hj
      refine z_iload_n C 1 rfl rfl dX0_clear_2 ?_
      refine z_bipush C (v := 32) (by decide) dX0_clear_3 ?_
      refine z_icmp_ge C (tgt := 35) dX0_clear_5 (by decide) (fun h5_2 => absurd h5_2 (nI_ge (a := j) (b := 32) (by omega) (by omega))) (fun h5_2 => ?_)
      refine z_aload_n C 0 rfl rfl dX0_clear_8 ?_
      refine z_get C (Cn := RX0) (T := TX0) (Nf := 4) (ci := 0) in0 0 0 l9 (v := .ref (a 1)) rfl rfl (by decide) rfl dX0_clear_9 ?_
      refine z_iload_n C 1 rfl rfl dX0_clear_12 ?_
      refine z_iconst C (v := (-1)) (by decide) dX0_clear_13 ?_
      refine z_iast C 1 rfl (vp_in_nI (by omega) (by omega)) (g := (upd (dCo (dcl D j)) j (-1))) (by rw [nI_clamp (by omega)]) (V' := (wD E a (dsCo (dcl D j) (upd (dCo (dcl D j)) j (-1))))) rfl dX0_clear_14 ?_
      refine z_aload_n C 0 rfl rfl dX0_clear_15 ?_
      refine z_get C (Cn := RX0) (T := TX0) (Nf := 4) (ci := 0) in0 0 1 l15 (v := .ref (a 2)) rfl rfl (by decide) rfl dX0_clear_16 ?_
      refine z_iload_n C 1 rfl rfl dX0_clear_19 ?_
      refine z_iconst C (v := (-1)) (by decide) dX0_clear_20 ?_
      refine z_iast C 2 rfl (vp_in_nI (by omega) (by omega)) (g := (upd (dCh (dcl D j)) j (-1))) (by rw [nI_clamp (by omega)]) (V' := (wD E a (dsCh (dsCo (dcl D j) (upd (dCo (dcl D j)) j (-1))) (upd (dCh (dcl D j)) j (-1))))) rfl dX0_clear_21 ?_
      refine z_aload_n C 0 rfl rfl dX0_clear_22 ?_
      refine z_get C (Cn := RX0) (T := TX0) (Nf := 4) (ci := 0) in0 0 2 l18 (v := .ref (a 3)) rfl rfl (by decide) rfl dX0_clear_23 ?_
      refine z_iload_n C 1 rfl rfl dX0_clear_26 ?_
      refine z_iconst C (v := (-1)) (by decide) dX0_clear_27 ?_
      refine z_iast C 3 rfl (vp_in_nI (by omega) (by omega)) (g := (upd (dHo (dcl D j)) j (-1))) (by rw [nI_clamp (by omega)]) (V' := (wD E a (dsHo (dsCh (dsCo (dcl D j) (upd (dCo (dcl D j)) j (-1))) (upd (dCh (dcl D j)) j (-1))) (upd (dHo (dcl D j)) j (-1))))) rfl dX0_clear_28 ?_
      refine z_iinc C 1 rfl (v := (nI (j + 1))) (zinc _) (lv' := [(1, .int (nI (j + 1))), (0, .ref (a 0))]) rfl (by decide) dX0_clear_29 ?_
      refine z_goto C (tgt := 2) dX0_clear_32 (by decide) ?_
      refine z_lv (lv' := [(0, .ref (a 0)), (1, .int (nI (j + 1)))]) [1, 0] rfl ?_
      exact ih2 (j + 1)  (by omega)
  refine z_lv (lv' := [(0, .ref (a 0)), (1, .int 0)]) [1, 0] rfl ?_
  exact loop2 32 0  (by omega)

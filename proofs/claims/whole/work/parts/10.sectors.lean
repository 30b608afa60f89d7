/-! Part 10: the static tests and the sectors. First what each computes -/
def isT (t : Int32) : Int32 := if t < 0 then 0 else if 3 ≤ t then 0 else 1
def isK (k : Int32) : Int32 := if k < 0 then 0 else if 32 ≤ k then 0 else 1
def isV (v : Int32) : Int32 := if v < 0 then 0 else if 16777215 < v then 0 else 1
def bhd (N : Nat) (s : Int32) : Int32 := if s < 0 then 0 else if nI N - 1 ≤ s then 0 else s + 1
def stp (N : Nat) (u t : Int32) : Int32 := if t < u then t - u + nI N else t - u
def bOf (N : Nat) (f : Nat → Int32) (s i : Int32) : Int32 := if s < 0 then -1 else if nI N ≤ s then -1 else if i < 0 then -1 else if i < 32 then f (s * 32 + i).toNatClampNeg &&& 255 else -1
def sB (N : Nat) (f : Nat → Int32) (s i v : Int32) : Nat → Int32 := if s < 0 then f else if nI N ≤ s then f else if i < 0 then f else if i < 32 then upd f (s * 32 + i).toNatClampNeg (b8 v) else f
def nOf (N : Nat) (f : Nat → Int32) (s u : Int32) : Nat → Int32
  | 0 => 0
  | n + 1 => (nOf N f s u n <<< (8 &&& 31)) ||| bOf N f s (u + nI n)
def sN (N : Nat) (s u : Int32) : Nat → (Nat → Int32) → Int32 → Nat → Int32
  | 0, f, _ => f
  | n + 1, f, x => sN N s u n (sB N f s (u + nI n) x) (ush x 8)
def smL (f : Nat → Int32) (s : Int32) : Nat → Int32
  | 0 => s + 1
  | n + 1 => (((smL f s n ^^^ (f (s * 32 + nI n).toNatClampNeg &&& 255)) <<< (11 &&& 31)) ||| ush (smL f s n ^^^ (f (s * 32 + nI n).toNatClampNeg &&& 255)) 21) * (-2048144777)
def smOf (N : Nat) (f : Nat → Int32) (s : Int32) : Int32 := if s < 0 then 0 else if s < nI N then smL f s 28 else 0
def isS (N : Nat) (f : Nat → Int32) (s : Int32) : Int32 := if bOf N f s 28 = -1 then 0 else if nOf N f s 28 4 = smOf N f s then 1 else 0
def clr (N : Nat) (f : Nat → Int32) (s : Int32) : Nat → Nat → Int32
  | 0 => f
  | n + 1 => sB N (clr N f s n) s (nI n) 0
def prep (N : Nat) (f : Nat → Int32) (s kd se it : Int32) : Nat → Int32 := sB N (sN N s 1 4 (sB N (clr N f s 32) s 0 kd) se) s 5 it
def sealS (N : Nat) (f : Nat → Int32) (s : Int32) : Nat → Int32 := sN N s 28 4 f (smOf N f s)
def cpS (N : Nat) (f g : Nat → Int32) (s : Int32) : Nat → Nat → Int32
  | 0 => f
  | n + 1 => sB N (cpS N f g s n) s (nI n) (bOf N g s (nI n))
def clA (f : Nat → Int32) : Nat → Nat → Int32
  | 0 => f
  | n + 1 => upd (clA f n) n 0
theorem zidx2 {N : Nat} (hN : 16 ≤ N ∧ N ≤ 64) {s : Int32} {j : Nat} (h1 : ¬ s < 0) (h2 : s < nI N) (hj : j < 28) : vp_in (s * 32 + nI j) (32 * N) := zidx hN h1 (fun h => by rw [Int32.le_iff_toInt_le] at h; rw [Int32.lt_iff_toInt_lt] at h2; omega) (nI_pos (by omega)) (nI_lt (a := j) (b := 32) (by omega) (by omega))
abbrev rmX4_isTransaction : Room := { frames := 0, cells := 0, slots := 0, locals := 0 }
theorem hyX4_isTransaction : yX4_isTransaction.cls = RX4 ∧ yX4_isTransaction.cls ≠ "java/lang/invoke/MethodHandle" ∧ yX4_isTransaction.cls ≠ "java/lang/invoke/VarHandle" ∧ (parseMethodDescriptor yX4_isTransaction.desc).map (fun d => d.parameters.length) = some 1 := by decide +kernel
set_option maxHeartbeats 4000000 in
set_option maxRecDepth 3000 in
theorem c_X4_isTransaction (E : GE) (t : Int32) : zI E yX4_isTransaction wsX4_isTransaction rmX4_isTransaction [.int t] [] (isT t) [] := by
  refine zI_of (cc := cX4_isTransaction) (maxL := 1) (ty := .boolean) (by decide) rfl (by unfold isT; (repeat' split) <;> rfl) (Nat.le_of_ble_eq_true rfl) ?_
  intro K C ret
  replace C : zC E K cX4_isTransaction wsX4_isTransaction RX4 rmX4_isTransaction 1 := C
  show Z E K 0 0 [] 0 [(0, .int t)] []
  refine z_iload_n C 0 rfl rfl dX4_isTransaction_0 ?_
  refine z_if_lt C (tgt := 13) dX4_isTransaction_1 (by decide) (fun h1_1 => ?_) (fun h1_1 => ?_)
  · refine z_iconst C (v := 0) (by decide) dX4_isTransaction_13 ?_
    exact ret _ _ _ _ (by first | rfl | (simp only [isT, h1_1, ↓reduceIte]; done) | (simp only [isT, h1_1, ↓reduceIte]; rfl) | (simp [isT, h1_1, ↓reduceIte]; done)) rfl dX4_isTransaction_14
  · refine z_iload_n C 0 rfl rfl dX4_isTransaction_4 ?_
    refine z_iconst C (v := 3) (by decide) dX4_isTransaction_5 ?_
    refine z_icmp_ge C (tgt := 13) dX4_isTransaction_6 (by decide) (fun h6_2 => ?_) (fun h6_2 => ?_)
    · refine z_iconst C (v := 0) (by decide) dX4_isTransaction_13 ?_
      exact ret _ _ _ _ (by first | rfl | (simp only [isT, h1_1, h6_2, ↓reduceIte]; done) | (simp only [isT, h1_1, h6_2, ↓reduceIte]; rfl) | (simp [isT, h1_1, h6_2, ↓reduceIte]; done)) rfl dX4_isTransaction_14
    · refine z_iconst C (v := 1) (by decide) dX4_isTransaction_9 ?_
      refine z_goto C (tgt := 14) dX4_isTransaction_10 (by decide) ?_
      exact ret _ _ _ _ (by first | rfl | (simp only [isT, h1_1, h6_2, ↓reduceIte]; done) | (simp only [isT, h1_1, h6_2, ↓reduceIte]; rfl) | (simp [isT, h1_1, h6_2, ↓reduceIte]; done)) rfl dX4_isTransaction_14
abbrev rmX4_isKey : Room := { frames := 0, cells := 0, slots := 0, locals := 0 }
theorem hyX4_isKey : yX4_isKey.cls = RX4 ∧ yX4_isKey.cls ≠ "java/lang/invoke/MethodHandle" ∧ yX4_isKey.cls ≠ "java/lang/invoke/VarHandle" ∧ (parseMethodDescriptor yX4_isKey.desc).map (fun d => d.parameters.length) = some 1 := by decide +kernel
set_option maxHeartbeats 4000000 in
set_option maxRecDepth 3000 in
theorem c_X4_isKey (E : GE) (t : Int32) : zI E yX4_isKey wsX4_isKey rmX4_isKey [.int t] [] (isK t) [] := by
  refine zI_of (cc := cX4_isKey) (maxL := 1) (ty := .boolean) (by decide) rfl (by unfold isK; (repeat' split) <;> rfl) (Nat.le_of_ble_eq_true rfl) ?_
  intro K C ret
  replace C : zC E K cX4_isKey wsX4_isKey RX4 rmX4_isKey 1 := C
  show Z E K 0 0 [] 0 [(0, .int t)] []
  refine z_iload_n C 0 rfl rfl dX4_isKey_0 ?_
  refine z_if_lt C (tgt := 14) dX4_isKey_1 (by decide) (fun h1_1 => ?_) (fun h1_1 => ?_)
  · refine z_iconst C (v := 0) (by decide) dX4_isKey_14 ?_
    exact ret _ _ _ _ (by first | rfl | (simp only [isK, h1_1, ↓reduceIte]; done) | (simp only [isK, h1_1, ↓reduceIte]; rfl) | (simp [isK, h1_1, ↓reduceIte]; done)) rfl dX4_isKey_15
  · refine z_iload_n C 0 rfl rfl dX4_isKey_4 ?_
    refine z_bipush C (v := 32) (by decide) dX4_isKey_5 ?_
    refine z_icmp_ge C (tgt := 14) dX4_isKey_7 (by decide) (fun h7_2 => ?_) (fun h7_2 => ?_)
    · refine z_iconst C (v := 0) (by decide) dX4_isKey_14 ?_
      exact ret _ _ _ _ (by first | rfl | (simp only [isK, h1_1, h7_2, ↓reduceIte]; done) | (simp only [isK, h1_1, h7_2, ↓reduceIte]; rfl) | (simp [isK, h1_1, h7_2, ↓reduceIte]; done)) rfl dX4_isKey_15
    · refine z_iconst C (v := 1) (by decide) dX4_isKey_10 ?_
      refine z_goto C (tgt := 15) dX4_isKey_11 (by decide) ?_
      exact ret _ _ _ _ (by first | rfl | (simp only [isK, h1_1, h7_2, ↓reduceIte]; done) | (simp only [isK, h1_1, h7_2, ↓reduceIte]; rfl) | (simp [isK, h1_1, h7_2, ↓reduceIte]; done)) rfl dX4_isKey_15
abbrev rmX4_isValue : Room := { frames := 0, cells := 0, slots := 0, locals := 0 }
theorem hyX4_isValue : yX4_isValue.cls = RX4 ∧ yX4_isValue.cls ≠ "java/lang/invoke/MethodHandle" ∧ yX4_isValue.cls ≠ "java/lang/invoke/VarHandle" ∧ (parseMethodDescriptor yX4_isValue.desc).map (fun d => d.parameters.length) = some 1 := by decide +kernel
set_option maxHeartbeats 4000000 in
set_option maxRecDepth 3000 in
theorem c_X4_isValue (E : GE) (t : Int32) : zI E yX4_isValue wsX4_isValue rmX4_isValue [.int t] [] (isV t) [] := by
  refine zI_of (cc := cX4_isValue) (maxL := 1) (ty := .boolean) (by decide) rfl (by unfold isV; (repeat' split) <;> rfl) (Nat.le_of_ble_eq_true rfl) ?_
  intro K C ret
  replace C : zC E K cX4_isValue wsX4_isValue RX4 rmX4_isValue 1 := C
  have l169 : zw K (.constant RX4 169 (16777215)) := C.w (List.mem_cons_of_mem _ (List.mem_of_getElem? (i := 0) rfl))
  show Z E K 0 0 [] 0 [(0, .int t)] []
  refine z_iload_n C 0 rfl rfl dX4_isValue_0 ?_
  refine z_if_lt C (tgt := 14) dX4_isValue_1 (by decide) (fun h1_1 => ?_) (fun h1_1 => ?_)
  · refine z_iconst C (v := 0) (by decide) dX4_isValue_14 ?_
    exact ret _ _ _ _ (by first | rfl | (simp only [isV, h1_1, ↓reduceIte]; done) | (simp only [isV, h1_1, ↓reduceIte]; rfl) | (simp [isV, h1_1, ↓reduceIte]; done)) rfl dX4_isValue_15
  · refine z_iload_n C 0 rfl rfl dX4_isValue_4 ?_
    refine z_ldc C l169 dX4_isValue_5 ?_
    refine z_icmp_gt C (tgt := 14) dX4_isValue_7 (by decide) (fun h7_2 => ?_) (fun h7_2 => ?_)
    · refine z_iconst C (v := 0) (by decide) dX4_isValue_14 ?_
      exact ret _ _ _ _ (by first | rfl | (simp only [isV, h1_1, h7_2, ↓reduceIte]; done) | (simp only [isV, h1_1, h7_2, ↓reduceIte]; rfl) | (simp [isV, h1_1, h7_2, ↓reduceIte]; done)) rfl dX4_isValue_15
    · refine z_iconst C (v := 1) (by decide) dX4_isValue_10 ?_
      refine z_goto C (tgt := 15) dX4_isValue_11 (by decide) ?_
      exact ret _ _ _ _ (by first | rfl | (simp only [isV, h1_1, h7_2, ↓reduceIte]; done) | (simp only [isV, h1_1, h7_2, ↓reduceIte]; rfl) | (simp [isV, h1_1, h7_2, ↓reduceIte]; done)) rfl dX4_isValue_15
abbrev rmX3_size : Room := { frames := 0, cells := 0, slots := 0, locals := 0 }
theorem hyX3_size : yX3_size.cls = RX3 ∧ yX3_size.cls ≠ "java/lang/invoke/MethodHandle" ∧ yX3_size.cls ≠ "java/lang/invoke/VarHandle" ∧ (parseMethodDescriptor yX3_size.desc).map (fun d => d.parameters.length) = some 0 := by decide +kernel
set_option maxHeartbeats 4000000 in
set_option maxRecDepth 3000 in
theorem c_X3_size (E : GE) (N : Nat) (hN : 16 ≤ N ∧ N ≤ 64) (a b : Nat) (f : Nat → Int32) : zI E yX3_size wsX3_size rmX3_size [.ref a] (wS E a b N f) (nI N) (wS E a b N f) := by
  refine zI_of (cc := cX3_size) (maxL := 1) (ty := .int) (by decide) rfl (vp_nar_int _) (Nat.le_of_ble_eq_true rfl) ?_
  intro K C ret
  replace C : zC E K cX3_size wsX3_size RX3 rmX3_size 1 := C
  have in3 : ∀ w ∈ wsX30, w ∈ wsX3_size := fun w h => List.mem_cons_of_mem _ (List.mem_append_right _ (h))
  have l18 : zw K (.fieldLink RX3 18 "StoreLog3$Sectors" "size" "I") := C.w (List.mem_cons_of_mem _ (List.mem_append_left _ (List.mem_of_getElem? (i := 0) rfl)))
  show Z E K 0 0 (wS E a b N f) 0 [(0, .ref a)] []
  refine z_aload_n C 0 rfl rfl dX3_size_0 ?_
  refine z_get C (Cn := RX3) (T := TX3) (Nf := 2) (ci := 3) in3 0 0 l18 (v := .int (nI N)) rfl rfl (by decide) rfl dX3_size_1 ?_
  exact ret _ _ _ _ (by first | rfl | (simp only [↓reduceIte]; done) | (simp only [↓reduceIte]; rfl) | (simp [↓reduceIte]; done)) rfl dX3_size_4
abbrev rmX3_behind : Room := { frames := 0, cells := 0, slots := 0, locals := 0 }
theorem hyX3_behind : yX3_behind.cls = RX3 ∧ yX3_behind.cls ≠ "java/lang/invoke/MethodHandle" ∧ yX3_behind.cls ≠ "java/lang/invoke/VarHandle" ∧ (parseMethodDescriptor yX3_behind.desc).map (fun d => d.parameters.length) = some 1 := by decide +kernel
set_option maxHeartbeats 4000000 in
set_option maxRecDepth 3000 in
theorem c_X3_behind (E : GE) (N : Nat) (hN : 16 ≤ N ∧ N ≤ 64) (a b : Nat) (f : Nat → Int32) (s : Int32) : zI E yX3_behind wsX3_behind rmX3_behind [.ref a, .int s] (wS E a b N f) (bhd N s) (wS E a b N f) := by
  refine zI_of (cc := cX3_behind) (maxL := 2) (ty := .int) (by decide) rfl (vp_nar_int _) (Nat.le_of_ble_eq_true rfl) ?_
  intro K C ret
  replace C : zC E K cX3_behind wsX3_behind RX3 rmX3_behind 2 := C
  have in3 : ∀ w ∈ wsX30, w ∈ wsX3_behind := fun w h => List.mem_cons_of_mem _ (List.mem_append_right _ (h))
  have l18 : zw K (.fieldLink RX3 18 "StoreLog3$Sectors" "size" "I") := C.w (List.mem_cons_of_mem _ (List.mem_append_left _ (List.mem_of_getElem? (i := 0) rfl)))
  show Z E K 0 0 (wS E a b N f) 0 [(0, .ref a), (1, .int s)] []
  refine z_iload_n C 1 rfl rfl dX3_behind_0 ?_
  refine z_if_lt C (tgt := 20) dX3_behind_1 (by decide) (fun h1_1 => ?_) (fun h1_1 => ?_)
  · refine z_iconst C (v := 0) (by decide) dX3_behind_20 ?_
    exact ret _ _ _ _ (by first | rfl | (simp only [bhd, h1_1, ↓reduceIte]; done) | (simp only [bhd, h1_1, ↓reduceIte]; rfl) | (simp [bhd, h1_1, ↓reduceIte]; done)) rfl dX3_behind_21
  · refine z_iload_n C 1 rfl rfl dX3_behind_4 ?_
    refine z_aload_n C 0 rfl rfl dX3_behind_5 ?_
    refine z_get C (Cn := RX3) (T := TX3) (Nf := 2) (ci := 3) in3 0 0 l18 (v := .int (nI N)) rfl rfl (by decide) rfl dX3_behind_6 ?_
    refine z_iconst C (v := 1) (by decide) dX3_behind_9 ?_
    refine z_isub C dX3_behind_10 ?_
    refine z_icmp_ge C (tgt := 20) dX3_behind_11 (by decide) (fun h11_2 => ?_) (fun h11_2 => ?_)
    · refine z_iconst C (v := 0) (by decide) dX3_behind_20 ?_
      exact ret _ _ _ _ (by first | rfl | (simp only [bhd, h1_1, h11_2, ↓reduceIte]; done) | (simp only [bhd, h1_1, h11_2, ↓reduceIte]; rfl) | (simp [bhd, h1_1, h11_2, ↓reduceIte]; done)) rfl dX3_behind_21
    · refine z_iload_n C 1 rfl rfl dX3_behind_14 ?_
      refine z_iconst C (v := 1) (by decide) dX3_behind_15 ?_
      refine z_iadd C dX3_behind_16 ?_
      refine z_goto C (tgt := 21) dX3_behind_17 (by decide) ?_
      exact ret _ _ _ _ (by first | rfl | (simp only [bhd, h1_1, h11_2, ↓reduceIte]; done) | (simp only [bhd, h1_1, h11_2, ↓reduceIte]; rfl) | (simp [bhd, h1_1, h11_2, ↓reduceIte]; done)) rfl dX3_behind_21
abbrev rmX3_stepsBetween : Room := { frames := 0, cells := 0, slots := 0, locals := 0 }
theorem hyX3_stepsBetween : yX3_stepsBetween.cls = RX3 ∧ yX3_stepsBetween.cls ≠ "java/lang/invoke/MethodHandle" ∧ yX3_stepsBetween.cls ≠ "java/lang/invoke/VarHandle" ∧ (parseMethodDescriptor yX3_stepsBetween.desc).map (fun d => d.parameters.length) = some 2 := by decide +kernel
set_option maxHeartbeats 4000000 in
set_option maxRecDepth 3000 in
theorem c_X3_stepsBetween (E : GE) (N : Nat) (hN : 16 ≤ N ∧ N ≤ 64) (a b : Nat) (f : Nat → Int32) (u t : Int32) : zI E yX3_stepsBetween wsX3_stepsBetween rmX3_stepsBetween [.ref a, .int u, .int t] (wS E a b N f) (stp N u t) (wS E a b N f) := by
  refine zI_of (cc := cX3_stepsBetween) (maxL := 3) (ty := .int) (by decide) rfl (vp_nar_int _) (Nat.le_of_ble_eq_true rfl) ?_
  intro K C ret
  replace C : zC E K cX3_stepsBetween wsX3_stepsBetween RX3 rmX3_stepsBetween 3 := C
  have in3 : ∀ w ∈ wsX30, w ∈ wsX3_stepsBetween := fun w h => List.mem_cons_of_mem _ (List.mem_append_right _ (h))
  have l18 : zw K (.fieldLink RX3 18 "StoreLog3$Sectors" "size" "I") := C.w (List.mem_cons_of_mem _ (List.mem_append_left _ (List.mem_of_getElem? (i := 0) rfl)))
  show Z E K 0 0 (wS E a b N f) 0 [(0, .ref a), (1, .int u), (2, .int t)] []
  refine z_iload_n C 2 rfl rfl dX3_stepsBetween_0 ?_
  refine z_iload_n C 1 rfl rfl dX3_stepsBetween_1 ?_
  refine z_icmp_lt C (tgt := 11) dX3_stepsBetween_2 (by decide) (fun h2_1 => ?_) (fun h2_1 => ?_)
  · refine z_iload_n C 2 rfl rfl dX3_stepsBetween_11 ?_
    refine z_iload_n C 1 rfl rfl dX3_stepsBetween_12 ?_
    refine z_isub C dX3_stepsBetween_13 ?_
    refine z_aload_n C 0 rfl rfl dX3_stepsBetween_14 ?_
    refine z_get C (Cn := RX3) (T := TX3) (Nf := 2) (ci := 3) in3 0 0 l18 (v := .int (nI N)) rfl rfl (by decide) rfl dX3_stepsBetween_15 ?_
    refine z_iadd C dX3_stepsBetween_18 ?_
    exact ret _ _ _ _ (by first | rfl | (simp only [stp, h2_1, ↓reduceIte]; done) | (simp only [stp, h2_1, ↓reduceIte]; rfl) | (simp [stp, h2_1, ↓reduceIte]; done)) rfl dX3_stepsBetween_19
  · refine z_iload_n C 2 rfl rfl dX3_stepsBetween_5 ?_
    refine z_iload_n C 1 rfl rfl dX3_stepsBetween_6 ?_
    refine z_isub C dX3_stepsBetween_7 ?_
    refine z_goto C (tgt := 19) dX3_stepsBetween_8 (by decide) ?_
    exact ret _ _ _ _ (by first | rfl | (simp only [stp, h2_1, ↓reduceIte]; done) | (simp only [stp, h2_1, ↓reduceIte]; rfl) | (simp [stp, h2_1, ↓reduceIte]; done)) rfl dX3_stepsBetween_19
abbrev rmX3_byteOf : Room := { frames := 0, cells := 0, slots := 0, locals := 0 }
theorem hyX3_byteOf : yX3_byteOf.cls = RX3 ∧ yX3_byteOf.cls ≠ "java/lang/invoke/MethodHandle" ∧ yX3_byteOf.cls ≠ "java/lang/invoke/VarHandle" ∧ (parseMethodDescriptor yX3_byteOf.desc).map (fun d => d.parameters.length) = some 2 := by decide +kernel
set_option maxHeartbeats 4000000 in
set_option maxRecDepth 3000 in
theorem c_X3_byteOf (E : GE) (N : Nat) (hN : 16 ≤ N ∧ N ≤ 64) (a b : Nat) (f : Nat → Int32) (s i : Int32) : zI E yX3_byteOf wsX3_byteOf rmX3_byteOf [.ref a, .int s, .int i] (wS E a b N f) (bOf N f s i) (wS E a b N f) := by
  refine zI_of (cc := cX3_byteOf) (maxL := 3) (ty := .int) (by decide) rfl (vp_nar_int _) (Nat.le_of_ble_eq_true rfl) ?_
  intro K C ret
  replace C : zC E K cX3_byteOf wsX3_byteOf RX3 rmX3_byteOf 3 := C
  have in3 : ∀ w ∈ wsX30, w ∈ wsX3_byteOf := fun w h => List.mem_cons_of_mem _ (List.mem_append_right _ (h))
  have l18 : zw K (.fieldLink RX3 18 "StoreLog3$Sectors" "size" "I") := C.w (List.mem_cons_of_mem _ (List.mem_append_left _ (List.mem_of_getElem? (i := 0) rfl)))
  have l24 : zw K (.fieldLink RX3 24 "StoreLog3$Sectors" "bytes" "[B") := C.w (List.mem_cons_of_mem _ (List.mem_append_left _ (List.mem_of_getElem? (i := 1) rfl)))
  show Z E K 0 0 (wS E a b N f) 0 [(0, .ref a), (1, .int s), (2, .int i)] []
  refine z_iload_n C 1 rfl rfl dX3_byteOf_0 ?_
  refine z_if_lt C (tgt := 22) dX3_byteOf_1 (by decide) (fun h1_1 => ?_) (fun h1_1 => ?_)
  · refine z_iconst C (v := (-1)) (by decide) dX3_byteOf_22 ?_
    exact ret _ _ _ _ (by first | rfl | (simp only [bOf, h1_1, ↓reduceIte]; done) | (simp only [bOf, h1_1, ↓reduceIte]; rfl) | (simp [bOf, h1_1, ↓reduceIte]; done)) rfl dX3_byteOf_23
  · refine z_iload_n C 1 rfl rfl dX3_byteOf_4 ?_
    refine z_aload_n C 0 rfl rfl dX3_byteOf_5 ?_
    refine z_get C (Cn := RX3) (T := TX3) (Nf := 2) (ci := 3) in3 0 0 l18 (v := .int (nI N)) rfl rfl (by decide) rfl dX3_byteOf_6 ?_
    refine z_icmp_ge C (tgt := 22) dX3_byteOf_9 (by decide) (fun h9_2 => ?_) (fun h9_2 => ?_)
    · refine z_iconst C (v := (-1)) (by decide) dX3_byteOf_22 ?_
      exact ret _ _ _ _ (by first | rfl | (simp only [bOf, h1_1, h9_2, ↓reduceIte]; done) | (simp only [bOf, h1_1, h9_2, ↓reduceIte]; rfl) | (simp [bOf, h1_1, h9_2, ↓reduceIte]; done)) rfl dX3_byteOf_23
    · refine z_iload_n C 2 rfl rfl dX3_byteOf_12 ?_
      refine z_if_lt C (tgt := 22) dX3_byteOf_13 (by decide) (fun h13_3 => ?_) (fun h13_3 => ?_)
      · refine z_iconst C (v := (-1)) (by decide) dX3_byteOf_22 ?_
        exact ret _ _ _ _ (by first | rfl | (simp only [bOf, h1_1, h9_2, h13_3, ↓reduceIte]; done) | (simp only [bOf, h1_1, h9_2, h13_3, ↓reduceIte]; rfl) | (simp [bOf, h1_1, h9_2, h13_3, ↓reduceIte]; done)) rfl dX3_byteOf_23
      · refine z_iload_n C 2 rfl rfl dX3_byteOf_16 ?_
        refine z_bipush C (v := 32) (by decide) dX3_byteOf_17 ?_
        refine z_icmp_lt C (tgt := 24) dX3_byteOf_19 (by decide) (fun h19_4 => ?_) (fun h19_4 => ?_)
        · refine z_aload_n C 0 rfl rfl dX3_byteOf_24 ?_
          refine z_get C (Cn := RX3) (T := TX3) (Nf := 2) (ci := 3) in3 0 1 l24 (v := .ref b) rfl rfl (by decide) rfl dX3_byteOf_25 ?_
          refine z_iload_n C 1 rfl rfl dX3_byteOf_28 ?_
          refine z_bipush C (v := 32) (by decide) dX3_byteOf_29 ?_
          refine z_imul C dX3_byteOf_31 ?_
          refine z_iload_n C 2 rfl rfl dX3_byteOf_32 ?_
          refine z_iadd C dX3_byteOf_33 ?_
          refine z_bald C 1 rfl (zidx hN h1_1 h9_2 h13_3 h19_4) (v := (f ((s * 32) + i).toNatClampNeg)) rfl dX3_byteOf_34 ?_
          refine z_sipush C (v := 255) (by decide) dX3_byteOf_35 ?_
          refine z_iand C dX3_byteOf_38 ?_
          exact ret _ _ _ _ (by first | rfl | (simp only [bOf, h1_1, h9_2, h13_3, h19_4, ↓reduceIte]; done) | (simp only [bOf, h1_1, h9_2, h13_3, h19_4, ↓reduceIte]; rfl) | (simp [bOf, h1_1, h9_2, h13_3, h19_4, ↓reduceIte]; done)) rfl dX3_byteOf_39
        · refine z_iconst C (v := (-1)) (by decide) dX3_byteOf_22 ?_
          exact ret _ _ _ _ (by first | rfl | (simp only [bOf, h1_1, h9_2, h13_3, h19_4, ↓reduceIte]; done) | (simp only [bOf, h1_1, h9_2, h13_3, h19_4, ↓reduceIte]; rfl) | (simp [bOf, h1_1, h9_2, h13_3, h19_4, ↓reduceIte]; done)) rfl dX3_byteOf_23
abbrev rmX3_setByte : Room := { frames := 0, cells := 0, slots := 0, locals := 0 }
theorem hyX3_setByte : yX3_setByte.cls = RX3 ∧ yX3_setByte.cls ≠ "java/lang/invoke/MethodHandle" ∧ yX3_setByte.cls ≠ "java/lang/invoke/VarHandle" ∧ (parseMethodDescriptor yX3_setByte.desc).map (fun d => d.parameters.length) = some 3 := by decide +kernel
set_option maxHeartbeats 4000000 in
set_option maxRecDepth 3000 in
theorem c_X3_setByte (E : GE) (N : Nat) (hN : 16 ≤ N ∧ N ≤ 64) (a b : Nat) (f : Nat → Int32) (s i v : Int32) : zV E yX3_setByte wsX3_setByte rmX3_setByte [.ref a, .int s, .int i, .int v] (wS E a b N f) (wS E a b N (sB N f s i v)) := by
  refine zV_of (cc := cX3_setByte) (maxL := 4) (by decide) rfl (Nat.le_of_ble_eq_true rfl) ?_
  intro K C ret
  replace C : zC E K cX3_setByte wsX3_setByte RX3 rmX3_setByte 4 := C
  have in3 : ∀ w ∈ wsX30, w ∈ wsX3_setByte := fun w h => List.mem_cons_of_mem _ (List.mem_append_right _ (h))
  have l18 : zw K (.fieldLink RX3 18 "StoreLog3$Sectors" "size" "I") := C.w (List.mem_cons_of_mem _ (List.mem_append_left _ (List.mem_of_getElem? (i := 0) rfl)))
  have l24 : zw K (.fieldLink RX3 24 "StoreLog3$Sectors" "bytes" "[B") := C.w (List.mem_cons_of_mem _ (List.mem_append_left _ (List.mem_of_getElem? (i := 1) rfl)))
  show Z E K 0 0 (wS E a b N f) 0 [(0, .ref a), (1, .int s), (2, .int i), (3, .int v)] []
  refine z_iload_n C 1 rfl rfl dX3_setByte_0 ?_
  refine z_if_lt C (tgt := 22) dX3_setByte_1 (by decide) (fun h1_1 => ?_) (fun h1_1 => ?_)
  · exact ret _ _ _ (by first | rfl | (simp only [sB, h1_1, ↓reduceIte]; done) | (simp only [sB, h1_1, ↓reduceIte]; rfl) | (simp [sB, h1_1, ↓reduceIte]; done)) dX3_setByte_22
  · refine z_iload_n C 1 rfl rfl dX3_setByte_4 ?_
    refine z_aload_n C 0 rfl rfl dX3_setByte_5 ?_
    refine z_get C (Cn := RX3) (T := TX3) (Nf := 2) (ci := 3) in3 0 0 l18 (v := .int (nI N)) rfl rfl (by decide) rfl dX3_setByte_6 ?_
    refine z_icmp_ge C (tgt := 22) dX3_setByte_9 (by decide) (fun h9_2 => ?_) (fun h9_2 => ?_)
    · exact ret _ _ _ (by first | rfl | (simp only [sB, h1_1, h9_2, ↓reduceIte]; done) | (simp only [sB, h1_1, h9_2, ↓reduceIte]; rfl) | (simp [sB, h1_1, h9_2, ↓reduceIte]; done)) dX3_setByte_22
    · refine z_iload_n C 2 rfl rfl dX3_setByte_12 ?_
      refine z_if_lt C (tgt := 22) dX3_setByte_13 (by decide) (fun h13_3 => ?_) (fun h13_3 => ?_)
      · exact ret _ _ _ (by first | rfl | (simp only [sB, h1_1, h9_2, h13_3, ↓reduceIte]; done) | (simp only [sB, h1_1, h9_2, h13_3, ↓reduceIte]; rfl) | (simp [sB, h1_1, h9_2, h13_3, ↓reduceIte]; done)) dX3_setByte_22
      · refine z_iload_n C 2 rfl rfl dX3_setByte_16 ?_
        refine z_bipush C (v := 32) (by decide) dX3_setByte_17 ?_
        refine z_icmp_lt C (tgt := 23) dX3_setByte_19 (by decide) (fun h19_4 => ?_) (fun h19_4 => ?_)
        · refine z_aload_n C 0 rfl rfl dX3_setByte_23 ?_
          refine z_get C (Cn := RX3) (T := TX3) (Nf := 2) (ci := 3) in3 0 1 l24 (v := .ref b) rfl rfl (by decide) rfl dX3_setByte_24 ?_
          refine z_iload_n C 1 rfl rfl dX3_setByte_27 ?_
          refine z_bipush C (v := 32) (by decide) dX3_setByte_28 ?_
          refine z_imul C dX3_setByte_30 ?_
          refine z_iload_n C 2 rfl rfl dX3_setByte_31 ?_
          refine z_iadd C dX3_setByte_32 ?_
          refine z_iload_n C 3 rfl rfl dX3_setByte_33 ?_
          refine z_i2b C (v := (b8 v)) rfl dX3_setByte_34 ?_
          refine z_bast C 1 rfl (zidx hN h1_1 h9_2 h13_3 h19_4) (g := (upd f ((s * 32) + i).toNatClampNeg (b8 v))) (by rw [b8_nar]) (V' := (wS E a b N (upd f ((s * 32) + i).toNatClampNeg (b8 v)))) rfl dX3_setByte_35 ?_
          exact ret _ _ _ (by first | rfl | (simp only [sB, h1_1, h9_2, h13_3, h19_4, ↓reduceIte]; done) | (simp only [sB, h1_1, h9_2, h13_3, h19_4, ↓reduceIte]; rfl) | (simp [sB, h1_1, h9_2, h13_3, h19_4, ↓reduceIte]; done)) dX3_setByte_36
        · exact ret _ _ _ (by first | rfl | (simp only [sB, h1_1, h9_2, h13_3, h19_4, ↓reduceIte]; done) | (simp only [sB, h1_1, h9_2, h13_3, h19_4, ↓reduceIte]; rfl) | (simp [sB, h1_1, h9_2, h13_3, h19_4, ↓reduceIte]; done)) dX3_setByte_22
abbrev rmX3_numberOf : Room := { frames := 1, cells := 0, slots := 0, locals := 22 }
theorem hyX3_numberOf : yX3_numberOf.cls = RX3 ∧ yX3_numberOf.cls ≠ "java/lang/invoke/MethodHandle" ∧ yX3_numberOf.cls ≠ "java/lang/invoke/VarHandle" ∧ (parseMethodDescriptor yX3_numberOf.desc).map (fun d => d.parameters.length) = some 3 := by decide +kernel
set_option maxHeartbeats 4000000 in
set_option maxRecDepth 3000 in
theorem c_X3_numberOf (E : GE) (N : Nat) (hN : 16 ≤ N ∧ N ≤ 64) (a b : Nat) (f : Nat → Int32) (s u : Int32) (w : Nat) (hw : w ≤ 4) : zI E yX3_numberOf wsX3_numberOf rmX3_numberOf [.ref a, .int s, .int u, .int (nI w)] (wS E a b N f) (nOf N f s u w) (wS E a b N f) := by
  refine zI_of (cc := cX3_numberOf) (maxL := 6) (ty := .int) (by decide) rfl (vp_nar_int _) (Nat.le_of_ble_eq_true rfl) ?_
  intro K C ret
  replace C : zC E K cX3_numberOf wsX3_numberOf RX3 rmX3_numberOf 6 := C
  show Z E K 0 0 (wS E a b N f) 0 [(0, .ref a), (1, .int s), (2, .int u), (3, .int (nI w))] []
  refine z_iconst C (v := 0) (by decide) dX3_numberOf_0 ?_
  refine z_istore C (lv' := [(4, .int 0), (0, .ref a), (1, .int s), (2, .int u), (3, .int (nI w))]) rfl (by decide) dX3_numberOf_1 ?_
  refine z_iconst C (v := 0) (by decide) dX3_numberOf_3 ?_
  refine z_istore C (lv' := [(5, .int 0), (4, .int 0), (0, .ref a), (1, .int s), (2, .int u), (3, .int (nI w))]) rfl (by decide) dX3_numberOf_4 ?_
  have loop6 : ∀ (n j : Nat), j + n = w → Z E K 0 0 (wS E a b N f) 6 [(0, .ref a), (1, .int s), (2, .int u), (3, .int (nI w)), (4, .int (nOf N f s u j)), (5, .int (nI j))] [] := by
    intro n
    induction n with
    | zero => 
      intro j hj
      obtain rfl : w = j := by omega
      refine z_iload C 5 rfl dX3_numberOf_6 ?_
      refine z_iload_n C 3 rfl rfl dX3_numberOf_8 ?_
      refine z_icmp_ge C (tgt := 35) dX3_numberOf_9 (by decide) (fun h9_1 => ?_) (fun h9_1 => absurd (nI_le (a := w) (b := w) (Nat.le_refl _) (by omega)) h9_1)
      refine z_iload C 4 rfl dX3_numberOf_35 ?_
      exact ret _ _ _ _ (by first | rfl | (simp only [h9_1, ↓reduceIte]; done) | (simp only [h9_1, ↓reduceIte]; rfl) | (simp [h9_1, ↓reduceIte]; done)) rfl dX3_numberOf_37
    | succ n ih6 => 
      intro j hj
      refine z_iload C 5 rfl dX3_numberOf_6 ?_
      refine z_iload_n C 3 rfl rfl dX3_numberOf_8 ?_
      refine z_icmp_ge C (tgt := 35) dX3_numberOf_9 (by decide) (fun h9_2 => absurd h9_2 (nI_ge (a := j) (b := w) (by omega) (by omega))) (fun h9_2 => ?_)
      refine z_iload C 4 rfl dX3_numberOf_12 ?_
      refine z_bipush C (v := 8) (by decide) dX3_numberOf_14 ?_
      refine z_ishl C dX3_numberOf_16 ?_
      refine z_aload_n C 0 rfl rfl dX3_numberOf_17 ?_
      refine z_iload_n C 1 rfl rfl dX3_numberOf_18 ?_
      refine z_iload_n C 2 rfl rfl dX3_numberOf_19 ?_
      refine z_iload C 5 rfl dX3_numberOf_20 ?_
      refine z_iadd C dX3_numberOf_22 ?_
      refine z_rVI C (c_X3_byteOf E N hN a b f s (u + (nI j))) gX3_numberOf_X3_byteOf (ci := 3) (q0 := 0) rfl rfl hyX3_byteOf rfl ⟨rfl, rfl⟩ ⟨by decide, by decide⟩ ⟨by decide, by decide⟩ [0, 1] rfl (by decide) (st := [.int ((nOf N f s u j) <<< (8 &&& 31))]) (Nat.le_of_ble_eq_true rfl) dX3_numberOf_23 ?_ rfl
      refine z_ior C dX3_numberOf_26 ?_
      refine z_istore C (lv' := [(4, .int (((nOf N f s u j) <<< (8 &&& 31)) ||| (bOf N f s (u + (nI j))))), (0, .ref a), (1, .int s), (2, .int u), (3, .int (nI w)), (5, .int (nI j))]) rfl (by decide) dX3_numberOf_27 ?_
      refine z_iinc C 5 rfl (v := (nI (j + 1))) (zinc _) (lv' := [(5, .int (nI (j + 1))), (4, .int (((nOf N f s u j) <<< (8 &&& 31)) ||| (bOf N f s (u + (nI j))))), (0, .ref a), (1, .int s), (2, .int u), (3, .int (nI w))]) rfl (by decide) dX3_numberOf_29 ?_
      refine z_goto C (tgt := 6) dX3_numberOf_32 (by decide) ?_
      refine z_lv (lv' := [(0, .ref a), (1, .int s), (2, .int u), (3, .int (nI w)), (4, .int (((nOf N f s u j) <<< (8 &&& 31)) ||| (bOf N f s (u + (nI j))))), (5, .int (nI (j + 1)))]) [2, 3, 4, 5, 1, 0] rfl ?_
      exact ih6 (j + 1) (by omega)
  refine z_lv (lv' := [(0, .ref a), (1, .int s), (2, .int u), (3, .int (nI w)), (4, .int 0), (5, .int 0)]) [2, 3, 4, 5, 1, 0] rfl ?_
  exact loop6 w 0 (by omega)
abbrev rmX3_setNumber : Room := { frames := 1, cells := 0, slots := 0, locals := 23 }
theorem hyX3_setNumber : yX3_setNumber.cls = RX3 ∧ yX3_setNumber.cls ≠ "java/lang/invoke/MethodHandle" ∧ yX3_setNumber.cls ≠ "java/lang/invoke/VarHandle" ∧ (parseMethodDescriptor yX3_setNumber.desc).map (fun d => d.parameters.length) = some 4 := by decide +kernel
set_option maxHeartbeats 4000000 in
set_option maxRecDepth 3000 in
theorem c_X3_setNumber (E : GE) (N : Nat) (hN : 16 ≤ N ∧ N ≤ 64) (a b : Nat) (f : Nat → Int32) (s u : Int32) (w : Nat) (x : Int32) (hw : w ≤ 4) : zV E yX3_setNumber wsX3_setNumber rmX3_setNumber [.ref a, .int s, .int u, .int (nI w), .int x] (wS E a b N f) (wS E a b N (sN N s u w f x)) := by
  refine zV_of (cc := cX3_setNumber) (maxL := 7) (by decide) rfl (Nat.le_of_ble_eq_true rfl) ?_
  intro K C ret
  replace C : zC E K cX3_setNumber wsX3_setNumber RX3 rmX3_setNumber 7 := C
  show Z E K 0 0 (wS E a b N f) 0 [(0, .ref a), (1, .int s), (2, .int u), (3, .int (nI w)), (4, .int x)] []
  refine z_iload C 4 rfl dX3_setNumber_0 ?_
  refine z_istore C (lv' := [(5, .int x), (0, .ref a), (1, .int s), (2, .int u), (3, .int (nI w)), (4, .int x)]) rfl (by decide) dX3_setNumber_2 ?_
  refine z_iload_n C 4 rfl rfl dX3_setNumber_4 ?_
  refine z_iconst C (v := 1) (by decide) dX3_setNumber_5 ?_
  refine z_isub C dX3_setNumber_6 ?_
  refine z_istore C (lv' := [(6, .int ((nI w) - 1)), (5, .int x), (0, .ref a), (1, .int s), (2, .int u), (3, .int (nI w)), (4, .int x)]) rfl (by decide) dX3_setNumber_7 ?_
  have loop9 : ∀ (n : Nat) (g : Nat → Int32) (y : Int32), n ≤ w → sN N s u n g y = sN N s u w f x → Z E K 0 0 (wS E a b N g) 9 [(0, .ref a), (1, .int s), (2, .int u), (5, .int y), (6, .int (nI n - 1))] [] := by
    intro n
    induction n with
    | zero => 
      intro g y hn hT
      refine z_iload C 4 rfl dX3_setNumber_9 ?_
      refine z_if_lt C (tgt := 38) dX3_setNumber_11 (by decide) (fun h11_1 => ?_) (fun h11_1 => absurd (by decide) h11_1)
      exact ret _ _ _ (by rw [← hT]; rfl) dX3_setNumber_38
    | succ n ih9 => 
      intro g y hn hT
      rw [nI_pred]
      refine z_iload C 4 rfl dX3_setNumber_9 ?_
      refine z_if_lt C (tgt := 38) dX3_setNumber_11 (by decide) (fun h11_2 => absurd h11_2 (nI_pos (by omega))) (fun h11_2 => ?_)
      refine z_aload_n C 0 rfl rfl dX3_setNumber_14 ?_
      refine z_iload_n C 1 rfl rfl dX3_setNumber_15 ?_
      refine z_iload_n C 2 rfl rfl dX3_setNumber_16 ?_
      refine z_iload C 4 rfl dX3_setNumber_17 ?_
      refine z_iadd C dX3_setNumber_19 ?_
      refine z_iload C 3 rfl dX3_setNumber_20 ?_
      refine z_callVV C (c_X3_setByte E N hN a b g s (u + (nI n)) y) gX3_setNumber_X3_setByte (ci := 3) (q0 := 0) rfl rfl hyX3_setByte rfl ⟨rfl, rfl⟩ ⟨by decide, by decide⟩ ⟨by decide, by decide⟩ [0, 1] [] [0, 1] (wr := []) (V' := (wS E a b N (sB N g s (u + (nI n)) y))) rfl rfl (by decide) (by decide) (by decide) rfl (by decide) (st := []) (Nat.le_of_ble_eq_true rfl) dX3_setNumber_22 ?_ rfl
      refine z_iload C 3 rfl dX3_setNumber_25 ?_
      refine z_bipush C (v := 8) (by decide) dX3_setNumber_27 ?_
      refine z_iushr C (v := (ush y 8)) rfl dX3_setNumber_29 ?_
      refine z_istore C (lv' := [(5, .int (ush y 8)), (0, .ref a), (1, .int s), (2, .int u), (6, .int (nI n))]) rfl (by decide) dX3_setNumber_30 ?_
      refine z_iinc C 4 rfl (v := (nI n - 1)) (by rw [Int32.sub_eq_add_neg]; rfl) (lv' := [(6, .int (nI n - 1)), (5, .int (ush y 8)), (0, .ref a), (1, .int s), (2, .int u)]) rfl (by decide) dX3_setNumber_32 ?_
      refine z_goto C (tgt := 9) dX3_setNumber_35 (by decide) ?_
      refine z_lv (lv' := [(0, .ref a), (1, .int s), (2, .int u), (5, .int (ush y 8)), (6, .int (nI n - 1))]) [2, 3, 4, 1, 0] rfl ?_
      exact ih9 _ _ (by omega) hT
  refine z_lv (lv' := [(0, .ref a), (1, .int s), (2, .int u), (5, .int x), (6, .int ((nI w) - 1))]) [2, 3, 4, 1, 0] rfl ?_
  exact loop9 w f x (by omega) rfl
abbrev rmX3_serialOf : Room := { frames := 2, cells := 0, slots := 0, locals := 47 }
theorem hyX3_serialOf : yX3_serialOf.cls = RX3 ∧ yX3_serialOf.cls ≠ "java/lang/invoke/MethodHandle" ∧ yX3_serialOf.cls ≠ "java/lang/invoke/VarHandle" ∧ (parseMethodDescriptor yX3_serialOf.desc).map (fun d => d.parameters.length) = some 1 := by decide +kernel
set_option maxHeartbeats 4000000 in
set_option maxRecDepth 3000 in
theorem c_X3_serialOf (E : GE) (N : Nat) (hN : 16 ≤ N ∧ N ≤ 64) (a b : Nat) (f : Nat → Int32) (s : Int32) : zI E yX3_serialOf wsX3_serialOf rmX3_serialOf [.ref a, .int s] (wS E a b N f) (nOf N f s 1 4) (wS E a b N f) := by
  refine zI_of (cc := cX3_serialOf) (maxL := 2) (ty := .int) (by decide) rfl (vp_nar_int _) (Nat.le_of_ble_eq_true rfl) ?_
  intro K C ret
  replace C : zC E K cX3_serialOf wsX3_serialOf RX3 rmX3_serialOf 2 := C
  show Z E K 0 0 (wS E a b N f) 0 [(0, .ref a), (1, .int s)] []
  refine z_aload_n C 0 rfl rfl dX3_serialOf_0 ?_
  refine z_iload_n C 1 rfl rfl dX3_serialOf_1 ?_
  refine z_iconst C (v := 1) (by decide) dX3_serialOf_2 ?_
  refine z_iconst C (v := 4) (by decide) dX3_serialOf_3 ?_
  refine z_rVI C (c_X3_numberOf E N hN a b f s 1 4 (by decide)) gX3_serialOf_X3_numberOf (ci := 3) (q0 := 0) rfl rfl hyX3_numberOf rfl ⟨rfl, rfl⟩ ⟨by decide, by decide⟩ ⟨by decide, by decide⟩ [0, 1] rfl (by decide) (st := []) (Nat.le_of_ble_eq_true rfl) dX3_serialOf_4 ?_ rfl
  exact ret _ _ _ _ (by first | rfl | (simp only [↓reduceIte]; done) | (simp only [↓reduceIte]; rfl) | (simp [↓reduceIte]; done)) rfl dX3_serialOf_7
abbrev rmX3_sumOf : Room := { frames := 0, cells := 0, slots := 0, locals := 0 }
theorem hyX3_sumOf : yX3_sumOf.cls = RX3 ∧ yX3_sumOf.cls ≠ "java/lang/invoke/MethodHandle" ∧ yX3_sumOf.cls ≠ "java/lang/invoke/VarHandle" ∧ (parseMethodDescriptor yX3_sumOf.desc).map (fun d => d.parameters.length) = some 1 := by decide +kernel
set_option maxHeartbeats 4000000 in
set_option maxRecDepth 3000 in
theorem c_X3_sumOf (E : GE) (N : Nat) (hN : 16 ≤ N ∧ N ≤ 64) (a b : Nat) (f : Nat → Int32) (s : Int32) : zI E yX3_sumOf wsX3_sumOf rmX3_sumOf [.ref a, .int s] (wS E a b N f) (smOf N f s) (wS E a b N f) := by
  refine zI_of (cc := cX3_sumOf) (maxL := 6) (ty := .int) (by decide) rfl (vp_nar_int _) (Nat.le_of_ble_eq_true rfl) ?_
  intro K C ret
  replace C : zC E K cX3_sumOf wsX3_sumOf RX3 rmX3_sumOf 6 := C
  have in3 : ∀ w ∈ wsX30, w ∈ wsX3_sumOf := fun w h => List.mem_cons_of_mem _ (List.mem_append_right _ (h))
  have l18 : zw K (.fieldLink RX3 18 "StoreLog3$Sectors" "size" "I") := C.w (List.mem_cons_of_mem _ (List.mem_append_left _ (List.mem_of_getElem? (i := 0) rfl)))
  have l24 : zw K (.fieldLink RX3 24 "StoreLog3$Sectors" "bytes" "[B") := C.w (List.mem_cons_of_mem _ (List.mem_append_left _ (List.mem_of_getElem? (i := 1) rfl)))
  have l47 : zw K (.constant RX3 47 (-2048144777)) := C.w (List.mem_cons_of_mem _ (List.mem_append_left _ (List.mem_of_getElem? (i := 2) rfl)))
  show Z E K 0 0 (wS E a b N f) 0 [(0, .ref a), (1, .int s)] []
  refine z_iload_n C 1 rfl rfl dX3_sumOf_0 ?_
  refine z_if_lt C (tgt := 12) dX3_sumOf_1 (by decide) (fun h1_1 => ?_) (fun h1_1 => ?_)
  · refine z_iconst C (v := 0) (by decide) dX3_sumOf_12 ?_
    exact ret _ _ _ _ (by first | rfl | (simp only [smOf, h1_1, ↓reduceIte]; done) | (simp only [smOf, h1_1, ↓reduceIte]; rfl) | (simp [smOf, h1_1, ↓reduceIte]; done)) rfl dX3_sumOf_13
  · refine z_iload_n C 1 rfl rfl dX3_sumOf_4 ?_
    refine z_aload_n C 0 rfl rfl dX3_sumOf_5 ?_
    refine z_get C (Cn := RX3) (T := TX3) (Nf := 2) (ci := 3) in3 0 0 l18 (v := .int (nI N)) rfl rfl (by decide) rfl dX3_sumOf_6 ?_
    refine z_icmp_lt C (tgt := 14) dX3_sumOf_9 (by decide) (fun h9_2 => ?_) (fun h9_2 => ?_)
    · refine z_iload_n C 1 rfl rfl dX3_sumOf_14 ?_
      refine z_bipush C (v := 32) (by decide) dX3_sumOf_15 ?_
      refine z_imul C dX3_sumOf_17 ?_
      refine z_istore_n C (lv' := [(2, .int (s * 32)), (0, .ref a), (1, .int s)]) rfl rfl (by decide) dX3_sumOf_18 ?_
      refine z_iload_n C 2 rfl rfl dX3_sumOf_19 ?_
      refine z_iconst C (v := 1) (by decide) dX3_sumOf_20 ?_
      refine z_iadd C dX3_sumOf_21 ?_
      refine z_istore_n C (lv' := [(3, .int (s + 1)), (2, .int (s * 32)), (0, .ref a), (1, .int s)]) rfl rfl (by decide) dX3_sumOf_22 ?_
      refine z_iconst C (v := 0) (by decide) dX3_sumOf_23 ?_
      refine z_istore C (lv' := [(4, .int 0), (3, .int (s + 1)), (2, .int (s * 32)), (0, .ref a), (1, .int s)]) rfl (by decide) dX3_sumOf_24 ?_
      have loop26 : ∀ (n j : Nat), j + n = 28 → Z E K 0 0 (wS E a b N f) 26 [(0, .ref a), (1, .int s), (2, .int (s * 32)), (3, .int (smL f s j)), (4, .int (nI j))] [] := by
        intro n
        induction n with
        | zero => 
          intro j hj
          obtain rfl : j = 28 := by omega
          refine z_iload C 4 rfl dX3_sumOf_26 ?_
          refine z_bipush C (v := 28) (by decide) dX3_sumOf_28 ?_
          refine z_icmp_ge C (tgt := 71) dX3_sumOf_30 (by decide) (fun h30_3 => ?_) (fun h30_3 => absurd (nI_le (a := 28) (b := 28) (Nat.le_refl _) (by omega)) h30_3)
          refine z_iload_n C 3 rfl rfl dX3_sumOf_71 ?_
          exact ret _ _ _ _ (by first | rfl | (simp only [smOf, h1_1, h9_2, h30_3, ↓reduceIte]; done) | (simp only [smOf, h1_1, h9_2, h30_3, ↓reduceIte]; rfl) | (simp [smOf, h1_1, h9_2, h30_3, ↓reduceIte]; done)) rfl dX3_sumOf_72
        | succ n ih26 => 
          intro j hj
          refine z_iload C 4 rfl dX3_sumOf_26 ?_
          refine z_bipush C (v := 28) (by decide) dX3_sumOf_28 ?_
          refine z_icmp_ge C (tgt := 71) dX3_sumOf_30 (by decide) (fun h30_4 => absurd h30_4 (nI_ge (a := j) (b := 28) (by omega) (by omega))) (fun h30_4 => ?_)
          refine z_iload_n C 3 rfl rfl dX3_sumOf_33 ?_
          refine z_aload_n C 0 rfl rfl dX3_sumOf_34 ?_
          refine z_get C (Cn := RX3) (T := TX3) (Nf := 2) (ci := 3) in3 0 1 l24 (v := .ref b) rfl rfl (by decide) rfl dX3_sumOf_35 ?_
          refine z_iload_n C 2 rfl rfl dX3_sumOf_38 ?_
          refine z_iload C 4 rfl dX3_sumOf_39 ?_
          refine z_iadd C dX3_sumOf_41 ?_
          refine z_bald C 1 rfl (zidx2 hN h1_1 h9_2 (by omega)) (v := (f ((s * 32) + (nI j)).toNatClampNeg)) rfl dX3_sumOf_42 ?_
          refine z_sipush C (v := 255) (by decide) dX3_sumOf_43 ?_
          refine z_iand C dX3_sumOf_46 ?_
          refine z_ixor C dX3_sumOf_47 ?_
          refine z_istore C (lv' := [(5, .int ((smL f s j) ^^^ ((f ((s * 32) + (nI j)).toNatClampNeg) &&& 255))), (0, .ref a), (1, .int s), (2, .int (s * 32)), (3, .int (smL f s j)), (4, .int (nI j))]) rfl (by decide) dX3_sumOf_48 ?_
          refine z_iload C 0 rfl dX3_sumOf_50 ?_
          refine z_bipush C (v := 11) (by decide) dX3_sumOf_52 ?_
          refine z_ishl C dX3_sumOf_54 ?_
          refine z_iload C 0 rfl dX3_sumOf_55 ?_
          refine z_bipush C (v := 21) (by decide) dX3_sumOf_57 ?_
          refine z_iushr C (v := (ush ((smL f s j) ^^^ ((f ((s * 32) + (nI j)).toNatClampNeg) &&& 255)) 21)) rfl dX3_sumOf_59 ?_
          refine z_ior C dX3_sumOf_60 ?_
          refine z_ldc C l47 dX3_sumOf_61 ?_
          refine z_imul C dX3_sumOf_63 ?_
          refine z_istore_n C (lv' := [(3, .int (((((smL f s j) ^^^ ((f ((s * 32) + (nI j)).toNatClampNeg) &&& 255)) <<< (11 &&& 31)) ||| (ush ((smL f s j) ^^^ ((f ((s * 32) + (nI j)).toNatClampNeg) &&& 255)) 21)) * (-2048144777))), (5, .int ((smL f s j) ^^^ ((f ((s * 32) + (nI j)).toNatClampNeg) &&& 255))), (0, .ref a), (1, .int s), (2, .int (s * 32)), (4, .int (nI j))]) rfl rfl (by decide) dX3_sumOf_64 ?_
          refine z_iinc C 5 rfl (v := (nI (j + 1))) (zinc _) (lv' := [(4, .int (nI (j + 1))), (3, .int (((((smL f s j) ^^^ ((f ((s * 32) + (nI j)).toNatClampNeg) &&& 255)) <<< (11 &&& 31)) ||| (ush ((smL f s j) ^^^ ((f ((s * 32) + (nI j)).toNatClampNeg) &&& 255)) 21)) * (-2048144777))), (5, .int ((smL f s j) ^^^ ((f ((s * 32) + (nI j)).toNatClampNeg) &&& 255))), (0, .ref a), (1, .int s), (2, .int (s * 32))]) rfl (by decide) dX3_sumOf_65 ?_
          refine z_goto C (tgt := 26) dX3_sumOf_68 (by decide) ?_
          refine z_lv (lv' := [(0, .ref a), (1, .int s), (2, .int (s * 32)), (3, .int (((((smL f s j) ^^^ ((f ((s * 32) + (nI j)).toNatClampNeg) &&& 255)) <<< (11 &&& 31)) ||| (ush ((smL f s j) ^^^ ((f ((s * 32) + (nI j)).toNatClampNeg) &&& 255)) 21)) * (-2048144777))), (4, .int (nI (j + 1)))]) [3, 4, 5, 1, 0] rfl ?_
          exact ih26 (j + 1)  (by omega)
      refine z_lv (lv' := [(0, .ref a), (1, .int s), (2, .int (s * 32)), (3, .int (s + 1)), (4, .int 0)]) [3, 4, 2, 1, 0] rfl ?_
      exact loop26 28 0  (by omega)
    · refine z_iconst C (v := 0) (by decide) dX3_sumOf_12 ?_
      exact ret _ _ _ _ (by first | rfl | (simp only [smOf, h1_1, h9_2, ↓reduceIte]; done) | (simp only [smOf, h1_1, h9_2, ↓reduceIte]; rfl) | (simp [smOf, h1_1, h9_2, ↓reduceIte]; done)) rfl dX3_sumOf_13
abbrev rmX3_isSound : Room := { frames := 2, cells := 0, slots := 0, locals := 47 }
theorem hyX3_isSound : yX3_isSound.cls = RX3 ∧ yX3_isSound.cls ≠ "java/lang/invoke/MethodHandle" ∧ yX3_isSound.cls ≠ "java/lang/invoke/VarHandle" ∧ (parseMethodDescriptor yX3_isSound.desc).map (fun d => d.parameters.length) = some 1 := by decide +kernel
set_option maxHeartbeats 4000000 in
set_option maxRecDepth 3000 in
theorem c_X3_isSound (E : GE) (N : Nat) (hN : 16 ≤ N ∧ N ≤ 64) (a b : Nat) (f : Nat → Int32) (s : Int32) : zI E yX3_isSound wsX3_isSound rmX3_isSound [.ref a, .int s] (wS E a b N f) (isS N f s) (wS E a b N f) := by
  refine zI_of (cc := cX3_isSound) (maxL := 2) (ty := .boolean) (by decide) rfl (by unfold isS; (repeat' split) <;> rfl) (Nat.le_of_ble_eq_true rfl) ?_
  intro K C ret
  replace C : zC E K cX3_isSound wsX3_isSound RX3 rmX3_isSound 2 := C
  show Z E K 0 0 (wS E a b N f) 0 [(0, .ref a), (1, .int s)] []
  refine z_aload_n C 0 rfl rfl dX3_isSound_0 ?_
  refine z_iload_n C 1 rfl rfl dX3_isSound_1 ?_
  refine z_bipush C (v := 28) (by decide) dX3_isSound_2 ?_
  refine z_rVI C (c_X3_byteOf E N hN a b f s 28) gX3_isSound_X3_byteOf (ci := 3) (q0 := 0) rfl rfl hyX3_byteOf rfl ⟨rfl, rfl⟩ ⟨by decide, by decide⟩ ⟨by decide, by decide⟩ [0, 1] rfl (by decide) (st := []) (Nat.le_of_ble_eq_true rfl) dX3_isSound_4 ?_ rfl
  refine z_iconst C (v := (-1)) (by decide) dX3_isSound_7 ?_
  refine z_icmp_eq C (tgt := 31) dX3_isSound_8 (by decide) (fun h8_1 => ?_) (fun h8_1 => ?_)
  · refine z_iconst C (v := 0) (by decide) dX3_isSound_31 ?_
    exact ret _ _ _ _ (by first | rfl | (simp only [isS, h8_1, ↓reduceIte]; done) | (simp only [isS, h8_1, ↓reduceIte]; rfl) | (simp [isS, h8_1, ↓reduceIte]; done)) rfl dX3_isSound_32
  · refine z_aload_n C 0 rfl rfl dX3_isSound_11 ?_
    refine z_iload_n C 1 rfl rfl dX3_isSound_12 ?_
    refine z_bipush C (v := 28) (by decide) dX3_isSound_13 ?_
    refine z_iconst C (v := 4) (by decide) dX3_isSound_15 ?_
    refine z_rVI C (c_X3_numberOf E N hN a b f s 28 4 (by decide)) gX3_isSound_X3_numberOf (ci := 3) (q0 := 0) rfl rfl hyX3_numberOf rfl ⟨rfl, rfl⟩ ⟨by decide, by decide⟩ ⟨by decide, by decide⟩ [0, 1] rfl (by decide) (st := []) (Nat.le_of_ble_eq_true rfl) dX3_isSound_16 ?_ rfl
    refine z_aload_n C 0 rfl rfl dX3_isSound_19 ?_
    refine z_iload_n C 1 rfl rfl dX3_isSound_20 ?_
    refine z_rVI C (c_X3_sumOf E N hN a b f s) gX3_isSound_X3_sumOf (ci := 3) (q0 := 0) rfl rfl hyX3_sumOf rfl ⟨rfl, rfl⟩ ⟨by decide, by decide⟩ ⟨by decide, by decide⟩ [0, 1] rfl (by decide) (st := [.int (nOf N f s 28 4)]) (Nat.le_of_ble_eq_true rfl) dX3_isSound_21 ?_ rfl
    refine z_icmp_ne C (tgt := 31) dX3_isSound_24 (by decide) (fun h24_2 => ?_) (fun h24_2 => ?_)
    · refine z_iconst C (v := 0) (by decide) dX3_isSound_31 ?_
      exact ret _ _ _ _ (by first | rfl | (simp only [isS, h8_1, h24_2, ↓reduceIte]; done) | (simp only [isS, h8_1, h24_2, ↓reduceIte]; rfl) | (simp [isS, h8_1, h24_2, ↓reduceIte]; done)) rfl dX3_isSound_32
    · refine z_iconst C (v := 1) (by decide) dX3_isSound_27 ?_
      refine z_goto C (tgt := 32) dX3_isSound_28 (by decide) ?_
      exact ret _ _ _ _ (by first | rfl | (simp only [isS, h8_1, h24_2, ↓reduceIte]; done) | (simp only [isS, h8_1, h24_2, ↓reduceIte]; rfl) | (simp [isS, h8_1, h24_2, ↓reduceIte]; done)) rfl dX3_isSound_32
abbrev rmX3_prepare : Room := { frames := 2, cells := 0, slots := 0, locals := 49 }
theorem hyX3_prepare : yX3_prepare.cls = RX3 ∧ yX3_prepare.cls ≠ "java/lang/invoke/MethodHandle" ∧ yX3_prepare.cls ≠ "java/lang/invoke/VarHandle" ∧ (parseMethodDescriptor yX3_prepare.desc).map (fun d => d.parameters.length) = some 4 := by decide +kernel
set_option maxHeartbeats 4000000 in
set_option maxRecDepth 3000 in
theorem c_X3_prepare (E : GE) (N : Nat) (hN : 16 ≤ N ∧ N ≤ 64) (a b : Nat) (f : Nat → Int32) (s kd se it : Int32) : zV E yX3_prepare wsX3_prepare rmX3_prepare [.ref a, .int s, .int kd, .int se, .int it] (wS E a b N f) (wS E a b N (prep N f s kd se it)) := by
  refine zV_of (cc := cX3_prepare) (maxL := 6) (by decide) rfl (Nat.le_of_ble_eq_true rfl) ?_
  intro K C ret
  replace C : zC E K cX3_prepare wsX3_prepare RX3 rmX3_prepare 6 := C
  show Z E K 0 0 (wS E a b N f) 0 [(0, .ref a), (1, .int s), (2, .int kd), (3, .int se), (4, .int it)] []
  refine z_iconst C (v := 0) (by decide) dX3_prepare_0 ?_
  refine z_istore C (lv' := [(5, .int 0), (0, .ref a), (1, .int s), (2, .int kd), (3, .int se), (4, .int it)]) rfl (by decide) dX3_prepare_1 ?_
  have loop3 : ∀ (n j : Nat), j + n = 32 → Z E K 0 0 (wS E a b N (clr N f s j)) 3 [(0, .ref a), (1, .int s), (2, .int kd), (3, .int se), (4, .int it), (5, .int (nI j))] [] := by
    intro n
    induction n with
    | zero => 
      intro j hj
      obtain rfl : j = 32 := by omega
      refine z_iload C 5 rfl dX3_prepare_3 ?_
      refine z_bipush C (v := 32) (by decide) dX3_prepare_5 ?_
      refine z_icmp_ge C (tgt := 24) dX3_prepare_7 (by decide) (fun h7_1 => ?_) (fun h7_1 => absurd (nI_le (a := 32) (b := 32) (Nat.le_refl _) (by omega)) h7_1)
      refine z_aload_n C 0 rfl rfl dX3_prepare_24 ?_
      refine z_iload_n C 1 rfl rfl dX3_prepare_25 ?_
      refine z_iconst C (v := 0) (by decide) dX3_prepare_26 ?_
      refine z_iload_n C 2 rfl rfl dX3_prepare_27 ?_
      refine z_callVV C (c_X3_setByte E N hN a b (clr N f s 32) s 0 kd) gX3_prepare_X3_setByte (ci := 3) (q0 := 0) rfl rfl hyX3_setByte rfl ⟨rfl, rfl⟩ ⟨by decide, by decide⟩ ⟨by decide, by decide⟩ [0, 1] [] [0, 1] (wr := []) (V' := (wS E a b N (sB N (clr N f s 32) s 0 kd))) rfl rfl (by decide) (by decide) (by decide) rfl (by decide) (st := []) (Nat.le_of_ble_eq_true rfl) dX3_prepare_28 ?_ rfl
      refine z_aload_n C 0 rfl rfl dX3_prepare_31 ?_
      refine z_iload_n C 1 rfl rfl dX3_prepare_32 ?_
      refine z_iconst C (v := 1) (by decide) dX3_prepare_33 ?_
      refine z_iconst C (v := 4) (by decide) dX3_prepare_34 ?_
      refine z_iload_n C 3 rfl rfl dX3_prepare_35 ?_
      refine z_callVV C (c_X3_setNumber E N hN a b (sB N (clr N f s 32) s 0 kd) s 1 4 se (by decide)) gX3_prepare_X3_setNumber (ci := 3) (q0 := 0) rfl rfl hyX3_setNumber rfl ⟨rfl, rfl⟩ ⟨by decide, by decide⟩ ⟨by decide, by decide⟩ [0, 1] [] [0, 1] (wr := []) (V' := (wS E a b N (sN N s 1 4 (sB N (clr N f s 32) s 0 kd) se))) rfl rfl (by decide) (by decide) (by decide) rfl (by decide) (st := []) (Nat.le_of_ble_eq_true rfl) dX3_prepare_36 ?_ rfl
      refine z_aload_n C 0 rfl rfl dX3_prepare_39 ?_
      refine z_iload_n C 1 rfl rfl dX3_prepare_40 ?_
      refine z_iconst C (v := 5) (by decide) dX3_prepare_41 ?_
      refine z_iload C 4 rfl dX3_prepare_42 ?_
      refine z_callVV C (c_X3_setByte E N hN a b (sN N s 1 4 (sB N (clr N f s 32) s 0 kd) se) s 5 it) gX3_prepare_X3_setByte (ci := 3) (q0 := 0) rfl rfl hyX3_setByte rfl ⟨rfl, rfl⟩ ⟨by decide, by decide⟩ ⟨by decide, by decide⟩ [0, 1] [] [0, 1] (wr := []) (V' := (wS E a b N (sB N (sN N s 1 4 (sB N (clr N f s 32) s 0 kd) se) s 5 it))) rfl rfl (by decide) (by decide) (by decide) rfl (by decide) (st := []) (Nat.le_of_ble_eq_true rfl) dX3_prepare_44 ?_ rfl
      exact ret _ _ _ (by first | rfl | (simp only [h7_1, ↓reduceIte]; done) | (simp only [h7_1, ↓reduceIte]; rfl) | (simp [h7_1, ↓reduceIte]; done)) dX3_prepare_47
    | succ n ih3 => 
      intro j hj
      refine z_iload C 5 rfl dX3_prepare_3 ?_
      refine z_bipush C (v := 32) (by decide) dX3_prepare_5 ?_
      refine z_icmp_ge C (tgt := 24) dX3_prepare_7 (by decide) (fun h7_2 => absurd h7_2 (nI_ge (a := j) (b := 32) (by omega) (by omega))) (fun h7_2 => ?_)
      refine z_aload_n C 0 rfl rfl dX3_prepare_10 ?_
      refine z_iload_n C 1 rfl rfl dX3_prepare_11 ?_
      refine z_iload C 5 rfl dX3_prepare_12 ?_
      refine z_iconst C (v := 0) (by decide) dX3_prepare_14 ?_
      refine z_callVV C (c_X3_setByte E N hN a b (clr N f s j) s (nI j) 0) gX3_prepare_X3_setByte (ci := 3) (q0 := 0) rfl rfl hyX3_setByte rfl ⟨rfl, rfl⟩ ⟨by decide, by decide⟩ ⟨by decide, by decide⟩ [0, 1] [] [0, 1] (wr := []) (V' := (wS E a b N (sB N (clr N f s j) s (nI j) 0))) rfl rfl (by decide) (by decide) (by decide) rfl (by decide) (st := []) (Nat.le_of_ble_eq_true rfl) dX3_prepare_15 ?_ rfl
      refine z_iinc C 5 rfl (v := (nI (j + 1))) (zinc _) (lv' := [(5, .int (nI (j + 1))), (0, .ref a), (1, .int s), (2, .int kd), (3, .int se), (4, .int it)]) rfl (by decide) dX3_prepare_18 ?_
      refine z_goto C (tgt := 3) dX3_prepare_21 (by decide) ?_
      refine z_lv (lv' := [(0, .ref a), (1, .int s), (2, .int kd), (3, .int se), (4, .int it), (5, .int (nI (j + 1)))]) [1, 2, 3, 4, 5, 0] rfl ?_
      exact ih3 (j + 1)  (by omega)
  refine z_lv (lv' := [(0, .ref a), (1, .int s), (2, .int kd), (3, .int se), (4, .int it), (5, .int 0)]) [1, 2, 3, 4, 5, 0] rfl ?_
  exact loop3 32 0  (by omega)
abbrev rmX3_seal : Room := { frames := 2, cells := 0, slots := 0, locals := 49 }
theorem hyX3_seal : yX3_seal.cls = RX3 ∧ yX3_seal.cls ≠ "java/lang/invoke/MethodHandle" ∧ yX3_seal.cls ≠ "java/lang/invoke/VarHandle" ∧ (parseMethodDescriptor yX3_seal.desc).map (fun d => d.parameters.length) = some 1 := by decide +kernel
set_option maxHeartbeats 4000000 in
set_option maxRecDepth 3000 in
theorem c_X3_seal (E : GE) (N : Nat) (hN : 16 ≤ N ∧ N ≤ 64) (a b : Nat) (f : Nat → Int32) (s : Int32) : zV E yX3_seal wsX3_seal rmX3_seal [.ref a, .int s] (wS E a b N f) (wS E a b N (sealS N f s)) := by
  refine zV_of (cc := cX3_seal) (maxL := 2) (by decide) rfl (Nat.le_of_ble_eq_true rfl) ?_
  intro K C ret
  replace C : zC E K cX3_seal wsX3_seal RX3 rmX3_seal 2 := C
  show Z E K 0 0 (wS E a b N f) 0 [(0, .ref a), (1, .int s)] []
  refine z_aload_n C 0 rfl rfl dX3_seal_0 ?_
  refine z_iload_n C 1 rfl rfl dX3_seal_1 ?_
  refine z_bipush C (v := 28) (by decide) dX3_seal_2 ?_
  refine z_iconst C (v := 4) (by decide) dX3_seal_4 ?_
  refine z_aload_n C 0 rfl rfl dX3_seal_5 ?_
  refine z_iload_n C 1 rfl rfl dX3_seal_6 ?_
  refine z_rVI C (c_X3_sumOf E N hN a b f s) gX3_seal_X3_sumOf (ci := 3) (q0 := 0) rfl rfl hyX3_sumOf rfl ⟨rfl, rfl⟩ ⟨by decide, by decide⟩ ⟨by decide, by decide⟩ [0, 1] rfl (by decide) (st := [.int 4, .int 28, .int s, .ref a]) (Nat.le_of_ble_eq_true rfl) dX3_seal_7 ?_ rfl
  refine z_callVV C (c_X3_setNumber E N hN a b f s 28 4 (smOf N f s) (by decide)) gX3_seal_X3_setNumber (ci := 3) (q0 := 0) rfl rfl hyX3_setNumber rfl ⟨rfl, rfl⟩ ⟨by decide, by decide⟩ ⟨by decide, by decide⟩ [0, 1] [] [0, 1] (wr := []) (V' := (wS E a b N (sN N s 28 4 f (smOf N f s)))) rfl rfl (by decide) (by decide) (by decide) rfl (by decide) (st := []) (Nat.le_of_ble_eq_true rfl) dX3_seal_10 ?_ rfl
  exact ret _ _ _ (by first | rfl | (simp only [↓reduceIte]; done) | (simp only [↓reduceIte]; rfl) | (simp [↓reduceIte]; done)) dX3_seal_13
abbrev rmX3_copyStart : Room := { frames := 1, cells := 0, slots := 0, locals := 23 }
theorem hyX3_copyStart : yX3_copyStart.cls = RX3 ∧ yX3_copyStart.cls ≠ "java/lang/invoke/MethodHandle" ∧ yX3_copyStart.cls ≠ "java/lang/invoke/VarHandle" ∧ (parseMethodDescriptor yX3_copyStart.desc).map (fun d => d.parameters.length) = some 3 := by decide +kernel
set_option maxHeartbeats 4000000 in
set_option maxRecDepth 3000 in
theorem c_X3_copyStart (E : GE) (N : Nat) (hN : 16 ≤ N ∧ N ≤ 64) (a b : Nat) (f : Nat → Int32) (a2 b2 : Nat) (g : Nat → Int32) (s : Int32) (L : Nat) (hL : L ≤ 32) : zV E yX3_copyStart wsX3_copyStart rmX3_copyStart [.ref a, .ref a2, .int s, .int (nI L)] ((wS E a b N f) ++ (wS E a2 b2 N g)) ((wS E a b N (cpS N f g s L)) ++ (wS E a2 b2 N g)) := by
  refine zV_of (cc := cX3_copyStart) (maxL := 5) (by decide) rfl (Nat.le_of_ble_eq_true rfl) ?_
  intro K C ret
  replace C : zC E K cX3_copyStart wsX3_copyStart RX3 rmX3_copyStart 5 := C
  show Z E K 0 0 ((wS E a b N f) ++ (wS E a2 b2 N g)) 0 [(0, .ref a), (1, .ref a2), (2, .int s), (3, .int (nI L))] []
  refine z_iconst C (v := 0) (by decide) dX3_copyStart_0 ?_
  refine z_istore C (lv' := [(4, .int 0), (0, .ref a), (1, .ref a2), (2, .int s), (3, .int (nI L))]) rfl (by decide) dX3_copyStart_1 ?_
  have loop3 : ∀ (n j : Nat), j + n = L → Z E K 0 0 ((wS E a b N (cpS N f g s j)) ++ (wS E a2 b2 N g)) 3 [(0, .ref a), (1, .ref a2), (2, .int s), (3, .int (nI L)), (4, .int (nI j))] [] := by
    intro n
    induction n with
    | zero => 
      intro j hj
      obtain rfl : L = j := by omega
      refine z_iload C 4 rfl dX3_copyStart_3 ?_
      refine z_iload_n C 3 rfl rfl dX3_copyStart_5 ?_
      refine z_icmp_ge C (tgt := 36) dX3_copyStart_6 (by decide) (fun h6_1 => ?_) (fun h6_1 => absurd (nI_le (a := L) (b := L) (Nat.le_refl _) (by omega)) h6_1)
      exact ret _ _ _ (by first | rfl | (simp only [h6_1, ↓reduceIte]; done) | (simp only [h6_1, ↓reduceIte]; rfl) | (simp [h6_1, ↓reduceIte]; done)) dX3_copyStart_36
    | succ n ih3 => 
      intro j hj
      refine z_iload C 4 rfl dX3_copyStart_3 ?_
      refine z_iload_n C 3 rfl rfl dX3_copyStart_5 ?_
      refine z_icmp_ge C (tgt := 36) dX3_copyStart_6 (by decide) (fun h6_2 => absurd h6_2 (nI_ge (a := j) (b := L) (by omega) (by omega))) (fun h6_2 => ?_)
      refine z_iload C 4 rfl dX3_copyStart_9 ?_
      refine z_bipush C (v := 32) (by decide) dX3_copyStart_11 ?_
      refine z_icmp_ge C (tgt := 36) dX3_copyStart_13 (by decide) (fun h13_3 => absurd h13_3 (nI_ge (a := j) (b := 32) (by omega) (by omega))) (fun h13_3 => ?_)
      refine z_aload_n C 0 rfl rfl dX3_copyStart_16 ?_
      refine z_iload_n C 2 rfl rfl dX3_copyStart_17 ?_
      refine z_iload C 4 rfl dX3_copyStart_18 ?_
      refine z_aload_n C 1 rfl rfl dX3_copyStart_20 ?_
      refine z_iload_n C 2 rfl rfl dX3_copyStart_21 ?_
      refine z_iload C 4 rfl dX3_copyStart_22 ?_
      refine z_rVI C (c_X3_byteOf E N hN a2 b2 g s (nI j)) gX3_copyStart_X3_byteOf (ci := 3) (q0 := 0) rfl rfl hyX3_byteOf rfl ⟨rfl, rfl⟩ ⟨by decide, by decide⟩ ⟨by decide, by decide⟩ [2, 3] rfl (by decide) (st := [.int (nI j), .int s, .ref a]) (Nat.le_of_ble_eq_true rfl) dX3_copyStart_24 ?_ rfl
      refine z_callVV C (c_X3_setByte E N hN a b (cpS N f g s j) s (nI j) (bOf N g s (nI j))) gX3_copyStart_X3_setByte (ci := 3) (q0 := 0) rfl rfl hyX3_setByte rfl ⟨rfl, rfl⟩ ⟨by decide, by decide⟩ ⟨by decide, by decide⟩ [0, 1] [2, 3] [2, 3, 0, 1] (wr := [(a2, .inr (3, [.int (nI N), .ref b2])), (b2, .inl (gB E, 32 * N, .inl g))]) (V' := ((wS E a b N (sB N (cpS N f g s j) s (nI j) (bOf N g s (nI j)))) ++ (wS E a2 b2 N g))) rfl rfl (by decide) (by decide) (by decide) rfl (by decide) (st := []) (Nat.le_of_ble_eq_true rfl) dX3_copyStart_27 ?_ rfl
      refine z_iinc C 4 rfl (v := (nI (j + 1))) (zinc _) (lv' := [(4, .int (nI (j + 1))), (0, .ref a), (1, .ref a2), (2, .int s), (3, .int (nI L))]) rfl (by decide) dX3_copyStart_30 ?_
      refine z_goto C (tgt := 3) dX3_copyStart_33 (by decide) ?_
      refine z_lv (lv' := [(0, .ref a), (1, .ref a2), (2, .int s), (3, .int (nI L)), (4, .int (nI (j + 1)))]) [1, 2, 3, 4, 0] rfl ?_
      exact ih3 (j + 1)  (by omega)
  refine z_lv (lv' := [(0, .ref a), (1, .ref a2), (2, .int s), (3, .int (nI L)), (4, .int 0)]) [1, 2, 3, 4, 0] rfl ?_
  exact loop3 L 0  (by omega)
abbrev rmX3_clear : Room := { frames := 0, cells := 0, slots := 0, locals := 0 }
theorem hyX3_clear : yX3_clear.cls = RX3 ∧ yX3_clear.cls ≠ "java/lang/invoke/MethodHandle" ∧ yX3_clear.cls ≠ "java/lang/invoke/VarHandle" ∧ (parseMethodDescriptor yX3_clear.desc).map (fun d => d.parameters.length) = some 0 := by decide +kernel
set_option maxHeartbeats 4000000 in
set_option maxRecDepth 3000 in
theorem c_X3_clear (E : GE) (N : Nat) (hN : 16 ≤ N ∧ N ≤ 64) (a b : Nat) (f : Nat → Int32) : zV E yX3_clear wsX3_clear rmX3_clear [.ref a] (wS E a b N f) (wS E a b N (clA f (32 * N))) := by
  refine zV_of (cc := cX3_clear) (maxL := 2) (by decide) rfl (Nat.le_of_ble_eq_true rfl) ?_
  intro K C ret
  replace C : zC E K cX3_clear wsX3_clear RX3 rmX3_clear 2 := C
  have in3 : ∀ w ∈ wsX30, w ∈ wsX3_clear := fun w h => List.mem_cons_of_mem _ (List.mem_append_right _ (h))
  have l24 : zw K (.fieldLink RX3 24 "StoreLog3$Sectors" "bytes" "[B") := C.w (List.mem_cons_of_mem _ (List.mem_append_left _ (List.mem_of_getElem? (i := 0) rfl)))
  show Z E K 0 0 (wS E a b N f) 0 [(0, .ref a)] []
  refine z_iconst C (v := 0) (by decide) dX3_clear_0 ?_
  refine z_istore_n C (lv' := [(1, .int 0), (0, .ref a)]) rfl rfl (by decide) dX3_clear_1 ?_
  have loop2 : ∀ (n j : Nat), j + n = 32 * N → Z E K 0 0 (wS E a b N (clA f j)) 2 [(0, .ref a), (1, .int (nI j))] [] := by
    intro n
    induction n with
    | zero => 
      intro j hj
      have hjB : j = 32 * N := by omega
      subst hjB
      refine z_iload_n C 1 rfl rfl dX3_clear_2 ?_
      refine z_aload_n C 0 rfl rfl dX3_clear_3 ?_
      refine z_get C (Cn := RX3) (T := TX3) (Nf := 2) (ci := 3) in3 0 1 l24 (v := .ref b) rfl rfl (by decide) rfl dX3_clear_4 ?_
      refine z_balen C 1 rfl (v := (nI (32 * N))) rfl dX3_clear_7 ?_
      refine z_icmp_ge C (tgt := 24) dX3_clear_8 (by decide) (fun h8_1 => ?_) (fun h8_1 => absurd (nI_le (a := 32 * N) (b := 32 * N) (Nat.le_refl _) (by omega)) h8_1)
      exact ret _ _ _ (by first | rfl | (simp only [h8_1, ↓reduceIte]; done) | (simp only [h8_1, ↓reduceIte]; rfl) | (simp [h8_1, ↓reduceIte]; done)) dX3_clear_24
    | succ n ih2 => 
      intro j hj
      refine z_iload_n C 1 rfl rfl dX3_clear_2 ?_
      refine z_aload_n C 0 rfl rfl dX3_clear_3 ?_
      refine z_get C (Cn := RX3) (T := TX3) (Nf := 2) (ci := 3) in3 0 1 l24 (v := .ref b) rfl rfl (by decide) rfl dX3_clear_4 ?_
      refine z_balen C 1 rfl (v := (nI (32 * N))) rfl dX3_clear_7 ?_
      refine z_icmp_ge C (tgt := 24) dX3_clear_8 (by decide) (fun h8_2 => absurd h8_2 (nI_ge (a := j) (b := 32 * N) (by omega) (by omega))) (fun h8_2 => ?_)
      refine z_aload_n C 0 rfl rfl dX3_clear_11 ?_
      refine z_get C (Cn := RX3) (T := TX3) (Nf := 2) (ci := 3) in3 0 1 l24 (v := .ref b) rfl rfl (by decide) rfl dX3_clear_12 ?_
      refine z_iload_n C 1 rfl rfl dX3_clear_15 ?_
      refine z_iconst C (v := 0) (by decide) dX3_clear_16 ?_
      refine z_bast C 1 rfl (vp_in_nI (by omega) (by omega)) (g := (upd (clA f j) j 0)) (by rw [b8_0, nI_clamp (by omega)]) (V' := (wS E a b N (upd (clA f j) j 0))) rfl dX3_clear_17 ?_
      refine z_iinc C 1 rfl (v := (nI (j + 1))) (zinc _) (lv' := [(1, .int (nI (j + 1))), (0, .ref a)]) rfl (by decide) dX3_clear_18 ?_
      refine z_goto C (tgt := 2) dX3_clear_21 (by decide) ?_
      refine z_lv (lv' := [(0, .ref a), (1, .int (nI (j + 1)))]) [1, 0] rfl ?_
      exact ih2 (j + 1)  (by omega)
  refine z_lv (lv' := [(0, .ref a), (1, .int 0)]) [1, 0] rfl ?_
  exact loop2 (32 * N) 0  (by omega)

/-! Part 12: the journal -/
theorem nxN_le (D : DS) : ∀ n j : Nat, j + n = 32 → nxN D n j ≤ 32 := by
  intro n
  induction n with
  | zero => intro j _; exact Nat.le_refl 32
  | succ n ih =>
    intro j hj
    unfold nxN
    split
    · exact ih (j + 1) (by omega)
    · omega
theorem zk32 {k : Nat} (h0 : k ≤ 32) (h : ¬ (32 : Int32) ≤ nI k) : k < 32 := by
  refine Nat.lt_of_le_of_ne h0 (fun e => h ?_)
  subst e
  exact nI_le (a := 32) (b := 32) (by omega) (by omega)
def jNeed (N : Nat) (J : JS) : Int32 := stp N (jFn J) (jSc J) + 1
def jRoom (N : Nat) (J : JS) (w : Int32) : Int32 := if nI N < jNeed N J + w then 0 else 1
def jDue (J : JS) : Int32 := if jEn J ≤ 0 then 0 else 1
def jCan (N : Nat) (J : JS) : Int32 := if jEn J < 3 then 1 else if jRoom N J 1 = 0 then 0 else 1
def jNext (N : Nat) (J : JS) : JS := if jWa J = 0 then jsWa (jsFw (jsSc (jsSe J (jSe J + 1)) (bhd N (jSc J))) (bhd N (jSc J))) (jWa J + 1) else jsWa (jsSc (jsSe J (jSe J + 1)) (bhd N (jSc J))) (jWa J + 1)
theorem jNext_En (N : Nat) (J : JS) : jEn (jNext N J) = jEn J := by unfold jNext; split <;> rfl
def wlL (N : Nat) (sc : Int32) (eh ek ev g : Nat → Int32) : Nat → Nat → Int32
  | 0 => g
  | n + 1 => sN N sc (6 + nI n * 5 + 2) 3 (sB N (sB N (wlL N sc eh ek ev g n) sc (6 + nI n * 5) (eh n)) sc (6 + nI n * 5 + 1) (ek n)) (ev n)
def jWL (N : Nat) (J : JS) (e : Nat) : JS := if jEn J = 0 then J else jsEn (jsMm (jNext N J) (sealS N (wlL N (jSc (jNext N J)) (jEh (jNext N J)) (jEk (jNext N J)) (jEv (jNext N J)) (prep N (jMm (jNext N J)) (jSc (jNext N J)) 1 (jSe (jNext N J)) (nI e)) e) (jSc (jNext N J)))) 0
def jPut1 (J : JS) (t w k v : Int32) (e : Nat) : JS := jsEn (jsEv (jsEk (jsEh J (upd (jEh J) e (4 * t + w))) (upd (jEk J) e k)) (upd (jEv J) e v)) (nI (e + 1))
def jTake (N : Nat) (J : JS) (t w k v : Int32) (e : Nat) : JS := if nI (e + 1) = 4 then jWL N (jPut1 J t w k v e) 4 else jPut1 J t w k v e
def wpL (N : Nat) (D : DS) (sc : Int32) : Nat → Nat → Nat → (Nat → Int32) → Nat × Nat × (Nat → Int32)
  | 0, m, k, g => (m, k, g)
  | n + 1, m, k, g => if (32 : Int32) ≤ nI k then (m, k, g) else wpL N D sc n (m + 1) (nxN D (32 - (k + 1)) (k + 1)) (sN N sc (6 + nI m * 4 + 1) 3 (sB N g sc (6 + nI m * 4) (nI k)) (dValue D (nI k)))
def jWPx (N : Nat) (J : JS) (D : DS) (fk : Nat) : Nat × Nat × (Nat → Int32) := wpL N D (jSc J) 5 0 fk (prep N (jMm J) (jSc J) 2 (jSe J) 0)
def jWPk (N : Nat) (J : JS) (D : DS) (fk : Nat) : Nat := (jWPx N J D fk).2.1
def jWPr (N : Nat) (J : JS) (D : DS) (fk : Nat) : JS := jsMm J (sB N (jWPx N J D fk).2.2 (jSc J) 5 (nI (jWPx N J D fk).1))
theorem wpL_le (N : Nat) (D : DS) (sc : Int32) : ∀ (n m k : Nat) (g : Nat → Int32), k ≤ 32 → (wpL N D sc n m k g).2.1 ≤ 32 := by
  intro n
  induction n with
  | zero => intro m k g h; exact h
  | succ n ih =>
    intro m k g h
    unfold wpL
    split
    · exact h
    · next h2 => exact ih _ _ _ (nxN_le D _ _ (by have := zk32 h h2; omega))
theorem jWPk_le (N : Nat) (J : JS) (D : DS) (fk : Nat) (h : fk ≤ 32) : jWPk N J D fk ≤ 32 := by
  unfold jWPk jWPx
  exact wpL_le N D _ _ _ _ _ h
def wp1 (N : Nat) (j : Nat) (J : JS) : JS := if nI j = 0 then jsFp (jNext N J) (jSc (jNext N J)) else jNext N J
def wp2 (N : Nat) (D : DS) (P j k : Nat) (J : JS) : JS := jsMm (jWPr N (wp1 N j J) D k) (sealS N (sB N (sB N (jMm (jWPr N (wp1 N j J) D k)) (jSc (jWPr N (wp1 N j J) D k)) 26 (nI j)) (jSc (jWPr N (wp1 N j J) D k)) 27 (nI P)) (jSc (jWPr N (wp1 N j J) D k)))
def wpg (N : Nat) (D : DS) (P : Nat) : Nat → Nat → Nat → JS → JS
  | 0, _, _, J => J
  | n + 1, j, k, J => wpg N D P n (j + 1) (jWPk N (wp1 N j J) D k) (wp2 N D P j k J)
def jWPg (N : Nat) (J : JS) (D : DS) (P : Nat) : JS := wpg N D P P 0 (nxN D (32 - 0) 0) J
def pod (N : Nat) (mm : Nat → Int32) : Nat → Int32 → (Nat → Int32) → Int32 × (Nat → Int32)
  | 0, s, d => (s, d)
  | n + 1, s, d => pod N mm n (bhd N s) (cpS N d mm s 32)
def jPod (N : Nat) (J : JS) (w : Nat) : Int32 × (Nat → Int32) := pod N (jMm J) w (jFw J) (jDk J)
def jAll (N : Nat) (J : JS) (w : Nat) : JS := if jFp J = -1 then jsWa (jsDk J (jPod N J w).2) 0 else jsFp (jsFn (jsWa (jsDk J (jPod N J w).2) 0) (jFp J)) (-1)
def jForget (J : JS) : JS := jsFp (jsWa (jsEn J 0) 0) (-1)
def jLose (N : Nat) (J : JS) (kp tr w : Nat) : JS := if nI w ≤ nI kp then jForget (jsDk J (jPod N J kp).2) else jForget (jsDk J (cpS N (jPod N J kp).2 (jMm J) (jPod N J kp).1 tr))
def jGoOn (N : Nat) (J : JS) (fp re : Int32) : JS := jsSe (jsSc (jsFn J fp) re) (nOf N (jDk J) re 1 4)
def jBegin (N : Nat) (J : JS) : JS := jForget (jsFn (jsSc (jsSe (jsDk J (sealS N (sB N (prep N (clA (jDk J) (32 * N)) 0 2 1 0) 0 27 1) 0)) 1) 0) 0)
abbrev rmX2_entries : Room := { frames := 0, cells := 0, slots := 0, locals := 0 }
theorem hyX2_entries : yX2_entries.cls = RX2 ∧ yX2_entries.cls ≠ "java/lang/invoke/MethodHandle" ∧ yX2_entries.cls ≠ "java/lang/invoke/VarHandle" ∧ (parseMethodDescriptor yX2_entries.desc).map (fun d => d.parameters.length) = some 0 := by decide +kernel
set_option maxHeartbeats 4000000 in
set_option maxRecDepth 3000 in
theorem c_X2_entries (E : GE) (N : Nat) (hN : 16 ≤ N ∧ N ≤ 64) (a : Nat → Nat) (J : JS) : zI E yX2_entries wsX2_entries rmX2_entries [.ref (a 0)] (wJ E a N J) (jEn J) (wJ E a N J) := by
  refine zI_of (cc := cX2_entries) (maxL := 1) (ty := .int) (by decide) rfl (vp_nar_int _) (Nat.le_of_ble_eq_true rfl) ?_
  intro K C ret
  replace C : zC E K cX2_entries wsX2_entries RX2 rmX2_entries 1 := C
  have in2 : ∀ w ∈ wsX20, w ∈ wsX2_entries := fun w h => List.mem_cons_of_mem _ (List.mem_append_right _ (h))
  have l63 : zw K (.fieldLink RX2 63 "StoreLog3$Journal" "entries" "I") := C.w (List.mem_cons_of_mem _ (List.mem_append_left _ (List.mem_of_getElem? (i := 0) rfl)))
  show Z E K 0 0 (wJ E a N J) 0 [(0, .ref (a 0))] []
  refine z_aload_n C 0 rfl rfl dX2_entries_0 ?_
  refine z_get C (Cn := RX2) (T := TX2) (Nf := 12) (ci := 2) in2 0 5 l63 (v := .int (jEn J)) rfl rfl (by decide) rfl dX2_entries_1 ?_
  exact ret _ _ _ _ (by first | rfl | (simp only [↓reduceIte]; done) | (simp only [↓reduceIte]; rfl) | (simp [↓reduceIte]; done)) rfl dX2_entries_4
abbrev rmX2_waiting : Room := { frames := 0, cells := 0, slots := 0, locals := 0 }
theorem hyX2_waiting : yX2_waiting.cls = RX2 ∧ yX2_waiting.cls ≠ "java/lang/invoke/MethodHandle" ∧ yX2_waiting.cls ≠ "java/lang/invoke/VarHandle" ∧ (parseMethodDescriptor yX2_waiting.desc).map (fun d => d.parameters.length) = some 0 := by decide +kernel
set_option maxHeartbeats 4000000 in
set_option maxRecDepth 3000 in
theorem c_X2_waiting (E : GE) (N : Nat) (hN : 16 ≤ N ∧ N ≤ 64) (a : Nat → Nat) (J : JS) : zI E yX2_waiting wsX2_waiting rmX2_waiting [.ref (a 0)] (wJ E a N J) (jWa J) (wJ E a N J) := by
  refine zI_of (cc := cX2_waiting) (maxL := 1) (ty := .int) (by decide) rfl (vp_nar_int _) (Nat.le_of_ble_eq_true rfl) ?_
  intro K C ret
  replace C : zC E K cX2_waiting wsX2_waiting RX2 rmX2_waiting 1 := C
  have in2 : ∀ w ∈ wsX20, w ∈ wsX2_waiting := fun w h => List.mem_cons_of_mem _ (List.mem_append_right _ (h))
  have l66 : zw K (.fieldLink RX2 66 "StoreLog3$Journal" "waiting" "I") := C.w (List.mem_cons_of_mem _ (List.mem_append_left _ (List.mem_of_getElem? (i := 0) rfl)))
  show Z E K 0 0 (wJ E a N J) 0 [(0, .ref (a 0))] []
  refine z_aload_n C 0 rfl rfl dX2_waiting_0 ?_
  refine z_get C (Cn := RX2) (T := TX2) (Nf := 12) (ci := 2) in2 0 6 l66 (v := .int (jWa J)) rfl rfl (by decide) rfl dX2_waiting_1 ?_
  exact ret _ _ _ _ (by first | rfl | (simp only [↓reduceIte]; done) | (simp only [↓reduceIte]; rfl) | (simp [↓reduceIte]; done)) rfl dX2_waiting_4
abbrev rmX2_lastSerial : Room := { frames := 0, cells := 0, slots := 0, locals := 0 }
theorem hyX2_lastSerial : yX2_lastSerial.cls = RX2 ∧ yX2_lastSerial.cls ≠ "java/lang/invoke/MethodHandle" ∧ yX2_lastSerial.cls ≠ "java/lang/invoke/VarHandle" ∧ (parseMethodDescriptor yX2_lastSerial.desc).map (fun d => d.parameters.length) = some 0 := by decide +kernel
set_option maxHeartbeats 4000000 in
set_option maxRecDepth 3000 in
theorem c_X2_lastSerial (E : GE) (N : Nat) (hN : 16 ≤ N ∧ N ≤ 64) (a : Nat → Nat) (J : JS) : zI E yX2_lastSerial wsX2_lastSerial rmX2_lastSerial [.ref (a 0)] (wJ E a N J) (jSe J) (wJ E a N J) := by
  refine zI_of (cc := cX2_lastSerial) (maxL := 1) (ty := .int) (by decide) rfl (vp_nar_int _) (Nat.le_of_ble_eq_true rfl) ?_
  intro K C ret
  replace C : zC E K cX2_lastSerial wsX2_lastSerial RX2 rmX2_lastSerial 1 := C
  have in2 : ∀ w ∈ wsX20, w ∈ wsX2_lastSerial := fun w h => List.mem_cons_of_mem _ (List.mem_append_right _ (h))
  have l50 : zw K (.fieldLink RX2 50 "StoreLog3$Journal" "lastSerial" "I") := C.w (List.mem_cons_of_mem _ (List.mem_append_left _ (List.mem_of_getElem? (i := 0) rfl)))
  show Z E K 0 0 (wJ E a N J) 0 [(0, .ref (a 0))] []
  refine z_aload_n C 0 rfl rfl dX2_lastSerial_0 ?_
  refine z_get C (Cn := RX2) (T := TX2) (Nf := 12) (ci := 2) in2 0 8 l50 (v := .int (jSe J)) rfl rfl (by decide) rfl dX2_lastSerial_1 ?_
  exact ret _ _ _ _ (by first | rfl | (simp only [↓reduceIte]; done) | (simp only [↓reduceIte]; rfl) | (simp [↓reduceIte]; done)) rfl dX2_lastSerial_4
abbrev rmX2_lastSector : Room := { frames := 0, cells := 0, slots := 0, locals := 0 }
theorem hyX2_lastSector : yX2_lastSector.cls = RX2 ∧ yX2_lastSector.cls ≠ "java/lang/invoke/MethodHandle" ∧ yX2_lastSector.cls ≠ "java/lang/invoke/VarHandle" ∧ (parseMethodDescriptor yX2_lastSector.desc).map (fun d => d.parameters.length) = some 0 := by decide +kernel
set_option maxHeartbeats 4000000 in
set_option maxRecDepth 3000 in
theorem c_X2_lastSector (E : GE) (N : Nat) (hN : 16 ≤ N ∧ N ≤ 64) (a : Nat → Nat) (J : JS) : zI E yX2_lastSector wsX2_lastSector rmX2_lastSector [.ref (a 0)] (wJ E a N J) (jSc J) (wJ E a N J) := by
  refine zI_of (cc := cX2_lastSector) (maxL := 1) (ty := .int) (by decide) rfl (vp_nar_int _) (Nat.le_of_ble_eq_true rfl) ?_
  intro K C ret
  replace C : zC E K cX2_lastSector wsX2_lastSector RX2 rmX2_lastSector 1 := C
  have in2 : ∀ w ∈ wsX20, w ∈ wsX2_lastSector := fun w h => List.mem_cons_of_mem _ (List.mem_append_right _ (h))
  have l54 : zw K (.fieldLink RX2 54 "StoreLog3$Journal" "lastSector" "I") := C.w (List.mem_cons_of_mem _ (List.mem_append_left _ (List.mem_of_getElem? (i := 0) rfl)))
  show Z E K 0 0 (wJ E a N J) 0 [(0, .ref (a 0))] []
  refine z_aload_n C 0 rfl rfl dX2_lastSector_0 ?_
  refine z_get C (Cn := RX2) (T := TX2) (Nf := 12) (ci := 2) in2 0 9 l54 (v := .int (jSc J)) rfl rfl (by decide) rfl dX2_lastSector_1 ?_
  exact ret _ _ _ _ (by first | rfl | (simp only [↓reduceIte]; done) | (simp only [↓reduceIte]; rfl) | (simp [↓reduceIte]; done)) rfl dX2_lastSector_4
abbrev rmX2_needed : Room := { frames := 1, cells := 0, slots := 0, locals := 22 }
theorem hyX2_needed : yX2_needed.cls = RX2 ∧ yX2_needed.cls ≠ "java/lang/invoke/MethodHandle" ∧ yX2_needed.cls ≠ "java/lang/invoke/VarHandle" ∧ (parseMethodDescriptor yX2_needed.desc).map (fun d => d.parameters.length) = some 0 := by decide +kernel
set_option maxHeartbeats 4000000 in
set_option maxRecDepth 3000 in
theorem c_X2_needed (E : GE) (N : Nat) (hN : 16 ≤ N ∧ N ≤ 64) (a : Nat → Nat) (J : JS) : zI E yX2_needed wsX2_needed rmX2_needed [.ref (a 0)] (wJ E a N J) (jNeed N J) (wJ E a N J) := by
  refine zI_of (cc := cX2_needed) (maxL := 1) (ty := .int) (by decide) rfl (vp_nar_int _) (Nat.le_of_ble_eq_true rfl) ?_
  intro K C ret
  replace C : zC E K cX2_needed wsX2_needed RX2 rmX2_needed 1 := C
  have in2 : ∀ w ∈ wsX20, w ∈ wsX2_needed := fun w h => List.mem_cons_of_mem _ (List.mem_append_left _ (List.mem_append_right _ (h)))
  have l26 : zw K (.fieldLink RX2 26 "StoreLog3$Journal" "disk" "LStoreLog3$Sectors;") := C.w (List.mem_cons_of_mem _ (List.mem_append_left _ (List.mem_append_left _ (List.mem_of_getElem? (i := 0) rfl))))
  have l54 : zw K (.fieldLink RX2 54 "StoreLog3$Journal" "lastSector" "I") := C.w (List.mem_cons_of_mem _ (List.mem_append_left _ (List.mem_append_left _ (List.mem_of_getElem? (i := 2) rfl))))
  have l57 : zw K (.fieldLink RX2 57 "StoreLog3$Journal" "firstNeeded" "I") := C.w (List.mem_cons_of_mem _ (List.mem_append_left _ (List.mem_append_left _ (List.mem_of_getElem? (i := 1) rfl))))
  show Z E K 0 0 (wJ E a N J) 0 [(0, .ref (a 0))] []
  refine z_aload_n C 0 rfl rfl dX2_needed_0 ?_
  refine z_get C (Cn := RX2) (T := TX2) (Nf := 12) (ci := 2) in2 0 0 l26 (v := .ref (a 1)) rfl rfl (by decide) rfl dX2_needed_1 ?_
  refine z_aload_n C 0 rfl rfl dX2_needed_4 ?_
  refine z_get C (Cn := RX2) (T := TX2) (Nf := 12) (ci := 2) in2 0 10 l57 (v := .int (jFn J)) rfl rfl (by decide) rfl dX2_needed_5 ?_
  refine z_aload_n C 0 rfl rfl dX2_needed_8 ?_
  refine z_get C (Cn := RX2) (T := TX2) (Nf := 12) (ci := 2) in2 0 9 l54 (v := .int (jSc J)) rfl rfl (by decide) rfl dX2_needed_9 ?_
  refine z_rVI C (c_X3_stepsBetween E N hN (a 1) (a 2) (jDk J) (jFn J) (jSc J)) gX2_needed_X3_stepsBetween (ci := 3) (q0 := 0) rfl rfl hyX3_stepsBetween rfl ⟨rfl, rfl⟩ ⟨by decide, by decide⟩ ⟨by decide, by decide⟩ [1, 2] rfl (by decide) (st := []) (Nat.le_of_ble_eq_true rfl) dX2_needed_12 ?_ rfl
  refine z_iconst C (v := 1) (by decide) dX2_needed_15 ?_
  refine z_iadd C dX2_needed_16 ?_
  exact ret _ _ _ _ (by first | rfl | (simp only [↓reduceIte]; done) | (simp only [↓reduceIte]; rfl) | (simp [↓reduceIte]; done)) rfl dX2_needed_17
abbrev rmX2_hasRoom : Room := { frames := 2, cells := 0, slots := 0, locals := 42 }
theorem hyX2_hasRoom : yX2_hasRoom.cls = RX2 ∧ yX2_hasRoom.cls ≠ "java/lang/invoke/MethodHandle" ∧ yX2_hasRoom.cls ≠ "java/lang/invoke/VarHandle" ∧ (parseMethodDescriptor yX2_hasRoom.desc).map (fun d => d.parameters.length) = some 1 := by decide +kernel
set_option maxHeartbeats 4000000 in
set_option maxRecDepth 3000 in
theorem c_X2_hasRoom (E : GE) (N : Nat) (hN : 16 ≤ N ∧ N ≤ 64) (a : Nat → Nat) (J : JS) (w : Int32) : zI E yX2_hasRoom wsX2_hasRoom rmX2_hasRoom [.ref (a 0), .int w] (wJ E a N J) (jRoom N J w) (wJ E a N J) := by
  refine zI_of (cc := cX2_hasRoom) (maxL := 2) (ty := .boolean) (by decide) rfl (by unfold jRoom; (repeat' split) <;> rfl) (Nat.le_of_ble_eq_true rfl) ?_
  intro K C ret
  replace C : zC E K cX2_hasRoom wsX2_hasRoom RX2 rmX2_hasRoom 2 := C
  have in2 : ∀ w ∈ wsX20, w ∈ wsX2_hasRoom := fun w h => List.mem_cons_of_mem _ (List.mem_append_left _ (List.mem_append_right _ (h)))
  have l26 : zw K (.fieldLink RX2 26 "StoreLog3$Journal" "disk" "LStoreLog3$Sectors;") := C.w (List.mem_cons_of_mem _ (List.mem_append_left _ (List.mem_append_left _ (List.mem_of_getElem? (i := 0) rfl))))
  show Z E K 0 0 (wJ E a N J) 0 [(0, .ref (a 0)), (1, .int w)] []
  refine z_aload_n C 0 rfl rfl dX2_hasRoom_0 ?_
  refine z_rVI C (c_X2_needed E N hN a J) gX2_hasRoom_X2_needed (ci := 2) (q0 := 0) rfl rfl hyX2_needed rfl ⟨rfl, rfl⟩ ⟨by decide, by decide⟩ ⟨by decide, by decide⟩ [0, 1, 2, 3, 4, 5, 6, 7] rfl (by decide) (st := []) (Nat.le_of_ble_eq_true rfl) dX2_hasRoom_1 ?_ rfl
  refine z_iload_n C 1 rfl rfl dX2_hasRoom_4 ?_
  refine z_iadd C dX2_hasRoom_5 ?_
  refine z_aload_n C 0 rfl rfl dX2_hasRoom_6 ?_
  refine z_get C (Cn := RX2) (T := TX2) (Nf := 12) (ci := 2) in2 0 0 l26 (v := .ref (a 1)) rfl rfl (by decide) rfl dX2_hasRoom_7 ?_
  refine z_rVI C (c_X3_size E N hN (a 1) (a 2) (jDk J)) gX2_hasRoom_X3_size (ci := 3) (q0 := 0) rfl rfl hyX3_size rfl ⟨rfl, rfl⟩ ⟨by decide, by decide⟩ ⟨by decide, by decide⟩ [1, 2] rfl (by decide) (st := [.int ((jNeed N J) + w)]) (Nat.le_of_ble_eq_true rfl) dX2_hasRoom_10 ?_ rfl
  refine z_icmp_gt C (tgt := 20) dX2_hasRoom_13 (by decide) (fun h13_1 => ?_) (fun h13_1 => ?_)
  · refine z_iconst C (v := 0) (by decide) dX2_hasRoom_20 ?_
    exact ret _ _ _ _ (by first | rfl | (simp only [jRoom, h13_1, ↓reduceIte]; done) | (simp only [jRoom, h13_1, ↓reduceIte]; rfl) | (simp [jRoom, h13_1, ↓reduceIte]; done)) rfl dX2_hasRoom_21
  · refine z_iconst C (v := 1) (by decide) dX2_hasRoom_16 ?_
    refine z_goto C (tgt := 21) dX2_hasRoom_17 (by decide) ?_
    exact ret _ _ _ _ (by first | rfl | (simp only [jRoom, h13_1, ↓reduceIte]; done) | (simp only [jRoom, h13_1, ↓reduceIte]; rfl) | (simp [jRoom, h13_1, ↓reduceIte]; done)) rfl dX2_hasRoom_21
abbrev rmX2_logsDue : Room := { frames := 0, cells := 0, slots := 0, locals := 0 }
theorem hyX2_logsDue : yX2_logsDue.cls = RX2 ∧ yX2_logsDue.cls ≠ "java/lang/invoke/MethodHandle" ∧ yX2_logsDue.cls ≠ "java/lang/invoke/VarHandle" ∧ (parseMethodDescriptor yX2_logsDue.desc).map (fun d => d.parameters.length) = some 0 := by decide +kernel
set_option maxHeartbeats 4000000 in
set_option maxRecDepth 3000 in
theorem c_X2_logsDue (E : GE) (N : Nat) (hN : 16 ≤ N ∧ N ≤ 64) (a : Nat → Nat) (J : JS) : zI E yX2_logsDue wsX2_logsDue rmX2_logsDue [.ref (a 0)] (wJ E a N J) (jDue J) (wJ E a N J) := by
  refine zI_of (cc := cX2_logsDue) (maxL := 1) (ty := .int) (by decide) rfl (vp_nar_int _) (Nat.le_of_ble_eq_true rfl) ?_
  intro K C ret
  replace C : zC E K cX2_logsDue wsX2_logsDue RX2 rmX2_logsDue 1 := C
  have in2 : ∀ w ∈ wsX20, w ∈ wsX2_logsDue := fun w h => List.mem_cons_of_mem _ (List.mem_append_right _ (h))
  have l63 : zw K (.fieldLink RX2 63 "StoreLog3$Journal" "entries" "I") := C.w (List.mem_cons_of_mem _ (List.mem_append_left _ (List.mem_of_getElem? (i := 0) rfl)))
  show Z E K 0 0 (wJ E a N J) 0 [(0, .ref (a 0))] []
  refine z_aload_n C 0 rfl rfl dX2_logsDue_0 ?_
  refine z_get C (Cn := RX2) (T := TX2) (Nf := 12) (ci := 2) in2 0 5 l63 (v := .int (jEn J)) rfl rfl (by decide) rfl dX2_logsDue_1 ?_
  refine z_if_le C (tgt := 11) dX2_logsDue_4 (by decide) (fun h4_1 => ?_) (fun h4_1 => ?_)
  · refine z_iconst C (v := 0) (by decide) dX2_logsDue_11 ?_
    exact ret _ _ _ _ (by first | rfl | (simp only [jDue, h4_1, ↓reduceIte]; done) | (simp only [jDue, h4_1, ↓reduceIte]; rfl) | (simp [jDue, h4_1, ↓reduceIte]; done)) rfl dX2_logsDue_12
  · refine z_iconst C (v := 1) (by decide) dX2_logsDue_7 ?_
    refine z_goto C (tgt := 12) dX2_logsDue_8 (by decide) ?_
    exact ret _ _ _ _ (by first | rfl | (simp only [jDue, h4_1, ↓reduceIte]; done) | (simp only [jDue, h4_1, ↓reduceIte]; rfl) | (simp [jDue, h4_1, ↓reduceIte]; done)) rfl dX2_logsDue_12
abbrev rmX2_canTakeEntry : Room := { frames := 3, cells := 0, slots := 0, locals := 63 }
theorem hyX2_canTakeEntry : yX2_canTakeEntry.cls = RX2 ∧ yX2_canTakeEntry.cls ≠ "java/lang/invoke/MethodHandle" ∧ yX2_canTakeEntry.cls ≠ "java/lang/invoke/VarHandle" ∧ (parseMethodDescriptor yX2_canTakeEntry.desc).map (fun d => d.parameters.length) = some 0 := by decide +kernel
set_option maxHeartbeats 4000000 in
set_option maxRecDepth 3000 in
theorem c_X2_canTakeEntry (E : GE) (N : Nat) (hN : 16 ≤ N ∧ N ≤ 64) (a : Nat → Nat) (J : JS) : zI E yX2_canTakeEntry wsX2_canTakeEntry rmX2_canTakeEntry [.ref (a 0)] (wJ E a N J) (jCan N J) (wJ E a N J) := by
  refine zI_of (cc := cX2_canTakeEntry) (maxL := 1) (ty := .boolean) (by decide) rfl (by unfold jCan; (repeat' split) <;> rfl) (Nat.le_of_ble_eq_true rfl) ?_
  intro K C ret
  replace C : zC E K cX2_canTakeEntry wsX2_canTakeEntry RX2 rmX2_canTakeEntry 1 := C
  have in2 : ∀ w ∈ wsX20, w ∈ wsX2_canTakeEntry := fun w h => List.mem_cons_of_mem _ (List.mem_append_left _ (List.mem_append_right _ (h)))
  have l63 : zw K (.fieldLink RX2 63 "StoreLog3$Journal" "entries" "I") := C.w (List.mem_cons_of_mem _ (List.mem_append_left _ (List.mem_append_left _ (List.mem_of_getElem? (i := 0) rfl))))
  show Z E K 0 0 (wJ E a N J) 0 [(0, .ref (a 0))] []
  refine z_aload_n C 0 rfl rfl dX2_canTakeEntry_0 ?_
  refine z_get C (Cn := RX2) (T := TX2) (Nf := 12) (ci := 2) in2 0 5 l63 (v := .int (jEn J)) rfl rfl (by decide) rfl dX2_canTakeEntry_1 ?_
  refine z_iconst C (v := 3) (by decide) dX2_canTakeEntry_4 ?_
  refine z_icmp_lt C (tgt := 16) dX2_canTakeEntry_5 (by decide) (fun h5_1 => ?_) (fun h5_1 => ?_)
  · refine z_iconst C (v := 1) (by decide) dX2_canTakeEntry_16 ?_
    refine z_goto C (tgt := 21) dX2_canTakeEntry_17 (by decide) ?_
    exact ret _ _ _ _ (by first | rfl | (simp only [jCan, h5_1, ↓reduceIte]; done) | (simp only [jCan, h5_1, ↓reduceIte]; rfl) | (simp [jCan, h5_1, ↓reduceIte]; done)) rfl dX2_canTakeEntry_21
  · refine z_aload_n C 0 rfl rfl dX2_canTakeEntry_8 ?_
    refine z_iconst C (v := 1) (by decide) dX2_canTakeEntry_9 ?_
    refine z_rVI C (c_X2_hasRoom E N hN a J 1) gX2_canTakeEntry_X2_hasRoom (ci := 2) (q0 := 0) rfl rfl hyX2_hasRoom rfl ⟨rfl, rfl⟩ ⟨by decide, by decide⟩ ⟨by decide, by decide⟩ [0, 1, 2, 3, 4, 5, 6, 7] rfl (by decide) (st := []) (Nat.le_of_ble_eq_true rfl) dX2_canTakeEntry_10 ?_ rfl
    refine z_if_eq C (tgt := 20) dX2_canTakeEntry_13 (by decide) (fun h13_2 => ?_) (fun h13_2 => ?_)
    · refine z_iconst C (v := 0) (by decide) dX2_canTakeEntry_20 ?_
      exact ret _ _ _ _ (by first | rfl | (simp only [jCan, h5_1, h13_2, ↓reduceIte]; done) | (simp only [jCan, h5_1, h13_2, ↓reduceIte]; rfl) | (simp [jCan, h5_1, h13_2, ↓reduceIte]; done)) rfl dX2_canTakeEntry_21
    · refine z_iconst C (v := 1) (by decide) dX2_canTakeEntry_16 ?_
      refine z_goto C (tgt := 21) dX2_canTakeEntry_17 (by decide) ?_
      exact ret _ _ _ _ (by first | rfl | (simp only [jCan, h5_1, h13_2, ↓reduceIte]; done) | (simp only [jCan, h5_1, h13_2, ↓reduceIte]; rfl) | (simp [jCan, h5_1, h13_2, ↓reduceIte]; done)) rfl dX2_canTakeEntry_21
abbrev rmX2_goToNext : Room := { frames := 1, cells := 0, slots := 0, locals := 21 }
theorem hyX2_goToNext : yX2_goToNext.cls = RX2 ∧ yX2_goToNext.cls ≠ "java/lang/invoke/MethodHandle" ∧ yX2_goToNext.cls ≠ "java/lang/invoke/VarHandle" ∧ (parseMethodDescriptor yX2_goToNext.desc).map (fun d => d.parameters.length) = some 0 := by decide +kernel
set_option maxHeartbeats 4000000 in
set_option maxRecDepth 3000 in
theorem c_X2_goToNext (E : GE) (N : Nat) (hN : 16 ≤ N ∧ N ≤ 64) (a : Nat → Nat) (J : JS) : zV E yX2_goToNext wsX2_goToNext rmX2_goToNext [.ref (a 0)] (wJ E a N J) (wJ E a N (jNext N J)) := by
  refine zV_of (cc := cX2_goToNext) (maxL := 1) (by decide) rfl (Nat.le_of_ble_eq_true rfl) ?_
  intro K C ret
  replace C : zC E K cX2_goToNext wsX2_goToNext RX2 rmX2_goToNext 1 := C
  have in2 : ∀ w ∈ wsX20, w ∈ wsX2_goToNext := fun w h => List.mem_cons_of_mem _ (List.mem_append_left _ (List.mem_append_right _ (h)))
  have l26 : zw K (.fieldLink RX2 26 "StoreLog3$Journal" "disk" "LStoreLog3$Sectors;") := C.w (List.mem_cons_of_mem _ (List.mem_append_left _ (List.mem_append_left _ (List.mem_of_getElem? (i := 1) rfl))))
  have l50 : zw K (.fieldLink RX2 50 "StoreLog3$Journal" "lastSerial" "I") := C.w (List.mem_cons_of_mem _ (List.mem_append_left _ (List.mem_append_left _ (List.mem_of_getElem? (i := 0) rfl))))
  have l54 : zw K (.fieldLink RX2 54 "StoreLog3$Journal" "lastSector" "I") := C.w (List.mem_cons_of_mem _ (List.mem_append_left _ (List.mem_append_left _ (List.mem_of_getElem? (i := 2) rfl))))
  have l66 : zw K (.fieldLink RX2 66 "StoreLog3$Journal" "waiting" "I") := C.w (List.mem_cons_of_mem _ (List.mem_append_left _ (List.mem_append_left _ (List.mem_of_getElem? (i := 3) rfl))))
  have l122 : zw K (.fieldLink RX2 122 "StoreLog3$Journal" "firstWaiting" "I") := C.w (List.mem_cons_of_mem _ (List.mem_append_left _ (List.mem_append_left _ (List.mem_of_getElem? (i := 4) rfl))))
  show Z E K 0 0 (wJ E a N J) 0 [(0, .ref (a 0))] []
  refine z_aload_n C 0 rfl rfl dX2_goToNext_0 ?_
  refine z_dup C rfl dX2_goToNext_1 ?_
  refine z_get C (Cn := RX2) (T := TX2) (Nf := 12) (ci := 2) in2 0 8 l50 (v := .int (jSe J)) rfl rfl (by decide) rfl dX2_goToNext_2 ?_
  refine z_iconst C (v := 1) (by decide) dX2_goToNext_5 ?_
  refine z_iadd C dX2_goToNext_6 ?_
  refine z_put C (Cn := RX2) (T := TX2) (Nf := 12) (ci := 2) in2 0 8 l50 rfl rfl (by decide) tyX2 tyX2_ok nmX2 rfl rfl rfl (Nat.le_of_ble_eq_true rfl) (V' := (wJ E a N (jsSe J ((jSe J) + 1)))) rfl dX2_goToNext_7 ?_
  refine z_aload_n C 0 rfl rfl dX2_goToNext_10 ?_
  refine z_aload_n C 0 rfl rfl dX2_goToNext_11 ?_
  refine z_get C (Cn := RX2) (T := TX2) (Nf := 12) (ci := 2) in2 0 0 l26 (v := .ref (a 1)) rfl rfl (by decide) rfl dX2_goToNext_12 ?_
  refine z_aload_n C 0 rfl rfl dX2_goToNext_15 ?_
  refine z_get C (Cn := RX2) (T := TX2) (Nf := 12) (ci := 2) in2 0 9 l54 (v := .int (jSc J)) rfl rfl (by decide) rfl dX2_goToNext_16 ?_
  refine z_rVI C (c_X3_behind E N hN (a 1) (a 2) (jDk J) (jSc J)) gX2_goToNext_X3_behind (ci := 3) (q0 := 0) rfl rfl hyX3_behind rfl ⟨rfl, rfl⟩ ⟨by decide, by decide⟩ ⟨by decide, by decide⟩ [1, 2] rfl (by decide) (st := [.ref (a 0)]) (Nat.le_of_ble_eq_true rfl) dX2_goToNext_19 ?_ rfl
  refine z_put C (Cn := RX2) (T := TX2) (Nf := 12) (ci := 2) in2 0 9 l54 rfl rfl (by decide) tyX2 tyX2_ok nmX2 rfl rfl rfl (Nat.le_of_ble_eq_true rfl) (V' := (wJ E a N (jsSc (jsSe J ((jSe J) + 1)) (bhd N (jSc J))))) rfl dX2_goToNext_22 ?_
  refine z_aload_n C 0 rfl rfl dX2_goToNext_25 ?_
  refine z_get C (Cn := RX2) (T := TX2) (Nf := 12) (ci := 2) in2 0 6 l66 (v := .int (jWa J)) rfl rfl (by decide) rfl dX2_goToNext_26 ?_
  refine z_if_ne C (tgt := 40) dX2_goToNext_29 (by decide) (fun h29_1 => ?_) (fun h29_1 => ?_)
  · refine z_aload_n C 0 rfl rfl dX2_goToNext_40 ?_
    refine z_dup C rfl dX2_goToNext_41 ?_
    refine z_get C (Cn := RX2) (T := TX2) (Nf := 12) (ci := 2) in2 0 6 l66 (v := .int (jWa J)) rfl rfl (by decide) rfl dX2_goToNext_42 ?_
    refine z_iconst C (v := 1) (by decide) dX2_goToNext_45 ?_
    refine z_iadd C dX2_goToNext_46 ?_
    refine z_put C (Cn := RX2) (T := TX2) (Nf := 12) (ci := 2) in2 0 6 l66 rfl rfl (by decide) tyX2 tyX2_ok nmX2 rfl rfl rfl (Nat.le_of_ble_eq_true rfl) (V' := (wJ E a N (jsWa (jsSc (jsSe J ((jSe J) + 1)) (bhd N (jSc J))) ((jWa J) + 1)))) rfl dX2_goToNext_47 ?_
    exact ret _ _ _ (by first | rfl | (simp only [jNext, h29_1, ↓reduceIte]; done) | (simp only [jNext, h29_1, ↓reduceIte]; rfl) | (simp [jNext, h29_1, ↓reduceIte]; done)) dX2_goToNext_50
  · refine z_aload_n C 0 rfl rfl dX2_goToNext_32 ?_
    refine z_aload_n C 0 rfl rfl dX2_goToNext_33 ?_
    refine z_get C (Cn := RX2) (T := TX2) (Nf := 12) (ci := 2) in2 0 9 l54 (v := .int (bhd N (jSc J))) rfl rfl (by decide) rfl dX2_goToNext_34 ?_
    refine z_put C (Cn := RX2) (T := TX2) (Nf := 12) (ci := 2) in2 0 7 l122 rfl rfl (by decide) tyX2 tyX2_ok nmX2 rfl rfl rfl (Nat.le_of_ble_eq_true rfl) (V' := (wJ E a N (jsFw (jsSc (jsSe J ((jSe J) + 1)) (bhd N (jSc J))) (bhd N (jSc J))))) rfl dX2_goToNext_37 ?_
    refine z_aload_n C 0 rfl rfl dX2_goToNext_40 ?_
    refine z_dup C rfl dX2_goToNext_41 ?_
    refine z_get C (Cn := RX2) (T := TX2) (Nf := 12) (ci := 2) in2 0 6 l66 (v := .int (jWa J)) rfl rfl (by decide) rfl dX2_goToNext_42 ?_
    refine z_iconst C (v := 1) (by decide) dX2_goToNext_45 ?_
    refine z_iadd C dX2_goToNext_46 ?_
    refine z_put C (Cn := RX2) (T := TX2) (Nf := 12) (ci := 2) in2 0 6 l66 rfl rfl (by decide) tyX2 tyX2_ok nmX2 rfl rfl rfl (Nat.le_of_ble_eq_true rfl) (V' := (wJ E a N (jsWa (jsFw (jsSc (jsSe J ((jSe J) + 1)) (bhd N (jSc J))) (bhd N (jSc J))) ((jWa J) + 1)))) rfl dX2_goToNext_47 ?_
    exact ret _ _ _ (by first | rfl | (simp only [jNext, h29_1, ↓reduceIte]; done) | (simp only [jNext, h29_1, ↓reduceIte]; rfl) | (simp [jNext, h29_1, ↓reduceIte]; done)) dX2_goToNext_50
abbrev rmX2_writeLog : Room := { frames := 3, cells := 0, slots := 0, locals := 74 }
theorem hyX2_writeLog : yX2_writeLog.cls = RX2 ∧ yX2_writeLog.cls ≠ "java/lang/invoke/MethodHandle" ∧ yX2_writeLog.cls ≠ "java/lang/invoke/VarHandle" ∧ (parseMethodDescriptor yX2_writeLog.desc).map (fun d => d.parameters.length) = some 0 := by decide +kernel
set_option maxHeartbeats 4000000 in
set_option maxRecDepth 3000 in
theorem c_X2_writeLog (E : GE) (N : Nat) (hN : 16 ≤ N ∧ N ≤ 64) (a : Nat → Nat) (J : JS) (e : Nat) (he : jEn J = nI e) (he4 : e ≤ 4) : zV E yX2_writeLog wsX2_writeLog rmX2_writeLog [.ref (a 0)] (wJ E a N J) (wJ E a N (jWL N J e)) := by
  have heN : jEn (jNext N J) = nI e := (jNext_En N J).trans he
  refine zV_of (cc := cX2_writeLog) (maxL := 3) (by decide) rfl (Nat.le_of_ble_eq_true rfl) ?_
  intro K C ret
  replace C : zC E K cX2_writeLog wsX2_writeLog RX2 rmX2_writeLog 3 := C
  have in2 : ∀ w ∈ wsX20, w ∈ wsX2_writeLog := fun w h => List.mem_cons_of_mem _ (List.mem_append_left _ (List.mem_append_right _ (h)))
  have l9 : zw K (.fieldLink RX2 9 "StoreLog3$Journal" "entryHeads" "[I") := C.w (List.mem_cons_of_mem _ (List.mem_append_left _ (List.mem_append_left _ (List.mem_append_left _ (List.mem_of_getElem? (i := 4) rfl)))))
  have l15 : zw K (.fieldLink RX2 15 "StoreLog3$Journal" "entryKeys" "[I") := C.w (List.mem_cons_of_mem _ (List.mem_append_left _ (List.mem_append_left _ (List.mem_append_left _ (List.mem_of_getElem? (i := 5) rfl)))))
  have l18 : zw K (.fieldLink RX2 18 "StoreLog3$Journal" "entryValues" "[I") := C.w (List.mem_cons_of_mem _ (List.mem_append_left _ (List.mem_append_left _ (List.mem_append_left _ (List.mem_of_getElem? (i := 6) rfl)))))
  have l30 : zw K (.fieldLink RX2 30 "StoreLog3$Journal" "memory" "LStoreLog3$Sectors;") := C.w (List.mem_cons_of_mem _ (List.mem_append_left _ (List.mem_append_left _ (List.mem_append_left _ (List.mem_of_getElem? (i := 1) rfl)))))
  have l50 : zw K (.fieldLink RX2 50 "StoreLog3$Journal" "lastSerial" "I") := C.w (List.mem_cons_of_mem _ (List.mem_append_left _ (List.mem_append_left _ (List.mem_append_left _ (List.mem_of_getElem? (i := 3) rfl)))))
  have l54 : zw K (.fieldLink RX2 54 "StoreLog3$Journal" "lastSector" "I") := C.w (List.mem_cons_of_mem _ (List.mem_append_left _ (List.mem_append_left _ (List.mem_append_left _ (List.mem_of_getElem? (i := 2) rfl)))))
  have l63 : zw K (.fieldLink RX2 63 "StoreLog3$Journal" "entries" "I") := C.w (List.mem_cons_of_mem _ (List.mem_append_left _ (List.mem_append_left _ (List.mem_append_left _ (List.mem_of_getElem? (i := 0) rfl)))))
  show Z E K 0 0 (wJ E a N J) 0 [(0, .ref (a 0))] []
  refine z_aload_n C 0 rfl rfl dX2_writeLog_0 ?_
  refine z_get C (Cn := RX2) (T := TX2) (Nf := 12) (ci := 2) in2 0 5 l63 (v := .int (jEn J)) rfl rfl (by decide) rfl dX2_writeLog_1 ?_
  refine z_if_ne C (tgt := 8) dX2_writeLog_4 (by decide) (fun h4_1 => ?_) (fun h4_1 => ?_)
  · refine z_aload_n C 0 rfl rfl dX2_writeLog_8 ?_
    refine z_callVV C (c_X2_goToNext E N hN a J) gX2_writeLog_X2_goToNext (ci := 2) (q0 := 0) rfl rfl hyX2_goToNext rfl ⟨rfl, rfl⟩ ⟨by decide, by decide⟩ ⟨by decide, by decide⟩ [0, 1, 2, 3, 4, 5, 6, 7] [] [0, 1, 2, 3, 4, 5, 6, 7] (wr := []) (V' := (wJ E a N (jNext N J))) rfl rfl (by decide) (by decide) (by decide) rfl (by decide) (st := []) (Nat.le_of_ble_eq_true rfl) dX2_writeLog_9 ?_ rfl
    refine z_aload_n C 0 rfl rfl dX2_writeLog_12 ?_
    refine z_get C (Cn := RX2) (T := TX2) (Nf := 12) (ci := 2) in2 0 1 l30 (v := .ref (a 3)) rfl rfl (by decide) rfl dX2_writeLog_13 ?_
    refine z_aload_n C 0 rfl rfl dX2_writeLog_16 ?_
    refine z_get C (Cn := RX2) (T := TX2) (Nf := 12) (ci := 2) in2 0 9 l54 (v := .int (jSc (jNext N J))) rfl rfl (by decide) rfl dX2_writeLog_17 ?_
    refine z_iconst C (v := 1) (by decide) dX2_writeLog_20 ?_
    refine z_aload_n C 0 rfl rfl dX2_writeLog_21 ?_
    refine z_get C (Cn := RX2) (T := TX2) (Nf := 12) (ci := 2) in2 0 8 l50 (v := .int (jSe (jNext N J))) rfl rfl (by decide) rfl dX2_writeLog_22 ?_
    refine z_aload_n C 0 rfl rfl dX2_writeLog_25 ?_
    refine z_get C (Cn := RX2) (T := TX2) (Nf := 12) (ci := 2) in2 0 5 l63 (v := .int (jEn (jNext N J))) rfl rfl (by decide) rfl dX2_writeLog_26 ?_
    refine z_top (y := (nI e)) heN ?_
    refine z_callVV C (c_X3_prepare E N hN (a 3) (a 4) (jMm (jNext N J)) (jSc (jNext N J)) 1 (jSe (jNext N J)) (nI e)) gX2_writeLog_X3_prepare (ci := 3) (q0 := 0) rfl rfl hyX3_prepare rfl ⟨rfl, rfl⟩ ⟨by decide, by decide⟩ ⟨by decide, by decide⟩ [3, 4] [0, 1, 2, 5, 6, 7] [0, 1, 2, 6, 7, 3, 4, 5] (wr := [((a 0), .inr (2, [.ref (a 1), .ref (a 3), .ref (a 5), .ref (a 6), .ref (a 7), .int (jEn (jNext N J)), .int (jWa (jNext N J)), .int (jFw (jNext N J)), .int (jSe (jNext N J)), .int (jSc (jNext N J)), .int (jFn (jNext N J)), .int (jFp (jNext N J))])), ((a 1), .inr (3, [.int (nI N), .ref (a 2)])), ((a 2), .inl (gB E, 32 * N, .inl (jDk (jNext N J)))), ((a 5), .inl (gI E, 4, .inl (jEh (jNext N J)))), ((a 6), .inl (gI E, 4, .inl (jEk (jNext N J)))), ((a 7), .inl (gI E, 4, .inl (jEv (jNext N J))))]) (V' := (wJ E a N (jsMm (jNext N J) (prep N (jMm (jNext N J)) (jSc (jNext N J)) 1 (jSe (jNext N J)) (nI e))))) rfl rfl (by decide) (by decide) (by decide) rfl (by decide) (st := []) (Nat.le_of_ble_eq_true rfl) dX2_writeLog_29 ?_ rfl
    refine z_iconst C (v := 0) (by decide) dX2_writeLog_32 ?_
    refine z_istore_n C (lv' := [(1, .int 0), (0, .ref (a 0))]) rfl rfl (by decide) dX2_writeLog_33 ?_
    have loop34 : ∀ (n j : Nat), j + n = e → Z E K 0 0 (wJ E a N (jsMm (jNext N J) (wlL N (jSc (jNext N J)) (jEh (jNext N J)) (jEk (jNext N J)) (jEv (jNext N J)) (prep N (jMm (jNext N J)) (jSc (jNext N J)) 1 (jSe (jNext N J)) (nI e)) j))) 34 [(0, .ref (a 0)), (1, .int (nI j))] [] := by
      intro n
      induction n with
      | zero => 
        intro j hj
        obtain rfl : e = j := by omega
        refine z_iload_n C 1 rfl rfl dX2_writeLog_34 ?_
        refine z_aload_n C 0 rfl rfl dX2_writeLog_35 ?_
        refine z_get C (Cn := RX2) (T := TX2) (Nf := 12) (ci := 2) in2 0 5 l63 (v := .int (jEn (jNext N J))) rfl rfl (by decide) rfl dX2_writeLog_36 ?_
        refine z_top (y := (nI e)) heN ?_
        refine z_icmp_ge C (tgt := 119) dX2_writeLog_39 (by decide) (fun h39_2 => ?_) (fun h39_2 => absurd (nI_le (a := e) (b := e) (Nat.le_refl _) (by omega)) h39_2)
        refine z_aload_n C 0 rfl rfl dX2_writeLog_119 ?_
        refine z_get C (Cn := RX2) (T := TX2) (Nf := 12) (ci := 2) in2 0 1 l30 (v := .ref (a 3)) rfl rfl (by decide) rfl dX2_writeLog_120 ?_
        refine z_aload_n C 0 rfl rfl dX2_writeLog_123 ?_
        refine z_get C (Cn := RX2) (T := TX2) (Nf := 12) (ci := 2) in2 0 9 l54 (v := .int (jSc (jNext N J))) rfl rfl (by decide) rfl dX2_writeLog_124 ?_
        refine z_callVV C (c_X3_seal E N hN (a 3) (a 4) (wlL N (jSc (jNext N J)) (jEh (jNext N J)) (jEk (jNext N J)) (jEv (jNext N J)) (prep N (jMm (jNext N J)) (jSc (jNext N J)) 1 (jSe (jNext N J)) (nI e)) e) (jSc (jNext N J))) gX2_writeLog_X3_seal (ci := 3) (q0 := 0) rfl rfl hyX3_seal rfl ⟨rfl, rfl⟩ ⟨by decide, by decide⟩ ⟨by decide, by decide⟩ [3, 4] [0, 1, 2, 5, 6, 7] [0, 1, 2, 6, 7, 3, 4, 5] (wr := [((a 0), .inr (2, [.ref (a 1), .ref (a 3), .ref (a 5), .ref (a 6), .ref (a 7), .int (jEn (jNext N J)), .int (jWa (jNext N J)), .int (jFw (jNext N J)), .int (jSe (jNext N J)), .int (jSc (jNext N J)), .int (jFn (jNext N J)), .int (jFp (jNext N J))])), ((a 1), .inr (3, [.int (nI N), .ref (a 2)])), ((a 2), .inl (gB E, 32 * N, .inl (jDk (jNext N J)))), ((a 5), .inl (gI E, 4, .inl (jEh (jNext N J)))), ((a 6), .inl (gI E, 4, .inl (jEk (jNext N J)))), ((a 7), .inl (gI E, 4, .inl (jEv (jNext N J))))]) (V' := (wJ E a N (jsMm (jNext N J) (sealS N (wlL N (jSc (jNext N J)) (jEh (jNext N J)) (jEk (jNext N J)) (jEv (jNext N J)) (prep N (jMm (jNext N J)) (jSc (jNext N J)) 1 (jSe (jNext N J)) (nI e)) e) (jSc (jNext N J)))))) rfl rfl (by decide) (by decide) (by decide) rfl (by decide) (st := []) (Nat.le_of_ble_eq_true rfl) dX2_writeLog_127 ?_ rfl
        refine z_aload_n C 0 rfl rfl dX2_writeLog_130 ?_
        refine z_iconst C (v := 0) (by decide) dX2_writeLog_131 ?_
        refine z_put C (Cn := RX2) (T := TX2) (Nf := 12) (ci := 2) in2 0 5 l63 rfl rfl (by decide) tyX2 tyX2_ok nmX2 rfl rfl rfl (Nat.le_of_ble_eq_true rfl) (V' := (wJ E a N (jsEn (jsMm (jNext N J) (sealS N (wlL N (jSc (jNext N J)) (jEh (jNext N J)) (jEk (jNext N J)) (jEv (jNext N J)) (prep N (jMm (jNext N J)) (jSc (jNext N J)) 1 (jSe (jNext N J)) (nI e)) e) (jSc (jNext N J)))) 0))) rfl dX2_writeLog_132 ?_
        exact ret _ _ _ (by first | rfl | (simp only [jWL, h4_1, h39_2, ↓reduceIte]; done) | (simp only [jWL, h4_1, h39_2, ↓reduceIte]; rfl) | (simp [jWL, h4_1, h39_2, ↓reduceIte]; done)) dX2_writeLog_135
      | succ n ih34 => 
        intro j hj
        refine z_iload_n C 1 rfl rfl dX2_writeLog_34 ?_
        refine z_aload_n C 0 rfl rfl dX2_writeLog_35 ?_
        refine z_get C (Cn := RX2) (T := TX2) (Nf := 12) (ci := 2) in2 0 5 l63 (v := .int (jEn (jNext N J))) rfl rfl (by decide) rfl dX2_writeLog_36 ?_
        refine z_top (y := (nI e)) heN ?_
        refine z_icmp_ge C (tgt := 119) dX2_writeLog_39 (by decide) (fun h39_3 => absurd h39_3 (nI_ge (a := j) (b := e) (by omega) (by omega))) (fun h39_3 => ?_)
        refine z_iload_n C 1 rfl rfl dX2_writeLog_42 ?_
        refine z_iconst C (v := 4) (by decide) dX2_writeLog_43 ?_
        refine z_icmp_ge C (tgt := 119) dX2_writeLog_44 (by decide) (fun h44_4 => absurd h44_4 (nI_ge (a := j) (b := 4) (by omega) (by omega))) (fun h44_4 => ?_)
        refine z_bipush C (v := 6) (by decide) dX2_writeLog_47 ?_
        refine z_iload_n C 1 rfl rfl dX2_writeLog_49 ?_
        refine z_iconst C (v := 5) (by decide) dX2_writeLog_50 ?_
        refine z_imul C dX2_writeLog_51 ?_
        refine z_iadd C dX2_writeLog_52 ?_
        refine z_istore_n C (lv' := [(2, .int (6 + ((nI j) * 5))), (0, .ref (a 0)), (1, .int (nI j))]) rfl rfl (by decide) dX2_writeLog_53 ?_
        refine z_aload_n C 1 rfl rfl dX2_writeLog_54 ?_
        refine z_get C (Cn := RX2) (T := TX2) (Nf := 12) (ci := 2) in2 0 1 l30 (v := .ref (a 3)) rfl rfl (by decide) rfl dX2_writeLog_55 ?_
        refine z_aload_n C 1 rfl rfl dX2_writeLog_58 ?_
        refine z_get C (Cn := RX2) (T := TX2) (Nf := 12) (ci := 2) in2 0 9 l54 (v := .int (jSc (jNext N J))) rfl rfl (by decide) rfl dX2_writeLog_59 ?_
        refine z_iload_n C 0 rfl rfl dX2_writeLog_62 ?_
        refine z_aload_n C 1 rfl rfl dX2_writeLog_63 ?_
        refine z_get C (Cn := RX2) (T := TX2) (Nf := 12) (ci := 2) in2 0 2 l9 (v := .ref (a 5)) rfl rfl (by decide) rfl dX2_writeLog_64 ?_
        refine z_iload_n C 2 rfl rfl dX2_writeLog_67 ?_
        refine z_iald C 5 rfl (vp_in_nI (by omega) (by omega)) (v := ((jEh (jNext N J)) j)) (congrArg (jEh (jNext N J)) (nI_clamp (by omega))) dX2_writeLog_68 ?_
        refine z_callVV C (c_X3_setByte E N hN (a 3) (a 4) (wlL N (jSc (jNext N J)) (jEh (jNext N J)) (jEk (jNext N J)) (jEv (jNext N J)) (prep N (jMm (jNext N J)) (jSc (jNext N J)) 1 (jSe (jNext N J)) (nI e)) j) (jSc (jNext N J)) (6 + ((nI j) * 5)) ((jEh (jNext N J)) j)) gX2_writeLog_X3_setByte (ci := 3) (q0 := 0) rfl rfl hyX3_setByte rfl ⟨rfl, rfl⟩ ⟨by decide, by decide⟩ ⟨by decide, by decide⟩ [3, 4] [0, 1, 2, 5, 6, 7] [0, 1, 2, 6, 7, 3, 4, 5] (wr := [((a 0), .inr (2, [.ref (a 1), .ref (a 3), .ref (a 5), .ref (a 6), .ref (a 7), .int (jEn (jNext N J)), .int (jWa (jNext N J)), .int (jFw (jNext N J)), .int (jSe (jNext N J)), .int (jSc (jNext N J)), .int (jFn (jNext N J)), .int (jFp (jNext N J))])), ((a 1), .inr (3, [.int (nI N), .ref (a 2)])), ((a 2), .inl (gB E, 32 * N, .inl (jDk (jNext N J)))), ((a 5), .inl (gI E, 4, .inl (jEh (jNext N J)))), ((a 6), .inl (gI E, 4, .inl (jEk (jNext N J)))), ((a 7), .inl (gI E, 4, .inl (jEv (jNext N J))))]) (V' := (wJ E a N (jsMm (jNext N J) (sB N (wlL N (jSc (jNext N J)) (jEh (jNext N J)) (jEk (jNext N J)) (jEv (jNext N J)) (prep N (jMm (jNext N J)) (jSc (jNext N J)) 1 (jSe (jNext N J)) (nI e)) j) (jSc (jNext N J)) (6 + ((nI j) * 5)) ((jEh (jNext N J)) j))))) rfl rfl (by decide) (by decide) (by decide) rfl (by decide) (st := []) (Nat.le_of_ble_eq_true rfl) dX2_writeLog_69 ?_ rfl
        refine z_aload_n C 1 rfl rfl dX2_writeLog_72 ?_
        refine z_get C (Cn := RX2) (T := TX2) (Nf := 12) (ci := 2) in2 0 1 l30 (v := .ref (a 3)) rfl rfl (by decide) rfl dX2_writeLog_73 ?_
        refine z_aload_n C 1 rfl rfl dX2_writeLog_76 ?_
        refine z_get C (Cn := RX2) (T := TX2) (Nf := 12) (ci := 2) in2 0 9 l54 (v := .int (jSc (jNext N J))) rfl rfl (by decide) rfl dX2_writeLog_77 ?_
        refine z_iload_n C 0 rfl rfl dX2_writeLog_80 ?_
        refine z_iconst C (v := 1) (by decide) dX2_writeLog_81 ?_
        refine z_iadd C dX2_writeLog_82 ?_
        refine z_aload_n C 1 rfl rfl dX2_writeLog_83 ?_
        refine z_get C (Cn := RX2) (T := TX2) (Nf := 12) (ci := 2) in2 0 3 l15 (v := .ref (a 6)) rfl rfl (by decide) rfl dX2_writeLog_84 ?_
        refine z_iload_n C 2 rfl rfl dX2_writeLog_87 ?_
        refine z_iald C 6 rfl (vp_in_nI (by omega) (by omega)) (v := ((jEk (jNext N J)) j)) (congrArg (jEk (jNext N J)) (nI_clamp (by omega))) dX2_writeLog_88 ?_
        refine z_callVV C (c_X3_setByte E N hN (a 3) (a 4) (sB N (wlL N (jSc (jNext N J)) (jEh (jNext N J)) (jEk (jNext N J)) (jEv (jNext N J)) (prep N (jMm (jNext N J)) (jSc (jNext N J)) 1 (jSe (jNext N J)) (nI e)) j) (jSc (jNext N J)) (6 + ((nI j) * 5)) ((jEh (jNext N J)) j)) (jSc (jNext N J)) ((6 + ((nI j) * 5)) + 1) ((jEk (jNext N J)) j)) gX2_writeLog_X3_setByte (ci := 3) (q0 := 0) rfl rfl hyX3_setByte rfl ⟨rfl, rfl⟩ ⟨by decide, by decide⟩ ⟨by decide, by decide⟩ [3, 4] [0, 1, 2, 5, 6, 7] [0, 1, 2, 6, 7, 3, 4, 5] (wr := [((a 0), .inr (2, [.ref (a 1), .ref (a 3), .ref (a 5), .ref (a 6), .ref (a 7), .int (jEn (jNext N J)), .int (jWa (jNext N J)), .int (jFw (jNext N J)), .int (jSe (jNext N J)), .int (jSc (jNext N J)), .int (jFn (jNext N J)), .int (jFp (jNext N J))])), ((a 1), .inr (3, [.int (nI N), .ref (a 2)])), ((a 2), .inl (gB E, 32 * N, .inl (jDk (jNext N J)))), ((a 5), .inl (gI E, 4, .inl (jEh (jNext N J)))), ((a 6), .inl (gI E, 4, .inl (jEk (jNext N J)))), ((a 7), .inl (gI E, 4, .inl (jEv (jNext N J))))]) (V' := (wJ E a N (jsMm (jNext N J) (sB N (sB N (wlL N (jSc (jNext N J)) (jEh (jNext N J)) (jEk (jNext N J)) (jEv (jNext N J)) (prep N (jMm (jNext N J)) (jSc (jNext N J)) 1 (jSe (jNext N J)) (nI e)) j) (jSc (jNext N J)) (6 + ((nI j) * 5)) ((jEh (jNext N J)) j)) (jSc (jNext N J)) ((6 + ((nI j) * 5)) + 1) ((jEk (jNext N J)) j))))) rfl rfl (by decide) (by decide) (by decide) rfl (by decide) (st := []) (Nat.le_of_ble_eq_true rfl) dX2_writeLog_89 ?_ rfl
        refine z_aload_n C 1 rfl rfl dX2_writeLog_92 ?_
        refine z_get C (Cn := RX2) (T := TX2) (Nf := 12) (ci := 2) in2 0 1 l30 (v := .ref (a 3)) rfl rfl (by decide) rfl dX2_writeLog_93 ?_
        refine z_aload_n C 1 rfl rfl dX2_writeLog_96 ?_
        refine z_get C (Cn := RX2) (T := TX2) (Nf := 12) (ci := 2) in2 0 9 l54 (v := .int (jSc (jNext N J))) rfl rfl (by decide) rfl dX2_writeLog_97 ?_
        refine z_iload_n C 0 rfl rfl dX2_writeLog_100 ?_
        refine z_iconst C (v := 2) (by decide) dX2_writeLog_101 ?_
        refine z_iadd C dX2_writeLog_102 ?_
        refine z_iconst C (v := 3) (by decide) dX2_writeLog_103 ?_
        refine z_aload_n C 1 rfl rfl dX2_writeLog_104 ?_
        refine z_get C (Cn := RX2) (T := TX2) (Nf := 12) (ci := 2) in2 0 4 l18 (v := .ref (a 7)) rfl rfl (by decide) rfl dX2_writeLog_105 ?_
        refine z_iload_n C 2 rfl rfl dX2_writeLog_108 ?_
        refine z_iald C 7 rfl (vp_in_nI (by omega) (by omega)) (v := ((jEv (jNext N J)) j)) (congrArg (jEv (jNext N J)) (nI_clamp (by omega))) dX2_writeLog_109 ?_
        refine z_callVV C (c_X3_setNumber E N hN (a 3) (a 4) (sB N (sB N (wlL N (jSc (jNext N J)) (jEh (jNext N J)) (jEk (jNext N J)) (jEv (jNext N J)) (prep N (jMm (jNext N J)) (jSc (jNext N J)) 1 (jSe (jNext N J)) (nI e)) j) (jSc (jNext N J)) (6 + ((nI j) * 5)) ((jEh (jNext N J)) j)) (jSc (jNext N J)) ((6 + ((nI j) * 5)) + 1) ((jEk (jNext N J)) j)) (jSc (jNext N J)) ((6 + ((nI j) * 5)) + 2) 3 ((jEv (jNext N J)) j) (by decide)) gX2_writeLog_X3_setNumber (ci := 3) (q0 := 0) rfl rfl hyX3_setNumber rfl ⟨rfl, rfl⟩ ⟨by decide, by decide⟩ ⟨by decide, by decide⟩ [3, 4] [0, 1, 2, 5, 6, 7] [0, 1, 2, 6, 7, 3, 4, 5] (wr := [((a 0), .inr (2, [.ref (a 1), .ref (a 3), .ref (a 5), .ref (a 6), .ref (a 7), .int (jEn (jNext N J)), .int (jWa (jNext N J)), .int (jFw (jNext N J)), .int (jSe (jNext N J)), .int (jSc (jNext N J)), .int (jFn (jNext N J)), .int (jFp (jNext N J))])), ((a 1), .inr (3, [.int (nI N), .ref (a 2)])), ((a 2), .inl (gB E, 32 * N, .inl (jDk (jNext N J)))), ((a 5), .inl (gI E, 4, .inl (jEh (jNext N J)))), ((a 6), .inl (gI E, 4, .inl (jEk (jNext N J)))), ((a 7), .inl (gI E, 4, .inl (jEv (jNext N J))))]) (V' := (wJ E a N (jsMm (jNext N J) (sN N (jSc (jNext N J)) ((6 + ((nI j) * 5)) + 2) 3 (sB N (sB N (wlL N (jSc (jNext N J)) (jEh (jNext N J)) (jEk (jNext N J)) (jEv (jNext N J)) (prep N (jMm (jNext N J)) (jSc (jNext N J)) 1 (jSe (jNext N J)) (nI e)) j) (jSc (jNext N J)) (6 + ((nI j) * 5)) ((jEh (jNext N J)) j)) (jSc (jNext N J)) ((6 + ((nI j) * 5)) + 1) ((jEk (jNext N J)) j)) ((jEv (jNext N J)) j))))) rfl rfl (by decide) (by decide) (by decide) rfl (by decide) (st := []) (Nat.le_of_ble_eq_true rfl) dX2_writeLog_110 ?_ rfl
        refine z_iinc C 2 rfl (v := (nI (j + 1))) (zinc _) (lv' := [(1, .int (nI (j + 1))), (2, .int (6 + ((nI j) * 5))), (0, .ref (a 0))]) rfl (by decide) dX2_writeLog_113 ?_
        refine z_goto C (tgt := 34) dX2_writeLog_116 (by decide) ?_
        refine z_lv (lv' := [(0, .ref (a 0)), (1, .int (nI (j + 1)))]) [2, 0] rfl ?_
        exact ih34 (j + 1)  (by omega)
    refine z_lv (lv' := [(0, .ref (a 0)), (1, .int 0)]) [1, 0] rfl ?_
    exact loop34 e 0  (by omega)
  · exact ret _ _ _ (by first | rfl | (simp only [jWL, h4_1, ↓reduceIte]; done) | (simp only [jWL, h4_1, ↓reduceIte]; rfl) | (simp [jWL, h4_1, ↓reduceIte]; done)) dX2_writeLog_7
abbrev rmX2_takeEntry : Room := { frames := 4, cells := 0, slots := 0, locals := 96 }
theorem hyX2_takeEntry : yX2_takeEntry.cls = RX2 ∧ yX2_takeEntry.cls ≠ "java/lang/invoke/MethodHandle" ∧ yX2_takeEntry.cls ≠ "java/lang/invoke/VarHandle" ∧ (parseMethodDescriptor yX2_takeEntry.desc).map (fun d => d.parameters.length) = some 4 := by decide +kernel
set_option maxHeartbeats 4000000 in
set_option maxRecDepth 3000 in
theorem c_X2_takeEntry (E : GE) (N : Nat) (hN : 16 ≤ N ∧ N ≤ 64) (a : Nat → Nat) (J : JS) (t w k v : Int32) (e : Nat) (he : jEn J = nI e) (he3 : e ≤ 3) : zV E yX2_takeEntry wsX2_takeEntry rmX2_takeEntry [.ref (a 0), .int t, .int w, .int k, .int v] (wJ E a N J) (wJ E a N (jTake N J t w k v e)) := by
  refine zV_of (cc := cX2_takeEntry) (maxL := 5) (by decide) rfl (Nat.le_of_ble_eq_true rfl) ?_
  intro K C ret
  replace C : zC E K cX2_takeEntry wsX2_takeEntry RX2 rmX2_takeEntry 5 := C
  have in2 : ∀ w ∈ wsX20, w ∈ wsX2_takeEntry := fun w h => List.mem_cons_of_mem _ (List.mem_append_left _ (List.mem_append_right _ (h)))
  have l9 : zw K (.fieldLink RX2 9 "StoreLog3$Journal" "entryHeads" "[I") := C.w (List.mem_cons_of_mem _ (List.mem_append_left _ (List.mem_append_left _ (List.mem_append_left _ (List.mem_of_getElem? (i := 1) rfl)))))
  have l15 : zw K (.fieldLink RX2 15 "StoreLog3$Journal" "entryKeys" "[I") := C.w (List.mem_cons_of_mem _ (List.mem_append_left _ (List.mem_append_left _ (List.mem_append_left _ (List.mem_of_getElem? (i := 2) rfl)))))
  have l18 : zw K (.fieldLink RX2 18 "StoreLog3$Journal" "entryValues" "[I") := C.w (List.mem_cons_of_mem _ (List.mem_append_left _ (List.mem_append_left _ (List.mem_append_left _ (List.mem_of_getElem? (i := 3) rfl)))))
  have l63 : zw K (.fieldLink RX2 63 "StoreLog3$Journal" "entries" "I") := C.w (List.mem_cons_of_mem _ (List.mem_append_left _ (List.mem_append_left _ (List.mem_append_left _ (List.mem_of_getElem? (i := 0) rfl)))))
  show Z E K 0 0 (wJ E a N J) 0 [(0, .ref (a 0)), (1, .int t), (2, .int w), (3, .int k), (4, .int v)] []
  refine z_aload_n C 0 rfl rfl dX2_takeEntry_0 ?_
  refine z_get C (Cn := RX2) (T := TX2) (Nf := 12) (ci := 2) in2 0 5 l63 (v := .int (jEn J)) rfl rfl (by decide) rfl dX2_takeEntry_1 ?_
  refine z_top (y := (nI e)) he ?_
  refine z_if_lt C (tgt := 15) dX2_takeEntry_4 (by decide) (fun h4_1 => absurd h4_1 (nI_pos (by omega))) (fun h4_1 => ?_)
  refine z_aload_n C 0 rfl rfl dX2_takeEntry_7 ?_
  refine z_get C (Cn := RX2) (T := TX2) (Nf := 12) (ci := 2) in2 0 5 l63 (v := .int (jEn J)) rfl rfl (by decide) rfl dX2_takeEntry_8 ?_
  refine z_top (y := (nI e)) he ?_
  refine z_iconst C (v := 4) (by decide) dX2_takeEntry_11 ?_
  refine z_icmp_lt C (tgt := 16) dX2_takeEntry_12 (by decide) (fun h12_2 => ?_) (fun h12_2 => absurd (nI_lt (a := e) (b := 4) (by omega) (by omega)) h12_2)
  refine z_aload_n C 0 rfl rfl dX2_takeEntry_16 ?_
  refine z_get C (Cn := RX2) (T := TX2) (Nf := 12) (ci := 2) in2 0 2 l9 (v := .ref (a 5)) rfl rfl (by decide) rfl dX2_takeEntry_17 ?_
  refine z_aload_n C 0 rfl rfl dX2_takeEntry_20 ?_
  refine z_get C (Cn := RX2) (T := TX2) (Nf := 12) (ci := 2) in2 0 5 l63 (v := .int (jEn J)) rfl rfl (by decide) rfl dX2_takeEntry_21 ?_
  refine z_top (y := (nI e)) he ?_
  refine z_iconst C (v := 4) (by decide) dX2_takeEntry_24 ?_
  refine z_iload_n C 1 rfl rfl dX2_takeEntry_25 ?_
  refine z_imul C dX2_takeEntry_26 ?_
  refine z_iload_n C 2 rfl rfl dX2_takeEntry_27 ?_
  refine z_iadd C dX2_takeEntry_28 ?_
  refine z_iast C 5 rfl (vp_in_nI (by omega) (by omega)) (g := (upd (jEh J) e ((4 * t) + w))) (by rw [nI_clamp (by omega)]) (V' := (wJ E a N (jsEh J (upd (jEh J) e ((4 * t) + w))))) rfl dX2_takeEntry_29 ?_
  refine z_aload_n C 0 rfl rfl dX2_takeEntry_30 ?_
  refine z_get C (Cn := RX2) (T := TX2) (Nf := 12) (ci := 2) in2 0 3 l15 (v := .ref (a 6)) rfl rfl (by decide) rfl dX2_takeEntry_31 ?_
  refine z_aload_n C 0 rfl rfl dX2_takeEntry_34 ?_
  refine z_get C (Cn := RX2) (T := TX2) (Nf := 12) (ci := 2) in2 0 5 l63 (v := .int (jEn J)) rfl rfl (by decide) rfl dX2_takeEntry_35 ?_
  refine z_top (y := (nI e)) he ?_
  refine z_iload_n C 3 rfl rfl dX2_takeEntry_38 ?_
  refine z_iast C 6 rfl (vp_in_nI (by omega) (by omega)) (g := (upd (jEk J) e k)) (by rw [nI_clamp (by omega)]) (V' := (wJ E a N (jsEk (jsEh J (upd (jEh J) e ((4 * t) + w))) (upd (jEk J) e k)))) rfl dX2_takeEntry_39 ?_
  refine z_aload_n C 0 rfl rfl dX2_takeEntry_40 ?_
  refine z_get C (Cn := RX2) (T := TX2) (Nf := 12) (ci := 2) in2 0 4 l18 (v := .ref (a 7)) rfl rfl (by decide) rfl dX2_takeEntry_41 ?_
  refine z_aload_n C 0 rfl rfl dX2_takeEntry_44 ?_
  refine z_get C (Cn := RX2) (T := TX2) (Nf := 12) (ci := 2) in2 0 5 l63 (v := .int (jEn J)) rfl rfl (by decide) rfl dX2_takeEntry_45 ?_
  refine z_top (y := (nI e)) he ?_
  refine z_iload C 4 rfl dX2_takeEntry_48 ?_
  refine z_iast C 7 rfl (vp_in_nI (by omega) (by omega)) (g := (upd (jEv J) e v)) (by rw [nI_clamp (by omega)]) (V' := (wJ E a N (jsEv (jsEk (jsEh J (upd (jEh J) e ((4 * t) + w))) (upd (jEk J) e k)) (upd (jEv J) e v)))) rfl dX2_takeEntry_50 ?_
  refine z_aload_n C 0 rfl rfl dX2_takeEntry_51 ?_
  refine z_dup C rfl dX2_takeEntry_52 ?_
  refine z_get C (Cn := RX2) (T := TX2) (Nf := 12) (ci := 2) in2 0 5 l63 (v := .int (jEn J)) rfl rfl (by decide) rfl dX2_takeEntry_53 ?_
  refine z_top (y := (nI e)) he ?_
  refine z_iconst C (v := 1) (by decide) dX2_takeEntry_56 ?_
  refine z_iadd C dX2_takeEntry_57 ?_
  refine z_top (y := (nI (e + 1))) (nI_1 _) ?_
  refine z_put C (Cn := RX2) (T := TX2) (Nf := 12) (ci := 2) in2 0 5 l63 rfl rfl (by decide) tyX2 tyX2_ok nmX2 rfl rfl rfl (Nat.le_of_ble_eq_true rfl) (V' := (wJ E a N (jsEn (jsEv (jsEk (jsEh J (upd (jEh J) e ((4 * t) + w))) (upd (jEk J) e k)) (upd (jEv J) e v)) (nI (e + 1))))) rfl dX2_takeEntry_58 ?_
  refine z_aload_n C 0 rfl rfl dX2_takeEntry_61 ?_
  refine z_get C (Cn := RX2) (T := TX2) (Nf := 12) (ci := 2) in2 0 5 l63 (v := .int (nI (e + 1))) rfl rfl (by decide) rfl dX2_takeEntry_62 ?_
  refine z_iconst C (v := 4) (by decide) dX2_takeEntry_65 ?_
  refine z_icmp_ne C (tgt := 73) dX2_takeEntry_66 (by decide) (fun h66_3 => ?_) (fun h66_3 => ?_)
  · exact ret _ _ _ (by first | rfl | (simp only [jTake, jPut1, h4_1, h12_2, h66_3, ↓reduceIte]; done) | (simp only [jTake, jPut1, h4_1, h12_2, h66_3, ↓reduceIte]; rfl) | (simp [jTake, jPut1, h4_1, h12_2, h66_3, ↓reduceIte]; done)) dX2_takeEntry_73
  · refine z_aload_n C 0 rfl rfl dX2_takeEntry_69 ?_
    refine z_callVV C (c_X2_writeLog E N hN a (jsEn (jsEv (jsEk (jsEh J (upd (jEh J) e ((4 * t) + w))) (upd (jEk J) e k)) (upd (jEv J) e v)) (nI (e + 1))) 4 h66_3 (by decide)) gX2_takeEntry_X2_writeLog (ci := 2) (q0 := 0) rfl rfl hyX2_writeLog rfl ⟨rfl, rfl⟩ ⟨by decide, by decide⟩ ⟨by decide, by decide⟩ [0, 1, 2, 3, 4, 5, 6, 7] [] [0, 1, 2, 3, 4, 5, 6, 7] (wr := []) (V' := (wJ E a N (jWL N (jsEn (jsEv (jsEk (jsEh J (upd (jEh J) e ((4 * t) + w))) (upd (jEk J) e k)) (upd (jEv J) e v)) (nI (e + 1))) 4))) rfl rfl (by decide) (by decide) (by decide) rfl (by decide) (st := []) (Nat.le_of_ble_eq_true rfl) dX2_takeEntry_70 ?_ rfl
    exact ret _ _ _ (by first | rfl | (simp only [jTake, jPut1, h4_1, h12_2, h66_3, ↓reduceIte]; done) | (simp only [jTake, jPut1, h4_1, h12_2, h66_3, ↓reduceIte]; rfl) | (simp [jTake, jPut1, h4_1, h12_2, h66_3, ↓reduceIte]; done)) dX2_takeEntry_73
abbrev rmX2_writePairs : Room := { frames := 3, cells := 0, slots := 0, locals := 74 }
theorem hyX2_writePairs : yX2_writePairs.cls = RX2 ∧ yX2_writePairs.cls ≠ "java/lang/invoke/MethodHandle" ∧ yX2_writePairs.cls ≠ "java/lang/invoke/VarHandle" ∧ (parseMethodDescriptor yX2_writePairs.desc).map (fun d => d.parameters.length) = some 2 := by decide +kernel
set_option maxHeartbeats 4000000 in
set_option maxRecDepth 3000 in
theorem c_X2_writePairs (E : GE) (N : Nat) (hN : 16 ≤ N ∧ N ≤ 64) (a : Nat → Nat) (J : JS) (a2 : Nat → Nat) (D : DS) (fk : Nat) (hk : fk ≤ 32) : zI E yX2_writePairs wsX2_writePairs rmX2_writePairs [.ref (a 0), .ref (a2 0), .int (nI fk)] ((wJ E a N J) ++ (wD E a2 D)) (nI (jWPk N J D fk)) ((wJ E a N (jWPr N J D fk)) ++ (wD E a2 D)) := by
  refine zI_of (cc := cX2_writePairs) (maxL := 6) (ty := .int) (by decide) rfl (vp_nar_int _) (Nat.le_of_ble_eq_true rfl) ?_
  intro K C ret
  replace C : zC E K cX2_writePairs wsX2_writePairs RX2 rmX2_writePairs 6 := C
  have in2 : ∀ w ∈ wsX20, w ∈ wsX2_writePairs := fun w h => List.mem_cons_of_mem _ (List.mem_append_left _ (List.mem_append_left _ (List.mem_append_right _ (h))))
  have l30 : zw K (.fieldLink RX2 30 "StoreLog3$Journal" "memory" "LStoreLog3$Sectors;") := C.w (List.mem_cons_of_mem _ (List.mem_append_left _ (List.mem_append_left _ (List.mem_append_left _ (List.mem_append_left _ (List.mem_of_getElem? (i := 0) rfl))))))
  have l50 : zw K (.fieldLink RX2 50 "StoreLog3$Journal" "lastSerial" "I") := C.w (List.mem_cons_of_mem _ (List.mem_append_left _ (List.mem_append_left _ (List.mem_append_left _ (List.mem_append_left _ (List.mem_of_getElem? (i := 2) rfl))))))
  have l54 : zw K (.fieldLink RX2 54 "StoreLog3$Journal" "lastSector" "I") := C.w (List.mem_cons_of_mem _ (List.mem_append_left _ (List.mem_append_left _ (List.mem_append_left _ (List.mem_append_left _ (List.mem_of_getElem? (i := 1) rfl))))))
  show Z E K 0 0 ((wJ E a N J) ++ (wD E a2 D)) 0 [(0, .ref (a 0)), (1, .ref (a2 0)), (2, .int (nI fk))] []
  refine z_aload_n C 0 rfl rfl dX2_writePairs_0 ?_
  refine z_get C (Cn := RX2) (T := TX2) (Nf := 12) (ci := 2) in2 0 1 l30 (v := .ref (a 3)) rfl rfl (by decide) rfl dX2_writePairs_1 ?_
  refine z_aload_n C 0 rfl rfl dX2_writePairs_4 ?_
  refine z_get C (Cn := RX2) (T := TX2) (Nf := 12) (ci := 2) in2 0 9 l54 (v := .int (jSc J)) rfl rfl (by decide) rfl dX2_writePairs_5 ?_
  refine z_iconst C (v := 2) (by decide) dX2_writePairs_8 ?_
  refine z_aload_n C 0 rfl rfl dX2_writePairs_9 ?_
  refine z_get C (Cn := RX2) (T := TX2) (Nf := 12) (ci := 2) in2 0 8 l50 (v := .int (jSe J)) rfl rfl (by decide) rfl dX2_writePairs_10 ?_
  refine z_iconst C (v := 0) (by decide) dX2_writePairs_13 ?_
  refine z_callVV C (c_X3_prepare E N hN (a 3) (a 4) (jMm J) (jSc J) 2 (jSe J) 0) gX2_writePairs_X3_prepare (ci := 3) (q0 := 0) rfl rfl hyX3_prepare rfl ⟨rfl, rfl⟩ ⟨by decide, by decide⟩ ⟨by decide, by decide⟩ [3, 4] [0, 1, 2, 5, 6, 7, 8, 9, 10, 11] [0, 1, 2, 10, 11, 3, 4, 5, 6, 7, 8, 9] (wr := [((a 0), .inr (2, [.ref (a 1), .ref (a 3), .ref (a 5), .ref (a 6), .ref (a 7), .int (jEn J), .int (jWa J), .int (jFw J), .int (jSe J), .int (jSc J), .int (jFn J), .int (jFp J)])), ((a 1), .inr (3, [.int (nI N), .ref (a 2)])), ((a 2), .inl (gB E, 32 * N, .inl (jDk J))), ((a 5), .inl (gI E, 4, .inl (jEh J))), ((a 6), .inl (gI E, 4, .inl (jEk J))), ((a 7), .inl (gI E, 4, .inl (jEv J))), ((a2 0), .inr (0, [.ref (a2 1), .ref (a2 2), .ref (a2 3), .int (dOp D)])), ((a2 1), .inl (gI E, 32, .inl (dCo D))), ((a2 2), .inl (gI E, 32, .inl (dCh D))), ((a2 3), .inl (gI E, 32, .inl (dHo D)))]) (V' := ((wJ E a N (jsMm J (prep N (jMm J) (jSc J) 2 (jSe J) 0))) ++ (wD E a2 D))) rfl rfl (by decide) (by decide) (by decide) rfl (by decide) (st := []) (Nat.le_of_ble_eq_true rfl) dX2_writePairs_14 ?_ rfl
  refine z_iload_n C 2 rfl rfl dX2_writePairs_17 ?_
  refine z_istore_n C (lv' := [(3, .int (nI fk)), (0, .ref (a 0)), (1, .ref (a2 0)), (2, .int (nI fk))]) rfl rfl (by decide) dX2_writePairs_18 ?_
  refine z_iconst C (v := 0) (by decide) dX2_writePairs_19 ?_
  refine z_istore C (lv' := [(4, .int 0), (3, .int (nI fk)), (0, .ref (a 0)), (1, .ref (a2 0)), (2, .int (nI fk))]) rfl (by decide) dX2_writePairs_20 ?_
  have loop22 : ∀ (n m k : Nat) (g : Nat → Int32), m + n = 5 → k ≤ 32 → wpL N D (jSc J) n m k g = wpL N D (jSc J) 5 0 fk (prep N (jMm J) (jSc J) 2 (jSe J) 0) → Z E K 0 0 ((wJ E a N (jsMm J g)) ++ (wD E a2 D)) 22 [(0, .ref (a 0)), (1, .ref (a2 0)), (3, .int (nI k)), (4, .int (nI m))] [] := by
    intro n
    induction n with
    | zero => 
      intro m k g hj hkk hT
      obtain rfl : m = 5 := by omega
      refine z_iload C 3 rfl dX2_writePairs_22 ?_
      refine z_iconst C (v := 5) (by decide) dX2_writePairs_24 ?_
      refine z_icmp_ge C (tgt := 92) dX2_writePairs_25 (by decide) (fun h25_1 => ?_) (fun h25_1 => absurd (nI_le (a := 5) (b := 5) (Nat.le_refl _) (by omega)) h25_1)
      refine z_aload_n C 0 rfl rfl dX2_writePairs_92 ?_
      refine z_get C (Cn := RX2) (T := TX2) (Nf := 12) (ci := 2) in2 0 1 l30 (v := .ref (a 3)) rfl rfl (by decide) rfl dX2_writePairs_93 ?_
      refine z_aload_n C 0 rfl rfl dX2_writePairs_96 ?_
      refine z_get C (Cn := RX2) (T := TX2) (Nf := 12) (ci := 2) in2 0 9 l54 (v := .int (jSc J)) rfl rfl (by decide) rfl dX2_writePairs_97 ?_
      refine z_iconst C (v := 5) (by decide) dX2_writePairs_100 ?_
      refine z_iload C 3 rfl dX2_writePairs_101 ?_
      refine z_callVV C (c_X3_setByte E N hN (a 3) (a 4) g (jSc J) 5 (nI 5)) gX2_writePairs_X3_setByte (ci := 3) (q0 := 0) rfl rfl hyX3_setByte rfl ⟨rfl, rfl⟩ ⟨by decide, by decide⟩ ⟨by decide, by decide⟩ [3, 4] [0, 1, 2, 5, 6, 7, 8, 9, 10, 11] [0, 1, 2, 10, 11, 3, 4, 5, 6, 7, 8, 9] (wr := [((a 0), .inr (2, [.ref (a 1), .ref (a 3), .ref (a 5), .ref (a 6), .ref (a 7), .int (jEn J), .int (jWa J), .int (jFw J), .int (jSe J), .int (jSc J), .int (jFn J), .int (jFp J)])), ((a 1), .inr (3, [.int (nI N), .ref (a 2)])), ((a 2), .inl (gB E, 32 * N, .inl (jDk J))), ((a 5), .inl (gI E, 4, .inl (jEh J))), ((a 6), .inl (gI E, 4, .inl (jEk J))), ((a 7), .inl (gI E, 4, .inl (jEv J))), ((a2 0), .inr (0, [.ref (a2 1), .ref (a2 2), .ref (a2 3), .int (dOp D)])), ((a2 1), .inl (gI E, 32, .inl (dCo D))), ((a2 2), .inl (gI E, 32, .inl (dCh D))), ((a2 3), .inl (gI E, 32, .inl (dHo D)))]) (V' := ((wJ E a N (jsMm J (sB N g (jSc J) 5 (nI 5)))) ++ (wD E a2 D))) rfl rfl (by decide) (by decide) (by decide) rfl (by decide) (st := []) (Nat.le_of_ble_eq_true rfl) dX2_writePairs_103 ?_ rfl
      refine z_iload_n C 2 rfl rfl dX2_writePairs_106 ?_
      exact ret _ _ _ _ (by unfold jWPk jWPx; rw [← hT]; first | rfl | (simp only [wpL, h25_1, ↓reduceIte]; done) | (simp only [wpL, h25_1, ↓reduceIte]; rfl)) (by unfold jWPr jWPx; rw [← hT]; first | rfl | (simp only [wpL, h25_1, ↓reduceIte]; done) | (simp only [wpL, h25_1, ↓reduceIte]; rfl)) dX2_writePairs_107
    | succ n ih22 => 
      intro m k g hj hkk hT
      refine z_iload C 3 rfl dX2_writePairs_22 ?_
      refine z_iconst C (v := 5) (by decide) dX2_writePairs_24 ?_
      refine z_icmp_ge C (tgt := 92) dX2_writePairs_25 (by decide) (fun h25_2 => absurd h25_2 (nI_ge (a := m) (b := 5) (by omega) (by omega))) (fun h25_2 => ?_)
      refine z_iload_n C 2 rfl rfl dX2_writePairs_28 ?_
      refine z_bipush C (v := 32) (by decide) dX2_writePairs_29 ?_
      refine z_icmp_ge C (tgt := 92) dX2_writePairs_31 (by decide) (fun h31_3 => ?_) (fun h31_3 => ?_)
      · refine z_aload_n C 0 rfl rfl dX2_writePairs_92 ?_
        refine z_get C (Cn := RX2) (T := TX2) (Nf := 12) (ci := 2) in2 0 1 l30 (v := .ref (a 3)) rfl rfl (by decide) rfl dX2_writePairs_93 ?_
        refine z_aload_n C 0 rfl rfl dX2_writePairs_96 ?_
        refine z_get C (Cn := RX2) (T := TX2) (Nf := 12) (ci := 2) in2 0 9 l54 (v := .int (jSc J)) rfl rfl (by decide) rfl dX2_writePairs_97 ?_
        refine z_iconst C (v := 5) (by decide) dX2_writePairs_100 ?_
        refine z_iload C 3 rfl dX2_writePairs_101 ?_
        refine z_callVV C (c_X3_setByte E N hN (a 3) (a 4) g (jSc J) 5 (nI m)) gX2_writePairs_X3_setByte (ci := 3) (q0 := 0) rfl rfl hyX3_setByte rfl ⟨rfl, rfl⟩ ⟨by decide, by decide⟩ ⟨by decide, by decide⟩ [3, 4] [0, 1, 2, 5, 6, 7, 8, 9, 10, 11] [0, 1, 2, 10, 11, 3, 4, 5, 6, 7, 8, 9] (wr := [((a 0), .inr (2, [.ref (a 1), .ref (a 3), .ref (a 5), .ref (a 6), .ref (a 7), .int (jEn J), .int (jWa J), .int (jFw J), .int (jSe J), .int (jSc J), .int (jFn J), .int (jFp J)])), ((a 1), .inr (3, [.int (nI N), .ref (a 2)])), ((a 2), .inl (gB E, 32 * N, .inl (jDk J))), ((a 5), .inl (gI E, 4, .inl (jEh J))), ((a 6), .inl (gI E, 4, .inl (jEk J))), ((a 7), .inl (gI E, 4, .inl (jEv J))), ((a2 0), .inr (0, [.ref (a2 1), .ref (a2 2), .ref (a2 3), .int (dOp D)])), ((a2 1), .inl (gI E, 32, .inl (dCo D))), ((a2 2), .inl (gI E, 32, .inl (dCh D))), ((a2 3), .inl (gI E, 32, .inl (dHo D)))]) (V' := ((wJ E a N (jsMm J (sB N g (jSc J) 5 (nI m)))) ++ (wD E a2 D))) rfl rfl (by decide) (by decide) (by decide) rfl (by decide) (st := []) (Nat.le_of_ble_eq_true rfl) dX2_writePairs_103 ?_ rfl
        refine z_iload_n C 2 rfl rfl dX2_writePairs_106 ?_
        exact ret _ _ _ _ (by unfold jWPk jWPx; rw [← hT]; first | rfl | (simp only [wpL, h25_2, h31_3, ↓reduceIte]; done) | (simp only [wpL, h25_2, h31_3, ↓reduceIte]; rfl)) (by unfold jWPr jWPx; rw [← hT]; first | rfl | (simp only [wpL, h25_2, h31_3, ↓reduceIte]; done) | (simp only [wpL, h25_2, h31_3, ↓reduceIte]; rfl)) dX2_writePairs_107
      · have hk32 : k < 32 := zk32 hkk h31_3
        refine z_bipush C (v := 6) (by decide) dX2_writePairs_34 ?_
        refine z_iload C 3 rfl dX2_writePairs_36 ?_
        refine z_iconst C (v := 4) (by decide) dX2_writePairs_38 ?_
        refine z_imul C dX2_writePairs_39 ?_
        refine z_iadd C dX2_writePairs_40 ?_
        refine z_istore C (lv' := [(5, .int (6 + ((nI m) * 4))), (0, .ref (a 0)), (1, .ref (a2 0)), (3, .int (nI k)), (4, .int (nI m))]) rfl (by decide) dX2_writePairs_41 ?_
        refine z_aload_n C 1 rfl rfl dX2_writePairs_43 ?_
        refine z_get C (Cn := RX2) (T := TX2) (Nf := 12) (ci := 2) in2 0 1 l30 (v := .ref (a 3)) rfl rfl (by decide) rfl dX2_writePairs_44 ?_
        refine z_aload_n C 1 rfl rfl dX2_writePairs_47 ?_
        refine z_get C (Cn := RX2) (T := TX2) (Nf := 12) (ci := 2) in2 0 9 l54 (v := .int (jSc J)) rfl rfl (by decide) rfl dX2_writePairs_48 ?_
        refine z_iload C 0 rfl dX2_writePairs_51 ?_
        refine z_iload_n C 3 rfl rfl dX2_writePairs_53 ?_
        refine z_callVV C (c_X3_setByte E N hN (a 3) (a 4) g (jSc J) (6 + ((nI m) * 4)) (nI k)) gX2_writePairs_X3_setByte (ci := 3) (q0 := 0) rfl rfl hyX3_setByte rfl ⟨rfl, rfl⟩ ⟨by decide, by decide⟩ ⟨by decide, by decide⟩ [3, 4] [0, 1, 2, 5, 6, 7, 8, 9, 10, 11] [0, 1, 2, 10, 11, 3, 4, 5, 6, 7, 8, 9] (wr := [((a 0), .inr (2, [.ref (a 1), .ref (a 3), .ref (a 5), .ref (a 6), .ref (a 7), .int (jEn J), .int (jWa J), .int (jFw J), .int (jSe J), .int (jSc J), .int (jFn J), .int (jFp J)])), ((a 1), .inr (3, [.int (nI N), .ref (a 2)])), ((a 2), .inl (gB E, 32 * N, .inl (jDk J))), ((a 5), .inl (gI E, 4, .inl (jEh J))), ((a 6), .inl (gI E, 4, .inl (jEk J))), ((a 7), .inl (gI E, 4, .inl (jEv J))), ((a2 0), .inr (0, [.ref (a2 1), .ref (a2 2), .ref (a2 3), .int (dOp D)])), ((a2 1), .inl (gI E, 32, .inl (dCo D))), ((a2 2), .inl (gI E, 32, .inl (dCh D))), ((a2 3), .inl (gI E, 32, .inl (dHo D)))]) (V' := ((wJ E a N (jsMm J (sB N g (jSc J) (6 + ((nI m) * 4)) (nI k)))) ++ (wD E a2 D))) rfl rfl (by decide) (by decide) (by decide) rfl (by decide) (st := []) (Nat.le_of_ble_eq_true rfl) dX2_writePairs_54 ?_ rfl
        refine z_aload_n C 1 rfl rfl dX2_writePairs_57 ?_
        refine z_get C (Cn := RX2) (T := TX2) (Nf := 12) (ci := 2) in2 0 1 l30 (v := .ref (a 3)) rfl rfl (by decide) rfl dX2_writePairs_58 ?_
        refine z_aload_n C 1 rfl rfl dX2_writePairs_61 ?_
        refine z_get C (Cn := RX2) (T := TX2) (Nf := 12) (ci := 2) in2 0 9 l54 (v := .int (jSc J)) rfl rfl (by decide) rfl dX2_writePairs_62 ?_
        refine z_iload C 0 rfl dX2_writePairs_65 ?_
        refine z_iconst C (v := 1) (by decide) dX2_writePairs_67 ?_
        refine z_iadd C dX2_writePairs_68 ?_
        refine z_iconst C (v := 3) (by decide) dX2_writePairs_69 ?_
        refine z_aload_n C 2 rfl rfl dX2_writePairs_70 ?_
        refine z_iload_n C 3 rfl rfl dX2_writePairs_71 ?_
        refine z_rVI C (c_X0_committedValue E a2 D (nI k)) gX2_writePairs_X0_committedValue (ci := 0) (q0 := 0) rfl rfl hyX0_committedValue rfl ⟨rfl, rfl⟩ ⟨by decide, by decide⟩ ⟨by decide, by decide⟩ [8, 9, 10, 11] rfl (by decide) (st := [.int 3, .int ((6 + ((nI m) * 4)) + 1), .int (jSc J), .ref (a 3)]) (Nat.le_of_ble_eq_true rfl) dX2_writePairs_72 ?_ rfl
        refine z_callVV C (c_X3_setNumber E N hN (a 3) (a 4) (sB N g (jSc J) (6 + ((nI m) * 4)) (nI k)) (jSc J) ((6 + ((nI m) * 4)) + 1) 3 (dValue D (nI k)) (by decide)) gX2_writePairs_X3_setNumber (ci := 3) (q0 := 0) rfl rfl hyX3_setNumber rfl ⟨rfl, rfl⟩ ⟨by decide, by decide⟩ ⟨by decide, by decide⟩ [3, 4] [0, 1, 2, 5, 6, 7, 8, 9, 10, 11] [0, 1, 2, 10, 11, 3, 4, 5, 6, 7, 8, 9] (wr := [((a 0), .inr (2, [.ref (a 1), .ref (a 3), .ref (a 5), .ref (a 6), .ref (a 7), .int (jEn J), .int (jWa J), .int (jFw J), .int (jSe J), .int (jSc J), .int (jFn J), .int (jFp J)])), ((a 1), .inr (3, [.int (nI N), .ref (a 2)])), ((a 2), .inl (gB E, 32 * N, .inl (jDk J))), ((a 5), .inl (gI E, 4, .inl (jEh J))), ((a 6), .inl (gI E, 4, .inl (jEk J))), ((a 7), .inl (gI E, 4, .inl (jEv J))), ((a2 0), .inr (0, [.ref (a2 1), .ref (a2 2), .ref (a2 3), .int (dOp D)])), ((a2 1), .inl (gI E, 32, .inl (dCo D))), ((a2 2), .inl (gI E, 32, .inl (dCh D))), ((a2 3), .inl (gI E, 32, .inl (dHo D)))]) (V' := ((wJ E a N (jsMm J (sN N (jSc J) ((6 + ((nI m) * 4)) + 1) 3 (sB N g (jSc J) (6 + ((nI m) * 4)) (nI k)) (dValue D (nI k))))) ++ (wD E a2 D))) rfl rfl (by decide) (by decide) (by decide) rfl (by decide) (st := []) (Nat.le_of_ble_eq_true rfl) dX2_writePairs_75 ?_ rfl
        refine z_iinc C 4 rfl (v := (nI (m + 1))) (zinc _) (lv' := [(4, .int (nI (m + 1))), (5, .int (6 + ((nI m) * 4))), (0, .ref (a 0)), (1, .ref (a2 0)), (3, .int (nI k))]) rfl (by decide) dX2_writePairs_78 ?_
        refine z_aload_n C 3 rfl rfl dX2_writePairs_81 ?_
        refine z_iload_n C 4 rfl rfl dX2_writePairs_82 ?_
        refine z_iconst C (v := 1) (by decide) dX2_writePairs_83 ?_
        refine z_iadd C dX2_writePairs_84 ?_
        refine z_top (y := (nI (k + 1))) (nI_1 _) ?_
        refine z_rVI C (c_X0_nextWithValue E a2 D (k + 1) (by omega)) gX2_writePairs_X0_nextWithValue (ci := 0) (q0 := 0) rfl rfl hyX0_nextWithValue rfl ⟨rfl, rfl⟩ ⟨by decide, by decide⟩ ⟨by decide, by decide⟩ [8, 9, 10, 11] rfl (by decide) (st := []) (Nat.le_of_ble_eq_true rfl) dX2_writePairs_85 ?_ rfl
        refine z_istore_n C (lv' := [(3, .int (nI (nxN D (32 - (k + 1)) (k + 1)))), (4, .int (nI (m + 1))), (5, .int (6 + ((nI m) * 4))), (0, .ref (a 0)), (1, .ref (a2 0))]) rfl rfl (by decide) dX2_writePairs_88 ?_
        refine z_goto C (tgt := 22) dX2_writePairs_89 (by decide) ?_
        refine z_lv (lv' := [(0, .ref (a 0)), (1, .ref (a2 0)), (3, .int (nI (nxN D (32 - (k + 1)) (k + 1)))), (4, .int (nI (m + 1)))]) [3, 4, 0, 1] rfl ?_
        exact ih22 (m + 1) _ _ (by omega) (nxN_le D _ _ (by omega)) (by rw [← hT]; simp only [wpL, h25_2, h31_3, ↓reduceIte])
  refine z_lv (lv' := [(0, .ref (a 0)), (1, .ref (a2 0)), (3, .int (nI fk)), (4, .int 0)]) [2, 3, 1, 0] rfl ?_
  exact loop22 5 0 fk _ (by omega) hk rfl
abbrev rmX2_putOnDisk : Room := { frames := 2, cells := 0, slots := 0, locals := 47 }
theorem hyX2_putOnDisk : yX2_putOnDisk.cls = RX2 ∧ yX2_putOnDisk.cls ≠ "java/lang/invoke/MethodHandle" ∧ yX2_putOnDisk.cls ≠ "java/lang/invoke/VarHandle" ∧ (parseMethodDescriptor yX2_putOnDisk.desc).map (fun d => d.parameters.length) = some 1 := by decide +kernel
set_option maxHeartbeats 4000000 in
set_option maxRecDepth 3000 in
theorem c_X2_putOnDisk (E : GE) (N : Nat) (hN : 16 ≤ N ∧ N ≤ 64) (a : Nat → Nat) (J : JS) (w : Nat) (hw : w ≤ 64) : zI E yX2_putOnDisk wsX2_putOnDisk rmX2_putOnDisk [.ref (a 0), .int (nI w)] (wJ E a N J) ((jPod N J w).1) (wJ E a N (jsDk J ((jPod N J w).2))) := by
  refine zI_of (cc := cX2_putOnDisk) (maxL := 4) (ty := .int) (by decide) rfl (vp_nar_int _) (Nat.le_of_ble_eq_true rfl) ?_
  intro K C ret
  replace C : zC E K cX2_putOnDisk wsX2_putOnDisk RX2 rmX2_putOnDisk 4 := C
  have in2 : ∀ w ∈ wsX20, w ∈ wsX2_putOnDisk := fun w h => List.mem_cons_of_mem _ (List.mem_append_left _ (List.mem_append_right _ (h)))
  have l26 : zw K (.fieldLink RX2 26 "StoreLog3$Journal" "disk" "LStoreLog3$Sectors;") := C.w (List.mem_cons_of_mem _ (List.mem_append_left _ (List.mem_append_left _ (List.mem_of_getElem? (i := 1) rfl))))
  have l30 : zw K (.fieldLink RX2 30 "StoreLog3$Journal" "memory" "LStoreLog3$Sectors;") := C.w (List.mem_cons_of_mem _ (List.mem_append_left _ (List.mem_append_left _ (List.mem_of_getElem? (i := 2) rfl))))
  have l122 : zw K (.fieldLink RX2 122 "StoreLog3$Journal" "firstWaiting" "I") := C.w (List.mem_cons_of_mem _ (List.mem_append_left _ (List.mem_append_left _ (List.mem_of_getElem? (i := 0) rfl))))
  show Z E K 0 0 (wJ E a N J) 0 [(0, .ref (a 0)), (1, .int (nI w))] []
  refine z_aload_n C 0 rfl rfl dX2_putOnDisk_0 ?_
  refine z_get C (Cn := RX2) (T := TX2) (Nf := 12) (ci := 2) in2 0 7 l122 (v := .int (jFw J)) rfl rfl (by decide) rfl dX2_putOnDisk_1 ?_
  refine z_istore_n C (lv' := [(2, .int (jFw J)), (0, .ref (a 0)), (1, .int (nI w))]) rfl rfl (by decide) dX2_putOnDisk_4 ?_
  refine z_iconst C (v := 0) (by decide) dX2_putOnDisk_5 ?_
  refine z_istore_n C (lv' := [(3, .int 0), (2, .int (jFw J)), (0, .ref (a 0)), (1, .int (nI w))]) rfl rfl (by decide) dX2_putOnDisk_6 ?_
  have loop7 : ∀ (n j : Nat) (s : Int32) (d : Nat → Int32), j + n = w → pod N (jMm J) n s d = pod N (jMm J) w (jFw J) (jDk J) → Z E K 0 0 (wJ E a N (jsDk J d)) 7 [(0, .ref (a 0)), (1, .int (nI w)), (2, .int s), (3, .int (nI j))] [] := by
    intro n
    induction n with
    | zero => 
      intro j s d hj hT
      obtain rfl : w = j := by omega
      refine z_iload_n C 3 rfl rfl dX2_putOnDisk_7 ?_
      refine z_iload_n C 1 rfl rfl dX2_putOnDisk_8 ?_
      refine z_icmp_ge C (tgt := 41) dX2_putOnDisk_9 (by decide) (fun h9_1 => ?_) (fun h9_1 => absurd (nI_le (a := w) (b := w) (Nat.le_refl _) (by omega)) h9_1)
      refine z_iload_n C 2 rfl rfl dX2_putOnDisk_41 ?_
      exact ret _ _ _ _ (by unfold jPod; rw [← hT]; rfl) (by unfold jPod; rw [← hT]; rfl) dX2_putOnDisk_42
    | succ n ih7 => 
      intro j s d hj hT
      refine z_iload_n C 3 rfl rfl dX2_putOnDisk_7 ?_
      refine z_iload_n C 1 rfl rfl dX2_putOnDisk_8 ?_
      refine z_icmp_ge C (tgt := 41) dX2_putOnDisk_9 (by decide) (fun h9_2 => absurd h9_2 (nI_ge (a := j) (b := w) (by omega) (by omega))) (fun h9_2 => ?_)
      refine z_aload_n C 0 rfl rfl dX2_putOnDisk_12 ?_
      refine z_get C (Cn := RX2) (T := TX2) (Nf := 12) (ci := 2) in2 0 0 l26 (v := .ref (a 1)) rfl rfl (by decide) rfl dX2_putOnDisk_13 ?_
      refine z_aload_n C 0 rfl rfl dX2_putOnDisk_16 ?_
      refine z_get C (Cn := RX2) (T := TX2) (Nf := 12) (ci := 2) in2 0 1 l30 (v := .ref (a 3)) rfl rfl (by decide) rfl dX2_putOnDisk_17 ?_
      refine z_iload_n C 2 rfl rfl dX2_putOnDisk_20 ?_
      refine z_bipush C (v := 32) (by decide) dX2_putOnDisk_21 ?_
      refine z_callVV C (c_X3_copyStart E N hN (a 1) (a 2) d (a 3) (a 4) (jMm J) s 32 (by decide)) gX2_putOnDisk_X3_copyStart (ci := 3) (q0 := 0) rfl rfl hyX3_copyStart rfl ⟨rfl, rfl⟩ ⟨by decide, by decide⟩ ⟨by decide, by decide⟩ [1, 2, 3, 4] [0, 5, 6, 7] [0, 4, 5, 6, 7, 1, 2, 3] (wr := [((a 0), .inr (2, [.ref (a 1), .ref (a 3), .ref (a 5), .ref (a 6), .ref (a 7), .int (jEn J), .int (jWa J), .int (jFw J), .int (jSe J), .int (jSc J), .int (jFn J), .int (jFp J)])), ((a 5), .inl (gI E, 4, .inl (jEh J))), ((a 6), .inl (gI E, 4, .inl (jEk J))), ((a 7), .inl (gI E, 4, .inl (jEv J)))]) (V' := (wJ E a N (jsDk J (cpS N d (jMm J) s 32)))) rfl rfl (by decide) (by decide) (by decide) rfl (by decide) (st := []) (Nat.le_of_ble_eq_true rfl) dX2_putOnDisk_23 ?_ rfl
      refine z_aload_n C 0 rfl rfl dX2_putOnDisk_26 ?_
      refine z_get C (Cn := RX2) (T := TX2) (Nf := 12) (ci := 2) in2 0 0 l26 (v := .ref (a 1)) rfl rfl (by decide) rfl dX2_putOnDisk_27 ?_
      refine z_iload_n C 2 rfl rfl dX2_putOnDisk_30 ?_
      refine z_rVI C (c_X3_behind E N hN (a 1) (a 2) (cpS N d (jMm J) s 32) s) gX2_putOnDisk_X3_behind (ci := 3) (q0 := 0) rfl rfl hyX3_behind rfl ⟨rfl, rfl⟩ ⟨by decide, by decide⟩ ⟨by decide, by decide⟩ [1, 2] rfl (by decide) (st := []) (Nat.le_of_ble_eq_true rfl) dX2_putOnDisk_31 ?_ rfl
      refine z_istore_n C (lv' := [(2, .int (bhd N s)), (0, .ref (a 0)), (1, .int (nI w)), (3, .int (nI j))]) rfl rfl (by decide) dX2_putOnDisk_34 ?_
      refine z_iinc C 3 rfl (v := (nI (j + 1))) (zinc _) (lv' := [(3, .int (nI (j + 1))), (2, .int (bhd N s)), (0, .ref (a 0)), (1, .int (nI w))]) rfl (by decide) dX2_putOnDisk_35 ?_
      refine z_goto C (tgt := 7) dX2_putOnDisk_38 (by decide) ?_
      refine z_lv (lv' := [(0, .ref (a 0)), (1, .int (nI w)), (2, .int (bhd N s)), (3, .int (nI (j + 1)))]) [2, 3, 1, 0] rfl ?_
      exact ih7 (j + 1) _ _ (by omega) hT
  refine z_lv (lv' := [(0, .ref (a 0)), (1, .int (nI w)), (2, .int (jFw J)), (3, .int 0)]) [2, 3, 1, 0] rfl ?_
  exact loop7 w 0 _ _ (by omega) rfl
abbrev rmX2_putAllOnDisk : Room := { frames := 3, cells := 0, slots := 0, locals := 70 }
theorem hyX2_putAllOnDisk : yX2_putAllOnDisk.cls = RX2 ∧ yX2_putAllOnDisk.cls ≠ "java/lang/invoke/MethodHandle" ∧ yX2_putAllOnDisk.cls ≠ "java/lang/invoke/VarHandle" ∧ (parseMethodDescriptor yX2_putAllOnDisk.desc).map (fun d => d.parameters.length) = some 0 := by decide +kernel
set_option maxHeartbeats 4000000 in
set_option maxRecDepth 3000 in
theorem c_X2_putAllOnDisk (E : GE) (N : Nat) (hN : 16 ≤ N ∧ N ≤ 64) (a : Nat → Nat) (J : JS) (w : Nat) (hw : jWa J = nI w) (hw2 : w ≤ 64) : zI E yX2_putAllOnDisk wsX2_putAllOnDisk rmX2_putAllOnDisk [.ref (a 0)] (wJ E a N J) (nI w) (wJ E a N (jAll N J w)) := by
  refine zI_of (cc := cX2_putAllOnDisk) (maxL := 2) (ty := .int) (by decide) rfl (vp_nar_int _) (Nat.le_of_ble_eq_true rfl) ?_
  intro K C ret
  replace C : zC E K cX2_putAllOnDisk wsX2_putAllOnDisk RX2 rmX2_putAllOnDisk 2 := C
  have in2 : ∀ w ∈ wsX20, w ∈ wsX2_putAllOnDisk := fun w h => List.mem_cons_of_mem _ (List.mem_append_left _ (List.mem_append_right _ (h)))
  have l57 : zw K (.fieldLink RX2 57 "StoreLog3$Journal" "firstNeeded" "I") := C.w (List.mem_cons_of_mem _ (List.mem_append_left _ (List.mem_append_left _ (List.mem_append_left _ (List.mem_of_getElem? (i := 2) rfl)))))
  have l66 : zw K (.fieldLink RX2 66 "StoreLog3$Journal" "waiting" "I") := C.w (List.mem_cons_of_mem _ (List.mem_append_left _ (List.mem_append_left _ (List.mem_append_left _ (List.mem_of_getElem? (i := 0) rfl)))))
  have l99 : zw K (.fieldLink RX2 99 "StoreLog3$Journal" "firstPageWaiting" "I") := C.w (List.mem_cons_of_mem _ (List.mem_append_left _ (List.mem_append_left _ (List.mem_append_left _ (List.mem_of_getElem? (i := 1) rfl)))))
  show Z E K 0 0 (wJ E a N J) 0 [(0, .ref (a 0))] []
  refine z_aload_n C 0 rfl rfl dX2_putAllOnDisk_0 ?_
  refine z_get C (Cn := RX2) (T := TX2) (Nf := 12) (ci := 2) in2 0 6 l66 (v := .int (jWa J)) rfl rfl (by decide) rfl dX2_putAllOnDisk_1 ?_
  refine z_top (y := (nI w)) hw ?_
  refine z_istore_n C (lv' := [(1, .int (nI w)), (0, .ref (a 0))]) rfl rfl (by decide) dX2_putAllOnDisk_4 ?_
  refine z_aload_n C 1 rfl rfl dX2_putAllOnDisk_5 ?_
  refine z_aload_n C 1 rfl rfl dX2_putAllOnDisk_6 ?_
  refine z_get C (Cn := RX2) (T := TX2) (Nf := 12) (ci := 2) in2 0 6 l66 (v := .int (jWa J)) rfl rfl (by decide) rfl dX2_putAllOnDisk_7 ?_
  refine z_top (y := (nI w)) hw ?_
  refine z_callVI C (c_X2_putOnDisk E N hN a J w hw2) gX2_putAllOnDisk_X2_putOnDisk (ci := 2) (q0 := 0) rfl rfl hyX2_putOnDisk rfl ⟨rfl, rfl⟩ ⟨by decide, by decide⟩ ⟨by decide, by decide⟩ [0, 1, 2, 3, 4, 5, 6, 7] [] [0, 1, 2, 3, 4, 5, 6, 7] (wr := []) (V' := (wJ E a N (jsDk J ((jPod N J w).2)))) rfl rfl (by decide) (by decide) (by decide) rfl (by decide) (st := []) (Nat.le_of_ble_eq_true rfl) dX2_putAllOnDisk_10 ?_ rfl
  refine z_pop C rfl dX2_putAllOnDisk_13 ?_
  refine z_aload_n C 1 rfl rfl dX2_putAllOnDisk_14 ?_
  refine z_iconst C (v := 0) (by decide) dX2_putAllOnDisk_15 ?_
  refine z_put C (Cn := RX2) (T := TX2) (Nf := 12) (ci := 2) in2 0 6 l66 rfl rfl (by decide) tyX2 tyX2_ok nmX2 rfl rfl rfl (Nat.le_of_ble_eq_true rfl) (V' := (wJ E a N (jsWa (jsDk J ((jPod N J w).2)) 0))) rfl dX2_putAllOnDisk_16 ?_
  refine z_aload_n C 1 rfl rfl dX2_putAllOnDisk_19 ?_
  refine z_get C (Cn := RX2) (T := TX2) (Nf := 12) (ci := 2) in2 0 11 l99 (v := .int (jFp J)) rfl rfl (by decide) rfl dX2_putAllOnDisk_20 ?_
  refine z_iconst C (v := (-1)) (by decide) dX2_putAllOnDisk_23 ?_
  refine z_icmp_eq C (tgt := 40) dX2_putAllOnDisk_24 (by decide) (fun h24_1 => ?_) (fun h24_1 => ?_)
  · refine z_iload_n C 0 rfl rfl dX2_putAllOnDisk_40 ?_
    exact ret _ _ _ _ (by first | rfl | (simp only [jAll, h24_1, ↓reduceIte]; done) | (simp only [jAll, h24_1, ↓reduceIte]; rfl) | (simp [jAll, h24_1, ↓reduceIte]; done)) (by first | rfl | (simp only [jAll, h24_1, ↓reduceIte]; done) | (simp only [jAll, h24_1, ↓reduceIte]; rfl) | (simp [jAll, h24_1, ↓reduceIte]; done)) dX2_putAllOnDisk_41
  · refine z_aload_n C 1 rfl rfl dX2_putAllOnDisk_27 ?_
    refine z_aload_n C 1 rfl rfl dX2_putAllOnDisk_28 ?_
    refine z_get C (Cn := RX2) (T := TX2) (Nf := 12) (ci := 2) in2 0 11 l99 (v := .int (jFp J)) rfl rfl (by decide) rfl dX2_putAllOnDisk_29 ?_
    refine z_put C (Cn := RX2) (T := TX2) (Nf := 12) (ci := 2) in2 0 10 l57 rfl rfl (by decide) tyX2 tyX2_ok nmX2 rfl rfl rfl (Nat.le_of_ble_eq_true rfl) (V' := (wJ E a N (jsFn (jsWa (jsDk J ((jPod N J w).2)) 0) (jFp J)))) rfl dX2_putAllOnDisk_32 ?_
    refine z_aload_n C 1 rfl rfl dX2_putAllOnDisk_35 ?_
    refine z_iconst C (v := (-1)) (by decide) dX2_putAllOnDisk_36 ?_
    refine z_put C (Cn := RX2) (T := TX2) (Nf := 12) (ci := 2) in2 0 11 l99 rfl rfl (by decide) tyX2 tyX2_ok nmX2 rfl rfl rfl (Nat.le_of_ble_eq_true rfl) (V' := (wJ E a N (jsFp (jsFn (jsWa (jsDk J ((jPod N J w).2)) 0) (jFp J)) (-1)))) rfl dX2_putAllOnDisk_37 ?_
    refine z_iload_n C 0 rfl rfl dX2_putAllOnDisk_40 ?_
    exact ret _ _ _ _ (by first | rfl | (simp only [jAll, h24_1, ↓reduceIte]; done) | (simp only [jAll, h24_1, ↓reduceIte]; rfl) | (simp [jAll, h24_1, ↓reduceIte]; done)) (by first | rfl | (simp only [jAll, h24_1, ↓reduceIte]; done) | (simp only [jAll, h24_1, ↓reduceIte]; rfl) | (simp [jAll, h24_1, ↓reduceIte]; done)) dX2_putAllOnDisk_41
abbrev rmX2_forgetMemory : Room := { frames := 0, cells := 0, slots := 0, locals := 0 }
theorem hyX2_forgetMemory : yX2_forgetMemory.cls = RX2 ∧ yX2_forgetMemory.cls ≠ "java/lang/invoke/MethodHandle" ∧ yX2_forgetMemory.cls ≠ "java/lang/invoke/VarHandle" ∧ (parseMethodDescriptor yX2_forgetMemory.desc).map (fun d => d.parameters.length) = some 0 := by decide +kernel
set_option maxHeartbeats 4000000 in
set_option maxRecDepth 3000 in
theorem c_X2_forgetMemory (E : GE) (N : Nat) (hN : 16 ≤ N ∧ N ≤ 64) (a : Nat → Nat) (J : JS) : zV E yX2_forgetMemory wsX2_forgetMemory rmX2_forgetMemory [.ref (a 0)] (wJ E a N J) (wJ E a N (jForget J)) := by
  refine zV_of (cc := cX2_forgetMemory) (maxL := 1) (by decide) rfl (Nat.le_of_ble_eq_true rfl) ?_
  intro K C ret
  replace C : zC E K cX2_forgetMemory wsX2_forgetMemory RX2 rmX2_forgetMemory 1 := C
  have in2 : ∀ w ∈ wsX20, w ∈ wsX2_forgetMemory := fun w h => List.mem_cons_of_mem _ (List.mem_append_right _ (h))
  have l63 : zw K (.fieldLink RX2 63 "StoreLog3$Journal" "entries" "I") := C.w (List.mem_cons_of_mem _ (List.mem_append_left _ (List.mem_of_getElem? (i := 0) rfl)))
  have l66 : zw K (.fieldLink RX2 66 "StoreLog3$Journal" "waiting" "I") := C.w (List.mem_cons_of_mem _ (List.mem_append_left _ (List.mem_of_getElem? (i := 1) rfl)))
  have l99 : zw K (.fieldLink RX2 99 "StoreLog3$Journal" "firstPageWaiting" "I") := C.w (List.mem_cons_of_mem _ (List.mem_append_left _ (List.mem_of_getElem? (i := 2) rfl)))
  show Z E K 0 0 (wJ E a N J) 0 [(0, .ref (a 0))] []
  refine z_aload_n C 0 rfl rfl dX2_forgetMemory_0 ?_
  refine z_iconst C (v := 0) (by decide) dX2_forgetMemory_1 ?_
  refine z_put C (Cn := RX2) (T := TX2) (Nf := 12) (ci := 2) in2 0 5 l63 rfl rfl (by decide) tyX2 tyX2_ok nmX2 rfl rfl rfl (Nat.le_of_ble_eq_true rfl) (V' := (wJ E a N (jsEn J 0))) rfl dX2_forgetMemory_2 ?_
  refine z_aload_n C 0 rfl rfl dX2_forgetMemory_5 ?_
  refine z_iconst C (v := 0) (by decide) dX2_forgetMemory_6 ?_
  refine z_put C (Cn := RX2) (T := TX2) (Nf := 12) (ci := 2) in2 0 6 l66 rfl rfl (by decide) tyX2 tyX2_ok nmX2 rfl rfl rfl (Nat.le_of_ble_eq_true rfl) (V' := (wJ E a N (jsWa (jsEn J 0) 0))) rfl dX2_forgetMemory_7 ?_
  refine z_aload_n C 0 rfl rfl dX2_forgetMemory_10 ?_
  refine z_iconst C (v := (-1)) (by decide) dX2_forgetMemory_11 ?_
  refine z_put C (Cn := RX2) (T := TX2) (Nf := 12) (ci := 2) in2 0 11 l99 rfl rfl (by decide) tyX2 tyX2_ok nmX2 rfl rfl rfl (Nat.le_of_ble_eq_true rfl) (V' := (wJ E a N (jsFp (jsWa (jsEn J 0) 0) (-1)))) rfl dX2_forgetMemory_12 ?_
  exact ret _ _ _ (by first | rfl | (simp only [↓reduceIte]; done) | (simp only [↓reduceIte]; rfl) | (simp [↓reduceIte]; done)) dX2_forgetMemory_15
abbrev rmX2_loseMemory : Room := { frames := 3, cells := 0, slots := 0, locals := 70 }
theorem hyX2_loseMemory : yX2_loseMemory.cls = RX2 ∧ yX2_loseMemory.cls ≠ "java/lang/invoke/MethodHandle" ∧ yX2_loseMemory.cls ≠ "java/lang/invoke/VarHandle" ∧ (parseMethodDescriptor yX2_loseMemory.desc).map (fun d => d.parameters.length) = some 2 := by decide +kernel
set_option maxHeartbeats 4000000 in
set_option maxRecDepth 3000 in
theorem c_X2_loseMemory (E : GE) (N : Nat) (hN : 16 ≤ N ∧ N ≤ 64) (a : Nat → Nat) (J : JS) (kp tr w : Nat) (hw : jWa J = nI w) (hkp : kp ≤ 64) (htr : tr ≤ 32) : zV E yX2_loseMemory wsX2_loseMemory rmX2_loseMemory [.ref (a 0), .int (nI kp), .int (nI tr)] (wJ E a N J) (wJ E a N (jLose N J kp tr w)) := by
  refine zV_of (cc := cX2_loseMemory) (maxL := 4) (by decide) rfl (Nat.le_of_ble_eq_true rfl) ?_
  intro K C ret
  replace C : zC E K cX2_loseMemory wsX2_loseMemory RX2 rmX2_loseMemory 4 := C
  have in2 : ∀ w ∈ wsX20, w ∈ wsX2_loseMemory := fun w h => List.mem_cons_of_mem _ (List.mem_append_left _ (List.mem_append_right _ (h)))
  have l26 : zw K (.fieldLink RX2 26 "StoreLog3$Journal" "disk" "LStoreLog3$Sectors;") := C.w (List.mem_cons_of_mem _ (List.mem_append_left _ (List.mem_append_left _ (List.mem_append_left _ (List.mem_of_getElem? (i := 1) rfl)))))
  have l30 : zw K (.fieldLink RX2 30 "StoreLog3$Journal" "memory" "LStoreLog3$Sectors;") := C.w (List.mem_cons_of_mem _ (List.mem_append_left _ (List.mem_append_left _ (List.mem_append_left _ (List.mem_of_getElem? (i := 2) rfl)))))
  have l66 : zw K (.fieldLink RX2 66 "StoreLog3$Journal" "waiting" "I") := C.w (List.mem_cons_of_mem _ (List.mem_append_left _ (List.mem_append_left _ (List.mem_append_left _ (List.mem_of_getElem? (i := 0) rfl)))))
  show Z E K 0 0 (wJ E a N J) 0 [(0, .ref (a 0)), (1, .int (nI kp)), (2, .int (nI tr))] []
  refine z_aload_n C 0 rfl rfl dX2_loseMemory_0 ?_
  refine z_iload_n C 1 rfl rfl dX2_loseMemory_1 ?_
  refine z_callVI C (c_X2_putOnDisk E N hN a J kp hkp) gX2_loseMemory_X2_putOnDisk (ci := 2) (q0 := 0) rfl rfl hyX2_putOnDisk rfl ⟨rfl, rfl⟩ ⟨by decide, by decide⟩ ⟨by decide, by decide⟩ [0, 1, 2, 3, 4, 5, 6, 7] [] [0, 1, 2, 3, 4, 5, 6, 7] (wr := []) (V' := (wJ E a N (jsDk J ((jPod N J kp).2)))) rfl rfl (by decide) (by decide) (by decide) rfl (by decide) (st := []) (Nat.le_of_ble_eq_true rfl) dX2_loseMemory_2 ?_ rfl
  refine z_istore_n C (lv' := [(3, .int ((jPod N J kp).1)), (0, .ref (a 0)), (1, .int (nI kp)), (2, .int (nI tr))]) rfl rfl (by decide) dX2_loseMemory_5 ?_
  refine z_iload_n C 2 rfl rfl dX2_loseMemory_6 ?_
  refine z_aload_n C 1 rfl rfl dX2_loseMemory_7 ?_
  refine z_get C (Cn := RX2) (T := TX2) (Nf := 12) (ci := 2) in2 0 6 l66 (v := .int (jWa J)) rfl rfl (by decide) rfl dX2_loseMemory_8 ?_
  refine z_top (y := (nI w)) hw ?_
  refine z_icmp_ge C (tgt := 27) dX2_loseMemory_11 (by decide) (fun h11_1 => ?_) (fun h11_1 => ?_)
  · refine z_aload_n C 1 rfl rfl dX2_loseMemory_27 ?_
    refine z_callVV C (c_X2_forgetMemory E N hN a (jsDk J ((jPod N J kp).2))) gX2_loseMemory_X2_forgetMemory (ci := 2) (q0 := 0) rfl rfl hyX2_forgetMemory rfl ⟨rfl, rfl⟩ ⟨by decide, by decide⟩ ⟨by decide, by decide⟩ [0, 1, 2, 3, 4, 5, 6, 7] [] [0, 1, 2, 3, 4, 5, 6, 7] (wr := []) (V' := (wJ E a N (jForget (jsDk J ((jPod N J kp).2))))) rfl rfl (by decide) (by decide) (by decide) rfl (by decide) (st := []) (Nat.le_of_ble_eq_true rfl) dX2_loseMemory_28 ?_ rfl
    exact ret _ _ _ (by first | rfl | (simp only [jLose, h11_1, ↓reduceIte]; done) | (simp only [jLose, h11_1, ↓reduceIte]; rfl) | (simp [jLose, h11_1, ↓reduceIte]; done)) dX2_loseMemory_31
  · refine z_aload_n C 1 rfl rfl dX2_loseMemory_14 ?_
    refine z_get C (Cn := RX2) (T := TX2) (Nf := 12) (ci := 2) in2 0 0 l26 (v := .ref (a 1)) rfl rfl (by decide) rfl dX2_loseMemory_15 ?_
    refine z_aload_n C 1 rfl rfl dX2_loseMemory_18 ?_
    refine z_get C (Cn := RX2) (T := TX2) (Nf := 12) (ci := 2) in2 0 1 l30 (v := .ref (a 3)) rfl rfl (by decide) rfl dX2_loseMemory_19 ?_
    refine z_iload_n C 0 rfl rfl dX2_loseMemory_22 ?_
    refine z_iload_n C 3 rfl rfl dX2_loseMemory_23 ?_
    refine z_callVV C (c_X3_copyStart E N hN (a 1) (a 2) ((jPod N J kp).2) (a 3) (a 4) (jMm J) ((jPod N J kp).1) tr htr) gX2_loseMemory_X3_copyStart (ci := 3) (q0 := 0) rfl rfl hyX3_copyStart rfl ⟨rfl, rfl⟩ ⟨by decide, by decide⟩ ⟨by decide, by decide⟩ [1, 2, 3, 4] [0, 5, 6, 7] [0, 4, 5, 6, 7, 1, 2, 3] (wr := [((a 0), .inr (2, [.ref (a 1), .ref (a 3), .ref (a 5), .ref (a 6), .ref (a 7), .int (jEn J), .int (jWa J), .int (jFw J), .int (jSe J), .int (jSc J), .int (jFn J), .int (jFp J)])), ((a 5), .inl (gI E, 4, .inl (jEh J))), ((a 6), .inl (gI E, 4, .inl (jEk J))), ((a 7), .inl (gI E, 4, .inl (jEv J)))]) (V' := (wJ E a N (jsDk J (cpS N ((jPod N J kp).2) (jMm J) ((jPod N J kp).1) tr)))) rfl rfl (by decide) (by decide) (by decide) rfl (by decide) (st := []) (Nat.le_of_ble_eq_true rfl) dX2_loseMemory_24 ?_ rfl
    refine z_aload_n C 1 rfl rfl dX2_loseMemory_27 ?_
    refine z_callVV C (c_X2_forgetMemory E N hN a (jsDk J (cpS N ((jPod N J kp).2) (jMm J) ((jPod N J kp).1) tr))) gX2_loseMemory_X2_forgetMemory (ci := 2) (q0 := 0) rfl rfl hyX2_forgetMemory rfl ⟨rfl, rfl⟩ ⟨by decide, by decide⟩ ⟨by decide, by decide⟩ [0, 1, 2, 3, 4, 5, 6, 7] [] [0, 1, 2, 3, 4, 5, 6, 7] (wr := []) (V' := (wJ E a N (jForget (jsDk J (cpS N ((jPod N J kp).2) (jMm J) ((jPod N J kp).1) tr))))) rfl rfl (by decide) (by decide) (by decide) rfl (by decide) (st := []) (Nat.le_of_ble_eq_true rfl) dX2_loseMemory_28 ?_ rfl
    exact ret _ _ _ (by first | rfl | (simp only [jLose, h11_1, ↓reduceIte]; done) | (simp only [jLose, h11_1, ↓reduceIte]; rfl) | (simp [jLose, h11_1, ↓reduceIte]; done)) dX2_loseMemory_31
abbrev rmX2_goOn : Room := { frames := 3, cells := 0, slots := 0, locals := 68 }
theorem hyX2_goOn : yX2_goOn.cls = RX2 ∧ yX2_goOn.cls ≠ "java/lang/invoke/MethodHandle" ∧ yX2_goOn.cls ≠ "java/lang/invoke/VarHandle" ∧ (parseMethodDescriptor yX2_goOn.desc).map (fun d => d.parameters.length) = some 2 := by decide +kernel
set_option maxHeartbeats 4000000 in
set_option maxRecDepth 3000 in
theorem c_X2_goOn (E : GE) (N : Nat) (hN : 16 ≤ N ∧ N ≤ 64) (a : Nat → Nat) (J : JS) (fp re : Int32) : zV E yX2_goOn wsX2_goOn rmX2_goOn [.ref (a 0), .int fp, .int re] (wJ E a N J) (wJ E a N (jGoOn N J fp re)) := by
  refine zV_of (cc := cX2_goOn) (maxL := 3) (by decide) rfl (Nat.le_of_ble_eq_true rfl) ?_
  intro K C ret
  replace C : zC E K cX2_goOn wsX2_goOn RX2 rmX2_goOn 3 := C
  have in2 : ∀ w ∈ wsX20, w ∈ wsX2_goOn := fun w h => List.mem_cons_of_mem _ (List.mem_append_left _ (List.mem_append_right _ (h)))
  have l26 : zw K (.fieldLink RX2 26 "StoreLog3$Journal" "disk" "LStoreLog3$Sectors;") := C.w (List.mem_cons_of_mem _ (List.mem_append_left _ (List.mem_append_left _ (List.mem_of_getElem? (i := 2) rfl))))
  have l50 : zw K (.fieldLink RX2 50 "StoreLog3$Journal" "lastSerial" "I") := C.w (List.mem_cons_of_mem _ (List.mem_append_left _ (List.mem_append_left _ (List.mem_of_getElem? (i := 3) rfl))))
  have l54 : zw K (.fieldLink RX2 54 "StoreLog3$Journal" "lastSector" "I") := C.w (List.mem_cons_of_mem _ (List.mem_append_left _ (List.mem_append_left _ (List.mem_of_getElem? (i := 1) rfl))))
  have l57 : zw K (.fieldLink RX2 57 "StoreLog3$Journal" "firstNeeded" "I") := C.w (List.mem_cons_of_mem _ (List.mem_append_left _ (List.mem_append_left _ (List.mem_of_getElem? (i := 0) rfl))))
  show Z E K 0 0 (wJ E a N J) 0 [(0, .ref (a 0)), (1, .int fp), (2, .int re)] []
  refine z_aload_n C 0 rfl rfl dX2_goOn_0 ?_
  refine z_iload_n C 1 rfl rfl dX2_goOn_1 ?_
  refine z_put C (Cn := RX2) (T := TX2) (Nf := 12) (ci := 2) in2 0 10 l57 rfl rfl (by decide) tyX2 tyX2_ok nmX2 rfl rfl rfl (Nat.le_of_ble_eq_true rfl) (V' := (wJ E a N (jsFn J fp))) rfl dX2_goOn_2 ?_
  refine z_aload_n C 0 rfl rfl dX2_goOn_5 ?_
  refine z_iload_n C 2 rfl rfl dX2_goOn_6 ?_
  refine z_put C (Cn := RX2) (T := TX2) (Nf := 12) (ci := 2) in2 0 9 l54 rfl rfl (by decide) tyX2 tyX2_ok nmX2 rfl rfl rfl (Nat.le_of_ble_eq_true rfl) (V' := (wJ E a N (jsSc (jsFn J fp) re))) rfl dX2_goOn_7 ?_
  refine z_aload_n C 0 rfl rfl dX2_goOn_10 ?_
  refine z_aload_n C 0 rfl rfl dX2_goOn_11 ?_
  refine z_get C (Cn := RX2) (T := TX2) (Nf := 12) (ci := 2) in2 0 0 l26 (v := .ref (a 1)) rfl rfl (by decide) rfl dX2_goOn_12 ?_
  refine z_iload_n C 2 rfl rfl dX2_goOn_15 ?_
  refine z_rVI C (c_X3_serialOf E N hN (a 1) (a 2) (jDk J) re) gX2_goOn_X3_serialOf (ci := 3) (q0 := 0) rfl rfl hyX3_serialOf rfl ⟨rfl, rfl⟩ ⟨by decide, by decide⟩ ⟨by decide, by decide⟩ [1, 2] rfl (by decide) (st := [.ref (a 0)]) (Nat.le_of_ble_eq_true rfl) dX2_goOn_16 ?_ rfl
  refine z_put C (Cn := RX2) (T := TX2) (Nf := 12) (ci := 2) in2 0 8 l50 rfl rfl (by decide) tyX2 tyX2_ok nmX2 rfl rfl rfl (Nat.le_of_ble_eq_true rfl) (V' := (wJ E a N (jsSe (jsSc (jsFn J fp) re) (nOf N (jDk J) re 1 4)))) rfl dX2_goOn_19 ?_
  exact ret _ _ _ (by first | rfl | (simp only [↓reduceIte]; done) | (simp only [↓reduceIte]; rfl) | (simp [↓reduceIte]; done)) dX2_goOn_22
abbrev rmX2_beginAnew : Room := { frames := 3, cells := 0, slots := 0, locals := 74 }
theorem hyX2_beginAnew : yX2_beginAnew.cls = RX2 ∧ yX2_beginAnew.cls ≠ "java/lang/invoke/MethodHandle" ∧ yX2_beginAnew.cls ≠ "java/lang/invoke/VarHandle" ∧ (parseMethodDescriptor yX2_beginAnew.desc).map (fun d => d.parameters.length) = some 0 := by decide +kernel
set_option maxHeartbeats 4000000 in
set_option maxRecDepth 3000 in
theorem c_X2_beginAnew (E : GE) (N : Nat) (hN : 16 ≤ N ∧ N ≤ 64) (a : Nat → Nat) (J : JS) : zV E yX2_beginAnew wsX2_beginAnew rmX2_beginAnew [.ref (a 0)] (wJ E a N J) (wJ E a N (jBegin N J)) := by
  refine zV_of (cc := cX2_beginAnew) (maxL := 1) (by decide) rfl (Nat.le_of_ble_eq_true rfl) ?_
  intro K C ret
  replace C : zC E K cX2_beginAnew wsX2_beginAnew RX2 rmX2_beginAnew 1 := C
  have in2 : ∀ w ∈ wsX20, w ∈ wsX2_beginAnew := fun w h => List.mem_cons_of_mem _ (List.mem_append_left _ (List.mem_append_right _ (h)))
  have l26 : zw K (.fieldLink RX2 26 "StoreLog3$Journal" "disk" "LStoreLog3$Sectors;") := C.w (List.mem_cons_of_mem _ (List.mem_append_left _ (List.mem_append_left _ (List.mem_append_left _ (List.mem_of_getElem? (i := 0) rfl)))))
  have l50 : zw K (.fieldLink RX2 50 "StoreLog3$Journal" "lastSerial" "I") := C.w (List.mem_cons_of_mem _ (List.mem_append_left _ (List.mem_append_left _ (List.mem_append_left _ (List.mem_of_getElem? (i := 1) rfl)))))
  have l54 : zw K (.fieldLink RX2 54 "StoreLog3$Journal" "lastSector" "I") := C.w (List.mem_cons_of_mem _ (List.mem_append_left _ (List.mem_append_left _ (List.mem_append_left _ (List.mem_of_getElem? (i := 2) rfl)))))
  have l57 : zw K (.fieldLink RX2 57 "StoreLog3$Journal" "firstNeeded" "I") := C.w (List.mem_cons_of_mem _ (List.mem_append_left _ (List.mem_append_left _ (List.mem_append_left _ (List.mem_of_getElem? (i := 3) rfl)))))
  show Z E K 0 0 (wJ E a N J) 0 [(0, .ref (a 0))] []
  refine z_aload_n C 0 rfl rfl dX2_beginAnew_0 ?_
  refine z_get C (Cn := RX2) (T := TX2) (Nf := 12) (ci := 2) in2 0 0 l26 (v := .ref (a 1)) rfl rfl (by decide) rfl dX2_beginAnew_1 ?_
  refine z_callVV C (c_X3_clear E N hN (a 1) (a 2) (jDk J)) gX2_beginAnew_X3_clear (ci := 3) (q0 := 0) rfl rfl hyX3_clear rfl ⟨rfl, rfl⟩ ⟨by decide, by decide⟩ ⟨by decide, by decide⟩ [1, 2] [0, 3, 4, 5, 6, 7] [0, 6, 7, 1, 2, 3, 4, 5] (wr := [((a 0), .inr (2, [.ref (a 1), .ref (a 3), .ref (a 5), .ref (a 6), .ref (a 7), .int (jEn J), .int (jWa J), .int (jFw J), .int (jSe J), .int (jSc J), .int (jFn J), .int (jFp J)])), ((a 3), .inr (3, [.int (nI N), .ref (a 4)])), ((a 4), .inl (gB E, 32 * N, .inl (jMm J))), ((a 5), .inl (gI E, 4, .inl (jEh J))), ((a 6), .inl (gI E, 4, .inl (jEk J))), ((a 7), .inl (gI E, 4, .inl (jEv J)))]) (V' := (wJ E a N (jsDk J (clA (jDk J) (32 * N))))) rfl rfl (by decide) (by decide) (by decide) rfl (by decide) (st := []) (Nat.le_of_ble_eq_true rfl) dX2_beginAnew_4 ?_ rfl
  refine z_aload_n C 0 rfl rfl dX2_beginAnew_7 ?_
  refine z_get C (Cn := RX2) (T := TX2) (Nf := 12) (ci := 2) in2 0 0 l26 (v := .ref (a 1)) rfl rfl (by decide) rfl dX2_beginAnew_8 ?_
  refine z_iconst C (v := 0) (by decide) dX2_beginAnew_11 ?_
  refine z_iconst C (v := 2) (by decide) dX2_beginAnew_12 ?_
  refine z_iconst C (v := 1) (by decide) dX2_beginAnew_13 ?_
  refine z_iconst C (v := 0) (by decide) dX2_beginAnew_14 ?_
  refine z_callVV C (c_X3_prepare E N hN (a 1) (a 2) (clA (jDk J) (32 * N)) 0 2 1 0) gX2_beginAnew_X3_prepare (ci := 3) (q0 := 0) rfl rfl hyX3_prepare rfl ⟨rfl, rfl⟩ ⟨by decide, by decide⟩ ⟨by decide, by decide⟩ [1, 2] [0, 3, 4, 5, 6, 7] [0, 6, 7, 1, 2, 3, 4, 5] (wr := [((a 0), .inr (2, [.ref (a 1), .ref (a 3), .ref (a 5), .ref (a 6), .ref (a 7), .int (jEn J), .int (jWa J), .int (jFw J), .int (jSe J), .int (jSc J), .int (jFn J), .int (jFp J)])), ((a 3), .inr (3, [.int (nI N), .ref (a 4)])), ((a 4), .inl (gB E, 32 * N, .inl (jMm J))), ((a 5), .inl (gI E, 4, .inl (jEh J))), ((a 6), .inl (gI E, 4, .inl (jEk J))), ((a 7), .inl (gI E, 4, .inl (jEv J)))]) (V' := (wJ E a N (jsDk J (prep N (clA (jDk J) (32 * N)) 0 2 1 0)))) rfl rfl (by decide) (by decide) (by decide) rfl (by decide) (st := []) (Nat.le_of_ble_eq_true rfl) dX2_beginAnew_15 ?_ rfl
  refine z_aload_n C 0 rfl rfl dX2_beginAnew_18 ?_
  refine z_get C (Cn := RX2) (T := TX2) (Nf := 12) (ci := 2) in2 0 0 l26 (v := .ref (a 1)) rfl rfl (by decide) rfl dX2_beginAnew_19 ?_
  refine z_iconst C (v := 0) (by decide) dX2_beginAnew_22 ?_
  refine z_bipush C (v := 27) (by decide) dX2_beginAnew_23 ?_
  refine z_iconst C (v := 1) (by decide) dX2_beginAnew_25 ?_
  refine z_callVV C (c_X3_setByte E N hN (a 1) (a 2) (prep N (clA (jDk J) (32 * N)) 0 2 1 0) 0 27 1) gX2_beginAnew_X3_setByte (ci := 3) (q0 := 0) rfl rfl hyX3_setByte rfl ⟨rfl, rfl⟩ ⟨by decide, by decide⟩ ⟨by decide, by decide⟩ [1, 2] [0, 3, 4, 5, 6, 7] [0, 6, 7, 1, 2, 3, 4, 5] (wr := [((a 0), .inr (2, [.ref (a 1), .ref (a 3), .ref (a 5), .ref (a 6), .ref (a 7), .int (jEn J), .int (jWa J), .int (jFw J), .int (jSe J), .int (jSc J), .int (jFn J), .int (jFp J)])), ((a 3), .inr (3, [.int (nI N), .ref (a 4)])), ((a 4), .inl (gB E, 32 * N, .inl (jMm J))), ((a 5), .inl (gI E, 4, .inl (jEh J))), ((a 6), .inl (gI E, 4, .inl (jEk J))), ((a 7), .inl (gI E, 4, .inl (jEv J)))]) (V' := (wJ E a N (jsDk J (sB N (prep N (clA (jDk J) (32 * N)) 0 2 1 0) 0 27 1)))) rfl rfl (by decide) (by decide) (by decide) rfl (by decide) (st := []) (Nat.le_of_ble_eq_true rfl) dX2_beginAnew_26 ?_ rfl
  refine z_aload_n C 0 rfl rfl dX2_beginAnew_29 ?_
  refine z_get C (Cn := RX2) (T := TX2) (Nf := 12) (ci := 2) in2 0 0 l26 (v := .ref (a 1)) rfl rfl (by decide) rfl dX2_beginAnew_30 ?_
  refine z_iconst C (v := 0) (by decide) dX2_beginAnew_33 ?_
  refine z_callVV C (c_X3_seal E N hN (a 1) (a 2) (sB N (prep N (clA (jDk J) (32 * N)) 0 2 1 0) 0 27 1) 0) gX2_beginAnew_X3_seal (ci := 3) (q0 := 0) rfl rfl hyX3_seal rfl ⟨rfl, rfl⟩ ⟨by decide, by decide⟩ ⟨by decide, by decide⟩ [1, 2] [0, 3, 4, 5, 6, 7] [0, 6, 7, 1, 2, 3, 4, 5] (wr := [((a 0), .inr (2, [.ref (a 1), .ref (a 3), .ref (a 5), .ref (a 6), .ref (a 7), .int (jEn J), .int (jWa J), .int (jFw J), .int (jSe J), .int (jSc J), .int (jFn J), .int (jFp J)])), ((a 3), .inr (3, [.int (nI N), .ref (a 4)])), ((a 4), .inl (gB E, 32 * N, .inl (jMm J))), ((a 5), .inl (gI E, 4, .inl (jEh J))), ((a 6), .inl (gI E, 4, .inl (jEk J))), ((a 7), .inl (gI E, 4, .inl (jEv J)))]) (V' := (wJ E a N (jsDk J (sealS N (sB N (prep N (clA (jDk J) (32 * N)) 0 2 1 0) 0 27 1) 0)))) rfl rfl (by decide) (by decide) (by decide) rfl (by decide) (st := []) (Nat.le_of_ble_eq_true rfl) dX2_beginAnew_34 ?_ rfl
  refine z_aload_n C 0 rfl rfl dX2_beginAnew_37 ?_
  refine z_iconst C (v := 1) (by decide) dX2_beginAnew_38 ?_
  refine z_put C (Cn := RX2) (T := TX2) (Nf := 12) (ci := 2) in2 0 8 l50 rfl rfl (by decide) tyX2 tyX2_ok nmX2 rfl rfl rfl (Nat.le_of_ble_eq_true rfl) (V' := (wJ E a N (jsSe (jsDk J (sealS N (sB N (prep N (clA (jDk J) (32 * N)) 0 2 1 0) 0 27 1) 0)) 1))) rfl dX2_beginAnew_39 ?_
  refine z_aload_n C 0 rfl rfl dX2_beginAnew_42 ?_
  refine z_iconst C (v := 0) (by decide) dX2_beginAnew_43 ?_
  refine z_put C (Cn := RX2) (T := TX2) (Nf := 12) (ci := 2) in2 0 9 l54 rfl rfl (by decide) tyX2 tyX2_ok nmX2 rfl rfl rfl (Nat.le_of_ble_eq_true rfl) (V' := (wJ E a N (jsSc (jsSe (jsDk J (sealS N (sB N (prep N (clA (jDk J) (32 * N)) 0 2 1 0) 0 27 1) 0)) 1) 0))) rfl dX2_beginAnew_44 ?_
  refine z_aload_n C 0 rfl rfl dX2_beginAnew_47 ?_
  refine z_iconst C (v := 0) (by decide) dX2_beginAnew_48 ?_
  refine z_put C (Cn := RX2) (T := TX2) (Nf := 12) (ci := 2) in2 0 10 l57 rfl rfl (by decide) tyX2 tyX2_ok nmX2 rfl rfl rfl (Nat.le_of_ble_eq_true rfl) (V' := (wJ E a N (jsFn (jsSc (jsSe (jsDk J (sealS N (sB N (prep N (clA (jDk J) (32 * N)) 0 2 1 0) 0 27 1) 0)) 1) 0) 0))) rfl dX2_beginAnew_49 ?_
  refine z_aload_n C 0 rfl rfl dX2_beginAnew_52 ?_
  refine z_callVV C (c_X2_forgetMemory E N hN a (jsFn (jsSc (jsSe (jsDk J (sealS N (sB N (prep N (clA (jDk J) (32 * N)) 0 2 1 0) 0 27 1) 0)) 1) 0) 0)) gX2_beginAnew_X2_forgetMemory (ci := 2) (q0 := 0) rfl rfl hyX2_forgetMemory rfl ⟨rfl, rfl⟩ ⟨by decide, by decide⟩ ⟨by decide, by decide⟩ [0, 1, 2, 3, 4, 5, 6, 7] [] [0, 1, 2, 3, 4, 5, 6, 7] (wr := []) (V' := (wJ E a N (jForget (jsFn (jsSc (jsSe (jsDk J (sealS N (sB N (prep N (clA (jDk J) (32 * N)) 0 2 1 0) 0 27 1) 0)) 1) 0) 0)))) rfl rfl (by decide) (by decide) (by decide) rfl (by decide) (st := []) (Nat.le_of_ble_eq_true rfl) dX2_beginAnew_53 ?_ rfl
  exact ret _ _ _ (by first | rfl | (simp only [↓reduceIte]; done) | (simp only [↓reduceIte]; rfl) | (simp [↓reduceIte]; done)) dX2_beginAnew_56

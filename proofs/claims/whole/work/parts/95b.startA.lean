/-! Part 95b: start in every state -/
set_option maxHeartbeats 4000000 in
set_option maxRecDepth 3000 in
theorem c_X4_startU (E : GE) (N : Nat) (hN : 16 ≤ N ∧ N ≤ 64) (a : Nat → Nat) (X : XS) (h0 : xDn X = 0) : zI E yX4_start wsX4_start rmX4_start [.ref (a 0)] (wX E a N X) ((xStart N X).1) (wX E a N ((xStart N X).2)) := by
  refine zI_of (cc := cX4_start) (maxL := 1) (ty := .int) (by decide) rfl (vp_nar_int _) (Nat.le_of_ble_eq_true rfl) ?_
  intro K C ret
  replace C : zC E K cX4_start wsX4_start RX4 rmX4_start 1 := C
  have in2 : ∀ w ∈ wsX20, w ∈ wsX4_start := fun w h => List.mem_cons_of_mem _ (List.mem_append_left _ (List.mem_append_left _ (List.mem_append_left _ (List.mem_append_right _ (h)))))
  have in4 : ∀ w ∈ wsX40, w ∈ wsX4_start := fun w h => List.mem_cons_of_mem _ (List.mem_append_left _ (List.mem_append_left _ (List.mem_append_left _ (List.mem_append_left _ (List.mem_append_right _ (h))))))
  have l12 : zw K (.fieldLink RX4 12 "StoreLog3" "journal" "LStoreLog3$Journal;") := C.w (List.mem_cons_of_mem _ (List.mem_append_left _ (List.mem_append_left _ (List.mem_append_left _ (List.mem_append_left _ (List.mem_append_left _ (List.mem_append_left _ (List.mem_of_getElem? (i := 2) rfl))))))))
  have l21 : zw K (.fieldLink RX4 21 "StoreLog3" "dictionary" "LStoreLog3$Dictionary;") := C.w (List.mem_cons_of_mem _ (List.mem_append_left _ (List.mem_append_left _ (List.mem_append_left _ (List.mem_append_left _ (List.mem_append_left _ (List.mem_append_left _ (List.mem_of_getElem? (i := 4) rfl))))))))
  have l28 : zw K (.fieldLink RX4 28 "StoreLog3" "finder" "LStoreLog3$Finder;") := C.w (List.mem_cons_of_mem _ (List.mem_append_left _ (List.mem_append_left _ (List.mem_append_left _ (List.mem_append_left _ (List.mem_append_left _ (List.mem_append_left _ (List.mem_of_getElem? (i := 1) rfl))))))))
  have l32 : zw K (.fieldLink RX4 32 "StoreLog3" "down" "Z") := C.w (List.mem_cons_of_mem _ (List.mem_append_left _ (List.mem_append_left _ (List.mem_append_left _ (List.mem_append_left _ (List.mem_append_left _ (List.mem_append_left _ (List.mem_of_getElem? (i := 0) rfl))))))))
  have l70 : zw K (.fieldLink RX4 70 "StoreLog3" "commits" "I") := C.w (List.mem_cons_of_mem _ (List.mem_append_left _ (List.mem_append_left _ (List.mem_append_left _ (List.mem_append_left _ (List.mem_append_left _ (List.mem_append_left _ (List.mem_of_getElem? (i := 5) rfl))))))))
  have l112 : zw K (.fieldLink RX4 112 "StoreLog3$Journal" "disk" "LStoreLog3$Sectors;") := C.w (List.mem_cons_of_mem _ (List.mem_append_left _ (List.mem_append_left _ (List.mem_append_left _ (List.mem_append_left _ (List.mem_append_left _ (List.mem_append_left _ (List.mem_of_getElem? (i := 3) rfl))))))))
  show Z E K 0 0 (wX E a N X) 0 [(0, .ref (a 0))] []
  refine z_aload_n C 0 rfl rfl dX4_start_0 ?_
  refine z_get C (Cn := RX4) (T := TX4) (Nf := 5) (ci := 4) in4 0 3 l32 (v := .int (xDn X)) rfl rfl (by decide) rfl dX4_start_1 ?_
  refine z_if_ne C (tgt := 9) dX4_start_4 (by decide) (fun h4_1t => ?_) (fun h4_1f => ?_)
  · exact absurd h0 h4_1t
  · refine z_iconst C (v := (-1)) (by decide) dX4_start_7 ?_
    exact ret _ _ _ _ (by first | rfl | (simp only [xStart, xOn, xGo, xRd, xFnd, if_pos h4_1f, ↓reduceIte]; done) | (simp only [xStart, xOn, xGo, xRd, xFnd, if_pos h4_1f, ↓reduceIte]; rfl) | (simp [xStart, xOn, xGo, xRd, xFnd, if_pos h4_1f, ↓reduceIte]; done)) (by first | rfl | (simp only [xStart, xOn, xGo, xRd, xFnd, if_pos h4_1f, ↓reduceIte]; done) | (simp only [xStart, xOn, xGo, xRd, xFnd, if_pos h4_1f, ↓reduceIte]; rfl) | (simp [xStart, xOn, xGo, xRd, xFnd, if_pos h4_1f, ↓reduceIte]; done)) dX4_start_8
theorem c_X4_startA (E : GE) (N : Nat) (hN : 16 ≤ N ∧ N ≤ 64) (a : Nat → Nat) (X : XS) (he : ¬ xDn X = 0 → jEn (xJ X) = 0) : zI E yX4_start wsX4_start rmX4_start [.ref (a 0)] (wX E a N X) ((xStart N X).1) (wX E a N ((xStart N X).2)) := by
  by_cases h : xDn X = 0
  · exact c_X4_startU E N hN a X h
  · exact c_X4_start E N hN a X (he h)

/-! Part 26: constructors of the small classes -/
def sz0 (w : Int32) : Int32 := if 16 < (if w < 64 then w else 64) then (if w < 64 then w else 64) else 16
abbrev rmX3_init : Room := { frames := 1, cells := 1, slots := 2048, locals := 40 }
set_option maxHeartbeats 4000000 in
set_option maxRecDepth 3000 in
theorem c_X3_init (E : GE) (a : Nat) (w : Int32) (N : Nat) (hN : 16 ≤ N ∧ N ≤ 64) (hw : sz0 w = nI N) : zW E yX3_init wsX3_init rmX3_init 1 2048 [.ref a, .int w] [(a, .inr (3, [.int 0, .null]))] (fun q => wS E a (q 0) N (fun _ => 0)) := by
  refine zW_of (cc := cX3_init) (maxL := 2) (by decide) rfl rfl (Nat.le_of_ble_eq_true rfl) ?_
  intro K C hI ret
  replace C : zC E K cX3_init wsX3_init RX3 rmX3_init 2 := C
  have in3 : ∀ w ∈ wsX30, w ∈ wsX3_init := fun w h => List.mem_cons_of_mem _ (List.mem_append_right _ (h))
  have l18 : zw K (.fieldLink RX3 18 "StoreLog3$Sectors" "size" "I") := C.w (List.mem_cons_of_mem _ (List.mem_append_left _ (List.mem_of_getElem? (i := 10) rfl)))
  have l24 : zw K (.fieldLink RX3 24 "StoreLog3$Sectors" "bytes" "[B") := C.w (List.mem_cons_of_mem _ (List.mem_append_left _ (List.mem_of_getElem? (i := 12) rfl)))
  show Z E K 0 0 [(a, .inr (3, [.int 0, .null]))] 0 [(0, .ref a), (1, .int w)] []
  refine z_aload_n C 0 rfl rfl dX3_init_0 ?_
  refine z_objInit C (C.w (List.mem_cons_of_mem _ (List.mem_append_left _ (List.mem_of_getElem? (i := 0) rfl)))) (C.w (List.mem_cons_of_mem _ (List.mem_append_left _ (List.mem_of_getElem? (i := 1) rfl)))) (C.w (List.mem_cons_of_mem _ (List.mem_append_left _ (List.mem_of_getElem? (i := 2) rfl)))) ⟨by decide, by decide⟩ dX3_init_1 ?_
  refine z_aload_n C 0 rfl rfl dX3_init_4 ?_
  refine z_bipush C (v := 16) (by decide) dX3_init_5 ?_
  refine z_bipush C (v := 64) (by decide) dX3_init_7 ?_
  refine z_iload_n C 1 rfl rfl dX3_init_9 ?_
  refine z_mmin C (v := (if w < 64 then w else 64)) rfl (C.w (List.mem_cons_of_mem _ (List.mem_append_left _ (List.mem_of_getElem? (i := 3) rfl)))) (C.w (List.mem_cons_of_mem _ (List.mem_append_left _ (List.mem_of_getElem? (i := 4) rfl)))) (C.w (List.mem_cons_of_mem _ (List.mem_append_left _ (List.mem_of_getElem? (i := 5) rfl)))) (C.w (List.mem_cons_of_mem _ (List.mem_append_left _ (List.mem_of_getElem? (i := 6) rfl)))) ⟨by decide, Nat.le_of_ble_eq_true rfl, by decide, by decide⟩ dX3_init_10 ?_
  refine z_mmax C (v := sz0 w) rfl (C.w (List.mem_cons_of_mem _ (List.mem_append_left _ (List.mem_of_getElem? (i := 7) rfl)))) (C.w (List.mem_cons_of_mem _ (List.mem_append_left _ (List.mem_of_getElem? (i := 8) rfl)))) (C.w (List.mem_cons_of_mem _ (List.mem_append_left _ (List.mem_of_getElem? (i := 5) rfl)))) (C.w (List.mem_cons_of_mem _ (List.mem_append_left _ (List.mem_of_getElem? (i := 9) rfl)))) ⟨by decide, Nat.le_of_ble_eq_true rfl, by decide, by decide⟩ dX3_init_13 ?_
  refine z_top (y := nI N) hw ?_
  refine z_putF C (Cn := RX3) (T := TX3) (Nf := 2) (ci := 3) in3 0 0 l18 rfl rfl (by decide) tyX3 tyX3_ok nmX3 rfl hI rfl rfl rfl (Nat.le_of_ble_eq_true rfl) (V' := [(a, .inr (3, [.int (nI N), .null]))]) rfl dX3_init_16 ?_
  refine z_aload_n C 0 rfl rfl dX3_init_19 ?_
  refine z_aload_n C 0 rfl rfl dX3_init_20 ?_
  refine z_get C (Cn := RX3) (T := TX3) (Nf := 2) (ci := 3) in3 0 0 l18 (v := .int (nI N)) rfl rfl (by decide) rfl dX3_init_21 ?_
  refine z_bipush C (v := 32) (by decide) dX3_init_24 ?_
  refine z_imul C dX3_init_26 ?_
  refine z_top (y := nI (32 * N)) (by rw [show (32 : Int32) = nI 32 from rfl, zmul, Nat.mul_comm]) ?_
  refine z_newB C (C.w (List.mem_cons_of_mem _ (List.mem_append_left _ (List.mem_of_getElem? (i := 11) rfl)))) (L := 32 * N) (nI_pos (by omega)) (nI_clamp (by omega)) (by show 32 * N * 1 ≤ 536870912; omega) ⟨by decide, by show 0 + 32 * N ≤ 2048; omega⟩ dX3_init_27 (fun q => ?_)
  refine z_widen (k1 := 1) (n1 := 2048) (by omega) (by omega) ?_
  refine z_putF C (Cn := RX3) (T := TX3) (Nf := 2) (ci := 3) in3 0 1 l24 rfl rfl (by decide) tyX3 tyX3_ok nmX3 rfl hI rfl rfl rfl (Nat.le_of_ble_eq_true rfl) (V' := wS E a q N (fun _ => 0)) rfl dX3_init_29 ?_
  exact ret _ _ _ (fun _ => q) rfl dX3_init_32
abbrev rmX1_init : Room := { frames := 1, cells := 1, slots := 64, locals := 40 }
set_option maxHeartbeats 4000000 in
set_option maxRecDepth 3000 in
theorem c_X1_init (E : GE) (a : Nat) : zW E yX1_init wsX1_init rmX1_init 1 64 [.ref a] [(a, .inr (1, [.null, .int 0, .int 0, .int 0]))] (fun q => wF E (fun i => if i = 0 then a else q 0) (0, 0, 0, fun _ => 0)) := by
  refine zW_of (cc := cX1_init) (maxL := 1) (by decide) rfl rfl (Nat.le_of_ble_eq_true rfl) ?_
  intro K C hI ret
  replace C : zC E K cX1_init wsX1_init RX1 rmX1_init 1 := C
  have in1 : ∀ w ∈ wsX10, w ∈ wsX1_init := fun w h => List.mem_cons_of_mem _ (List.mem_append_right _ (h))
  have l9 : zw K (.fieldLink RX1 9 "StoreLog3$Finder" "tells" "[Z") := C.w (List.mem_cons_of_mem _ (List.mem_append_left _ (List.mem_of_getElem? (i := 4) rfl)))
  show Z E K 0 0 [(a, .inr (1, [.null, .int 0, .int 0, .int 0]))] 0 [(0, .ref a)] []
  refine z_aload_n C 0 rfl rfl dX1_init_0 ?_
  refine z_objInit C (C.w (List.mem_cons_of_mem _ (List.mem_append_left _ (List.mem_of_getElem? (i := 0) rfl)))) (C.w (List.mem_cons_of_mem _ (List.mem_append_left _ (List.mem_of_getElem? (i := 1) rfl)))) (C.w (List.mem_cons_of_mem _ (List.mem_append_left _ (List.mem_of_getElem? (i := 2) rfl)))) ⟨by decide, by decide⟩ dX1_init_1 ?_
  refine z_aload_n C 0 rfl rfl dX1_init_4 ?_
  refine z_bipush C (v := 64) (by decide) dX1_init_5 ?_
  refine z_newZ C (C.w (List.mem_cons_of_mem _ (List.mem_append_left _ (List.mem_of_getElem? (i := 3) rfl)))) (L := 64) (by decide) (by decide) (by decide) ⟨by decide, by decide⟩ dX1_init_7 (fun q => ?_)
  refine z_putF C (Cn := RX1) (T := TX1) (Nf := 4) (ci := 1) in1 0 0 l9 rfl rfl (by decide) tyX1 tyX1_ok nmX1 rfl hI rfl rfl rfl (Nat.le_of_ble_eq_true rfl) (V' := [(a, .inr (1, [.ref q, .int 0, .int 0, .int 0])), (q, .inl (gZ E, 64, .inl (fun _ => 0)))]) rfl dX1_init_9 ?_
  exact ret _ _ _ (fun _ => q) rfl dX1_init_12

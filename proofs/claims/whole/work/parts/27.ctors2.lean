/-! Part 27: constructors of the dictionary and the journal -/
abbrev rmX0_init : Room := { frames := 1, cells := 3, slots := 96, locals := 40 }
set_option maxHeartbeats 4000000 in
set_option maxRecDepth 3000 in
theorem c_X0_init (E : GE) (a : Nat) : zW E yX0_init wsX0_init rmX0_init 3 96 [.ref a] [(a, .inr (0, [.null, .null, .null, .int 0]))] (fun q => wD E (fun i => if i = 0 then a else q (i - 1)) (dClear ((0, fun _ => 0, fun _ => 0, fun _ => 0) : DS))) := by
  refine zW_of (cc := cX0_init) (maxL := 1) (by decide) rfl rfl (Nat.le_of_ble_eq_true rfl) ?_
  intro K C hI ret
  replace C : zC E K cX0_init wsX0_init RX0 rmX0_init 1 := C
  have in0 : ∀ w ∈ wsX00, w ∈ wsX0_init := fun w h => List.mem_cons_of_mem _ (List.mem_append_right _ (h))
  have l9 : zw K (.fieldLink RX0 9 "StoreLog3$Dictionary" "committed" "[I") := C.w (List.mem_cons_of_mem _ (List.mem_append_left _ (List.mem_of_getElem? (i := 4) rfl)))
  have l15 : zw K (.fieldLink RX0 15 "StoreLog3$Dictionary" "changed" "[I") := C.w (List.mem_cons_of_mem _ (List.mem_append_left _ (List.mem_of_getElem? (i := 5) rfl)))
  have l18 : zw K (.fieldLink RX0 18 "StoreLog3$Dictionary" "holders" "[I") := C.w (List.mem_cons_of_mem _ (List.mem_append_left _ (List.mem_of_getElem? (i := 6) rfl)))
  have hAr : zw K (.arrayClass .int) := (C.w (List.mem_cons_of_mem _ (List.mem_append_left _ (List.mem_of_getElem? (i := 3) rfl))))
  show Z E K 0 0 [(a, .inr (0, [.null, .null, .null, .int 0]))] 0 [(0, .ref a)] []
  refine z_aload_n C 0 rfl rfl dX0_init_0 ?_
  refine z_objInit C (C.w (List.mem_cons_of_mem _ (List.mem_append_left _ (List.mem_of_getElem? (i := 0) rfl)))) (C.w (List.mem_cons_of_mem _ (List.mem_append_left _ (List.mem_of_getElem? (i := 1) rfl)))) (C.w (List.mem_cons_of_mem _ (List.mem_append_left _ (List.mem_of_getElem? (i := 2) rfl)))) ⟨by decide, by decide⟩ dX0_init_1 ?_
  refine z_aload_n C 0 rfl rfl dX0_init_4 ?_
  refine z_bipush C (v := 32) (by decide) dX0_init_5 ?_
  refine z_newI C hAr (L := 32) (by decide) (by decide) (by decide) ⟨by decide, by decide⟩ dX0_init_7 (fun q1 => ?_)
  refine z_putF C (Cn := RX0) (T := TX0) (Nf := 4) (ci := 0) in0 0 0 l9 rfl rfl (by decide) tyX0 tyX0_ok nmX0 rfl hI rfl rfl rfl (Nat.le_of_ble_eq_true rfl) (V' := [(a, .inr (0, [.ref q1, .null, .null, .int 0])), (q1, .inl (gI E, 32, .inl (fun _ => 0)))]) rfl dX0_init_9 ?_
  refine z_aload_n C 0 rfl rfl dX0_init_12 ?_
  refine z_bipush C (v := 32) (by decide) dX0_init_13 ?_
  refine z_newI C hAr (L := 32) (by decide) (by decide) (by decide) ⟨by decide, by decide⟩ dX0_init_15 (fun q2 => ?_)
  refine z_putF C (Cn := RX0) (T := TX0) (Nf := 4) (ci := 0) in0 0 1 l15 rfl rfl (by decide) tyX0 tyX0_ok nmX0 rfl hI rfl rfl rfl (Nat.le_of_ble_eq_true rfl) (V' := [(a, .inr (0, [.ref q1, .ref q2, .null, .int 0])), (q1, .inl (gI E, 32, .inl (fun _ => 0))), (q2, .inl (gI E, 32, .inl (fun _ => 0)))]) rfl dX0_init_17 ?_
  refine z_aload_n C 0 rfl rfl dX0_init_20 ?_
  refine z_bipush C (v := 32) (by decide) dX0_init_21 ?_
  refine z_newI C hAr (L := 32) (by decide) (by decide) (by decide) ⟨by decide, by decide⟩ dX0_init_23 (fun q3 => ?_)
  refine z_putF C (Cn := RX0) (T := TX0) (Nf := 4) (ci := 0) in0 0 2 l18 rfl rfl (by decide) tyX0 tyX0_ok nmX0 rfl hI rfl rfl rfl (Nat.le_of_ble_eq_true rfl) (V' := wD E (fun i => if i = 0 then a else (fun i => if i = 0 then q1 else if i = 1 then q2 else q3) (i - 1)) ((0, fun _ => 0, fun _ => 0, fun _ => 0) : DS)) rfl dX0_init_25 ?_
  refine z_aload_n C 0 rfl rfl dX0_init_28 ?_
  refine z_callVV C (c_X0_clear E (fun i => if i = 0 then a else (fun i => if i = 0 then q1 else if i = 1 then q2 else q3) (i - 1)) ((0, fun _ => 0, fun _ => 0, fun _ => 0) : DS)) gX0_init_X0_clear (ci := 0) (q0 := 0) rfl rfl hyX0_clear rfl ⟨rfl, rfl⟩ ⟨by decide, by decide⟩ ⟨by decide, by decide⟩ [0, 1, 2, 3] [] [0, 1, 2, 3] (wr := []) (V' := wD E (fun i => if i = 0 then a else (fun i => if i = 0 then q1 else if i = 1 then q2 else q3) (i - 1)) (dClear ((0, fun _ => 0, fun _ => 0, fun _ => 0) : DS))) rfl rfl (by decide) (by decide) (by decide) rfl (by decide) (st := []) (Nat.le_of_ble_eq_true rfl) dX0_init_29 ?_ rfl
  exact ret _ _ _ (fun i => if i = 0 then q1 else if i = 1 then q2 else q3) rfl dX0_init_32
abbrev j0 : JS := ((((0, 0), 0), ((0, 0), 0)), (((0, fun _ => 0), fun _ => 0), ((fun _ => 0, fun _ => 0), fun _ => 0)))
abbrev rmX2_init : Room := { frames := 4, cells := 7, slots := 4112, locals := 150 }
theorem hyX3_init : yX3_init.cls ≠ "java/lang/invoke/MethodHandle" ∧ yX3_init.cls ≠ "java/lang/invoke/VarHandle" ∧ (parseMethodDescriptor yX3_init.desc).map (fun d => d.parameters.length) = some 1 := by decide +kernel
set_option maxHeartbeats 4000000 in
set_option maxRecDepth 3000 in
theorem c_X2_init (E : GE) (a : Nat) (w : Int32) (N : Nat) (hN : 16 ≤ N ∧ N ≤ 64) (hw : sz0 w = nI N) : zW E yX2_init wsX2_init rmX2_init 7 4112 [.ref a, .int w] [(a, .inr (2, [.null, .null, .null, .null, .null, .int 0, .int 0, .int 0, .int 0, .int 0, .int 0, .int 0]))] (fun q => wJ E (fun i => if i = 0 then a else q (i - 1)) N (jBegin N j0)) := by
  refine zW_of (cc := cX2_init) (maxL := 2) (by decide) rfl rfl (Nat.le_of_ble_eq_true rfl) ?_
  intro K C hI ret
  replace C : zC E K cX2_init wsX2_init RX2 rmX2_init 2 := C
  have in2 : ∀ w ∈ wsX20, w ∈ wsX2_init := fun w h => List.mem_cons_of_mem _ (List.mem_append_left _ (List.mem_append_right _ (h)))
  have in3 : ∀ w ∈ wsX30, w ∈ wsX2_init := fun w h => List.mem_cons_of_mem _ (List.mem_append_right _ (h))
  have l9 : zw K (.fieldLink RX2 9 "StoreLog3$Journal" "entryHeads" "[I") := C.w (List.mem_cons_of_mem _ (List.mem_append_left _ (List.mem_append_left _ (List.mem_append_left _ (List.mem_of_getElem? (i := 4) rfl)))))
  have l15 : zw K (.fieldLink RX2 15 "StoreLog3$Journal" "entryKeys" "[I") := C.w (List.mem_cons_of_mem _ (List.mem_append_left _ (List.mem_append_left _ (List.mem_append_left _ (List.mem_of_getElem? (i := 5) rfl)))))
  have l18 : zw K (.fieldLink RX2 18 "StoreLog3$Journal" "entryValues" "[I") := C.w (List.mem_cons_of_mem _ (List.mem_append_left _ (List.mem_append_left _ (List.mem_append_left _ (List.mem_of_getElem? (i := 6) rfl)))))
  have l26 : zw K (.fieldLink RX2 26 "StoreLog3$Journal" "disk" "LStoreLog3$Sectors;") := C.w (List.mem_cons_of_mem _ (List.mem_append_left _ (List.mem_append_left _ (List.mem_append_left _ (List.mem_of_getElem? (i := 10) rfl)))))
  have l30 : zw K (.fieldLink RX2 30 "StoreLog3$Journal" "memory" "LStoreLog3$Sectors;") := C.w (List.mem_cons_of_mem _ (List.mem_append_left _ (List.mem_append_left _ (List.mem_append_left _ (List.mem_of_getElem? (i := 11) rfl)))))
  have hAr : zw K (.arrayClass .int) := (C.w (List.mem_cons_of_mem _ (List.mem_append_left _ (List.mem_append_left _ (List.mem_append_left _ (List.mem_of_getElem? (i := 3) rfl))))))
  show Z E K 0 0 [(a, .inr (2, [.null, .null, .null, .null, .null, .int 0, .int 0, .int 0, .int 0, .int 0, .int 0, .int 0]))] 0 [(0, .ref a), (1, .int w)] []
  refine z_aload_n C 0 rfl rfl dX2_init_0 ?_
  refine z_objInit C (C.w (List.mem_cons_of_mem _ (List.mem_append_left _ (List.mem_append_left _ (List.mem_append_left _ (List.mem_of_getElem? (i := 0) rfl)))))) (C.w (List.mem_cons_of_mem _ (List.mem_append_left _ (List.mem_append_left _ (List.mem_append_left _ (List.mem_of_getElem? (i := 1) rfl)))))) (C.w (List.mem_cons_of_mem _ (List.mem_append_left _ (List.mem_append_left _ (List.mem_append_left _ (List.mem_of_getElem? (i := 2) rfl)))))) ⟨by decide, by decide⟩ dX2_init_1 ?_
  refine z_aload_n C 0 rfl rfl dX2_init_4 ?_
  refine z_iconst C (v := 4) (by decide) dX2_init_5 ?_
  refine z_newI C hAr (L := 4) (by decide) (by decide) (by decide) ⟨by decide, by decide⟩ dX2_init_6 (fun q5 => ?_)
  refine z_putF C (Cn := RX2) (T := TX2) (Nf := 12) (ci := 2) in2 0 2 l9 rfl rfl (by decide) tyX2 tyX2_ok nmX2 rfl hI rfl rfl rfl (Nat.le_of_ble_eq_true rfl) (V' := [(a, .inr (2, [.null, .null, .ref q5, .null, .null, .int 0, .int 0, .int 0, .int 0, .int 0, .int 0, .int 0])), (q5, .inl (gI E, 4, .inl (fun _ => 0)))]) rfl dX2_init_8 ?_
  refine z_aload_n C 0 rfl rfl dX2_init_11 ?_
  refine z_iconst C (v := 4) (by decide) dX2_init_12 ?_
  refine z_newI C hAr (L := 4) (by decide) (by decide) (by decide) ⟨by decide, by decide⟩ dX2_init_13 (fun q6 => ?_)
  refine z_putF C (Cn := RX2) (T := TX2) (Nf := 12) (ci := 2) in2 0 3 l15 rfl rfl (by decide) tyX2 tyX2_ok nmX2 rfl hI rfl rfl rfl (Nat.le_of_ble_eq_true rfl) (V' := [(a, .inr (2, [.null, .null, .ref q5, .ref q6, .null, .int 0, .int 0, .int 0, .int 0, .int 0, .int 0, .int 0])), (q5, .inl (gI E, 4, .inl (fun _ => 0))), (q6, .inl (gI E, 4, .inl (fun _ => 0)))]) rfl dX2_init_15 ?_
  refine z_aload_n C 0 rfl rfl dX2_init_18 ?_
  refine z_iconst C (v := 4) (by decide) dX2_init_19 ?_
  refine z_newI C hAr (L := 4) (by decide) (by decide) (by decide) ⟨by decide, by decide⟩ dX2_init_20 (fun q7 => ?_)
  refine z_putF C (Cn := RX2) (T := TX2) (Nf := 12) (ci := 2) in2 0 4 l18 rfl rfl (by decide) tyX2 tyX2_ok nmX2 rfl hI rfl rfl rfl (Nat.le_of_ble_eq_true rfl) (V' := [(a, .inr (2, [.null, .null, .ref q5, .ref q6, .ref q7, .int 0, .int 0, .int 0, .int 0, .int 0, .int 0, .int 0])), (q5, .inl (gI E, 4, .inl (fun _ => 0))), (q6, .inl (gI E, 4, .inl (fun _ => 0))), (q7, .inl (gI E, 4, .inl (fun _ => 0)))]) rfl dX2_init_22 ?_
  refine z_aload_n C 0 rfl rfl dX2_init_25 ?_
  refine z_new C (Cn := RX3) (T := TX3) (Nf := 2) (ci := 3) (fs := [.int 0, .null]) in3 tyX3 tyX3_ok (C.w (List.mem_cons_of_mem _ (List.mem_append_left _ (List.mem_append_left _ (List.mem_append_left _ (List.mem_of_getElem? (i := 7) rfl)))))) (C.w (List.mem_cons_of_mem _ (List.mem_append_left _ (List.mem_append_left _ (List.mem_append_left _ (List.mem_of_getElem? (i := 8) rfl)))))) (C.w (List.mem_cons_of_mem _ (List.mem_append_left _ (List.mem_append_left _ (List.mem_append_left _ (List.mem_of_getElem? (i := 9) rfl)))))) rfl (fun j hj => by rcases (show j = 0 ∨ j = 1 by omega) with rfl | rfl <;> rfl) ⟨by decide, by decide⟩ dX2_init_26 (fun q1 => ?_)
  refine z_dup C rfl dX2_init_29 ?_
  refine z_iload_n C 1 rfl rfl dX2_init_30 ?_
  refine z_callIW C (c_X3_init E q1 w N hN hw) gX2_init_X3_init rfl ⟨rfl, rfl⟩ (C.w (List.mem_cons_of_mem _ (List.mem_append_left _ (List.mem_append_left _ (List.mem_append_left _ (List.mem_of_getElem? (i := 9) rfl)))))) (C.w (List.mem_cons_of_mem _ (List.mem_append_left _ (List.mem_append_left _ (List.mem_append_left _ (List.mem_of_getElem? (i := 12) rfl)))))) (C.w (List.mem_cons_of_mem _ (List.mem_append_left _ (List.mem_append_left _ (List.mem_append_left _ (List.mem_of_getElem? (i := 13) rfl)))))) rfl hyX3_init ⟨by decide, by decide⟩ ⟨by decide, by decide⟩ [4] [0, 1, 2, 3] (wr := [(a, .inr (2, [.null, .null, .ref q5, .ref q6, .ref q7, .int 0, .int 0, .int 0, .int 0, .int 0, .int 0, .int 0])), (q5, .inl (gI E, 4, .inl (fun _ => 0))), (q6, .inl (gI E, 4, .inl (fun _ => 0))), (q7, .inl (gI E, 4, .inl (fun _ => 0)))]) rfl rfl (by decide) (by decide) (by decide) (st := [.ref q1, .ref a]) (Nat.le_of_ble_eq_true rfl) dX2_init_31 (fun b1 => ?_) rfl
  refine z_putF C (Cn := RX2) (T := TX2) (Nf := 12) (ci := 2) in2 0 0 l26 rfl rfl (by decide) tyX2 tyX2_ok nmX2 rfl hI rfl rfl rfl (Nat.le_of_ble_eq_true rfl) (V' := [(a, .inr (2, [.ref q1, .null, .ref q5, .ref q6, .ref q7, .int 0, .int 0, .int 0, .int 0, .int 0, .int 0, .int 0])), (q5, .inl (gI E, 4, .inl (fun _ => 0))), (q6, .inl (gI E, 4, .inl (fun _ => 0))), (q7, .inl (gI E, 4, .inl (fun _ => 0))), (q1, .inr (3, [.int (nI N), .ref (b1 0)])), (b1 0, .inl (gB E, 32 * N, .inl (fun _ => 0)))]) rfl dX2_init_34 ?_
  refine z_aload_n C 0 rfl rfl dX2_init_37 ?_
  refine z_new C (Cn := RX3) (T := TX3) (Nf := 2) (ci := 3) (fs := [.int 0, .null]) in3 tyX3 tyX3_ok (C.w (List.mem_cons_of_mem _ (List.mem_append_left _ (List.mem_append_left _ (List.mem_append_left _ (List.mem_of_getElem? (i := 7) rfl)))))) (C.w (List.mem_cons_of_mem _ (List.mem_append_left _ (List.mem_append_left _ (List.mem_append_left _ (List.mem_of_getElem? (i := 8) rfl)))))) (C.w (List.mem_cons_of_mem _ (List.mem_append_left _ (List.mem_append_left _ (List.mem_append_left _ (List.mem_of_getElem? (i := 9) rfl)))))) rfl (fun j hj => by rcases (show j = 0 ∨ j = 1 by omega) with rfl | rfl <;> rfl) ⟨by decide, by decide⟩ dX2_init_38 (fun q3 => ?_)
  refine z_dup C rfl dX2_init_41 ?_
  refine z_iload_n C 1 rfl rfl dX2_init_42 ?_
  refine z_callIW C (c_X3_init E q3 w N hN hw) gX2_init_X3_init rfl ⟨rfl, rfl⟩ (C.w (List.mem_cons_of_mem _ (List.mem_append_left _ (List.mem_append_left _ (List.mem_append_left _ (List.mem_of_getElem? (i := 9) rfl)))))) (C.w (List.mem_cons_of_mem _ (List.mem_append_left _ (List.mem_append_left _ (List.mem_append_left _ (List.mem_of_getElem? (i := 12) rfl)))))) (C.w (List.mem_cons_of_mem _ (List.mem_append_left _ (List.mem_append_left _ (List.mem_append_left _ (List.mem_of_getElem? (i := 13) rfl)))))) rfl hyX3_init ⟨by decide, by decide⟩ ⟨by decide, by decide⟩ [6] [0, 1, 2, 3, 4, 5] (wr := [(a, .inr (2, [.ref q1, .null, .ref q5, .ref q6, .ref q7, .int 0, .int 0, .int 0, .int 0, .int 0, .int 0, .int 0])), (q5, .inl (gI E, 4, .inl (fun _ => 0))), (q6, .inl (gI E, 4, .inl (fun _ => 0))), (q7, .inl (gI E, 4, .inl (fun _ => 0))), (q1, .inr (3, [.int (nI N), .ref (b1 0)])), (b1 0, .inl (gB E, 32 * N, .inl (fun _ => 0)))]) rfl rfl (by decide) (by decide) (by decide) (st := [.ref q3, .ref a]) (Nat.le_of_ble_eq_true rfl) dX2_init_43 (fun b3 => ?_) rfl
  refine z_putF C (Cn := RX2) (T := TX2) (Nf := 12) (ci := 2) in2 0 1 l30 rfl rfl (by decide) tyX2 tyX2_ok nmX2 rfl hI rfl rfl rfl (Nat.le_of_ble_eq_true rfl) (V' := [(a, .inr (2, [.ref q1, .ref q3, .ref q5, .ref q6, .ref q7, .int 0, .int 0, .int 0, .int 0, .int 0, .int 0, .int 0])), (q5, .inl (gI E, 4, .inl (fun _ => 0))), (q6, .inl (gI E, 4, .inl (fun _ => 0))), (q7, .inl (gI E, 4, .inl (fun _ => 0))), (q1, .inr (3, [.int (nI N), .ref (b1 0)])), (b1 0, .inl (gB E, 32 * N, .inl (fun _ => 0))), (q3, .inr (3, [.int (nI N), .ref (b3 0)])), (b3 0, .inl (gB E, 32 * N, .inl (fun _ => 0)))]) rfl dX2_init_46 ?_
  refine z_aload_n C 0 rfl rfl dX2_init_49 ?_
  refine z_callVV C (c_X2_beginAnew E N hN (fun i => if i = 0 then a else (fun i => if i = 0 then q1 else if i = 1 then b1 0 else if i = 2 then q3 else if i = 3 then b3 0 else if i = 4 then q5 else if i = 5 then q6 else q7) (i - 1)) j0) gX2_init_X2_beginAnew (ci := 2) (q0 := 0) rfl rfl hyX2_beginAnew rfl ⟨rfl, rfl⟩ ⟨by decide, by decide⟩ ⟨by decide, by decide⟩ [0, 4, 5, 6, 7, 1, 2, 3] [] [0, 1, 2, 3, 4, 5, 6, 7] (wr := []) (V' := wJ E (fun i => if i = 0 then a else (fun i => if i = 0 then q1 else if i = 1 then b1 0 else if i = 2 then q3 else if i = 3 then b3 0 else if i = 4 then q5 else if i = 5 then q6 else q7) (i - 1)) N (jBegin N j0)) rfl rfl (by decide) (by decide) (by decide) rfl (by decide) (st := []) (Nat.le_of_ble_eq_true rfl) dX2_init_50 ?_ rfl
  exact ret _ _ _ (fun i => if i = 0 then q1 else if i = 1 then b1 0 else if i = 2 then q3 else if i = 3 then b3 0 else if i = 4 then q5 else if i = 5 then q6 else q7) rfl dX2_init_53

abbrev m0 : MS := (((((0, 0), 0), (0, 0)), (((0, 0), 0), (fun _ => 0, fun _ => 0))), ((((fun _ => 0, fun _ => 0), fun _ => 0), (fun _ => 0, fun _ => 0)), ((fun _ => 0, fun _ => 0), (fun _ => 0, fun _ => 0))))
def sz1 (w : Int32) : Int32 := if 16 ≤ w then (if w ≤ 64 then w else 64) else 16
abbrev rmX5_init : Room := { frames := 3, cells := 11, slots := 4303, locals := 200 }
set_option maxHeartbeats 4000000 in
set_option maxRecDepth 3000 in
theorem c_X5_init (E : GE) (a : Nat) (w : Int32) (N : Nat) (hN : 16 ≤ N ∧ N ≤ 64) (hw : sz1 w = nI N) : zW E yX5_init wsX5_init rmX5_init 11 4303 [.ref a, .int w] [(a, .inr (5, [.int 0, .null, .int 0, .int 0, .null, .null, .int 0, .int 0, .int 0, .int 0, .int 0, .null, .null, .null, .null, .null, .null, .null, .int 0, .null]))] (fun q => wM E (fun i => if i = 0 then a else q (i - 1)) N (mBeg0 N m0)) := by
  refine zW_of (cc := cX5_init) (maxL := 2) (by decide) rfl rfl (Nat.le_of_ble_eq_true rfl) ?_
  intro K C hI ret
  replace C : zC E K cX5_init wsX5_init RX5 rmX5_init 2 := C
  have in5 : ∀ w ∈ wsX50, w ∈ wsX5_init := fun w h => List.mem_cons_of_mem _ (List.mem_append_right _ (h))
  have l7 : zw K (.fieldLink RX5 7 "StoreLog3Model" "disk" "[B") := C.w (List.mem_cons_of_mem _ (List.mem_append_left _ (List.mem_append_left _ (List.mem_of_getElem? (i := 4) rfl))))
  have l13 : zw K (.fieldLink RX5 13 "StoreLog3Model" "whereTo" "[I") := C.w (List.mem_cons_of_mem _ (List.mem_append_left _ (List.mem_append_left _ (List.mem_of_getElem? (i := 6) rfl))))
  have l17 : zw K (.fieldLink RX5 17 "StoreLog3Model" "waits" "[B") := C.w (List.mem_cons_of_mem _ (List.mem_append_left _ (List.mem_append_left _ (List.mem_of_getElem? (i := 7) rfl))))
  have l20 : zw K (.fieldLink RX5 20 "StoreLog3Model" "entryHeads" "[I") := C.w (List.mem_cons_of_mem _ (List.mem_append_left _ (List.mem_append_left _ (List.mem_of_getElem? (i := 8) rfl))))
  have l23 : zw K (.fieldLink RX5 23 "StoreLog3Model" "entryKeys" "[I") := C.w (List.mem_cons_of_mem _ (List.mem_append_left _ (List.mem_append_left _ (List.mem_of_getElem? (i := 9) rfl))))
  have l26 : zw K (.fieldLink RX5 26 "StoreLog3Model" "entryValues" "[I") := C.w (List.mem_cons_of_mem _ (List.mem_append_left _ (List.mem_append_left _ (List.mem_of_getElem? (i := 10) rfl))))
  have l29 : zw K (.fieldLink RX5 29 "StoreLog3Model" "values" "[I") := C.w (List.mem_cons_of_mem _ (List.mem_append_left _ (List.mem_append_left _ (List.mem_of_getElem? (i := 11) rfl))))
  have l32 : zw K (.fieldLink RX5 32 "StoreLog3Model" "isOpen" "[Z") := C.w (List.mem_cons_of_mem _ (List.mem_append_left _ (List.mem_append_left _ (List.mem_of_getElem? (i := 13) rfl))))
  have l36 : zw K (.fieldLink RX5 36 "StoreLog3Model" "holders" "[I") := C.w (List.mem_cons_of_mem _ (List.mem_append_left _ (List.mem_append_left _ (List.mem_of_getElem? (i := 14) rfl))))
  have l39 : zw K (.fieldLink RX5 39 "StoreLog3Model" "held" "[I") := C.w (List.mem_cons_of_mem _ (List.mem_append_left _ (List.mem_append_left _ (List.mem_of_getElem? (i := 15) rfl))))
  have l42 : zw K (.fieldLink RX5 42 "StoreLog3Model" "row" "[B") := C.w (List.mem_cons_of_mem _ (List.mem_append_left _ (List.mem_append_left _ (List.mem_of_getElem? (i := 16) rfl))))
  have l45 : zw K (.fieldLink RX5 45 "StoreLog3Model" "sectors" "I") := C.w (List.mem_cons_of_mem _ (List.mem_append_left _ (List.mem_append_left _ (List.mem_of_getElem? (i := 17) rfl))))
  have hAI : zw K (.arrayClass .int) := (C.w (List.mem_cons_of_mem _ (List.mem_append_left _ (List.mem_append_left _ (List.mem_of_getElem? (i := 5) rfl)))))
  have hAB : zw K (.arrayClass .byte) := (C.w (List.mem_cons_of_mem _ (List.mem_append_left _ (List.mem_append_left _ (List.mem_of_getElem? (i := 3) rfl)))))
  have hAZ : zw K (.arrayClass .boolean) := (C.w (List.mem_cons_of_mem _ (List.mem_append_left _ (List.mem_append_left _ (List.mem_of_getElem? (i := 12) rfl)))))
  show Z E K 0 0 [(a, .inr (5, [.int 0, .null, .int 0, .int 0, .null, .null, .int 0, .int 0, .int 0, .int 0, .int 0, .null, .null, .null, .null, .null, .null, .null, .int 0, .null]))] 0 [(0, .ref a), (1, .int w)] []
  refine z_aload_n C 0 rfl rfl dX5_init_0 ?_
  refine z_objInit C (C.w (List.mem_cons_of_mem _ (List.mem_append_left _ (List.mem_append_left _ (List.mem_of_getElem? (i := 0) rfl))))) (C.w (List.mem_cons_of_mem _ (List.mem_append_left _ (List.mem_append_left _ (List.mem_of_getElem? (i := 1) rfl))))) (C.w (List.mem_cons_of_mem _ (List.mem_append_left _ (List.mem_append_left _ (List.mem_of_getElem? (i := 2) rfl))))) ⟨by decide, by decide⟩ dX5_init_1 ?_
  refine z_aload_n C 0 rfl rfl dX5_init_4 ?_
  refine z_sipush C (v := 2048) (by decide) dX5_init_5 ?_
  refine z_newB C hAB (L := 2048) (by decide) (by decide) (by decide) ⟨by decide, by decide⟩ dX5_init_8 (fun q1 => ?_)
  refine z_putF C (Cn := RX5) (T := TX5) (Nf := 20) (ci := 5) in5 0 1 l7 rfl rfl (by decide) tyX5 tyX5_ok nmX5 rfl hI rfl rfl rfl (Nat.le_of_ble_eq_true rfl) (V' := [(a, .inr (5, [.int 0, .ref q1, .int 0, .int 0, .null, .null, .int 0, .int 0, .int 0, .int 0, .int 0, .null, .null, .null, .null, .null, .null, .null, .int 0, .null])), (q1, .inl (gB E, 2048, .inl (fun _ => 0)))]) rfl dX5_init_10 ?_
  refine z_aload_n C 0 rfl rfl dX5_init_13 ?_
  refine z_bipush C (v := 64) (by decide) dX5_init_14 ?_
  refine z_newI C hAI (L := 64) (by decide) (by decide) (by decide) ⟨by decide, by decide⟩ dX5_init_16 (fun q2 => ?_)
  refine z_putF C (Cn := RX5) (T := TX5) (Nf := 20) (ci := 5) in5 0 4 l13 rfl rfl (by decide) tyX5 tyX5_ok nmX5 rfl hI rfl rfl rfl (Nat.le_of_ble_eq_true rfl) (V' := [(a, .inr (5, [.int 0, .ref q1, .int 0, .int 0, .ref q2, .null, .int 0, .int 0, .int 0, .int 0, .int 0, .null, .null, .null, .null, .null, .null, .null, .int 0, .null])), (q1, .inl (gB E, 2048, .inl (fun _ => 0))), (q2, .inl (gI E, 64, .inl (fun _ => 0)))]) rfl dX5_init_18 ?_
  refine z_aload_n C 0 rfl rfl dX5_init_21 ?_
  refine z_sipush C (v := 2048) (by decide) dX5_init_22 ?_
  refine z_newB C hAB (L := 2048) (by decide) (by decide) (by decide) ⟨by decide, by decide⟩ dX5_init_25 (fun q3 => ?_)
  refine z_putF C (Cn := RX5) (T := TX5) (Nf := 20) (ci := 5) in5 0 5 l17 rfl rfl (by decide) tyX5 tyX5_ok nmX5 rfl hI rfl rfl rfl (Nat.le_of_ble_eq_true rfl) (V' := [(a, .inr (5, [.int 0, .ref q1, .int 0, .int 0, .ref q2, .ref q3, .int 0, .int 0, .int 0, .int 0, .int 0, .null, .null, .null, .null, .null, .null, .null, .int 0, .null])), (q1, .inl (gB E, 2048, .inl (fun _ => 0))), (q2, .inl (gI E, 64, .inl (fun _ => 0))), (q3, .inl (gB E, 2048, .inl (fun _ => 0)))]) rfl dX5_init_27 ?_
  refine z_aload_n C 0 rfl rfl dX5_init_30 ?_
  refine z_iconst C (v := 4) (by decide) dX5_init_31 ?_
  refine z_newI C hAI (L := 4) (by decide) (by decide) (by decide) ⟨by decide, by decide⟩ dX5_init_32 (fun q4 => ?_)
  refine z_putF C (Cn := RX5) (T := TX5) (Nf := 20) (ci := 5) in5 0 11 l20 rfl rfl (by decide) tyX5 tyX5_ok nmX5 rfl hI rfl rfl rfl (Nat.le_of_ble_eq_true rfl) (V' := [(a, .inr (5, [.int 0, .ref q1, .int 0, .int 0, .ref q2, .ref q3, .int 0, .int 0, .int 0, .int 0, .int 0, .ref q4, .null, .null, .null, .null, .null, .null, .int 0, .null])), (q1, .inl (gB E, 2048, .inl (fun _ => 0))), (q2, .inl (gI E, 64, .inl (fun _ => 0))), (q3, .inl (gB E, 2048, .inl (fun _ => 0))), (q4, .inl (gI E, 4, .inl (fun _ => 0)))]) rfl dX5_init_34 ?_
  refine z_aload_n C 0 rfl rfl dX5_init_37 ?_
  refine z_iconst C (v := 4) (by decide) dX5_init_38 ?_
  refine z_newI C hAI (L := 4) (by decide) (by decide) (by decide) ⟨by decide, by decide⟩ dX5_init_39 (fun q5 => ?_)
  refine z_putF C (Cn := RX5) (T := TX5) (Nf := 20) (ci := 5) in5 0 12 l23 rfl rfl (by decide) tyX5 tyX5_ok nmX5 rfl hI rfl rfl rfl (Nat.le_of_ble_eq_true rfl) (V' := [(a, .inr (5, [.int 0, .ref q1, .int 0, .int 0, .ref q2, .ref q3, .int 0, .int 0, .int 0, .int 0, .int 0, .ref q4, .ref q5, .null, .null, .null, .null, .null, .int 0, .null])), (q1, .inl (gB E, 2048, .inl (fun _ => 0))), (q2, .inl (gI E, 64, .inl (fun _ => 0))), (q3, .inl (gB E, 2048, .inl (fun _ => 0))), (q4, .inl (gI E, 4, .inl (fun _ => 0))), (q5, .inl (gI E, 4, .inl (fun _ => 0)))]) rfl dX5_init_41 ?_
  refine z_aload_n C 0 rfl rfl dX5_init_44 ?_
  refine z_iconst C (v := 4) (by decide) dX5_init_45 ?_
  refine z_newI C hAI (L := 4) (by decide) (by decide) (by decide) ⟨by decide, by decide⟩ dX5_init_46 (fun q6 => ?_)
  refine z_putF C (Cn := RX5) (T := TX5) (Nf := 20) (ci := 5) in5 0 13 l26 rfl rfl (by decide) tyX5 tyX5_ok nmX5 rfl hI rfl rfl rfl (Nat.le_of_ble_eq_true rfl) (V' := [(a, .inr (5, [.int 0, .ref q1, .int 0, .int 0, .ref q2, .ref q3, .int 0, .int 0, .int 0, .int 0, .int 0, .ref q4, .ref q5, .ref q6, .null, .null, .null, .null, .int 0, .null])), (q1, .inl (gB E, 2048, .inl (fun _ => 0))), (q2, .inl (gI E, 64, .inl (fun _ => 0))), (q3, .inl (gB E, 2048, .inl (fun _ => 0))), (q4, .inl (gI E, 4, .inl (fun _ => 0))), (q5, .inl (gI E, 4, .inl (fun _ => 0))), (q6, .inl (gI E, 4, .inl (fun _ => 0)))]) rfl dX5_init_48 ?_
  refine z_aload_n C 0 rfl rfl dX5_init_51 ?_
  refine z_bipush C (v := 32) (by decide) dX5_init_52 ?_
  refine z_newI C hAI (L := 32) (by decide) (by decide) (by decide) ⟨by decide, by decide⟩ dX5_init_54 (fun q7 => ?_)
  refine z_putF C (Cn := RX5) (T := TX5) (Nf := 20) (ci := 5) in5 0 14 l29 rfl rfl (by decide) tyX5 tyX5_ok nmX5 rfl hI rfl rfl rfl (Nat.le_of_ble_eq_true rfl) (V' := [(a, .inr (5, [.int 0, .ref q1, .int 0, .int 0, .ref q2, .ref q3, .int 0, .int 0, .int 0, .int 0, .int 0, .ref q4, .ref q5, .ref q6, .ref q7, .null, .null, .null, .int 0, .null])), (q1, .inl (gB E, 2048, .inl (fun _ => 0))), (q2, .inl (gI E, 64, .inl (fun _ => 0))), (q3, .inl (gB E, 2048, .inl (fun _ => 0))), (q4, .inl (gI E, 4, .inl (fun _ => 0))), (q5, .inl (gI E, 4, .inl (fun _ => 0))), (q6, .inl (gI E, 4, .inl (fun _ => 0))), (q7, .inl (gI E, 32, .inl (fun _ => 0)))]) rfl dX5_init_56 ?_
  refine z_aload_n C 0 rfl rfl dX5_init_59 ?_
  refine z_iconst C (v := 3) (by decide) dX5_init_60 ?_
  refine z_newZ C hAZ (L := 3) (by decide) (by decide) (by decide) ⟨by decide, by decide⟩ dX5_init_61 (fun q8 => ?_)
  refine z_putF C (Cn := RX5) (T := TX5) (Nf := 20) (ci := 5) in5 0 15 l32 rfl rfl (by decide) tyX5 tyX5_ok nmX5 rfl hI rfl rfl rfl (Nat.le_of_ble_eq_true rfl) (V' := [(a, .inr (5, [.int 0, .ref q1, .int 0, .int 0, .ref q2, .ref q3, .int 0, .int 0, .int 0, .int 0, .int 0, .ref q4, .ref q5, .ref q6, .ref q7, .ref q8, .null, .null, .int 0, .null])), (q1, .inl (gB E, 2048, .inl (fun _ => 0))), (q2, .inl (gI E, 64, .inl (fun _ => 0))), (q3, .inl (gB E, 2048, .inl (fun _ => 0))), (q4, .inl (gI E, 4, .inl (fun _ => 0))), (q5, .inl (gI E, 4, .inl (fun _ => 0))), (q6, .inl (gI E, 4, .inl (fun _ => 0))), (q7, .inl (gI E, 32, .inl (fun _ => 0))), (q8, .inl (gZ E, 3, .inl (fun _ => 0)))]) rfl dX5_init_63 ?_
  refine z_aload_n C 0 rfl rfl dX5_init_66 ?_
  refine z_bipush C (v := 32) (by decide) dX5_init_67 ?_
  refine z_newI C hAI (L := 32) (by decide) (by decide) (by decide) ⟨by decide, by decide⟩ dX5_init_69 (fun q9 => ?_)
  refine z_putF C (Cn := RX5) (T := TX5) (Nf := 20) (ci := 5) in5 0 16 l36 rfl rfl (by decide) tyX5 tyX5_ok nmX5 rfl hI rfl rfl rfl (Nat.le_of_ble_eq_true rfl) (V' := [(a, .inr (5, [.int 0, .ref q1, .int 0, .int 0, .ref q2, .ref q3, .int 0, .int 0, .int 0, .int 0, .int 0, .ref q4, .ref q5, .ref q6, .ref q7, .ref q8, .ref q9, .null, .int 0, .null])), (q1, .inl (gB E, 2048, .inl (fun _ => 0))), (q2, .inl (gI E, 64, .inl (fun _ => 0))), (q3, .inl (gB E, 2048, .inl (fun _ => 0))), (q4, .inl (gI E, 4, .inl (fun _ => 0))), (q5, .inl (gI E, 4, .inl (fun _ => 0))), (q6, .inl (gI E, 4, .inl (fun _ => 0))), (q7, .inl (gI E, 32, .inl (fun _ => 0))), (q8, .inl (gZ E, 3, .inl (fun _ => 0))), (q9, .inl (gI E, 32, .inl (fun _ => 0)))]) rfl dX5_init_71 ?_
  refine z_aload_n C 0 rfl rfl dX5_init_74 ?_
  refine z_bipush C (v := 32) (by decide) dX5_init_75 ?_
  refine z_newI C hAI (L := 32) (by decide) (by decide) (by decide) ⟨by decide, by decide⟩ dX5_init_77 (fun q10 => ?_)
  refine z_putF C (Cn := RX5) (T := TX5) (Nf := 20) (ci := 5) in5 0 17 l39 rfl rfl (by decide) tyX5 tyX5_ok nmX5 rfl hI rfl rfl rfl (Nat.le_of_ble_eq_true rfl) (V' := [(a, .inr (5, [.int 0, .ref q1, .int 0, .int 0, .ref q2, .ref q3, .int 0, .int 0, .int 0, .int 0, .int 0, .ref q4, .ref q5, .ref q6, .ref q7, .ref q8, .ref q9, .ref q10, .int 0, .null])), (q1, .inl (gB E, 2048, .inl (fun _ => 0))), (q2, .inl (gI E, 64, .inl (fun _ => 0))), (q3, .inl (gB E, 2048, .inl (fun _ => 0))), (q4, .inl (gI E, 4, .inl (fun _ => 0))), (q5, .inl (gI E, 4, .inl (fun _ => 0))), (q6, .inl (gI E, 4, .inl (fun _ => 0))), (q7, .inl (gI E, 32, .inl (fun _ => 0))), (q8, .inl (gZ E, 3, .inl (fun _ => 0))), (q9, .inl (gI E, 32, .inl (fun _ => 0))), (q10, .inl (gI E, 32, .inl (fun _ => 0)))]) rfl dX5_init_79 ?_
  refine z_aload_n C 0 rfl rfl dX5_init_82 ?_
  refine z_bipush C (v := 32) (by decide) dX5_init_83 ?_
  refine z_newB C hAB (L := 32) (by decide) (by decide) (by decide) ⟨by decide, by decide⟩ dX5_init_85 (fun q11 => ?_)
  refine z_putF C (Cn := RX5) (T := TX5) (Nf := 20) (ci := 5) in5 0 19 l42 rfl rfl (by decide) tyX5 tyX5_ok nmX5 rfl hI rfl rfl rfl (Nat.le_of_ble_eq_true rfl) (V' := [(a, .inr (5, [.int 0, .ref q1, .int 0, .int 0, .ref q2, .ref q3, .int 0, .int 0, .int 0, .int 0, .int 0, .ref q4, .ref q5, .ref q6, .ref q7, .ref q8, .ref q9, .ref q10, .int 0, .ref q11])), (q1, .inl (gB E, 2048, .inl (fun _ => 0))), (q2, .inl (gI E, 64, .inl (fun _ => 0))), (q3, .inl (gB E, 2048, .inl (fun _ => 0))), (q4, .inl (gI E, 4, .inl (fun _ => 0))), (q5, .inl (gI E, 4, .inl (fun _ => 0))), (q6, .inl (gI E, 4, .inl (fun _ => 0))), (q7, .inl (gI E, 32, .inl (fun _ => 0))), (q8, .inl (gZ E, 3, .inl (fun _ => 0))), (q9, .inl (gI E, 32, .inl (fun _ => 0))), (q10, .inl (gI E, 32, .inl (fun _ => 0))), (q11, .inl (gB E, 32, .inl (fun _ => 0)))]) rfl dX5_init_87 ?_
  have fin : Z E K 11 4303 [(a, .inr (5, [.int 0, .ref q1, .int 0, .int 0, .ref q2, .ref q3, .int 0, .int 0, .int 0, .int 0, .int 0, .ref q4, .ref q5, .ref q6, .ref q7, .ref q8, .ref q9, .ref q10, .int 0, .ref q11])), (q1, .inl (gB E, 2048, .inl (fun _ => 0))), (q2, .inl (gI E, 64, .inl (fun _ => 0))), (q3, .inl (gB E, 2048, .inl (fun _ => 0))), (q4, .inl (gI E, 4, .inl (fun _ => 0))), (q5, .inl (gI E, 4, .inl (fun _ => 0))), (q6, .inl (gI E, 4, .inl (fun _ => 0))), (q7, .inl (gI E, 32, .inl (fun _ => 0))), (q8, .inl (gZ E, 3, .inl (fun _ => 0))), (q9, .inl (gI E, 32, .inl (fun _ => 0))), (q10, .inl (gI E, 32, .inl (fun _ => 0))), (q11, .inl (gB E, 32, .inl (fun _ => 0)))] 114 [(0, .ref a), (1, .int w)] [.int (nI N), .ref a] := by
    refine z_putF C (Cn := RX5) (T := TX5) (Nf := 20) (ci := 5) in5 0 0 l45 rfl rfl (by decide) tyX5 tyX5_ok nmX5 rfl hI rfl rfl rfl (Nat.le_of_ble_eq_true rfl) (V' := wM E (fun i => if i = 0 then a else (fun k => if k = 0 then q1 else if k = 1 then q2 else if k = 2 then q3 else if k = 3 then q4 else if k = 4 then q5 else if k = 5 then q6 else if k = 6 then q7 else if k = 7 then q8 else if k = 8 then q9 else if k = 9 then q10 else q11) (i - 1)) N m0) rfl dX5_init_114 ?_
    refine z_aload_n C 0 rfl rfl dX5_init_117 ?_
    refine z_callVV C (c_X5_begin0 E N hN (fun i => if i = 0 then a else (fun k => if k = 0 then q1 else if k = 1 then q2 else if k = 2 then q3 else if k = 3 then q4 else if k = 4 then q5 else if k = 5 then q6 else if k = 6 then q7 else if k = 7 then q8 else if k = 8 then q9 else if k = 9 then q10 else q11) (i - 1)) m0) gX5_init_X5_begin0 (ci := 5) (q0 := 0) rfl rfl hyX5_begin0 rfl ⟨rfl, rfl⟩ ⟨by decide, by decide⟩ ⟨by decide, by decide⟩ [0, 1, 2, 3, 4, 5, 6, 7, 8, 9, 10, 11] [] [0, 1, 2, 3, 4, 5, 6, 7, 8, 9, 10, 11] (wr := []) (V' := wM E (fun i => if i = 0 then a else (fun k => if k = 0 then q1 else if k = 1 then q2 else if k = 2 then q3 else if k = 3 then q4 else if k = 4 then q5 else if k = 5 then q6 else if k = 6 then q7 else if k = 7 then q8 else if k = 8 then q9 else if k = 9 then q10 else q11) (i - 1)) N (mBeg0 N m0)) rfl rfl (by decide) (by decide) (by decide) rfl (by decide) (st := []) (Nat.le_of_ble_eq_true rfl) dX5_init_118 ?_ rfl
    exact ret _ _ _ (fun k => if k = 0 then q1 else if k = 1 then q2 else if k = 2 then q3 else if k = 3 then q4 else if k = 4 then q5 else if k = 5 then q6 else if k = 6 then q7 else if k = 7 then q8 else if k = 8 then q9 else if k = 9 then q10 else q11) rfl dX5_init_121
  refine z_aload_n C 0 rfl rfl dX5_init_90 ?_
  refine z_iload_n C 1 rfl rfl dX5_init_91 ?_
  refine z_bipush C (v := 16) (by decide) dX5_init_92 ?_
  refine z_icmp_ge C (tgt := 102) dX5_init_94 (by decide) (fun h1 => ?_) (fun h1 => ?_)
  · refine z_iload_n C 1 rfl rfl dX5_init_102 ?_
    refine z_bipush C (v := 64) (by decide) dX5_init_103 ?_
    refine z_icmp_le C (tgt := 113) dX5_init_105 (by decide) (fun h2 => ?_) (fun h2 => ?_)
    · refine z_iload_n C 1 rfl rfl dX5_init_113 ?_
      refine z_top (y := nI N) (by rw [← hw]; unfold sz1; rw [if_pos h1, if_pos h2]) ?_
      exact fin
    · refine z_bipush C (v := 64) (by decide) dX5_init_108 ?_
      refine z_goto C (tgt := 114) dX5_init_110 (by decide) ?_
      refine z_top (y := nI N) (by rw [← hw]; unfold sz1; rw [if_pos h1, if_neg h2]) ?_
      exact fin
  · refine z_bipush C (v := 16) (by decide) dX5_init_97 ?_
    refine z_goto C (tgt := 114) dX5_init_99 (by decide) ?_
    refine z_top (y := nI N) (by rw [← hw]; unfold sz1; rw [if_neg h1]) ?_
    exact fin

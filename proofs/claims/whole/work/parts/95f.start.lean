/-! Part 95f: the law's loop, and the law from its entry -/
theorem hyX4_init : yX4_init.cls ≠ "java/lang/invoke/MethodHandle" ∧ yX4_init.cls ≠ "java/lang/invoke/VarHandle" ∧ (parseMethodDescriptor yX4_init.desc).map (fun d => d.parameters.length) = some 1 := by decide +kernel
theorem hyX5_init : yX5_init.cls ≠ "java/lang/invoke/MethodHandle" ∧ yX5_init.cls ≠ "java/lang/invoke/VarHandle" ∧ (parseMethodDescriptor yX5_init.desc).map (fun d => d.parameters.length) = some 1 := by decide +kernel
set_option maxRecDepth 20000 in
theorem lwm_0 : Cond.arrayClass .byte ∈ lw_tbl := List.mem_of_getElem? (i := 74) (by decide +kernel)
set_option maxRecDepth 20000 in
theorem lwm_1 : Cond.arrayClass .int ∈ lw_tbl := List.mem_of_getElem? (i := 73) (by decide +kernel)
set_option maxRecDepth 20000 in
theorem lwm_2 : Cond.arrayClass .boolean ∈ lw_tbl := List.mem_of_getElem? (i := 189) (by decide +kernel)
set_option maxRecDepth 20000 in
theorem lwm_3 : Cond.instantiable RX0 4 ∈ lw_tbl := List.mem_of_getElem? (i := 148) (by decide +kernel)
set_option maxRecDepth 20000 in
theorem lwm_4 : Cond.instantiable RX1 4 ∈ lw_tbl := List.mem_of_getElem? (i := 171) (by decide +kernel)
set_option maxRecDepth 20000 in
theorem lwm_5 : Cond.instantiable RX2 12 ∈ lw_tbl := List.mem_of_getElem? (i := 49) (by decide +kernel)
set_option maxRecDepth 20000 in
theorem lwm_6 : Cond.instantiable RX3 2 ∈ lw_tbl := List.mem_of_getElem? (i := 55) (by decide +kernel)
set_option maxRecDepth 20000 in
theorem lwm_7 : Cond.instantiable RX4 5 ∈ lw_tbl := List.mem_of_getElem? (i := 41) (by decide +kernel)
set_option maxRecDepth 20000 in
theorem lwm_8 : Cond.instantiable RX5 20 ∈ lw_tbl := List.mem_of_getElem? (i := 506) (by decide +kernel)
set_option maxRecDepth 20000 in
theorem lwm_9 : Cond.methodLinkNest RX4 27 yX1_init "StoreLog3" ∈ lw_tbl := List.mem_of_getElem? (i := 172) (by decide +kernel)
set_option maxRecDepth 20000 in
theorem lwm_10 : Cond.methodLinkNest RX0 32 yX4_isTransaction "StoreLog3" ∈ lw_tbl := List.mem_of_getElem? (i := 218) (by decide +kernel)
set_option maxRecDepth 20000 in
theorem lwm_11 : Cond.methodLinkNest RX0 35 yX4_isKey "StoreLog3" ∈ lw_tbl := List.mem_of_getElem? (i := 237) (by decide +kernel)
set_option maxRecDepth 20000 in
theorem lwm_12 : Cond.methodLinkNest RX1 77 yX4_isTransaction "StoreLog3" ∈ lw_tbl := List.mem_of_getElem? (i := 392) (by decide +kernel)
set_option maxRecDepth 20000 in
theorem lwm_13 : Cond.methodLinkNest RX1 80 yX4_isKey "StoreLog3" ∈ lw_tbl := List.mem_of_getElem? (i := 393) (by decide +kernel)
set_option maxRecDepth 20000 in
theorem lwm_14 : Cond.classLink RL 7 RX4 ∈ lw_tbl := List.mem_of_getElem? (i := 40) (by decide +kernel)
set_option maxRecDepth 20000 in
theorem lwm_15 : Cond.initialized RX4 ∈ lw_tbl := List.mem_of_getElem? (i := 33) (by decide +kernel)
set_option maxRecDepth 20000 in
theorem lwm_16 : Cond.classLink RL 18 RX5 ∈ lw_tbl := List.mem_of_getElem? (i := 505) (by decide +kernel)
set_option maxRecDepth 20000 in
theorem lwm_17 : Cond.initialized RX5 ∈ lw_tbl := List.mem_of_getElem? (i := 39) (by decide +kernel)
set_option maxRecDepth 20000 in
theorem lwm_18 : Cond.methodLink RL 15 yX4_init ∈ lw_tbl := List.mem_of_getElem? (i := 42) (by decide +kernel)
set_option maxRecDepth 20000 in
theorem lwm_19 : Cond.instanceMethod yX4_init ∈ lw_tbl := List.mem_of_getElem? (i := 43) (by decide +kernel)
set_option maxRecDepth 20000 in
theorem lwm_20 : Cond.methodLink RL 20 yX5_init ∈ lw_tbl := List.mem_of_getElem? (i := 507) (by decide +kernel)
set_option maxRecDepth 20000 in
theorem lwm_21 : Cond.instanceMethod yX5_init ∈ lw_tbl := List.mem_of_getElem? (i := 508) (by decide +kernel)
set_option maxRecDepth 20000 in
theorem glL_cell : GoodIn lw_tbl (va_wsS RL 9 yL_cell wsL_cell) := goodIn_sub (List.forall_mem_cons.mpr ⟨List.mem_of_getElem? (i := 502) (by decide +kernel), List.forall_mem_cons.mpr ⟨List.mem_of_getElem? (i := 503) (by decide +kernel), List.forall_mem_cons.mpr ⟨List.mem_of_getElem? (i := 32) (by decide +kernel), List.forall_mem_cons.mpr ⟨List.mem_of_getElem? (i := 504) (by decide +kernel), fun _ h => absurd h List.not_mem_nil⟩⟩⟩⟩) (by decide +kernel)
theorem lw_more {L i : Nat} (hL : L ≤ 257) (hi : i ≤ 300) (h : ¬ nI L - 4 < nI i) : i + 4 ≤ L := by
  by_cases h4 : 4 ≤ L
  · rw [show nI L - 4 = nI (L - 4) from pk_sub (b := 4) h4, nI_ltI (by omega) (by omega)] at h
    omega
  · exfalso
    apply h
    have e : nI L - 4 < 0 := by
      rcases (show L = 0 ∨ L = 1 ∨ L = 2 ∨ L = 3 by omega) with rfl | rfl | rfl | rfl <;> decide +kernel
    have e2 := Int32.lt_iff_toInt_lt.mp e
    rw [Int32.lt_iff_toInt_lt, nI_toInt (by omega)]
    have e0 : (0 : Int32).toInt = 0 := rfl
    omega
set_option maxHeartbeats 4000000 in
set_option maxRecDepth 3000 in
theorem lw_loop {E : GE} {K : KX} {N : Nat} (hN : 16 ≤ N ∧ N ≤ 64) {ax am : Nat → Nat} {b L : Nat} {xs : Nat → Int32} (hL : L ≤ 257) (C : zC E K cL_law lw_tbl RL room_1 4) (hX : zX K b L xs) (fin : ∀ (V : va_W) (lv : List (Nat × Value)), Z E K 27 8620 V 515 lv [.int 1]) : ∀ (n i : Nat) (X : XS) (M : MS), Rel N X M → i ≤ 300 → L ≤ i + 4 * n → Z E K 27 8620 (wX E ax N X ++ wM E am N M) 28 [(3, .int (nI i)), (2, .ref (am 0)), (1, .ref (ax 0)), (0, .ref b)] [] := by
  intro n
  induction n with
  | zero =>
    intro i X M R hi hn
    refine z_iload_n C 0 rfl rfl dL_law_28 ?_
    refine z_aload_n C 3 rfl rfl dL_law_29 ?_
    refine z_slen C hX dL_law_30 ?_
    refine z_iconst C (v := 4) (by decide) dL_law_31 ?_
    refine z_isub C dL_law_32 ?_
    refine z_icmp_gt C (tgt := 514) dL_law_33 (by decide) (fun _ => ?_) (fun h => ?_)
    · refine z_iconst C (v := 1) (by decide) dL_law_514 ?_
      exact fin _ _
    · exact absurd (lw_more hL hi h) (by omega)
  | succ n ih =>
    intro i X M R hi hn
    refine z_iload_n C 0 rfl rfl dL_law_28 ?_
    refine z_aload_n C 3 rfl rfl dL_law_29 ?_
    refine z_slen C hX dL_law_30 ?_
    refine z_iconst C (v := 4) (by decide) dL_law_31 ?_
    refine z_isub C dL_law_32 ?_
    refine z_icmp_gt C (tgt := 514) dL_law_33 (by decide) (fun _ => ?_) (fun h => ?_)
    · refine z_iconst C (v := 1) (by decide) dL_law_514 ?_
      exact fin _ _
    · have hm := lw_more hL hi h
      obtain ⟨a0, ha0⟩ : ∃ z : Int32, xs i = z := ⟨_, rfl⟩
      refine z_aload_n C 3 rfl rfl dL_law_36 ?_
      refine z_iload_n C 0 rfl rfl dL_law_37 ?_
      refine z_sld C hX (v := a0) (vp_in_nI (by omega) (by omega)) (by rw [nI_clamp (by omega)]; exact ha0) dL_law_38 ?_
      refine z_bipush C (v := 15) (by decide) dL_law_39 ?_
      refine z_iand C dL_law_41 ?_
      obtain ⟨j, hj, hx⟩ := pk_andE a0 (m := 15) 4 (by decide)
      refine z_top hx ?_
      have next : ∀ (X1 : XS) (M1 : MS), Rel N X1 M1 → Z E K 27 8620 (wX E ax N X1 ++ wM E am N M1) 508 [(3, .int (nI i)), (2, .ref (am 0)), (1, .ref (ax 0)), (0, .ref b)] [] := fun X1 M1 R1 => by
        refine z_iinc C 0 (n := 4) (v := nI (i + 4)) (lv' := [(3, .int (nI (i + 4))), (2, .ref (am 0)), (1, .ref (ax 0)), (0, .ref b)]) rfl (show nI i + Int32.ofInt 4 = nI (i + 4) from nI_add i 4) rfl (by decide) dL_law_508 ?_
        refine z_goto C (tgt := 28) dL_law_511 (by decide) ?_
        exact ih (i + 4) X1 M1 R1 (by omega) (by omega)
      rcases (show j = 0 ∨ j = 1 ∨ j = 2 ∨ j = 3 ∨ j = 4 ∨ j = 5 ∨ j = 6 ∨ j = 7 ∨ j = 8 ∨ j = 9 ∨ j = 10 ∨ j = 11 ∨ j = 12 ∨ j = 13 ∨ j = 14 ∨ j = 15 by omega) with rfl | rfl | rfl | rfl | rfl | rfl | rfl | rfl | rfl | rfl | rfl | rfl | rfl | rfl | rfl | rfl
      · exact z_swIn C (x := nI 0) (off := 78) (tgt := 120) (by decide) (by decide) (by decide) dL_law_42 (by decide) (lwc_begin hN hL hm C hX R next)
      · exact z_swIn C (x := nI 1) (off := 91) (tgt := 133) (by decide) (by decide) (by decide) dL_law_42 (by decide) (lwc_put hN hL hm C hX R next)
      · exact z_swIn C (x := nI 2) (off := 134) (tgt := 176) (by decide) (by decide) (by decide) dL_law_42 (by decide) (lwc_commit hN hL hm C hX R next)
      · exact z_swIn C (x := nI 3) (off := 157) (tgt := 199) (by decide) (by decide) (by decide) dL_law_42 (by decide) (lwc_undo hN hL hm C hX R next)
      · exact z_swIn C (x := nI 4) (off := 180) (tgt := 222) (by decide) (by decide) (by decide) dL_law_42 (by decide) (lwc_get hN hL hm C hX R next)
      · exact z_swIn C (x := nI 5) (off := 203) (tgt := 245) (by decide) (by decide) (by decide) dL_law_42 (by decide) (lwc_seen hN hL hm C hX R next)
      · exact z_swIn C (x := nI 6) (off := 236) (tgt := 278) (by decide) (by decide) (by decide) dL_law_42 (by decide) (lwc_sync hN hL hm C hX R next)
      · exact z_swIn C (x := nI 7) (off := 249) (tgt := 291) (by decide) (by decide) (by decide) dL_law_42 (by decide) (lwc_checkpoint hN hL hm C hX R next)
      · exact z_swIn C (x := nI 8) (off := 262) (tgt := 304) (by decide) (by decide) (by decide) dL_law_42 (by decide) (lwc_cut hN hL hm C hX R next)
      · exact z_swIn C (x := nI 9) (off := 295) (tgt := 337) (by decide) (by decide) (by decide) dL_law_42 (by decide) (lwc_start hN hL hm C hX R next)
      · exact z_swIn C (x := nI 10) (off := 308) (tgt := 350) (by decide) (by decide) (by decide) dL_law_42 (by decide) (lwc_at hN hL hm C hX R next)
      · exact z_swIn C (x := nI 11) (off := 341) (tgt := 383) (by decide) (by decide) (by decide) dL_law_42 (by decide) (lwc_sound hN hL hm C hX R next)
      · exact z_swIn C (x := nI 12) (off := 364) (tgt := 406) (by decide) (by decide) (by decide) dL_law_42 (by decide) (lwc_poke hN hL hm C hX R next)
      · exact z_swIn C (x := nI 13) (off := 407) (tgt := 449) (by decide) (by decide) (by decide) dL_law_42 (by decide) (lwc_count hN hL hm C hX R next)
      · exact z_swIn C (x := nI 14) (off := 430) (tgt := 472) (by decide) (by decide) (by decide) dL_law_42 (by decide) (lwc_holder hN hL hm C hX R next)
      · exact z_swIn C (x := nI 15) (off := 453) (tgt := 495) (by decide) (by decide) (by decide) dL_law_42 (by decide) (lwc_format hN hL hm C hX R next)
set_option maxHeartbeats 4000000 in
set_option maxRecDepth 3000 in
theorem lw_body {E : GE} {K : KX} {b L : Nat} {xs : Nat → Int32} (hL : L ≤ 257) (C : zC E K cL_law lw_tbl RL room_1 4) (hX : zX K b L xs) (fin : ∀ (V : va_W) (lv : List (Nat × Value)), Z E K 27 8620 V 515 lv [.int 1]) : Z E K 0 0 [] 0 [(0, .ref b)] [] := by
  obtain ⟨N, hN, hz1⟩ := sz_N (fst0 L xs)
  have hz0 : sz0 (fst0 L xs) = nI N := (sz_same _).trans hz1
  refine z_new C (Cn := RX4) (T := TX4) (Nf := 5) (ci := 4) (fs := [.null, .null, .null, .int 0, .int 0]) inX4 tyX4 tyX4_ok (C.w lwm_14) (C.w lwm_7) (C.w lwm_15) rfl (fun j hj => by rcases (show j = 0 ∨ j = 1 ∨ j = 2 ∨ j = 3 ∨ j = 4 by omega) with rfl | rfl | rfl | rfl | rfl <;> rfl) ⟨by decide, by decide⟩ dL_law_0 (fun qa => ?_)
  refine z_dup C rfl dL_law_3 ?_
  refine z_aload_n C 0 rfl rfl dL_law_4 ?_
  refine z_iconst C (v := 0) (by decide) dL_law_5 ?_
  refine z_cell C hL hX glL_cell ⟨by decide, by decide⟩ ⟨by decide, by decide⟩ (Nat.le_of_ble_eq_true rfl) dL_law_6 ?_
  refine z_callIW C (c_X4_init E qa (fst0 L xs) N hN hz0) gwX4_init rfl ⟨rfl, rfl⟩ (C.w lwm_15) (C.w lwm_18) (C.w lwm_19) rfl hyX4_init ⟨by decide, by decide⟩ ⟨by decide, by decide⟩ [0] [] (wr := []) rfl rfl (by decide) (by decide) (by decide) (st := [.ref qa]) (Nat.le_of_ble_eq_true rfl) dL_law_9 (fun q => ?_) rfl
  obtain ⟨ax, hax⟩ : ∃ z : Nat → Nat, (fun i => if i = 0 then qa else q (i - 1)) = z := ⟨_, rfl⟩
  have hax0 : qa = ax 0 := by rw [← hax]; rfl
  show Z E K 15 4297 (wX E (fun i => if i = 0 then qa else q (i - 1)) N ((0, 0, jBegin N j0, dClear ((0, fun _ => 0, fun _ => 0, fun _ => 0) : DS), (0, 0, 0, fun _ => 0)) : XS)) 12 [(0, .ref b)] [.ref qa]
  rw [hax, hax0]
  refine z_astore_n C (lv' := [(1, .ref (ax 0)), (0, .ref b)]) rfl rfl (by decide) dL_law_12 ?_
  refine z_new C (Cn := RX5) (T := TX5) (Nf := 20) (ci := 5) (fs := [.int 0, .null, .int 0, .int 0, .null, .null, .int 0, .int 0, .int 0, .int 0, .int 0, .null, .null, .null, .null, .null, .null, .null, .int 0, .null]) inX5 tyX5 tyX5_ok (C.w lwm_16) (C.w lwm_8) (C.w lwm_17) rfl (fun j hj => by rcases (show j = 0 ∨ j = 1 ∨ j = 2 ∨ j = 3 ∨ j = 4 ∨ j = 5 ∨ j = 6 ∨ j = 7 ∨ j = 8 ∨ j = 9 ∨ j = 10 ∨ j = 11 ∨ j = 12 ∨ j = 13 ∨ j = 14 ∨ j = 15 ∨ j = 16 ∨ j = 17 ∨ j = 18 ∨ j = 19 by omega) with rfl | rfl | rfl | rfl | rfl | rfl | rfl | rfl | rfl | rfl | rfl | rfl | rfl | rfl | rfl | rfl | rfl | rfl | rfl | rfl <;> rfl) ⟨by decide, by decide⟩ dL_law_13 (fun qb => ?_)
  refine z_dup C rfl dL_law_16 ?_
  refine z_aload_n C 1 rfl rfl dL_law_17 ?_
  refine z_iconst C (v := 0) (by decide) dL_law_18 ?_
  refine z_cell C hL hX glL_cell ⟨by decide, by decide⟩ ⟨by decide, by decide⟩ (Nat.le_of_ble_eq_true rfl) dL_law_19 ?_
  refine z_callIW C (c_X5_init E qb (fst0 L xs) N hN hz1) gwX5_init rfl ⟨rfl, rfl⟩ (C.w lwm_17) (C.w lwm_20) (C.w lwm_21) rfl hyX5_init ⟨by decide, by decide⟩ ⟨by decide, by decide⟩ [15] [0, 1, 2, 3, 4, 5, 6, 7, 8, 9, 10, 11, 12, 13, 14] (wr := wX E ax N ((0, 0, jBegin N j0, dClear ((0, fun _ => 0, fun _ => 0, fun _ => 0) : DS), (0, 0, 0, fun _ => 0)) : XS)) rfl rfl (by decide) (by decide) (by decide) (st := [.ref qb]) (Nat.le_of_ble_eq_true rfl) dL_law_22 (fun q2 => ?_) rfl
  obtain ⟨am, ham⟩ : ∃ z : Nat → Nat, (fun i => if i = 0 then qb else q2 (i - 1)) = z := ⟨_, rfl⟩
  have ham0 : qb = am 0 := by rw [← ham]; rfl
  show Z E K 27 8620 (wX E ax N ((0, 0, jBegin N j0, dClear ((0, fun _ => 0, fun _ => 0, fun _ => 0) : DS), (0, 0, 0, fun _ => 0)) : XS) ++ wM E (fun i => if i = 0 then qb else q2 (i - 1)) N (mBeg0 N m0)) 25 [(1, .ref (ax 0)), (0, .ref b)] [.ref qb]
  rw [ham, ham0]
  refine z_astore_n C (lv' := [(2, .ref (am 0)), (1, .ref (ax 0)), (0, .ref b)]) rfl rfl (by decide) dL_law_25 ?_
  refine z_iconst C (v := 1) (by decide) dL_law_26 ?_
  refine z_istore_n C (lv' := [(3, .int (nI 1)), (2, .ref (am 0)), (1, .ref (ax 0)), (0, .ref b)]) rfl rfl (by decide) dL_law_27 ?_
  exact lw_loop hN hL C hX fin L 1 _ _ (r_new hN) (by omega) (by omega)
theorem lw_arr {args : Array Value} {s : State} {ty : FieldType} (h : (Cond.arrayClass ty).before args s = true) : ∃ cA : ClassId, ArrOfT s cA ty ∧ s.vm.findClass ("[" ++ ty.toString) = some cA := by
  obtain ⟨cA, kA, comp, h1, h2, h3⟩ := Cond.arrayClass_spec h
  exact ⟨cA, fun n z => ⟨fun k h => (by cases h), kA, h2, comp, h3⟩, h1⟩
set_option maxHeartbeats 4000000 in
set_option maxRecDepth 3000 in
theorem whole_start {p : Program} {e : Env} {s : State} {m : MethodId} {below : List Frame} {meth : Method} {c : Code} (l : Launch) {b L : Nat} {xs : Nat → Int32} (hL : L ≤ 257) (C0 : lw_At p s m meth c b L xs) : W p l e room_1 s m #[Value.ref b] below meth c s.heap [] 0 0 (lw_Z below #[Value.ref b] s) (entryFrame m ([Value.ref b] : List Value).toArray 4) := by
  obtain ⟨hx, hb, hr, hml, hown, hts, hX, hbl, hlocks, hgv⟩ := id C0
  obtain ⟨c0, iS0, hKn0⟩ := u_known (C := RX0) (T := TX0) (N := 4) (n := 4) hts inX0 (hts _ lwm_3)
  obtain ⟨c1, iS1, hKn1⟩ := u_known (C := RX1) (T := TX1) (N := 4) (n := 4) hts inX1 (hts _ lwm_4)
  obtain ⟨c2, iS2, hKn2⟩ := u_known (C := RX2) (T := TX2) (N := 12) (n := 12) hts inX2 (hts _ lwm_5)
  obtain ⟨c3, iS3, hKn3⟩ := u_known (C := RX3) (T := TX3) (N := 2) (n := 2) hts inX3 (hts _ lwm_6)
  obtain ⟨c4, iS4, hKn4⟩ := u_known (C := RX4) (T := TX4) (N := 5) (n := 5) hts inX4 (hts _ lwm_7)
  obtain ⟨c5, iS5, hKn5⟩ := u_known (C := RX5) (T := TX5) (N := 20) (n := 20) hts inX5 (hts _ lwm_8)
  obtain ⟨cB, hB1, hB2⟩ := lw_arr (hts _ lwm_0)
  obtain ⟨cI, hI1, hI2⟩ := lw_arr (hts _ lwm_1)
  obtain ⟨cZ, hZ1, hZ2⟩ := lw_arr (hts _ lwm_2)
  obtain ⟨dC, dI, hKc⟩ : ∃ (dC : Nat → ClassId) (dI : Nat → Nat → Nat), ∀ (k : Nat) (q : vw_C), vwCl[k]? = some q → u_Kn s q.1 q.2.1 q.2.2 (dC k) (dI k) := by
    refine ⟨fun k => if k = 0 then c0 else if k = 1 then c1 else if k = 2 then c2 else if k = 3 then c3 else if k = 4 then c4 else c5, fun k => if k = 0 then iS0 else if k = 1 then iS1 else if k = 2 then iS2 else if k = 3 then iS3 else if k = 4 then iS4 else iS5, ?_⟩
    intro k q hq
    match k, hq with
    | 0, hq => cases hq; exact hKn0
    | 1, hq => cases hq; exact hKn1
    | 2, hq => cases hq; exact hKn2
    | 3, hq => cases hq; exact hKn3
    | 4, hq => cases hq; exact hKn4
    | 5, hq => cases hq; exact hKn5
    | k + 6, hq => simp [vwCl] at hq
  have hK : zK (l, (dC, dI), cB, cI, cZ) s := by
    refine ⟨⟨hKc, fun k q h => ?_⟩, ?_, ?_, ?_, ?_, ?_⟩
    · match k, h with
      | 0, h => cases h; exact ⟨hB1, hB2⟩
      | 1, h => cases h; exact ⟨hI1, hI2⟩
      | 2, h => cases h; exact ⟨hZ1, hZ2⟩
      | k + 3, h => simp [gT] at h
    · exact va_tabs rfl rfl (hts _ lwm_9)
    · exact va_tabs rfl rfl (hts _ lwm_10)
    · exact va_tabs rfl rfl (hts _ lwm_11)
    · exact va_tabs rfl rfl (hts _ lwm_12)
    · exact va_tabs rfl rfl (hts _ lwm_13)
  have hP : va_P (dC, dI) vwCl [] s.heap := fun k q h => by simp at h
  have hD : va_D (fun q : Nat => s.heap.size ≤ q) [] := ⟨fun i j p q h => by simp at h, fun k q h => by simp at h⟩
  have hl := lv_entry ([.ref b]) (n := 4) (Nat.le_of_ble_eq_true rfl)
  rw [lg_entry_eq]
  generalize (lg_sl ([.ref b]) ++ List.replicate (4 - (lg_sl ([.ref b])).length) Slot.unset).toArray = ls at hl ⊢
  have hl : lv_has ls 4 [(0, .ref b)] := hl
  exact lw_body (E := (l, (dC, dI), cB, cI, cZ)) (K := (p, e, room_1, s, m, #[Value.ref b], below, meth, c, 4, (fun q : Nat => s.heap.size ≤ q), lw_Z below #[Value.ref b] s)) hL ⟨hx, hb, hml, rfl, rfl, hown, hts, fun _ h => h, hK, hlocks⟩ ⟨hX, hbl, Nat.not_le.mpr hbl⟩ (fun V lv H locs ls2 hP2 hD2 hS2 _ => by
    refine va_forget (fun q hq => hS2.2.2 q hq) ?_
    refine W.widen (k := 600000) (n := 7302249) (by decide) (by decide) ?_
    exact lw_ret hx hb hr hlocks dL_law_515) s.heap [] ls hP hD va_S.rf hl

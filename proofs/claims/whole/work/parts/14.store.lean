/-! Part 14: StoreLog3 -/
def xBegin (X : XS) : Int32 × XS := if xDn X = 0 then ((opL (xD X) 3 0).1, xsD X (opL (xD X) 3 0).2) else (-3, X)
def xPutE (N : Nat) (X : XS) (t k v : Int32) (e : Nat) : Int32 × XS := if jCan N (xJ X) = 0 then (-2, X) else if v = -1 then (1, xsJ (xsD X (dChg (xD X) t k v)) (jTake N (xJ X) t 1 k 0 e)) else (1, xsJ (xsD X (dChg (xD X) t k v)) (jTake N (xJ X) t 0 k v e))
def xPutH (N : Nat) (X : XS) (t k v : Int32) (e : Nat) : Int32 × XS := if dHolder (xD X) k = -1 then xPutE N X t k v e else if dHolder (xD X) k = t then xPutE N X t k v e else (0, X)
def xPut (N : Nat) (X : XS) (t k v : Int32) (e : Nat) : Int32 × XS := if xDn X = 0 then (if dIsO (xD X) t = 0 then (-1, X) else if isK k = 0 then (-1, X) else if isV v = 0 then (if v = -1 then xPutH N X t k v e else (-1, X)) else xPutH N X t k v e) else (-3, X)
def xEnd (N : Nat) (X : XS) (t w : Int32) (e : Nat) : Int32 × XS := if xDn X = 0 then (if dIsO (xD X) t = 0 then (-1, X) else if jCan N (xJ X) = 0 then (-2, X) else if w = 2 then ((dClose (xD X) t 1).1, xsD (xsJ X (jTake N (xJ X) t w 0 0 e)) (dClose (xD X) t 1).2) else ((dClose (xD X) t 0).1, xsD (xsJ X (jTake N (xJ X) t w 0 0 e)) (dClose (xD X) t 0).2)) else (-3, X)
def xCommit (N : Nat) (X : XS) (t : Int32) (e : Nat) : Int32 × XS := if (xEnd N X t 2 e).1 < 0 then xEnd N X t 2 e else ((xEnd N X t 2 e).1, xsCm (xEnd N X t 2 e).2 (xCm (xEnd N X t 2 e).2 + 1))
def xGet (X : XS) (k : Int32) : Int32 := if xDn X = 0 then dValue (xD X) k else -3
def xSeen (X : XS) (t k : Int32) : Int32 := if xDn X = 0 then (if dIsO (xD X) t = 0 then -1 else dFor (xD X) t k) else -3
def xSync (N : Nat) (X : XS) (e w : Nat) : Int32 × XS := if xDn X = 0 then (if jRoom N (xJ X) (jDue (xJ X)) = 0 then (-2, X) else (nI w, xsJ X (jAll N (jWL N (xJ X) e) w))) else (-3, X)
def xChk (N : Nat) (X : XS) (e P : Nat) : Int32 × XS := if xDn X = 0 then (if dOp (xD X) = 0 then (if jRoom N (xJ X) (jDue (xJ X) + nI P) = 0 then (-2, X) else (nI P, xsJ X (jWPg N (jWL N (xJ X) e) (xD X) P))) else (-1, X)) else (-3, X)
def xCut (N : Nat) (X : XS) (u v : Int32) (w : Nat) : Int32 × XS := if xDn X = 0 then (if u < 0 then (-1, X) else if nI w < u then (-1, X) else if v < 0 then (-1, X) else if v ≤ 32 then (nI w, xsDn (xsD (xsJ X (jLose N (xJ X) u.toNatClampNeg v.toNatClampNeg w)) (dClear (xD X))) 1) else (-1, X)) else (-3, X)
def unL (N : Nat) : Nat → Nat → Nat → Int32 × XS → Int32 × XS
  | 0, _, _, x => x
  | n + 1, j, e, x => if dIsO (xD x.2) (nI j) = 0 then unL N n (j + 1) e x else unL N n (j + 1) (e + 1) (x.1 + 1, xsD (xsJ x.2 (jTake N (xJ x.2) (nI j) 3 0 0 e)) (dClose (xD x.2) (nI j) 0).2)
def xFnd (N : Nat) (X : XS) : XS := xsF X (fFind N (jDk (xJ X)) (xF X))
def xRd (N : Nat) (X : XS) : XS := xsD (xsF X (fsRe (xF X) (rdAll N (jDk (xJ X)) (xF X) (xD X)).1)) (rdAll N (jDk (xJ X)) (xF X) (xD X)).2
def xGo (N : Nat) (X : XS) : XS := xsD (xsF X (gRun N (jDk (xJ X)) (xF X) (xD X)).1) (gRun N (jDk (xJ X)) (xF X) (xD X)).2
def xOn (N : Nat) (X : XS) : XS := xsDn (xsCm (xsJ X (jGoOn N (xJ X) (fFp (xF X)) (fRe (xF X)))) 0) 0
def xStart (N : Nat) (X : XS) : Int32 × XS := if xDn X = 0 then (-1, X) else if fFound N (jDk (xJ X)) (xF X) = 0 then (-4, xFnd N X) else unL N 3 0 0 (0, xOn N (xGo N (xRd N (xFnd N X))))
def xPoke (N : Nat) (X : XS) (s i v : Int32) : Int32 × XS := if bOf N (jDk (xJ X)) s i = -1 then (0, X) else if v < 1 then (0, X) else if v ≤ 255 then (1, xsJ X (jsDk (xJ X) (sB N (jDk (xJ X)) s i (bOf N (jDk (xJ X)) s i ^^^ v)))) else (0, X)
def xCount (N : Nat) (X : XS) (q : Int32) : Int32 := if xDn X = 0 then (if q = 0 then jSe (xJ X) else if q = 1 then jSc (xJ X) else if q = 2 then jWa (xJ X) else if q = 3 then jEn (xJ X) else if q = 4 then jNeed N (xJ X) else if q = 5 then dOp (xD X) else if q = 6 then xCm X else -1) else -3
def xHolder (X : XS) (k : Int32) : Int32 := if xDn X = 0 then dHolder (xD X) k else -3
def xForm (N : Nat) (X : XS) : Int32 × XS := (if xDn X = 0 then xCm X else 0, xsDn (xsCm (xsD (xsJ X (jBegin N (xJ X))) (dClear (xD X))) 0) 0)
theorem jTake_En (N : Nat) (J : JS) (t w k v : Int32) (e : Nat) (h : e ≤ 2) : jEn (jTake N J t w k v e) = nI (e + 1) := by
  unfold jTake
  rw [if_neg (fun q => ?_)]
  · rfl
  · have := (nI_eq (a := e + 1) (b := 4) (by omega) (by omega)).mp q
    omega
theorem zsw7 {q : Int32} (h0 : ¬ q = 0) (h1 : ¬ q = 1) (h2 : ¬ q = 2) (h3 : ¬ q = 3) (h4 : ¬ q = 4) (h5 : ¬ q = 5) (h6 : ¬ q = 6) : q.toInt < 0 ∨ 6 < q.toInt := by
  have a0 := lv_neT h0 (show (0 : Int32).toInt = 0 from rfl)
  have a1 := lv_neT h1 (show (1 : Int32).toInt = 1 from rfl)
  have a2 := lv_neT h2 (show (2 : Int32).toInt = 2 from rfl)
  have a3 := lv_neT h3 (show (3 : Int32).toInt = 3 from rfl)
  have a4 := lv_neT h4 (show (4 : Int32).toInt = 4 from rfl)
  have a5 := lv_neT h5 (show (5 : Int32).toInt = 5 from rfl)
  have a6 := lv_neT h6 (show (6 : Int32).toInt = 6 from rfl)
  omega
theorem zcutN {u : Int32} {w : Nat} (hw : w ≤ 64) (h1 : ¬ u < 0) (h2 : ¬ nI w < u) : ∃ kp : Nat, kp ≤ w ∧ u = nI kp := by
  have a1 := znlt h1
  have a2 : u.toInt ≤ (nI w).toInt := by rw [Int32.lt_iff_toInt_lt] at h2; omega
  rw [nI_toInt (by omega)] at a2
  have e0 : (0 : Int32).toInt = 0 := rfl
  have e1 : u.toNatClampNeg = u.toInt.toNat := rfl
  exact ⟨u.toNatClampNeg, by omega, ztoNI (by omega)⟩
theorem ztear {u : Int32} (h1 : ¬ u < 0) (h2 : u ≤ 32) : ∃ kp : Nat, kp ≤ 32 ∧ u = nI kp := by
  have a1 := znlt h1
  have a2 := Int32.le_iff_toInt_le.mp h2
  have e0 : (0 : Int32).toInt = 0 := rfl
  have e2 : (32 : Int32).toInt = 32 := rfl
  have e1 : u.toNatClampNeg = u.toInt.toNat := rfl
  exact ⟨u.toNatClampNeg, by omega, ztoNI (by omega)⟩
abbrev rmX4_begin : Room := { frames := 3, cells := 0, slots := 0, locals := 62 }
theorem hyX4_begin : yX4_begin.cls = RX4 ∧ yX4_begin.cls ≠ "java/lang/invoke/MethodHandle" ∧ yX4_begin.cls ≠ "java/lang/invoke/VarHandle" ∧ (parseMethodDescriptor yX4_begin.desc).map (fun d => d.parameters.length) = some 0 := by decide +kernel
set_option maxHeartbeats 4000000 in
set_option maxRecDepth 3000 in
theorem c_X4_begin (E : GE) (N : Nat) (hN : 16 ≤ N ∧ N ≤ 64) (a : Nat → Nat) (X : XS) : zI E yX4_begin wsX4_begin rmX4_begin [.ref (a 0)] (wX E a N X) ((xBegin X).1) (wX E a N ((xBegin X).2)) := by
  refine zI_of (cc := cX4_begin) (maxL := 1) (ty := .int) (by decide) rfl (vp_nar_int _) (Nat.le_of_ble_eq_true rfl) ?_
  intro K C ret
  replace C : zC E K cX4_begin wsX4_begin RX4 rmX4_begin 1 := C
  have in4 : ∀ w ∈ wsX40, w ∈ wsX4_begin := fun w h => List.mem_cons_of_mem _ (List.mem_append_left _ (List.mem_append_right _ (h)))
  have l21 : zw K (.fieldLink RX4 21 "StoreLog3" "dictionary" "LStoreLog3$Dictionary;") := C.w (List.mem_cons_of_mem _ (List.mem_append_left _ (List.mem_append_left _ (List.mem_of_getElem? (i := 1) rfl))))
  have l32 : zw K (.fieldLink RX4 32 "StoreLog3" "down" "Z") := C.w (List.mem_cons_of_mem _ (List.mem_append_left _ (List.mem_append_left _ (List.mem_of_getElem? (i := 0) rfl))))
  show Z E K 0 0 (wX E a N X) 0 [(0, .ref (a 0))] []
  refine z_aload_n C 0 rfl rfl dX4_begin_0 ?_
  refine z_get C (Cn := RX4) (T := TX4) (Nf := 5) (ci := 4) in4 0 3 l32 (v := .int (xDn X)) rfl rfl (by decide) rfl dX4_begin_1 ?_
  refine z_if_eq C (tgt := 12) dX4_begin_4 (by decide) (fun h4_1t => ?_) (fun h4_1f => ?_)
  · refine z_aload_n C 0 rfl rfl dX4_begin_12 ?_
    refine z_get C (Cn := RX4) (T := TX4) (Nf := 5) (ci := 4) in4 0 1 l21 (v := .ref (a 9)) rfl rfl (by decide) rfl dX4_begin_13 ?_
    have ct1 := c_X0_openLeast E (fun i => a (i + 9)) (xD X)
    obtain ⟨Dq2, hq16_2⟩ : ∃ z : DS, ((opL (xD X) 3 0).2) = z := ⟨_, rfl⟩
    rw [hq16_2] at ct1
    refine z_callVI C ct1 gX4_begin_X0_openLeast (ci := 0) (q0 := 0) rfl rfl hyX0_openLeast rfl ⟨rfl, rfl⟩ ⟨by decide, by decide⟩ ⟨by decide, by decide⟩ [9, 10, 11, 12] [0, 1, 2, 3, 4, 5, 6, 7, 8, 13, 14] [0, 1, 2, 3, 4, 5, 6, 7, 8, 11, 12, 13, 14, 9, 10] (wr := [((a 0), .inr (4, [.ref (a 1), .ref (a 9), .ref (a 13), .int (xDn X), .int (xCm X)])), ((a 1), .inr (2, [.ref (a 2), .ref (a 4), .ref (a 6), .ref (a 7), .ref (a 8), .int (jEn (xJ X)), .int (jWa (xJ X)), .int (jFw (xJ X)), .int (jSe (xJ X)), .int (jSc (xJ X)), .int (jFn (xJ X)), .int (jFp (xJ X))])), ((a 2), .inr (3, [.int (nI N), .ref (a 3)])), ((a 3), .inl (gB E, 32 * N, .inl (jDk (xJ X)))), ((a 4), .inr (3, [.int (nI N), .ref (a 5)])), ((a 5), .inl (gB E, 32 * N, .inl (jMm (xJ X)))), ((a 6), .inl (gI E, 4, .inl (jEh (xJ X)))), ((a 7), .inl (gI E, 4, .inl (jEk (xJ X)))), ((a 8), .inl (gI E, 4, .inl (jEv (xJ X)))), ((a 13), .inr (1, [.ref (a 14), .int (fFp (xF X)), .int (fPg (xF X)), .int (fRe (xF X))])), ((a 14), .inl (gZ E, 64, .inl (fTe (xF X))))]) (V' := (wX E a N (xsD X Dq2))) rfl rfl (by decide) (by decide) (by decide) rfl (by decide) (st := []) (Nat.le_of_ble_eq_true rfl) dX4_begin_16 ?_ rfl
    exact ret _ _ _ _ (by first | rfl | (simp only [xBegin, if_pos h4_1t, hq16_2, ↓reduceIte]; done) | (simp only [xBegin, if_pos h4_1t, hq16_2, ↓reduceIte]; rfl) | (simp [xBegin, if_pos h4_1t, hq16_2, ↓reduceIte]; done)) (by first | rfl | (simp only [xBegin, if_pos h4_1t, hq16_2, ↓reduceIte]; done) | (simp only [xBegin, if_pos h4_1t, hq16_2, ↓reduceIte]; rfl) | (simp [xBegin, if_pos h4_1t, hq16_2, ↓reduceIte]; done)) dX4_begin_19
  · refine z_bipush C (v := (-3)) (by decide) dX4_begin_7 ?_
    refine z_goto C (tgt := 19) dX4_begin_9 (by decide) ?_
    exact ret _ _ _ _ (by first | rfl | (simp only [xBegin, if_neg h4_1f, ↓reduceIte]; done) | (simp only [xBegin, if_neg h4_1f, ↓reduceIte]; rfl) | (simp [xBegin, if_neg h4_1f, ↓reduceIte]; done)) (by first | rfl | (simp only [xBegin, if_neg h4_1f, ↓reduceIte]; done) | (simp only [xBegin, if_neg h4_1f, ↓reduceIte]; rfl) | (simp [xBegin, if_neg h4_1f, ↓reduceIte]; done)) dX4_begin_19
abbrev rmX4_put : Room := { frames := 5, cells := 0, slots := 0, locals := 120 }
theorem hyX4_put : yX4_put.cls = RX4 ∧ yX4_put.cls ≠ "java/lang/invoke/MethodHandle" ∧ yX4_put.cls ≠ "java/lang/invoke/VarHandle" ∧ (parseMethodDescriptor yX4_put.desc).map (fun d => d.parameters.length) = some 3 := by decide +kernel
set_option maxHeartbeats 4000000 in
set_option maxRecDepth 3000 in
theorem c_X4_put (E : GE) (N : Nat) (hN : 16 ≤ N ∧ N ≤ 64) (a : Nat → Nat) (X : XS) (t k v : Int32) (e : Nat) (he : jEn (xJ X) = nI e) (he3 : e ≤ 3) : zI E yX4_put wsX4_put rmX4_put [.ref (a 0), .int t, .int k, .int v] (wX E a N X) ((xPut N X t k v e).1) (wX E a N ((xPut N X t k v e).2)) := by
  refine zI_of (cc := cX4_put) (maxL := 5) (ty := .int) (by decide) rfl (vp_nar_int _) (Nat.le_of_ble_eq_true rfl) ?_
  intro K C ret
  replace C : zC E K cX4_put wsX4_put RX4 rmX4_put 5 := C
  have in4 : ∀ w ∈ wsX40, w ∈ wsX4_put := fun w h => List.mem_cons_of_mem _ (List.mem_append_left _ (List.mem_append_left _ (List.mem_append_left _ (List.mem_append_right _ (h)))))
  have l12 : zw K (.fieldLink RX4 12 "StoreLog3" "journal" "LStoreLog3$Journal;") := C.w (List.mem_cons_of_mem _ (List.mem_append_left _ (List.mem_append_left _ (List.mem_append_left _ (List.mem_append_left _ (List.mem_append_left _ (List.mem_of_getElem? (i := 2) rfl)))))))
  have l21 : zw K (.fieldLink RX4 21 "StoreLog3" "dictionary" "LStoreLog3$Dictionary;") := C.w (List.mem_cons_of_mem _ (List.mem_append_left _ (List.mem_append_left _ (List.mem_append_left _ (List.mem_append_left _ (List.mem_append_left _ (List.mem_of_getElem? (i := 1) rfl)))))))
  have l32 : zw K (.fieldLink RX4 32 "StoreLog3" "down" "Z") := C.w (List.mem_cons_of_mem _ (List.mem_append_left _ (List.mem_append_left _ (List.mem_append_left _ (List.mem_append_left _ (List.mem_append_left _ (List.mem_of_getElem? (i := 0) rfl)))))))
  show Z E K 0 0 (wX E a N X) 0 [(0, .ref (a 0)), (1, .int t), (2, .int k), (3, .int v)] []
  refine z_aload_n C 0 rfl rfl dX4_put_0 ?_
  refine z_get C (Cn := RX4) (T := TX4) (Nf := 5) (ci := 4) in4 0 3 l32 (v := .int (xDn X)) rfl rfl (by decide) rfl dX4_put_1 ?_
  refine z_if_eq C (tgt := 10) dX4_put_4 (by decide) (fun h4_1t => ?_) (fun h4_1f => ?_)
  · refine z_aload_n C 0 rfl rfl dX4_put_10 ?_
    refine z_get C (Cn := RX4) (T := TX4) (Nf := 5) (ci := 4) in4 0 1 l21 (v := .ref (a 9)) rfl rfl (by decide) rfl dX4_put_11 ?_
    refine z_iload_n C 1 rfl rfl dX4_put_14 ?_
    refine z_rVI C (c_X0_isOpen E (fun i => a (i + 9)) (xD X) t) gX4_put_X0_isOpen (ci := 0) (q0 := 0) rfl rfl hyX0_isOpen rfl ⟨rfl, rfl⟩ ⟨by decide, by decide⟩ ⟨by decide, by decide⟩ [9, 10, 11, 12] rfl (by decide) (st := []) (Nat.le_of_ble_eq_true rfl) dX4_put_15 ?_ rfl
    refine z_if_eq C (tgt := 40) dX4_put_18 (by decide) (fun h18_2t => ?_) (fun h18_2f => ?_)
    · refine z_iconst C (v := (-1)) (by decide) dX4_put_40 ?_
      exact ret _ _ _ _ (by first | rfl | (simp only [xPut, xPutH, xPutE, if_pos h4_1t, if_pos h18_2t, ↓reduceIte]; done) | (simp only [xPut, xPutH, xPutE, if_pos h4_1t, if_pos h18_2t, ↓reduceIte]; rfl) | (simp [xPut, xPutH, xPutE, if_pos h4_1t, if_pos h18_2t, ↓reduceIte]; done)) (by first | rfl | (simp only [xPut, xPutH, xPutE, if_pos h4_1t, if_pos h18_2t, ↓reduceIte]; done) | (simp only [xPut, xPutH, xPutE, if_pos h4_1t, if_pos h18_2t, ↓reduceIte]; rfl) | (simp [xPut, xPutH, xPutE, if_pos h4_1t, if_pos h18_2t, ↓reduceIte]; done)) dX4_put_41
    · refine z_iload_n C 2 rfl rfl dX4_put_21 ?_
      refine z_rSI C (c_X4_isKey E k) gX4_put_X4_isKey hyX4_isKey.2 rfl ⟨rfl, rfl⟩ ⟨by decide, by decide⟩ ⟨by decide, by decide⟩ [] rfl (by decide) (st := []) (Nat.le_of_ble_eq_true rfl) dX4_put_22 ?_ rfl
      refine z_if_eq C (tgt := 40) dX4_put_25 (by decide) (fun h25_3t => ?_) (fun h25_3f => ?_)
      · refine z_iconst C (v := (-1)) (by decide) dX4_put_40 ?_
        exact ret _ _ _ _ (by first | rfl | (simp only [xPut, xPutH, xPutE, if_pos h4_1t, if_neg h18_2f, if_pos h25_3t, ↓reduceIte]; done) | (simp only [xPut, xPutH, xPutE, if_pos h4_1t, if_neg h18_2f, if_pos h25_3t, ↓reduceIte]; rfl) | (simp [xPut, xPutH, xPutE, if_pos h4_1t, if_neg h18_2f, if_pos h25_3t, ↓reduceIte]; done)) (by first | rfl | (simp only [xPut, xPutH, xPutE, if_pos h4_1t, if_neg h18_2f, if_pos h25_3t, ↓reduceIte]; done) | (simp only [xPut, xPutH, xPutE, if_pos h4_1t, if_neg h18_2f, if_pos h25_3t, ↓reduceIte]; rfl) | (simp [xPut, xPutH, xPutE, if_pos h4_1t, if_neg h18_2f, if_pos h25_3t, ↓reduceIte]; done)) dX4_put_41
      · refine z_iload_n C 3 rfl rfl dX4_put_28 ?_
        refine z_rSI C (c_X4_isValue E v) gX4_put_X4_isValue hyX4_isValue.2 rfl ⟨rfl, rfl⟩ ⟨by decide, by decide⟩ ⟨by decide, by decide⟩ [] rfl (by decide) (st := []) (Nat.le_of_ble_eq_true rfl) dX4_put_29 ?_ rfl
        refine z_if_ne C (tgt := 42) dX4_put_32 (by decide) (fun h32_4t => ?_) (fun h32_4f => ?_)
        · refine z_aload_n C 0 rfl rfl dX4_put_42 ?_
          refine z_get C (Cn := RX4) (T := TX4) (Nf := 5) (ci := 4) in4 0 1 l21 (v := .ref (a 9)) rfl rfl (by decide) rfl dX4_put_43 ?_
          refine z_iload_n C 2 rfl rfl dX4_put_46 ?_
          refine z_rVI C (c_X0_holderOf E (fun i => a (i + 9)) (xD X) k) gX4_put_X0_holderOf (ci := 0) (q0 := 0) rfl rfl hyX0_holderOf rfl ⟨rfl, rfl⟩ ⟨by decide, by decide⟩ ⟨by decide, by decide⟩ [9, 10, 11, 12] rfl (by decide) (st := []) (Nat.le_of_ble_eq_true rfl) dX4_put_47 ?_ rfl
          refine z_istore C (lv' := [(4, .int (dHolder (xD X) k)), (0, .ref (a 0)), (1, .int t), (2, .int k), (3, .int v)]) rfl (by decide) dX4_put_50 ?_
          refine z_iload C 0 rfl dX4_put_52 ?_
          refine z_iconst C (v := (-1)) (by decide) dX4_put_54 ?_
          refine z_icmp_eq C (tgt := 66) dX4_put_55 (by decide) (fun h55_5t => ?_) (fun h55_5f => ?_)
          · refine z_aload_n C 1 rfl rfl dX4_put_66 ?_
            refine z_get C (Cn := RX4) (T := TX4) (Nf := 5) (ci := 4) in4 0 0 l12 (v := .ref (a 1)) rfl rfl (by decide) rfl dX4_put_67 ?_
            refine z_rVI C (c_X2_canTakeEntry E N hN (fun i => a (i + 1)) (xJ X)) gX4_put_X2_canTakeEntry (ci := 2) (q0 := 0) rfl rfl hyX2_canTakeEntry rfl ⟨rfl, rfl⟩ ⟨by decide, by decide⟩ ⟨by decide, by decide⟩ [1, 2, 3, 4, 5, 6, 7, 8] rfl (by decide) (st := []) (Nat.le_of_ble_eq_true rfl) dX4_put_70 ?_ rfl
            refine z_if_ne C (tgt := 79) dX4_put_73 (by decide) (fun h73_6t => ?_) (fun h73_6f => ?_)
            · refine z_aload_n C 1 rfl rfl dX4_put_79 ?_
              refine z_get C (Cn := RX4) (T := TX4) (Nf := 5) (ci := 4) in4 0 1 l21 (v := .ref (a 9)) rfl rfl (by decide) rfl dX4_put_80 ?_
              refine z_iload_n C 2 rfl rfl dX4_put_83 ?_
              refine z_iload_n C 3 rfl rfl dX4_put_84 ?_
              refine z_iload_n C 4 rfl rfl dX4_put_85 ?_
              have ct1 := c_X0_change E (fun i => a (i + 9)) (xD X) t k v
              obtain ⟨Dq2, hq86_2⟩ : ∃ z : DS, (dChg (xD X) t k v) = z := ⟨_, rfl⟩
              rw [hq86_2] at ct1
              refine z_callVV C ct1 gX4_put_X0_change (ci := 0) (q0 := 0) rfl rfl hyX0_change rfl ⟨rfl, rfl⟩ ⟨by decide, by decide⟩ ⟨by decide, by decide⟩ [9, 10, 11, 12] [0, 1, 2, 3, 4, 5, 6, 7, 8, 13, 14] [0, 1, 2, 3, 4, 5, 6, 7, 8, 11, 12, 13, 14, 9, 10] (wr := [((a 0), .inr (4, [.ref (a 1), .ref (a 9), .ref (a 13), .int (xDn X), .int (xCm X)])), ((a 1), .inr (2, [.ref (a 2), .ref (a 4), .ref (a 6), .ref (a 7), .ref (a 8), .int (jEn (xJ X)), .int (jWa (xJ X)), .int (jFw (xJ X)), .int (jSe (xJ X)), .int (jSc (xJ X)), .int (jFn (xJ X)), .int (jFp (xJ X))])), ((a 2), .inr (3, [.int (nI N), .ref (a 3)])), ((a 3), .inl (gB E, 32 * N, .inl (jDk (xJ X)))), ((a 4), .inr (3, [.int (nI N), .ref (a 5)])), ((a 5), .inl (gB E, 32 * N, .inl (jMm (xJ X)))), ((a 6), .inl (gI E, 4, .inl (jEh (xJ X)))), ((a 7), .inl (gI E, 4, .inl (jEk (xJ X)))), ((a 8), .inl (gI E, 4, .inl (jEv (xJ X)))), ((a 13), .inr (1, [.ref (a 14), .int (fFp (xF X)), .int (fPg (xF X)), .int (fRe (xF X))])), ((a 14), .inl (gZ E, 64, .inl (fTe (xF X))))]) (V' := (wX E a N (xsD X Dq2))) rfl rfl (by decide) (by decide) (by decide) rfl (by decide) (st := []) (Nat.le_of_ble_eq_true rfl) dX4_put_86 ?_ rfl
              refine z_iload_n C 4 rfl rfl dX4_put_89 ?_
              refine z_iconst C (v := (-1)) (by decide) dX4_put_90 ?_
              refine z_icmp_ne C (tgt := 108) dX4_put_91 (by decide) (fun h91_7t => ?_) (fun h91_7f => ?_)
              · refine z_aload_n C 1 rfl rfl dX4_put_108 ?_
                refine z_get C (Cn := RX4) (T := TX4) (Nf := 5) (ci := 4) in4 0 0 l12 (v := .ref (a 1)) rfl rfl (by decide) rfl dX4_put_109 ?_
                refine z_iload_n C 2 rfl rfl dX4_put_112 ?_
                refine z_iconst C (v := 0) (by decide) dX4_put_113 ?_
                refine z_iload_n C 3 rfl rfl dX4_put_114 ?_
                refine z_iload_n C 4 rfl rfl dX4_put_115 ?_
                have ct3 := c_X2_takeEntry E N hN (fun i => a (i + 1)) (xJ X) t 0 k v e he he3
                obtain ⟨Jq4, hq116_4⟩ : ∃ z : JS, (jTake N (xJ X) t 0 k v e) = z := ⟨_, rfl⟩
                rw [hq116_4] at ct3
                refine z_callVV C ct3 gX4_put_X2_takeEntry (ci := 2) (q0 := 0) rfl rfl hyX2_takeEntry rfl ⟨rfl, rfl⟩ ⟨by decide, by decide⟩ ⟨by decide, by decide⟩ [1, 2, 3, 4, 5, 6, 7, 8] [0, 9, 10, 11, 12, 13, 14] [0, 7, 8, 9, 10, 11, 12, 13, 14, 1, 2, 3, 4, 5, 6] (wr := [((a 0), .inr (4, [.ref (a 1), .ref (a 9), .ref (a 13), .int (xDn X), .int (xCm X)])), ((a 9), .inr (0, [.ref (a 10), .ref (a 11), .ref (a 12), .int (dOp Dq2)])), ((a 10), .inl (gI E, 32, .inl (dCo Dq2))), ((a 11), .inl (gI E, 32, .inl (dCh Dq2))), ((a 12), .inl (gI E, 32, .inl (dHo Dq2))), ((a 13), .inr (1, [.ref (a 14), .int (fFp (xF X)), .int (fPg (xF X)), .int (fRe (xF X))])), ((a 14), .inl (gZ E, 64, .inl (fTe (xF X))))]) (V' := (wX E a N (xsJ (xsD X Dq2) Jq4))) rfl rfl (by decide) (by decide) (by decide) rfl (by decide) (st := []) (Nat.le_of_ble_eq_true rfl) dX4_put_116 ?_ rfl
                refine z_iconst C (v := 1) (by decide) dX4_put_119 ?_
                exact ret _ _ _ _ (by first | rfl | (simp only [xPut, xPutH, xPutE, if_pos h4_1t, if_neg h18_2f, if_neg h25_3f, if_neg h32_4t, if_pos h55_5t, if_neg h73_6t, hq86_2, if_neg h91_7t, hq116_4, ↓reduceIte]; done) | (simp only [xPut, xPutH, xPutE, if_pos h4_1t, if_neg h18_2f, if_neg h25_3f, if_neg h32_4t, if_pos h55_5t, if_neg h73_6t, hq86_2, if_neg h91_7t, hq116_4, ↓reduceIte]; rfl) | (simp [xPut, xPutH, xPutE, if_pos h4_1t, if_neg h18_2f, if_neg h25_3f, if_neg h32_4t, if_pos h55_5t, if_neg h73_6t, hq86_2, if_neg h91_7t, hq116_4, ↓reduceIte]; done)) (by first | rfl | (simp only [xPut, xPutH, xPutE, if_pos h4_1t, if_neg h18_2f, if_neg h25_3f, if_neg h32_4t, if_pos h55_5t, if_neg h73_6t, hq86_2, if_neg h91_7t, hq116_4, ↓reduceIte]; done) | (simp only [xPut, xPutH, xPutE, if_pos h4_1t, if_neg h18_2f, if_neg h25_3f, if_neg h32_4t, if_pos h55_5t, if_neg h73_6t, hq86_2, if_neg h91_7t, hq116_4, ↓reduceIte]; rfl) | (simp [xPut, xPutH, xPutE, if_pos h4_1t, if_neg h18_2f, if_neg h25_3f, if_neg h32_4t, if_pos h55_5t, if_neg h73_6t, hq86_2, if_neg h91_7t, hq116_4, ↓reduceIte]; done)) dX4_put_120
              · refine z_aload_n C 1 rfl rfl dX4_put_94 ?_
                refine z_get C (Cn := RX4) (T := TX4) (Nf := 5) (ci := 4) in4 0 0 l12 (v := .ref (a 1)) rfl rfl (by decide) rfl dX4_put_95 ?_
                refine z_iload_n C 2 rfl rfl dX4_put_98 ?_
                refine z_iconst C (v := 1) (by decide) dX4_put_99 ?_
                refine z_iload_n C 3 rfl rfl dX4_put_100 ?_
                refine z_iconst C (v := 0) (by decide) dX4_put_101 ?_
                have ct5 := c_X2_takeEntry E N hN (fun i => a (i + 1)) (xJ X) t 1 k 0 e he he3
                obtain ⟨Jq6, hq102_6⟩ : ∃ z : JS, (jTake N (xJ X) t 1 k 0 e) = z := ⟨_, rfl⟩
                rw [hq102_6] at ct5
                refine z_callVV C ct5 gX4_put_X2_takeEntry (ci := 2) (q0 := 0) rfl rfl hyX2_takeEntry rfl ⟨rfl, rfl⟩ ⟨by decide, by decide⟩ ⟨by decide, by decide⟩ [1, 2, 3, 4, 5, 6, 7, 8] [0, 9, 10, 11, 12, 13, 14] [0, 7, 8, 9, 10, 11, 12, 13, 14, 1, 2, 3, 4, 5, 6] (wr := [((a 0), .inr (4, [.ref (a 1), .ref (a 9), .ref (a 13), .int (xDn X), .int (xCm X)])), ((a 9), .inr (0, [.ref (a 10), .ref (a 11), .ref (a 12), .int (dOp Dq2)])), ((a 10), .inl (gI E, 32, .inl (dCo Dq2))), ((a 11), .inl (gI E, 32, .inl (dCh Dq2))), ((a 12), .inl (gI E, 32, .inl (dHo Dq2))), ((a 13), .inr (1, [.ref (a 14), .int (fFp (xF X)), .int (fPg (xF X)), .int (fRe (xF X))])), ((a 14), .inl (gZ E, 64, .inl (fTe (xF X))))]) (V' := (wX E a N (xsJ (xsD X Dq2) Jq6))) rfl rfl (by decide) (by decide) (by decide) rfl (by decide) (st := []) (Nat.le_of_ble_eq_true rfl) dX4_put_102 ?_ rfl
                refine z_goto C (tgt := 119) dX4_put_105 (by decide) ?_
                refine z_iconst C (v := 1) (by decide) dX4_put_119 ?_
                exact ret _ _ _ _ (by first | rfl | (simp only [xPut, xPutH, xPutE, if_pos h4_1t, if_neg h18_2f, if_neg h25_3f, if_neg h32_4t, if_pos h55_5t, if_neg h73_6t, hq86_2, if_pos h91_7f, hq102_6, ↓reduceIte]; done) | (simp only [xPut, xPutH, xPutE, if_pos h4_1t, if_neg h18_2f, if_neg h25_3f, if_neg h32_4t, if_pos h55_5t, if_neg h73_6t, hq86_2, if_pos h91_7f, hq102_6, ↓reduceIte]; rfl) | (simp [xPut, xPutH, xPutE, if_pos h4_1t, if_neg h18_2f, if_neg h25_3f, if_neg h32_4t, if_pos h55_5t, if_neg h73_6t, hq86_2, if_pos h91_7f, hq102_6, ↓reduceIte]; done)) (by first | rfl | (simp only [xPut, xPutH, xPutE, if_pos h4_1t, if_neg h18_2f, if_neg h25_3f, if_neg h32_4t, if_pos h55_5t, if_neg h73_6t, hq86_2, if_pos h91_7f, hq102_6, ↓reduceIte]; done) | (simp only [xPut, xPutH, xPutE, if_pos h4_1t, if_neg h18_2f, if_neg h25_3f, if_neg h32_4t, if_pos h55_5t, if_neg h73_6t, hq86_2, if_pos h91_7f, hq102_6, ↓reduceIte]; rfl) | (simp [xPut, xPutH, xPutE, if_pos h4_1t, if_neg h18_2f, if_neg h25_3f, if_neg h32_4t, if_pos h55_5t, if_neg h73_6t, hq86_2, if_pos h91_7f, hq102_6, ↓reduceIte]; done)) dX4_put_120
            · refine z_bipush C (v := (-2)) (by decide) dX4_put_76 ?_
              exact ret _ _ _ _ (by first | rfl | (simp only [xPut, xPutH, xPutE, if_pos h4_1t, if_neg h18_2f, if_neg h25_3f, if_neg h32_4t, if_pos h55_5t, if_pos h73_6f, ↓reduceIte]; done) | (simp only [xPut, xPutH, xPutE, if_pos h4_1t, if_neg h18_2f, if_neg h25_3f, if_neg h32_4t, if_pos h55_5t, if_pos h73_6f, ↓reduceIte]; rfl) | (simp [xPut, xPutH, xPutE, if_pos h4_1t, if_neg h18_2f, if_neg h25_3f, if_neg h32_4t, if_pos h55_5t, if_pos h73_6f, ↓reduceIte]; done)) (by first | rfl | (simp only [xPut, xPutH, xPutE, if_pos h4_1t, if_neg h18_2f, if_neg h25_3f, if_neg h32_4t, if_pos h55_5t, if_pos h73_6f, ↓reduceIte]; done) | (simp only [xPut, xPutH, xPutE, if_pos h4_1t, if_neg h18_2f, if_neg h25_3f, if_neg h32_4t, if_pos h55_5t, if_pos h73_6f, ↓reduceIte]; rfl) | (simp [xPut, xPutH, xPutE, if_pos h4_1t, if_neg h18_2f, if_neg h25_3f, if_neg h32_4t, if_pos h55_5t, if_pos h73_6f, ↓reduceIte]; done)) dX4_put_78
          · refine z_iload C 0 rfl dX4_put_58 ?_
            refine z_iload_n C 2 rfl rfl dX4_put_60 ?_
            refine z_icmp_eq C (tgt := 66) dX4_put_61 (by decide) (fun h61_8t => ?_) (fun h61_8f => ?_)
            · refine z_aload_n C 1 rfl rfl dX4_put_66 ?_
              refine z_get C (Cn := RX4) (T := TX4) (Nf := 5) (ci := 4) in4 0 0 l12 (v := .ref (a 1)) rfl rfl (by decide) rfl dX4_put_67 ?_
              refine z_rVI C (c_X2_canTakeEntry E N hN (fun i => a (i + 1)) (xJ X)) gX4_put_X2_canTakeEntry (ci := 2) (q0 := 0) rfl rfl hyX2_canTakeEntry rfl ⟨rfl, rfl⟩ ⟨by decide, by decide⟩ ⟨by decide, by decide⟩ [1, 2, 3, 4, 5, 6, 7, 8] rfl (by decide) (st := []) (Nat.le_of_ble_eq_true rfl) dX4_put_70 ?_ rfl
              refine z_if_ne C (tgt := 79) dX4_put_73 (by decide) (fun h73_9t => ?_) (fun h73_9f => ?_)
              · refine z_aload_n C 1 rfl rfl dX4_put_79 ?_
                refine z_get C (Cn := RX4) (T := TX4) (Nf := 5) (ci := 4) in4 0 1 l21 (v := .ref (a 9)) rfl rfl (by decide) rfl dX4_put_80 ?_
                refine z_iload_n C 2 rfl rfl dX4_put_83 ?_
                refine z_iload_n C 3 rfl rfl dX4_put_84 ?_
                refine z_iload_n C 4 rfl rfl dX4_put_85 ?_
                have ct7 := c_X0_change E (fun i => a (i + 9)) (xD X) t k v
                obtain ⟨Dq8, hq86_8⟩ : ∃ z : DS, (dChg (xD X) t k v) = z := ⟨_, rfl⟩
                rw [hq86_8] at ct7
                refine z_callVV C ct7 gX4_put_X0_change (ci := 0) (q0 := 0) rfl rfl hyX0_change rfl ⟨rfl, rfl⟩ ⟨by decide, by decide⟩ ⟨by decide, by decide⟩ [9, 10, 11, 12] [0, 1, 2, 3, 4, 5, 6, 7, 8, 13, 14] [0, 1, 2, 3, 4, 5, 6, 7, 8, 11, 12, 13, 14, 9, 10] (wr := [((a 0), .inr (4, [.ref (a 1), .ref (a 9), .ref (a 13), .int (xDn X), .int (xCm X)])), ((a 1), .inr (2, [.ref (a 2), .ref (a 4), .ref (a 6), .ref (a 7), .ref (a 8), .int (jEn (xJ X)), .int (jWa (xJ X)), .int (jFw (xJ X)), .int (jSe (xJ X)), .int (jSc (xJ X)), .int (jFn (xJ X)), .int (jFp (xJ X))])), ((a 2), .inr (3, [.int (nI N), .ref (a 3)])), ((a 3), .inl (gB E, 32 * N, .inl (jDk (xJ X)))), ((a 4), .inr (3, [.int (nI N), .ref (a 5)])), ((a 5), .inl (gB E, 32 * N, .inl (jMm (xJ X)))), ((a 6), .inl (gI E, 4, .inl (jEh (xJ X)))), ((a 7), .inl (gI E, 4, .inl (jEk (xJ X)))), ((a 8), .inl (gI E, 4, .inl (jEv (xJ X)))), ((a 13), .inr (1, [.ref (a 14), .int (fFp (xF X)), .int (fPg (xF X)), .int (fRe (xF X))])), ((a 14), .inl (gZ E, 64, .inl (fTe (xF X))))]) (V' := (wX E a N (xsD X Dq8))) rfl rfl (by decide) (by decide) (by decide) rfl (by decide) (st := []) (Nat.le_of_ble_eq_true rfl) dX4_put_86 ?_ rfl
                refine z_iload_n C 4 rfl rfl dX4_put_89 ?_
                refine z_iconst C (v := (-1)) (by decide) dX4_put_90 ?_
                refine z_icmp_ne C (tgt := 108) dX4_put_91 (by decide) (fun h91_10t => ?_) (fun h91_10f => ?_)
                · refine z_aload_n C 1 rfl rfl dX4_put_108 ?_
                  refine z_get C (Cn := RX4) (T := TX4) (Nf := 5) (ci := 4) in4 0 0 l12 (v := .ref (a 1)) rfl rfl (by decide) rfl dX4_put_109 ?_
                  refine z_iload_n C 2 rfl rfl dX4_put_112 ?_
                  refine z_iconst C (v := 0) (by decide) dX4_put_113 ?_
                  refine z_iload_n C 3 rfl rfl dX4_put_114 ?_
                  refine z_iload_n C 4 rfl rfl dX4_put_115 ?_
                  have ct9 := c_X2_takeEntry E N hN (fun i => a (i + 1)) (xJ X) t 0 k v e he he3
                  obtain ⟨Jq10, hq116_10⟩ : ∃ z : JS, (jTake N (xJ X) t 0 k v e) = z := ⟨_, rfl⟩
                  rw [hq116_10] at ct9
                  refine z_callVV C ct9 gX4_put_X2_takeEntry (ci := 2) (q0 := 0) rfl rfl hyX2_takeEntry rfl ⟨rfl, rfl⟩ ⟨by decide, by decide⟩ ⟨by decide, by decide⟩ [1, 2, 3, 4, 5, 6, 7, 8] [0, 9, 10, 11, 12, 13, 14] [0, 7, 8, 9, 10, 11, 12, 13, 14, 1, 2, 3, 4, 5, 6] (wr := [((a 0), .inr (4, [.ref (a 1), .ref (a 9), .ref (a 13), .int (xDn X), .int (xCm X)])), ((a 9), .inr (0, [.ref (a 10), .ref (a 11), .ref (a 12), .int (dOp Dq8)])), ((a 10), .inl (gI E, 32, .inl (dCo Dq8))), ((a 11), .inl (gI E, 32, .inl (dCh Dq8))), ((a 12), .inl (gI E, 32, .inl (dHo Dq8))), ((a 13), .inr (1, [.ref (a 14), .int (fFp (xF X)), .int (fPg (xF X)), .int (fRe (xF X))])), ((a 14), .inl (gZ E, 64, .inl (fTe (xF X))))]) (V' := (wX E a N (xsJ (xsD X Dq8) Jq10))) rfl rfl (by decide) (by decide) (by decide) rfl (by decide) (st := []) (Nat.le_of_ble_eq_true rfl) dX4_put_116 ?_ rfl
                  refine z_iconst C (v := 1) (by decide) dX4_put_119 ?_
                  exact ret _ _ _ _ (by first | rfl | (simp only [xPut, xPutH, xPutE, if_pos h4_1t, if_neg h18_2f, if_neg h25_3f, if_neg h32_4t, if_neg h55_5f, if_pos h61_8t, if_neg h73_9t, hq86_8, if_neg h91_10t, hq116_10, ↓reduceIte]; done) | (simp only [xPut, xPutH, xPutE, if_pos h4_1t, if_neg h18_2f, if_neg h25_3f, if_neg h32_4t, if_neg h55_5f, if_pos h61_8t, if_neg h73_9t, hq86_8, if_neg h91_10t, hq116_10, ↓reduceIte]; rfl) | (simp [xPut, xPutH, xPutE, if_pos h4_1t, if_neg h18_2f, if_neg h25_3f, if_neg h32_4t, if_neg h55_5f, if_pos h61_8t, if_neg h73_9t, hq86_8, if_neg h91_10t, hq116_10, ↓reduceIte]; done)) (by first | rfl | (simp only [xPut, xPutH, xPutE, if_pos h4_1t, if_neg h18_2f, if_neg h25_3f, if_neg h32_4t, if_neg h55_5f, if_pos h61_8t, if_neg h73_9t, hq86_8, if_neg h91_10t, hq116_10, ↓reduceIte]; done) | (simp only [xPut, xPutH, xPutE, if_pos h4_1t, if_neg h18_2f, if_neg h25_3f, if_neg h32_4t, if_neg h55_5f, if_pos h61_8t, if_neg h73_9t, hq86_8, if_neg h91_10t, hq116_10, ↓reduceIte]; rfl) | (simp [xPut, xPutH, xPutE, if_pos h4_1t, if_neg h18_2f, if_neg h25_3f, if_neg h32_4t, if_neg h55_5f, if_pos h61_8t, if_neg h73_9t, hq86_8, if_neg h91_10t, hq116_10, ↓reduceIte]; done)) dX4_put_120
                · refine z_aload_n C 1 rfl rfl dX4_put_94 ?_
                  refine z_get C (Cn := RX4) (T := TX4) (Nf := 5) (ci := 4) in4 0 0 l12 (v := .ref (a 1)) rfl rfl (by decide) rfl dX4_put_95 ?_
                  refine z_iload_n C 2 rfl rfl dX4_put_98 ?_
                  refine z_iconst C (v := 1) (by decide) dX4_put_99 ?_
                  refine z_iload_n C 3 rfl rfl dX4_put_100 ?_
                  refine z_iconst C (v := 0) (by decide) dX4_put_101 ?_
                  have ct11 := c_X2_takeEntry E N hN (fun i => a (i + 1)) (xJ X) t 1 k 0 e he he3
                  obtain ⟨Jq12, hq102_12⟩ : ∃ z : JS, (jTake N (xJ X) t 1 k 0 e) = z := ⟨_, rfl⟩
                  rw [hq102_12] at ct11
                  refine z_callVV C ct11 gX4_put_X2_takeEntry (ci := 2) (q0 := 0) rfl rfl hyX2_takeEntry rfl ⟨rfl, rfl⟩ ⟨by decide, by decide⟩ ⟨by decide, by decide⟩ [1, 2, 3, 4, 5, 6, 7, 8] [0, 9, 10, 11, 12, 13, 14] [0, 7, 8, 9, 10, 11, 12, 13, 14, 1, 2, 3, 4, 5, 6] (wr := [((a 0), .inr (4, [.ref (a 1), .ref (a 9), .ref (a 13), .int (xDn X), .int (xCm X)])), ((a 9), .inr (0, [.ref (a 10), .ref (a 11), .ref (a 12), .int (dOp Dq8)])), ((a 10), .inl (gI E, 32, .inl (dCo Dq8))), ((a 11), .inl (gI E, 32, .inl (dCh Dq8))), ((a 12), .inl (gI E, 32, .inl (dHo Dq8))), ((a 13), .inr (1, [.ref (a 14), .int (fFp (xF X)), .int (fPg (xF X)), .int (fRe (xF X))])), ((a 14), .inl (gZ E, 64, .inl (fTe (xF X))))]) (V' := (wX E a N (xsJ (xsD X Dq8) Jq12))) rfl rfl (by decide) (by decide) (by decide) rfl (by decide) (st := []) (Nat.le_of_ble_eq_true rfl) dX4_put_102 ?_ rfl
                  refine z_goto C (tgt := 119) dX4_put_105 (by decide) ?_
                  refine z_iconst C (v := 1) (by decide) dX4_put_119 ?_
                  exact ret _ _ _ _ (by first | rfl | (simp only [xPut, xPutH, xPutE, if_pos h4_1t, if_neg h18_2f, if_neg h25_3f, if_neg h32_4t, if_neg h55_5f, if_pos h61_8t, if_neg h73_9t, hq86_8, if_pos h91_10f, hq102_12, ↓reduceIte]; done) | (simp only [xPut, xPutH, xPutE, if_pos h4_1t, if_neg h18_2f, if_neg h25_3f, if_neg h32_4t, if_neg h55_5f, if_pos h61_8t, if_neg h73_9t, hq86_8, if_pos h91_10f, hq102_12, ↓reduceIte]; rfl) | (simp [xPut, xPutH, xPutE, if_pos h4_1t, if_neg h18_2f, if_neg h25_3f, if_neg h32_4t, if_neg h55_5f, if_pos h61_8t, if_neg h73_9t, hq86_8, if_pos h91_10f, hq102_12, ↓reduceIte]; done)) (by first | rfl | (simp only [xPut, xPutH, xPutE, if_pos h4_1t, if_neg h18_2f, if_neg h25_3f, if_neg h32_4t, if_neg h55_5f, if_pos h61_8t, if_neg h73_9t, hq86_8, if_pos h91_10f, hq102_12, ↓reduceIte]; done) | (simp only [xPut, xPutH, xPutE, if_pos h4_1t, if_neg h18_2f, if_neg h25_3f, if_neg h32_4t, if_neg h55_5f, if_pos h61_8t, if_neg h73_9t, hq86_8, if_pos h91_10f, hq102_12, ↓reduceIte]; rfl) | (simp [xPut, xPutH, xPutE, if_pos h4_1t, if_neg h18_2f, if_neg h25_3f, if_neg h32_4t, if_neg h55_5f, if_pos h61_8t, if_neg h73_9t, hq86_8, if_pos h91_10f, hq102_12, ↓reduceIte]; done)) dX4_put_120
              · refine z_bipush C (v := (-2)) (by decide) dX4_put_76 ?_
                exact ret _ _ _ _ (by first | rfl | (simp only [xPut, xPutH, xPutE, if_pos h4_1t, if_neg h18_2f, if_neg h25_3f, if_neg h32_4t, if_neg h55_5f, if_pos h61_8t, if_pos h73_9f, ↓reduceIte]; done) | (simp only [xPut, xPutH, xPutE, if_pos h4_1t, if_neg h18_2f, if_neg h25_3f, if_neg h32_4t, if_neg h55_5f, if_pos h61_8t, if_pos h73_9f, ↓reduceIte]; rfl) | (simp [xPut, xPutH, xPutE, if_pos h4_1t, if_neg h18_2f, if_neg h25_3f, if_neg h32_4t, if_neg h55_5f, if_pos h61_8t, if_pos h73_9f, ↓reduceIte]; done)) (by first | rfl | (simp only [xPut, xPutH, xPutE, if_pos h4_1t, if_neg h18_2f, if_neg h25_3f, if_neg h32_4t, if_neg h55_5f, if_pos h61_8t, if_pos h73_9f, ↓reduceIte]; done) | (simp only [xPut, xPutH, xPutE, if_pos h4_1t, if_neg h18_2f, if_neg h25_3f, if_neg h32_4t, if_neg h55_5f, if_pos h61_8t, if_pos h73_9f, ↓reduceIte]; rfl) | (simp [xPut, xPutH, xPutE, if_pos h4_1t, if_neg h18_2f, if_neg h25_3f, if_neg h32_4t, if_neg h55_5f, if_pos h61_8t, if_pos h73_9f, ↓reduceIte]; done)) dX4_put_78
            · refine z_iconst C (v := 0) (by decide) dX4_put_64 ?_
              exact ret _ _ _ _ (by first | rfl | (simp only [xPut, xPutH, xPutE, if_pos h4_1t, if_neg h18_2f, if_neg h25_3f, if_neg h32_4t, if_neg h55_5f, if_neg h61_8f, ↓reduceIte]; done) | (simp only [xPut, xPutH, xPutE, if_pos h4_1t, if_neg h18_2f, if_neg h25_3f, if_neg h32_4t, if_neg h55_5f, if_neg h61_8f, ↓reduceIte]; rfl) | (simp [xPut, xPutH, xPutE, if_pos h4_1t, if_neg h18_2f, if_neg h25_3f, if_neg h32_4t, if_neg h55_5f, if_neg h61_8f, ↓reduceIte]; done)) (by first | rfl | (simp only [xPut, xPutH, xPutE, if_pos h4_1t, if_neg h18_2f, if_neg h25_3f, if_neg h32_4t, if_neg h55_5f, if_neg h61_8f, ↓reduceIte]; done) | (simp only [xPut, xPutH, xPutE, if_pos h4_1t, if_neg h18_2f, if_neg h25_3f, if_neg h32_4t, if_neg h55_5f, if_neg h61_8f, ↓reduceIte]; rfl) | (simp [xPut, xPutH, xPutE, if_pos h4_1t, if_neg h18_2f, if_neg h25_3f, if_neg h32_4t, if_neg h55_5f, if_neg h61_8f, ↓reduceIte]; done)) dX4_put_65
        · refine z_iload_n C 3 rfl rfl dX4_put_35 ?_
          refine z_iconst C (v := (-1)) (by decide) dX4_put_36 ?_
          refine z_icmp_eq C (tgt := 42) dX4_put_37 (by decide) (fun h37_11t => ?_) (fun h37_11f => ?_)
          · refine z_aload_n C 0 rfl rfl dX4_put_42 ?_
            refine z_get C (Cn := RX4) (T := TX4) (Nf := 5) (ci := 4) in4 0 1 l21 (v := .ref (a 9)) rfl rfl (by decide) rfl dX4_put_43 ?_
            refine z_iload_n C 2 rfl rfl dX4_put_46 ?_
            refine z_rVI C (c_X0_holderOf E (fun i => a (i + 9)) (xD X) k) gX4_put_X0_holderOf (ci := 0) (q0 := 0) rfl rfl hyX0_holderOf rfl ⟨rfl, rfl⟩ ⟨by decide, by decide⟩ ⟨by decide, by decide⟩ [9, 10, 11, 12] rfl (by decide) (st := []) (Nat.le_of_ble_eq_true rfl) dX4_put_47 ?_ rfl
            refine z_istore C (lv' := [(4, .int (dHolder (xD X) k)), (0, .ref (a 0)), (1, .int t), (2, .int k), (3, .int v)]) rfl (by decide) dX4_put_50 ?_
            refine z_iload C 0 rfl dX4_put_52 ?_
            refine z_iconst C (v := (-1)) (by decide) dX4_put_54 ?_
            refine z_icmp_eq C (tgt := 66) dX4_put_55 (by decide) (fun h55_12t => ?_) (fun h55_12f => ?_)
            · refine z_aload_n C 1 rfl rfl dX4_put_66 ?_
              refine z_get C (Cn := RX4) (T := TX4) (Nf := 5) (ci := 4) in4 0 0 l12 (v := .ref (a 1)) rfl rfl (by decide) rfl dX4_put_67 ?_
              refine z_rVI C (c_X2_canTakeEntry E N hN (fun i => a (i + 1)) (xJ X)) gX4_put_X2_canTakeEntry (ci := 2) (q0 := 0) rfl rfl hyX2_canTakeEntry rfl ⟨rfl, rfl⟩ ⟨by decide, by decide⟩ ⟨by decide, by decide⟩ [1, 2, 3, 4, 5, 6, 7, 8] rfl (by decide) (st := []) (Nat.le_of_ble_eq_true rfl) dX4_put_70 ?_ rfl
              refine z_if_ne C (tgt := 79) dX4_put_73 (by decide) (fun h73_13t => ?_) (fun h73_13f => ?_)
              · refine z_aload_n C 1 rfl rfl dX4_put_79 ?_
                refine z_get C (Cn := RX4) (T := TX4) (Nf := 5) (ci := 4) in4 0 1 l21 (v := .ref (a 9)) rfl rfl (by decide) rfl dX4_put_80 ?_
                refine z_iload_n C 2 rfl rfl dX4_put_83 ?_
                refine z_iload_n C 3 rfl rfl dX4_put_84 ?_
                refine z_iload_n C 4 rfl rfl dX4_put_85 ?_
                have ct13 := c_X0_change E (fun i => a (i + 9)) (xD X) t k v
                obtain ⟨Dq14, hq86_14⟩ : ∃ z : DS, (dChg (xD X) t k v) = z := ⟨_, rfl⟩
                rw [hq86_14] at ct13
                refine z_callVV C ct13 gX4_put_X0_change (ci := 0) (q0 := 0) rfl rfl hyX0_change rfl ⟨rfl, rfl⟩ ⟨by decide, by decide⟩ ⟨by decide, by decide⟩ [9, 10, 11, 12] [0, 1, 2, 3, 4, 5, 6, 7, 8, 13, 14] [0, 1, 2, 3, 4, 5, 6, 7, 8, 11, 12, 13, 14, 9, 10] (wr := [((a 0), .inr (4, [.ref (a 1), .ref (a 9), .ref (a 13), .int (xDn X), .int (xCm X)])), ((a 1), .inr (2, [.ref (a 2), .ref (a 4), .ref (a 6), .ref (a 7), .ref (a 8), .int (jEn (xJ X)), .int (jWa (xJ X)), .int (jFw (xJ X)), .int (jSe (xJ X)), .int (jSc (xJ X)), .int (jFn (xJ X)), .int (jFp (xJ X))])), ((a 2), .inr (3, [.int (nI N), .ref (a 3)])), ((a 3), .inl (gB E, 32 * N, .inl (jDk (xJ X)))), ((a 4), .inr (3, [.int (nI N), .ref (a 5)])), ((a 5), .inl (gB E, 32 * N, .inl (jMm (xJ X)))), ((a 6), .inl (gI E, 4, .inl (jEh (xJ X)))), ((a 7), .inl (gI E, 4, .inl (jEk (xJ X)))), ((a 8), .inl (gI E, 4, .inl (jEv (xJ X)))), ((a 13), .inr (1, [.ref (a 14), .int (fFp (xF X)), .int (fPg (xF X)), .int (fRe (xF X))])), ((a 14), .inl (gZ E, 64, .inl (fTe (xF X))))]) (V' := (wX E a N (xsD X Dq14))) rfl rfl (by decide) (by decide) (by decide) rfl (by decide) (st := []) (Nat.le_of_ble_eq_true rfl) dX4_put_86 ?_ rfl
                refine z_iload_n C 4 rfl rfl dX4_put_89 ?_
                refine z_iconst C (v := (-1)) (by decide) dX4_put_90 ?_
                refine z_icmp_ne C (tgt := 108) dX4_put_91 (by decide) (fun h91_14 => absurd h37_11t h91_14) (fun h91_14 => ?_)
                refine z_aload_n C 1 rfl rfl dX4_put_94 ?_
                refine z_get C (Cn := RX4) (T := TX4) (Nf := 5) (ci := 4) in4 0 0 l12 (v := .ref (a 1)) rfl rfl (by decide) rfl dX4_put_95 ?_
                refine z_iload_n C 2 rfl rfl dX4_put_98 ?_
                refine z_iconst C (v := 1) (by decide) dX4_put_99 ?_
                refine z_iload_n C 3 rfl rfl dX4_put_100 ?_
                refine z_iconst C (v := 0) (by decide) dX4_put_101 ?_
                have ct15 := c_X2_takeEntry E N hN (fun i => a (i + 1)) (xJ X) t 1 k 0 e he he3
                obtain ⟨Jq16, hq102_16⟩ : ∃ z : JS, (jTake N (xJ X) t 1 k 0 e) = z := ⟨_, rfl⟩
                rw [hq102_16] at ct15
                refine z_callVV C ct15 gX4_put_X2_takeEntry (ci := 2) (q0 := 0) rfl rfl hyX2_takeEntry rfl ⟨rfl, rfl⟩ ⟨by decide, by decide⟩ ⟨by decide, by decide⟩ [1, 2, 3, 4, 5, 6, 7, 8] [0, 9, 10, 11, 12, 13, 14] [0, 7, 8, 9, 10, 11, 12, 13, 14, 1, 2, 3, 4, 5, 6] (wr := [((a 0), .inr (4, [.ref (a 1), .ref (a 9), .ref (a 13), .int (xDn X), .int (xCm X)])), ((a 9), .inr (0, [.ref (a 10), .ref (a 11), .ref (a 12), .int (dOp Dq14)])), ((a 10), .inl (gI E, 32, .inl (dCo Dq14))), ((a 11), .inl (gI E, 32, .inl (dCh Dq14))), ((a 12), .inl (gI E, 32, .inl (dHo Dq14))), ((a 13), .inr (1, [.ref (a 14), .int (fFp (xF X)), .int (fPg (xF X)), .int (fRe (xF X))])), ((a 14), .inl (gZ E, 64, .inl (fTe (xF X))))]) (V' := (wX E a N (xsJ (xsD X Dq14) Jq16))) rfl rfl (by decide) (by decide) (by decide) rfl (by decide) (st := []) (Nat.le_of_ble_eq_true rfl) dX4_put_102 ?_ rfl
                refine z_goto C (tgt := 119) dX4_put_105 (by decide) ?_
                refine z_iconst C (v := 1) (by decide) dX4_put_119 ?_
                exact ret _ _ _ _ (by first | rfl | (simp only [xPut, xPutH, xPutE, if_pos h4_1t, if_neg h18_2f, if_neg h25_3f, if_pos h32_4f, if_pos h37_11t, if_pos h55_12t, if_neg h73_13t, hq86_14, if_pos h91_14, hq102_16, ↓reduceIte]; done) | (simp only [xPut, xPutH, xPutE, if_pos h4_1t, if_neg h18_2f, if_neg h25_3f, if_pos h32_4f, if_pos h37_11t, if_pos h55_12t, if_neg h73_13t, hq86_14, if_pos h91_14, hq102_16, ↓reduceIte]; rfl) | (simp [xPut, xPutH, xPutE, if_pos h4_1t, if_neg h18_2f, if_neg h25_3f, if_pos h32_4f, if_pos h37_11t, if_pos h55_12t, if_neg h73_13t, hq86_14, if_pos h91_14, hq102_16, ↓reduceIte]; done)) (by first | rfl | (simp only [xPut, xPutH, xPutE, if_pos h4_1t, if_neg h18_2f, if_neg h25_3f, if_pos h32_4f, if_pos h37_11t, if_pos h55_12t, if_neg h73_13t, hq86_14, if_pos h91_14, hq102_16, ↓reduceIte]; done) | (simp only [xPut, xPutH, xPutE, if_pos h4_1t, if_neg h18_2f, if_neg h25_3f, if_pos h32_4f, if_pos h37_11t, if_pos h55_12t, if_neg h73_13t, hq86_14, if_pos h91_14, hq102_16, ↓reduceIte]; rfl) | (simp [xPut, xPutH, xPutE, if_pos h4_1t, if_neg h18_2f, if_neg h25_3f, if_pos h32_4f, if_pos h37_11t, if_pos h55_12t, if_neg h73_13t, hq86_14, if_pos h91_14, hq102_16, ↓reduceIte]; done)) dX4_put_120
              · refine z_bipush C (v := (-2)) (by decide) dX4_put_76 ?_
                exact ret _ _ _ _ (by first | rfl | (simp only [xPut, xPutH, xPutE, if_pos h4_1t, if_neg h18_2f, if_neg h25_3f, if_pos h32_4f, if_pos h37_11t, if_pos h55_12t, if_pos h73_13f, ↓reduceIte]; done) | (simp only [xPut, xPutH, xPutE, if_pos h4_1t, if_neg h18_2f, if_neg h25_3f, if_pos h32_4f, if_pos h37_11t, if_pos h55_12t, if_pos h73_13f, ↓reduceIte]; rfl) | (simp [xPut, xPutH, xPutE, if_pos h4_1t, if_neg h18_2f, if_neg h25_3f, if_pos h32_4f, if_pos h37_11t, if_pos h55_12t, if_pos h73_13f, ↓reduceIte]; done)) (by first | rfl | (simp only [xPut, xPutH, xPutE, if_pos h4_1t, if_neg h18_2f, if_neg h25_3f, if_pos h32_4f, if_pos h37_11t, if_pos h55_12t, if_pos h73_13f, ↓reduceIte]; done) | (simp only [xPut, xPutH, xPutE, if_pos h4_1t, if_neg h18_2f, if_neg h25_3f, if_pos h32_4f, if_pos h37_11t, if_pos h55_12t, if_pos h73_13f, ↓reduceIte]; rfl) | (simp [xPut, xPutH, xPutE, if_pos h4_1t, if_neg h18_2f, if_neg h25_3f, if_pos h32_4f, if_pos h37_11t, if_pos h55_12t, if_pos h73_13f, ↓reduceIte]; done)) dX4_put_78
            · refine z_iload C 0 rfl dX4_put_58 ?_
              refine z_iload_n C 2 rfl rfl dX4_put_60 ?_
              refine z_icmp_eq C (tgt := 66) dX4_put_61 (by decide) (fun h61_15t => ?_) (fun h61_15f => ?_)
              · refine z_aload_n C 1 rfl rfl dX4_put_66 ?_
                refine z_get C (Cn := RX4) (T := TX4) (Nf := 5) (ci := 4) in4 0 0 l12 (v := .ref (a 1)) rfl rfl (by decide) rfl dX4_put_67 ?_
                refine z_rVI C (c_X2_canTakeEntry E N hN (fun i => a (i + 1)) (xJ X)) gX4_put_X2_canTakeEntry (ci := 2) (q0 := 0) rfl rfl hyX2_canTakeEntry rfl ⟨rfl, rfl⟩ ⟨by decide, by decide⟩ ⟨by decide, by decide⟩ [1, 2, 3, 4, 5, 6, 7, 8] rfl (by decide) (st := []) (Nat.le_of_ble_eq_true rfl) dX4_put_70 ?_ rfl
                refine z_if_ne C (tgt := 79) dX4_put_73 (by decide) (fun h73_16t => ?_) (fun h73_16f => ?_)
                · refine z_aload_n C 1 rfl rfl dX4_put_79 ?_
                  refine z_get C (Cn := RX4) (T := TX4) (Nf := 5) (ci := 4) in4 0 1 l21 (v := .ref (a 9)) rfl rfl (by decide) rfl dX4_put_80 ?_
                  refine z_iload_n C 2 rfl rfl dX4_put_83 ?_
                  refine z_iload_n C 3 rfl rfl dX4_put_84 ?_
                  refine z_iload_n C 4 rfl rfl dX4_put_85 ?_
                  have ct17 := c_X0_change E (fun i => a (i + 9)) (xD X) t k v
                  obtain ⟨Dq18, hq86_18⟩ : ∃ z : DS, (dChg (xD X) t k v) = z := ⟨_, rfl⟩
                  rw [hq86_18] at ct17
                  refine z_callVV C ct17 gX4_put_X0_change (ci := 0) (q0 := 0) rfl rfl hyX0_change rfl ⟨rfl, rfl⟩ ⟨by decide, by decide⟩ ⟨by decide, by decide⟩ [9, 10, 11, 12] [0, 1, 2, 3, 4, 5, 6, 7, 8, 13, 14] [0, 1, 2, 3, 4, 5, 6, 7, 8, 11, 12, 13, 14, 9, 10] (wr := [((a 0), .inr (4, [.ref (a 1), .ref (a 9), .ref (a 13), .int (xDn X), .int (xCm X)])), ((a 1), .inr (2, [.ref (a 2), .ref (a 4), .ref (a 6), .ref (a 7), .ref (a 8), .int (jEn (xJ X)), .int (jWa (xJ X)), .int (jFw (xJ X)), .int (jSe (xJ X)), .int (jSc (xJ X)), .int (jFn (xJ X)), .int (jFp (xJ X))])), ((a 2), .inr (3, [.int (nI N), .ref (a 3)])), ((a 3), .inl (gB E, 32 * N, .inl (jDk (xJ X)))), ((a 4), .inr (3, [.int (nI N), .ref (a 5)])), ((a 5), .inl (gB E, 32 * N, .inl (jMm (xJ X)))), ((a 6), .inl (gI E, 4, .inl (jEh (xJ X)))), ((a 7), .inl (gI E, 4, .inl (jEk (xJ X)))), ((a 8), .inl (gI E, 4, .inl (jEv (xJ X)))), ((a 13), .inr (1, [.ref (a 14), .int (fFp (xF X)), .int (fPg (xF X)), .int (fRe (xF X))])), ((a 14), .inl (gZ E, 64, .inl (fTe (xF X))))]) (V' := (wX E a N (xsD X Dq18))) rfl rfl (by decide) (by decide) (by decide) rfl (by decide) (st := []) (Nat.le_of_ble_eq_true rfl) dX4_put_86 ?_ rfl
                  refine z_iload_n C 4 rfl rfl dX4_put_89 ?_
                  refine z_iconst C (v := (-1)) (by decide) dX4_put_90 ?_
                  refine z_icmp_ne C (tgt := 108) dX4_put_91 (by decide) (fun h91_17 => absurd h37_11t h91_17) (fun h91_17 => ?_)
                  refine z_aload_n C 1 rfl rfl dX4_put_94 ?_
                  refine z_get C (Cn := RX4) (T := TX4) (Nf := 5) (ci := 4) in4 0 0 l12 (v := .ref (a 1)) rfl rfl (by decide) rfl dX4_put_95 ?_
                  refine z_iload_n C 2 rfl rfl dX4_put_98 ?_
                  refine z_iconst C (v := 1) (by decide) dX4_put_99 ?_
                  refine z_iload_n C 3 rfl rfl dX4_put_100 ?_
                  refine z_iconst C (v := 0) (by decide) dX4_put_101 ?_
                  have ct19 := c_X2_takeEntry E N hN (fun i => a (i + 1)) (xJ X) t 1 k 0 e he he3
                  obtain ⟨Jq20, hq102_20⟩ : ∃ z : JS, (jTake N (xJ X) t 1 k 0 e) = z := ⟨_, rfl⟩
                  rw [hq102_20] at ct19
                  refine z_callVV C ct19 gX4_put_X2_takeEntry (ci := 2) (q0 := 0) rfl rfl hyX2_takeEntry rfl ⟨rfl, rfl⟩ ⟨by decide, by decide⟩ ⟨by decide, by decide⟩ [1, 2, 3, 4, 5, 6, 7, 8] [0, 9, 10, 11, 12, 13, 14] [0, 7, 8, 9, 10, 11, 12, 13, 14, 1, 2, 3, 4, 5, 6] (wr := [((a 0), .inr (4, [.ref (a 1), .ref (a 9), .ref (a 13), .int (xDn X), .int (xCm X)])), ((a 9), .inr (0, [.ref (a 10), .ref (a 11), .ref (a 12), .int (dOp Dq18)])), ((a 10), .inl (gI E, 32, .inl (dCo Dq18))), ((a 11), .inl (gI E, 32, .inl (dCh Dq18))), ((a 12), .inl (gI E, 32, .inl (dHo Dq18))), ((a 13), .inr (1, [.ref (a 14), .int (fFp (xF X)), .int (fPg (xF X)), .int (fRe (xF X))])), ((a 14), .inl (gZ E, 64, .inl (fTe (xF X))))]) (V' := (wX E a N (xsJ (xsD X Dq18) Jq20))) rfl rfl (by decide) (by decide) (by decide) rfl (by decide) (st := []) (Nat.le_of_ble_eq_true rfl) dX4_put_102 ?_ rfl
                  refine z_goto C (tgt := 119) dX4_put_105 (by decide) ?_
                  refine z_iconst C (v := 1) (by decide) dX4_put_119 ?_
                  exact ret _ _ _ _ (by first | rfl | (simp only [xPut, xPutH, xPutE, if_pos h4_1t, if_neg h18_2f, if_neg h25_3f, if_pos h32_4f, if_pos h37_11t, if_neg h55_12f, if_pos h61_15t, if_neg h73_16t, hq86_18, if_pos h91_17, hq102_20, ↓reduceIte]; done) | (simp only [xPut, xPutH, xPutE, if_pos h4_1t, if_neg h18_2f, if_neg h25_3f, if_pos h32_4f, if_pos h37_11t, if_neg h55_12f, if_pos h61_15t, if_neg h73_16t, hq86_18, if_pos h91_17, hq102_20, ↓reduceIte]; rfl) | (simp [xPut, xPutH, xPutE, if_pos h4_1t, if_neg h18_2f, if_neg h25_3f, if_pos h32_4f, if_pos h37_11t, if_neg h55_12f, if_pos h61_15t, if_neg h73_16t, hq86_18, if_pos h91_17, hq102_20, ↓reduceIte]; done)) (by first | rfl | (simp only [xPut, xPutH, xPutE, if_pos h4_1t, if_neg h18_2f, if_neg h25_3f, if_pos h32_4f, if_pos h37_11t, if_neg h55_12f, if_pos h61_15t, if_neg h73_16t, hq86_18, if_pos h91_17, hq102_20, ↓reduceIte]; done) | (simp only [xPut, xPutH, xPutE, if_pos h4_1t, if_neg h18_2f, if_neg h25_3f, if_pos h32_4f, if_pos h37_11t, if_neg h55_12f, if_pos h61_15t, if_neg h73_16t, hq86_18, if_pos h91_17, hq102_20, ↓reduceIte]; rfl) | (simp [xPut, xPutH, xPutE, if_pos h4_1t, if_neg h18_2f, if_neg h25_3f, if_pos h32_4f, if_pos h37_11t, if_neg h55_12f, if_pos h61_15t, if_neg h73_16t, hq86_18, if_pos h91_17, hq102_20, ↓reduceIte]; done)) dX4_put_120
                · refine z_bipush C (v := (-2)) (by decide) dX4_put_76 ?_
                  exact ret _ _ _ _ (by first | rfl | (simp only [xPut, xPutH, xPutE, if_pos h4_1t, if_neg h18_2f, if_neg h25_3f, if_pos h32_4f, if_pos h37_11t, if_neg h55_12f, if_pos h61_15t, if_pos h73_16f, ↓reduceIte]; done) | (simp only [xPut, xPutH, xPutE, if_pos h4_1t, if_neg h18_2f, if_neg h25_3f, if_pos h32_4f, if_pos h37_11t, if_neg h55_12f, if_pos h61_15t, if_pos h73_16f, ↓reduceIte]; rfl) | (simp [xPut, xPutH, xPutE, if_pos h4_1t, if_neg h18_2f, if_neg h25_3f, if_pos h32_4f, if_pos h37_11t, if_neg h55_12f, if_pos h61_15t, if_pos h73_16f, ↓reduceIte]; done)) (by first | rfl | (simp only [xPut, xPutH, xPutE, if_pos h4_1t, if_neg h18_2f, if_neg h25_3f, if_pos h32_4f, if_pos h37_11t, if_neg h55_12f, if_pos h61_15t, if_pos h73_16f, ↓reduceIte]; done) | (simp only [xPut, xPutH, xPutE, if_pos h4_1t, if_neg h18_2f, if_neg h25_3f, if_pos h32_4f, if_pos h37_11t, if_neg h55_12f, if_pos h61_15t, if_pos h73_16f, ↓reduceIte]; rfl) | (simp [xPut, xPutH, xPutE, if_pos h4_1t, if_neg h18_2f, if_neg h25_3f, if_pos h32_4f, if_pos h37_11t, if_neg h55_12f, if_pos h61_15t, if_pos h73_16f, ↓reduceIte]; done)) dX4_put_78
              · refine z_iconst C (v := 0) (by decide) dX4_put_64 ?_
                exact ret _ _ _ _ (by first | rfl | (simp only [xPut, xPutH, xPutE, if_pos h4_1t, if_neg h18_2f, if_neg h25_3f, if_pos h32_4f, if_pos h37_11t, if_neg h55_12f, if_neg h61_15f, ↓reduceIte]; done) | (simp only [xPut, xPutH, xPutE, if_pos h4_1t, if_neg h18_2f, if_neg h25_3f, if_pos h32_4f, if_pos h37_11t, if_neg h55_12f, if_neg h61_15f, ↓reduceIte]; rfl) | (simp [xPut, xPutH, xPutE, if_pos h4_1t, if_neg h18_2f, if_neg h25_3f, if_pos h32_4f, if_pos h37_11t, if_neg h55_12f, if_neg h61_15f, ↓reduceIte]; done)) (by first | rfl | (simp only [xPut, xPutH, xPutE, if_pos h4_1t, if_neg h18_2f, if_neg h25_3f, if_pos h32_4f, if_pos h37_11t, if_neg h55_12f, if_neg h61_15f, ↓reduceIte]; done) | (simp only [xPut, xPutH, xPutE, if_pos h4_1t, if_neg h18_2f, if_neg h25_3f, if_pos h32_4f, if_pos h37_11t, if_neg h55_12f, if_neg h61_15f, ↓reduceIte]; rfl) | (simp [xPut, xPutH, xPutE, if_pos h4_1t, if_neg h18_2f, if_neg h25_3f, if_pos h32_4f, if_pos h37_11t, if_neg h55_12f, if_neg h61_15f, ↓reduceIte]; done)) dX4_put_65
          · refine z_iconst C (v := (-1)) (by decide) dX4_put_40 ?_
            exact ret _ _ _ _ (by first | rfl | (simp only [xPut, xPutH, xPutE, if_pos h4_1t, if_neg h18_2f, if_neg h25_3f, if_pos h32_4f, if_neg h37_11f, ↓reduceIte]; done) | (simp only [xPut, xPutH, xPutE, if_pos h4_1t, if_neg h18_2f, if_neg h25_3f, if_pos h32_4f, if_neg h37_11f, ↓reduceIte]; rfl) | (simp [xPut, xPutH, xPutE, if_pos h4_1t, if_neg h18_2f, if_neg h25_3f, if_pos h32_4f, if_neg h37_11f, ↓reduceIte]; done)) (by first | rfl | (simp only [xPut, xPutH, xPutE, if_pos h4_1t, if_neg h18_2f, if_neg h25_3f, if_pos h32_4f, if_neg h37_11f, ↓reduceIte]; done) | (simp only [xPut, xPutH, xPutE, if_pos h4_1t, if_neg h18_2f, if_neg h25_3f, if_pos h32_4f, if_neg h37_11f, ↓reduceIte]; rfl) | (simp [xPut, xPutH, xPutE, if_pos h4_1t, if_neg h18_2f, if_neg h25_3f, if_pos h32_4f, if_neg h37_11f, ↓reduceIte]; done)) dX4_put_41
  · refine z_bipush C (v := (-3)) (by decide) dX4_put_7 ?_
    exact ret _ _ _ _ (by first | rfl | (simp only [xPut, xPutH, xPutE, if_neg h4_1f, ↓reduceIte]; done) | (simp only [xPut, xPutH, xPutE, if_neg h4_1f, ↓reduceIte]; rfl) | (simp [xPut, xPutH, xPutE, if_neg h4_1f, ↓reduceIte]; done)) (by first | rfl | (simp only [xPut, xPutH, xPutE, if_neg h4_1f, ↓reduceIte]; done) | (simp only [xPut, xPutH, xPutE, if_neg h4_1f, ↓reduceIte]; rfl) | (simp [xPut, xPutH, xPutE, if_neg h4_1f, ↓reduceIte]; done)) dX4_put_9
abbrev rmX4_endTransaction : Room := { frames := 5, cells := 0, slots := 0, locals := 120 }
theorem hyX4_endTransaction : yX4_endTransaction.cls = RX4 ∧ yX4_endTransaction.cls ≠ "java/lang/invoke/MethodHandle" ∧ yX4_endTransaction.cls ≠ "java/lang/invoke/VarHandle" ∧ (parseMethodDescriptor yX4_endTransaction.desc).map (fun d => d.parameters.length) = some 2 := by decide +kernel
set_option maxHeartbeats 4000000 in
set_option maxRecDepth 3000 in
theorem c_X4_endTransaction (E : GE) (N : Nat) (hN : 16 ≤ N ∧ N ≤ 64) (a : Nat → Nat) (X : XS) (t w : Int32) (e : Nat) (he : jEn (xJ X) = nI e) (he3 : e ≤ 3) : zI E yX4_endTransaction wsX4_endTransaction rmX4_endTransaction [.ref (a 0), .int t, .int w] (wX E a N X) ((xEnd N X t w e).1) (wX E a N ((xEnd N X t w e).2)) := by
  refine zI_of (cc := cX4_endTransaction) (maxL := 3) (ty := .int) (by decide) rfl (vp_nar_int _) (Nat.le_of_ble_eq_true rfl) ?_
  intro K C ret
  replace C : zC E K cX4_endTransaction wsX4_endTransaction RX4 rmX4_endTransaction 3 := C
  have in4 : ∀ w ∈ wsX40, w ∈ wsX4_endTransaction := fun w h => List.mem_cons_of_mem _ (List.mem_append_left _ (List.mem_append_left _ (List.mem_append_left _ (List.mem_append_right _ (h)))))
  have l12 : zw K (.fieldLink RX4 12 "StoreLog3" "journal" "LStoreLog3$Journal;") := C.w (List.mem_cons_of_mem _ (List.mem_append_left _ (List.mem_append_left _ (List.mem_append_left _ (List.mem_append_left _ (List.mem_append_left _ (List.mem_of_getElem? (i := 2) rfl)))))))
  have l21 : zw K (.fieldLink RX4 21 "StoreLog3" "dictionary" "LStoreLog3$Dictionary;") := C.w (List.mem_cons_of_mem _ (List.mem_append_left _ (List.mem_append_left _ (List.mem_append_left _ (List.mem_append_left _ (List.mem_append_left _ (List.mem_of_getElem? (i := 1) rfl)))))))
  have l32 : zw K (.fieldLink RX4 32 "StoreLog3" "down" "Z") := C.w (List.mem_cons_of_mem _ (List.mem_append_left _ (List.mem_append_left _ (List.mem_append_left _ (List.mem_append_left _ (List.mem_append_left _ (List.mem_of_getElem? (i := 0) rfl)))))))
  show Z E K 0 0 (wX E a N X) 0 [(0, .ref (a 0)), (1, .int t), (2, .int w)] []
  refine z_aload_n C 0 rfl rfl dX4_endTransaction_0 ?_
  refine z_get C (Cn := RX4) (T := TX4) (Nf := 5) (ci := 4) in4 0 3 l32 (v := .int (xDn X)) rfl rfl (by decide) rfl dX4_endTransaction_1 ?_
  refine z_if_eq C (tgt := 10) dX4_endTransaction_4 (by decide) (fun h4_1t => ?_) (fun h4_1f => ?_)
  · refine z_aload_n C 0 rfl rfl dX4_endTransaction_10 ?_
    refine z_get C (Cn := RX4) (T := TX4) (Nf := 5) (ci := 4) in4 0 1 l21 (v := .ref (a 9)) rfl rfl (by decide) rfl dX4_endTransaction_11 ?_
    refine z_iload_n C 1 rfl rfl dX4_endTransaction_14 ?_
    refine z_rVI C (c_X0_isOpen E (fun i => a (i + 9)) (xD X) t) gX4_endTransaction_X0_isOpen (ci := 0) (q0 := 0) rfl rfl hyX0_isOpen rfl ⟨rfl, rfl⟩ ⟨by decide, by decide⟩ ⟨by decide, by decide⟩ [9, 10, 11, 12] rfl (by decide) (st := []) (Nat.le_of_ble_eq_true rfl) dX4_endTransaction_15 ?_ rfl
    refine z_if_ne C (tgt := 23) dX4_endTransaction_18 (by decide) (fun h18_2t => ?_) (fun h18_2f => ?_)
    · refine z_aload_n C 0 rfl rfl dX4_endTransaction_23 ?_
      refine z_get C (Cn := RX4) (T := TX4) (Nf := 5) (ci := 4) in4 0 0 l12 (v := .ref (a 1)) rfl rfl (by decide) rfl dX4_endTransaction_24 ?_
      refine z_rVI C (c_X2_canTakeEntry E N hN (fun i => a (i + 1)) (xJ X)) gX4_endTransaction_X2_canTakeEntry (ci := 2) (q0 := 0) rfl rfl hyX2_canTakeEntry rfl ⟨rfl, rfl⟩ ⟨by decide, by decide⟩ ⟨by decide, by decide⟩ [1, 2, 3, 4, 5, 6, 7, 8] rfl (by decide) (st := []) (Nat.le_of_ble_eq_true rfl) dX4_endTransaction_27 ?_ rfl
      refine z_if_ne C (tgt := 36) dX4_endTransaction_30 (by decide) (fun h30_3t => ?_) (fun h30_3f => ?_)
      · refine z_aload_n C 0 rfl rfl dX4_endTransaction_36 ?_
        refine z_get C (Cn := RX4) (T := TX4) (Nf := 5) (ci := 4) in4 0 0 l12 (v := .ref (a 1)) rfl rfl (by decide) rfl dX4_endTransaction_37 ?_
        refine z_iload_n C 1 rfl rfl dX4_endTransaction_40 ?_
        refine z_iload_n C 2 rfl rfl dX4_endTransaction_41 ?_
        refine z_iconst C (v := 0) (by decide) dX4_endTransaction_42 ?_
        refine z_iconst C (v := 0) (by decide) dX4_endTransaction_43 ?_
        have ct1 := c_X2_takeEntry E N hN (fun i => a (i + 1)) (xJ X) t w 0 0 e he he3
        obtain ⟨Jq2, hq44_2⟩ : ∃ z : JS, (jTake N (xJ X) t w 0 0 e) = z := ⟨_, rfl⟩
        rw [hq44_2] at ct1
        refine z_callVV C ct1 gX4_endTransaction_X2_takeEntry (ci := 2) (q0 := 0) rfl rfl hyX2_takeEntry rfl ⟨rfl, rfl⟩ ⟨by decide, by decide⟩ ⟨by decide, by decide⟩ [1, 2, 3, 4, 5, 6, 7, 8] [0, 9, 10, 11, 12, 13, 14] [0, 7, 8, 9, 10, 11, 12, 13, 14, 1, 2, 3, 4, 5, 6] (wr := [((a 0), .inr (4, [.ref (a 1), .ref (a 9), .ref (a 13), .int (xDn X), .int (xCm X)])), ((a 9), .inr (0, [.ref (a 10), .ref (a 11), .ref (a 12), .int (dOp (xD X))])), ((a 10), .inl (gI E, 32, .inl (dCo (xD X)))), ((a 11), .inl (gI E, 32, .inl (dCh (xD X)))), ((a 12), .inl (gI E, 32, .inl (dHo (xD X)))), ((a 13), .inr (1, [.ref (a 14), .int (fFp (xF X)), .int (fPg (xF X)), .int (fRe (xF X))])), ((a 14), .inl (gZ E, 64, .inl (fTe (xF X))))]) (V' := (wX E a N (xsJ X Jq2))) rfl rfl (by decide) (by decide) (by decide) rfl (by decide) (st := []) (Nat.le_of_ble_eq_true rfl) dX4_endTransaction_44 ?_ rfl
        refine z_aload_n C 0 rfl rfl dX4_endTransaction_47 ?_
        refine z_get C (Cn := RX4) (T := TX4) (Nf := 5) (ci := 4) in4 0 1 l21 (v := .ref (a 9)) rfl rfl (by decide) rfl dX4_endTransaction_48 ?_
        refine z_iload_n C 1 rfl rfl dX4_endTransaction_51 ?_
        refine z_iload_n C 2 rfl rfl dX4_endTransaction_52 ?_
        refine z_iconst C (v := 2) (by decide) dX4_endTransaction_53 ?_
        refine z_icmp_ne C (tgt := 61) dX4_endTransaction_54 (by decide) (fun h54_4t => ?_) (fun h54_4f => ?_)
        · refine z_iconst C (v := 0) (by decide) dX4_endTransaction_61 ?_
          have ct3 := c_X0_close E (fun i => a (i + 9)) (xD X) t 0
          obtain ⟨Dq4, hq62_4⟩ : ∃ z : DS, ((dClose (xD X) t 0).2) = z := ⟨_, rfl⟩
          rw [hq62_4] at ct3
          refine z_callVI C ct3 gX4_endTransaction_X0_close (ci := 0) (q0 := 0) rfl rfl hyX0_close rfl ⟨rfl, rfl⟩ ⟨by decide, by decide⟩ ⟨by decide, by decide⟩ [9, 10, 11, 12] [0, 1, 2, 3, 4, 5, 6, 7, 8, 13, 14] [0, 1, 2, 3, 4, 5, 6, 7, 8, 11, 12, 13, 14, 9, 10] (wr := [((a 0), .inr (4, [.ref (a 1), .ref (a 9), .ref (a 13), .int (xDn X), .int (xCm X)])), ((a 1), .inr (2, [.ref (a 2), .ref (a 4), .ref (a 6), .ref (a 7), .ref (a 8), .int (jEn Jq2), .int (jWa Jq2), .int (jFw Jq2), .int (jSe Jq2), .int (jSc Jq2), .int (jFn Jq2), .int (jFp Jq2)])), ((a 2), .inr (3, [.int (nI N), .ref (a 3)])), ((a 3), .inl (gB E, 32 * N, .inl (jDk Jq2))), ((a 4), .inr (3, [.int (nI N), .ref (a 5)])), ((a 5), .inl (gB E, 32 * N, .inl (jMm Jq2))), ((a 6), .inl (gI E, 4, .inl (jEh Jq2))), ((a 7), .inl (gI E, 4, .inl (jEk Jq2))), ((a 8), .inl (gI E, 4, .inl (jEv Jq2))), ((a 13), .inr (1, [.ref (a 14), .int (fFp (xF X)), .int (fPg (xF X)), .int (fRe (xF X))])), ((a 14), .inl (gZ E, 64, .inl (fTe (xF X))))]) (V' := (wX E a N (xsD (xsJ X Jq2) Dq4))) rfl rfl (by decide) (by decide) (by decide) rfl (by decide) (st := []) (Nat.le_of_ble_eq_true rfl) dX4_endTransaction_62 ?_ rfl
          exact ret _ _ _ _ (by first | rfl | (simp only [xEnd, if_pos h4_1t, if_neg h18_2t, if_neg h30_3t, hq44_2, if_neg h54_4t, hq62_4, ↓reduceIte]; done) | (simp only [xEnd, if_pos h4_1t, if_neg h18_2t, if_neg h30_3t, hq44_2, if_neg h54_4t, hq62_4, ↓reduceIte]; rfl) | (simp [xEnd, if_pos h4_1t, if_neg h18_2t, if_neg h30_3t, hq44_2, if_neg h54_4t, hq62_4, ↓reduceIte]; done)) (by first | rfl | (simp only [xEnd, if_pos h4_1t, if_neg h18_2t, if_neg h30_3t, hq44_2, if_neg h54_4t, hq62_4, ↓reduceIte]; done) | (simp only [xEnd, if_pos h4_1t, if_neg h18_2t, if_neg h30_3t, hq44_2, if_neg h54_4t, hq62_4, ↓reduceIte]; rfl) | (simp [xEnd, if_pos h4_1t, if_neg h18_2t, if_neg h30_3t, hq44_2, if_neg h54_4t, hq62_4, ↓reduceIte]; done)) dX4_endTransaction_65
        · refine z_iconst C (v := 1) (by decide) dX4_endTransaction_57 ?_
          refine z_goto C (tgt := 62) dX4_endTransaction_58 (by decide) ?_
          have ct5 := c_X0_close E (fun i => a (i + 9)) (xD X) t 1
          obtain ⟨Dq6, hq62_6⟩ : ∃ z : DS, ((dClose (xD X) t 1).2) = z := ⟨_, rfl⟩
          rw [hq62_6] at ct5
          refine z_callVI C ct5 gX4_endTransaction_X0_close (ci := 0) (q0 := 0) rfl rfl hyX0_close rfl ⟨rfl, rfl⟩ ⟨by decide, by decide⟩ ⟨by decide, by decide⟩ [9, 10, 11, 12] [0, 1, 2, 3, 4, 5, 6, 7, 8, 13, 14] [0, 1, 2, 3, 4, 5, 6, 7, 8, 11, 12, 13, 14, 9, 10] (wr := [((a 0), .inr (4, [.ref (a 1), .ref (a 9), .ref (a 13), .int (xDn X), .int (xCm X)])), ((a 1), .inr (2, [.ref (a 2), .ref (a 4), .ref (a 6), .ref (a 7), .ref (a 8), .int (jEn Jq2), .int (jWa Jq2), .int (jFw Jq2), .int (jSe Jq2), .int (jSc Jq2), .int (jFn Jq2), .int (jFp Jq2)])), ((a 2), .inr (3, [.int (nI N), .ref (a 3)])), ((a 3), .inl (gB E, 32 * N, .inl (jDk Jq2))), ((a 4), .inr (3, [.int (nI N), .ref (a 5)])), ((a 5), .inl (gB E, 32 * N, .inl (jMm Jq2))), ((a 6), .inl (gI E, 4, .inl (jEh Jq2))), ((a 7), .inl (gI E, 4, .inl (jEk Jq2))), ((a 8), .inl (gI E, 4, .inl (jEv Jq2))), ((a 13), .inr (1, [.ref (a 14), .int (fFp (xF X)), .int (fPg (xF X)), .int (fRe (xF X))])), ((a 14), .inl (gZ E, 64, .inl (fTe (xF X))))]) (V' := (wX E a N (xsD (xsJ X Jq2) Dq6))) rfl rfl (by decide) (by decide) (by decide) rfl (by decide) (st := []) (Nat.le_of_ble_eq_true rfl) dX4_endTransaction_62 ?_ rfl
          exact ret _ _ _ _ (by first | rfl | (simp only [xEnd, if_pos h4_1t, if_neg h18_2t, if_neg h30_3t, hq44_2, if_pos h54_4f, hq62_6, ↓reduceIte]; done) | (simp only [xEnd, if_pos h4_1t, if_neg h18_2t, if_neg h30_3t, hq44_2, if_pos h54_4f, hq62_6, ↓reduceIte]; rfl) | (simp [xEnd, if_pos h4_1t, if_neg h18_2t, if_neg h30_3t, hq44_2, if_pos h54_4f, hq62_6, ↓reduceIte]; done)) (by first | rfl | (simp only [xEnd, if_pos h4_1t, if_neg h18_2t, if_neg h30_3t, hq44_2, if_pos h54_4f, hq62_6, ↓reduceIte]; done) | (simp only [xEnd, if_pos h4_1t, if_neg h18_2t, if_neg h30_3t, hq44_2, if_pos h54_4f, hq62_6, ↓reduceIte]; rfl) | (simp [xEnd, if_pos h4_1t, if_neg h18_2t, if_neg h30_3t, hq44_2, if_pos h54_4f, hq62_6, ↓reduceIte]; done)) dX4_endTransaction_65
      · refine z_bipush C (v := (-2)) (by decide) dX4_endTransaction_33 ?_
        exact ret _ _ _ _ (by first | rfl | (simp only [xEnd, if_pos h4_1t, if_neg h18_2t, if_pos h30_3f, ↓reduceIte]; done) | (simp only [xEnd, if_pos h4_1t, if_neg h18_2t, if_pos h30_3f, ↓reduceIte]; rfl) | (simp [xEnd, if_pos h4_1t, if_neg h18_2t, if_pos h30_3f, ↓reduceIte]; done)) (by first | rfl | (simp only [xEnd, if_pos h4_1t, if_neg h18_2t, if_pos h30_3f, ↓reduceIte]; done) | (simp only [xEnd, if_pos h4_1t, if_neg h18_2t, if_pos h30_3f, ↓reduceIte]; rfl) | (simp [xEnd, if_pos h4_1t, if_neg h18_2t, if_pos h30_3f, ↓reduceIte]; done)) dX4_endTransaction_35
    · refine z_iconst C (v := (-1)) (by decide) dX4_endTransaction_21 ?_
      exact ret _ _ _ _ (by first | rfl | (simp only [xEnd, if_pos h4_1t, if_pos h18_2f, ↓reduceIte]; done) | (simp only [xEnd, if_pos h4_1t, if_pos h18_2f, ↓reduceIte]; rfl) | (simp [xEnd, if_pos h4_1t, if_pos h18_2f, ↓reduceIte]; done)) (by first | rfl | (simp only [xEnd, if_pos h4_1t, if_pos h18_2f, ↓reduceIte]; done) | (simp only [xEnd, if_pos h4_1t, if_pos h18_2f, ↓reduceIte]; rfl) | (simp [xEnd, if_pos h4_1t, if_pos h18_2f, ↓reduceIte]; done)) dX4_endTransaction_22
  · refine z_bipush C (v := (-3)) (by decide) dX4_endTransaction_7 ?_
    exact ret _ _ _ _ (by first | rfl | (simp only [xEnd, if_neg h4_1f, ↓reduceIte]; done) | (simp only [xEnd, if_neg h4_1f, ↓reduceIte]; rfl) | (simp [xEnd, if_neg h4_1f, ↓reduceIte]; done)) (by first | rfl | (simp only [xEnd, if_neg h4_1f, ↓reduceIte]; done) | (simp only [xEnd, if_neg h4_1f, ↓reduceIte]; rfl) | (simp [xEnd, if_neg h4_1f, ↓reduceIte]; done)) dX4_endTransaction_9
abbrev rmX4_commit : Room := { frames := 6, cells := 0, slots := 0, locals := 142 }
theorem hyX4_commit : yX4_commit.cls = RX4 ∧ yX4_commit.cls ≠ "java/lang/invoke/MethodHandle" ∧ yX4_commit.cls ≠ "java/lang/invoke/VarHandle" ∧ (parseMethodDescriptor yX4_commit.desc).map (fun d => d.parameters.length) = some 1 := by decide +kernel
set_option maxHeartbeats 4000000 in
set_option maxRecDepth 3000 in
theorem c_X4_commit (E : GE) (N : Nat) (hN : 16 ≤ N ∧ N ≤ 64) (a : Nat → Nat) (X : XS) (t : Int32) (e : Nat) (he : jEn (xJ X) = nI e) (he3 : e ≤ 3) : zI E yX4_commit wsX4_commit rmX4_commit [.ref (a 0), .int t] (wX E a N X) ((xCommit N X t e).1) (wX E a N ((xCommit N X t e).2)) := by
  refine zI_of (cc := cX4_commit) (maxL := 3) (ty := .int) (by decide) rfl (vp_nar_int _) (Nat.le_of_ble_eq_true rfl) ?_
  intro K C ret
  replace C : zC E K cX4_commit wsX4_commit RX4 rmX4_commit 3 := C
  have in4 : ∀ w ∈ wsX40, w ∈ wsX4_commit := fun w h => List.mem_cons_of_mem _ (List.mem_append_left _ (List.mem_append_left _ (List.mem_append_left _ (List.mem_append_right _ (h)))))
  have l70 : zw K (.fieldLink RX4 70 "StoreLog3" "commits" "I") := C.w (List.mem_cons_of_mem _ (List.mem_append_left _ (List.mem_append_left _ (List.mem_append_left _ (List.mem_append_left _ (List.mem_append_left _ (List.mem_of_getElem? (i := 0) rfl)))))))
  show Z E K 0 0 (wX E a N X) 0 [(0, .ref (a 0)), (1, .int t)] []
  refine z_aload_n C 0 rfl rfl dX4_commit_0 ?_
  refine z_iload_n C 1 rfl rfl dX4_commit_1 ?_
  refine z_iconst C (v := 2) (by decide) dX4_commit_2 ?_
  have ct1 := c_X4_endTransaction E N hN a X t 2 e he he3
  obtain ⟨Xq2, hq3_2⟩ : ∃ z : XS, ((xEnd N X t 2 e).2) = z := ⟨_, rfl⟩
  rw [hq3_2] at ct1
  refine z_callVI C ct1 gX4_commit_X4_endTransaction (ci := 4) (q0 := 0) rfl rfl hyX4_endTransaction rfl ⟨rfl, rfl⟩ ⟨by decide, by decide⟩ ⟨by decide, by decide⟩ [0, 1, 2, 3, 4, 5, 6, 7, 8, 9, 10, 11, 12, 13, 14] [] [0, 1, 2, 3, 4, 5, 6, 7, 8, 9, 10, 11, 12, 13, 14] (wr := []) (V' := (wX E a N Xq2)) rfl rfl (by decide) (by decide) (by decide) rfl (by decide) (st := []) (Nat.le_of_ble_eq_true rfl) dX4_commit_3 ?_ rfl
  refine z_istore_n C (lv' := [(2, .int ((xEnd N X t 2 e).1)), (0, .ref (a 0)), (1, .int t)]) rfl rfl (by decide) dX4_commit_6 ?_
  refine z_iload_n C 0 rfl rfl dX4_commit_7 ?_
  refine z_if_lt C (tgt := 21) dX4_commit_8 (by decide) (fun h8_1t => ?_) (fun h8_1f => ?_)
  · refine z_iload_n C 0 rfl rfl dX4_commit_21 ?_
    exact ret _ _ _ _ (by first | rfl | (simp only [xCommit, hq3_2, if_pos h8_1t, ↓reduceIte]; done) | (simp only [xCommit, hq3_2, if_pos h8_1t, ↓reduceIte]; rfl) | (simp [xCommit, hq3_2, if_pos h8_1t, ↓reduceIte]; done)) (by first | rfl | (simp only [xCommit, hq3_2, if_pos h8_1t, ↓reduceIte]; done) | (simp only [xCommit, hq3_2, if_pos h8_1t, ↓reduceIte]; rfl) | (simp [xCommit, hq3_2, if_pos h8_1t, ↓reduceIte]; done)) dX4_commit_22
  · refine z_aload_n C 1 rfl rfl dX4_commit_11 ?_
    refine z_dup C rfl dX4_commit_12 ?_
    refine z_get C (Cn := RX4) (T := TX4) (Nf := 5) (ci := 4) in4 0 4 l70 (v := .int (xCm Xq2)) rfl rfl (by decide) rfl dX4_commit_13 ?_
    refine z_iconst C (v := 1) (by decide) dX4_commit_16 ?_
    refine z_iadd C dX4_commit_17 ?_
    refine z_put C (Cn := RX4) (T := TX4) (Nf := 5) (ci := 4) in4 0 4 l70 rfl rfl (by decide) tyX4 tyX4_ok nmX4 rfl rfl rfl (Nat.le_of_ble_eq_true rfl) (V' := (wX E a N (xsCm Xq2 ((xCm Xq2) + 1)))) rfl dX4_commit_18 ?_
    refine z_iload_n C 0 rfl rfl dX4_commit_21 ?_
    exact ret _ _ _ _ (by first | rfl | (simp only [xCommit, hq3_2, if_neg h8_1f, ↓reduceIte]; done) | (simp only [xCommit, hq3_2, if_neg h8_1f, ↓reduceIte]; rfl) | (simp [xCommit, hq3_2, if_neg h8_1f, ↓reduceIte]; done)) (by first | rfl | (simp only [xCommit, hq3_2, if_neg h8_1f, ↓reduceIte]; done) | (simp only [xCommit, hq3_2, if_neg h8_1f, ↓reduceIte]; rfl) | (simp [xCommit, hq3_2, if_neg h8_1f, ↓reduceIte]; done)) dX4_commit_22
abbrev rmX4_undo : Room := { frames := 6, cells := 0, slots := 0, locals := 142 }
theorem hyX4_undo : yX4_undo.cls = RX4 ∧ yX4_undo.cls ≠ "java/lang/invoke/MethodHandle" ∧ yX4_undo.cls ≠ "java/lang/invoke/VarHandle" ∧ (parseMethodDescriptor yX4_undo.desc).map (fun d => d.parameters.length) = some 1 := by decide +kernel
set_option maxHeartbeats 4000000 in
set_option maxRecDepth 3000 in
theorem c_X4_undo (E : GE) (N : Nat) (hN : 16 ≤ N ∧ N ≤ 64) (a : Nat → Nat) (X : XS) (t : Int32) (e : Nat) (he : jEn (xJ X) = nI e) (he3 : e ≤ 3) : zI E yX4_undo wsX4_undo rmX4_undo [.ref (a 0), .int t] (wX E a N X) ((xEnd N X t 3 e).1) (wX E a N ((xEnd N X t 3 e).2)) := by
  refine zI_of (cc := cX4_undo) (maxL := 2) (ty := .int) (by decide) rfl (vp_nar_int _) (Nat.le_of_ble_eq_true rfl) ?_
  intro K C ret
  replace C : zC E K cX4_undo wsX4_undo RX4 rmX4_undo 2 := C
  show Z E K 0 0 (wX E a N X) 0 [(0, .ref (a 0)), (1, .int t)] []
  refine z_aload_n C 0 rfl rfl dX4_undo_0 ?_
  refine z_iload_n C 1 rfl rfl dX4_undo_1 ?_
  refine z_iconst C (v := 3) (by decide) dX4_undo_2 ?_
  have ct1 := c_X4_endTransaction E N hN a X t 3 e he he3
  obtain ⟨Xq2, hq3_2⟩ : ∃ z : XS, ((xEnd N X t 3 e).2) = z := ⟨_, rfl⟩
  rw [hq3_2] at ct1
  refine z_callVI C ct1 gX4_undo_X4_endTransaction (ci := 4) (q0 := 0) rfl rfl hyX4_endTransaction rfl ⟨rfl, rfl⟩ ⟨by decide, by decide⟩ ⟨by decide, by decide⟩ [0, 1, 2, 3, 4, 5, 6, 7, 8, 9, 10, 11, 12, 13, 14] [] [0, 1, 2, 3, 4, 5, 6, 7, 8, 9, 10, 11, 12, 13, 14] (wr := []) (V' := (wX E a N Xq2)) rfl rfl (by decide) (by decide) (by decide) rfl (by decide) (st := []) (Nat.le_of_ble_eq_true rfl) dX4_undo_3 ?_ rfl
  exact ret _ _ _ _ (by first | rfl | (simp only [hq3_2, ↓reduceIte]; done) | (simp only [hq3_2, ↓reduceIte]; rfl) | (simp [hq3_2, ↓reduceIte]; done)) (by first | rfl | (simp only [hq3_2, ↓reduceIte]; done) | (simp only [hq3_2, ↓reduceIte]; rfl) | (simp [hq3_2, ↓reduceIte]; done)) dX4_undo_6
abbrev rmX4_get : Room := { frames := 2, cells := 0, slots := 0, locals := 41 }
theorem hyX4_get : yX4_get.cls = RX4 ∧ yX4_get.cls ≠ "java/lang/invoke/MethodHandle" ∧ yX4_get.cls ≠ "java/lang/invoke/VarHandle" ∧ (parseMethodDescriptor yX4_get.desc).map (fun d => d.parameters.length) = some 1 := by decide +kernel
set_option maxHeartbeats 4000000 in
set_option maxRecDepth 3000 in
theorem c_X4_get (E : GE) (N : Nat) (hN : 16 ≤ N ∧ N ≤ 64) (a : Nat → Nat) (X : XS) (k : Int32) : zI E yX4_get wsX4_get rmX4_get [.ref (a 0), .int k] (wX E a N X) (xGet X k) (wX E a N X) := by
  refine zI_of (cc := cX4_get) (maxL := 2) (ty := .int) (by decide) rfl (vp_nar_int _) (Nat.le_of_ble_eq_true rfl) ?_
  intro K C ret
  replace C : zC E K cX4_get wsX4_get RX4 rmX4_get 2 := C
  have in4 : ∀ w ∈ wsX40, w ∈ wsX4_get := fun w h => List.mem_cons_of_mem _ (List.mem_append_left _ (List.mem_append_right _ (h)))
  have l21 : zw K (.fieldLink RX4 21 "StoreLog3" "dictionary" "LStoreLog3$Dictionary;") := C.w (List.mem_cons_of_mem _ (List.mem_append_left _ (List.mem_append_left _ (List.mem_of_getElem? (i := 1) rfl))))
  have l32 : zw K (.fieldLink RX4 32 "StoreLog3" "down" "Z") := C.w (List.mem_cons_of_mem _ (List.mem_append_left _ (List.mem_append_left _ (List.mem_of_getElem? (i := 0) rfl))))
  show Z E K 0 0 (wX E a N X) 0 [(0, .ref (a 0)), (1, .int k)] []
  refine z_aload_n C 0 rfl rfl dX4_get_0 ?_
  refine z_get C (Cn := RX4) (T := TX4) (Nf := 5) (ci := 4) in4 0 3 l32 (v := .int (xDn X)) rfl rfl (by decide) rfl dX4_get_1 ?_
  refine z_if_eq C (tgt := 12) dX4_get_4 (by decide) (fun h4_1t => ?_) (fun h4_1f => ?_)
  · refine z_aload_n C 0 rfl rfl dX4_get_12 ?_
    refine z_get C (Cn := RX4) (T := TX4) (Nf := 5) (ci := 4) in4 0 1 l21 (v := .ref (a 9)) rfl rfl (by decide) rfl dX4_get_13 ?_
    refine z_iload_n C 1 rfl rfl dX4_get_16 ?_
    refine z_rVI C (c_X0_committedValue E (fun i => a (i + 9)) (xD X) k) gX4_get_X0_committedValue (ci := 0) (q0 := 0) rfl rfl hyX0_committedValue rfl ⟨rfl, rfl⟩ ⟨by decide, by decide⟩ ⟨by decide, by decide⟩ [9, 10, 11, 12] rfl (by decide) (st := []) (Nat.le_of_ble_eq_true rfl) dX4_get_17 ?_ rfl
    exact ret _ _ _ _ (by first | rfl | (simp only [xGet, if_pos h4_1t, ↓reduceIte]; done) | (simp only [xGet, if_pos h4_1t, ↓reduceIte]; rfl) | (simp [xGet, if_pos h4_1t, ↓reduceIte]; done)) rfl dX4_get_20
  · refine z_bipush C (v := (-3)) (by decide) dX4_get_7 ?_
    refine z_goto C (tgt := 20) dX4_get_9 (by decide) ?_
    exact ret _ _ _ _ (by first | rfl | (simp only [xGet, if_neg h4_1f, ↓reduceIte]; done) | (simp only [xGet, if_neg h4_1f, ↓reduceIte]; rfl) | (simp [xGet, if_neg h4_1f, ↓reduceIte]; done)) rfl dX4_get_20
abbrev rmX4_seen : Room := { frames := 2, cells := 0, slots := 0, locals := 42 }
theorem hyX4_seen : yX4_seen.cls = RX4 ∧ yX4_seen.cls ≠ "java/lang/invoke/MethodHandle" ∧ yX4_seen.cls ≠ "java/lang/invoke/VarHandle" ∧ (parseMethodDescriptor yX4_seen.desc).map (fun d => d.parameters.length) = some 2 := by decide +kernel
set_option maxHeartbeats 4000000 in
set_option maxRecDepth 3000 in
theorem c_X4_seen (E : GE) (N : Nat) (hN : 16 ≤ N ∧ N ≤ 64) (a : Nat → Nat) (X : XS) (t k : Int32) : zI E yX4_seen wsX4_seen rmX4_seen [.ref (a 0), .int t, .int k] (wX E a N X) (xSeen X t k) (wX E a N X) := by
  refine zI_of (cc := cX4_seen) (maxL := 3) (ty := .int) (by decide) rfl (vp_nar_int _) (Nat.le_of_ble_eq_true rfl) ?_
  intro K C ret
  replace C : zC E K cX4_seen wsX4_seen RX4 rmX4_seen 3 := C
  have in4 : ∀ w ∈ wsX40, w ∈ wsX4_seen := fun w h => List.mem_cons_of_mem _ (List.mem_append_left _ (List.mem_append_right _ (h)))
  have l21 : zw K (.fieldLink RX4 21 "StoreLog3" "dictionary" "LStoreLog3$Dictionary;") := C.w (List.mem_cons_of_mem _ (List.mem_append_left _ (List.mem_append_left _ (List.mem_of_getElem? (i := 1) rfl))))
  have l32 : zw K (.fieldLink RX4 32 "StoreLog3" "down" "Z") := C.w (List.mem_cons_of_mem _ (List.mem_append_left _ (List.mem_append_left _ (List.mem_of_getElem? (i := 0) rfl))))
  show Z E K 0 0 (wX E a N X) 0 [(0, .ref (a 0)), (1, .int t), (2, .int k)] []
  refine z_aload_n C 0 rfl rfl dX4_seen_0 ?_
  refine z_get C (Cn := RX4) (T := TX4) (Nf := 5) (ci := 4) in4 0 3 l32 (v := .int (xDn X)) rfl rfl (by decide) rfl dX4_seen_1 ?_
  refine z_if_eq C (tgt := 10) dX4_seen_4 (by decide) (fun h4_1t => ?_) (fun h4_1f => ?_)
  · refine z_aload_n C 0 rfl rfl dX4_seen_10 ?_
    refine z_get C (Cn := RX4) (T := TX4) (Nf := 5) (ci := 4) in4 0 1 l21 (v := .ref (a 9)) rfl rfl (by decide) rfl dX4_seen_11 ?_
    refine z_iload_n C 1 rfl rfl dX4_seen_14 ?_
    refine z_rVI C (c_X0_isOpen E (fun i => a (i + 9)) (xD X) t) gX4_seen_X0_isOpen (ci := 0) (q0 := 0) rfl rfl hyX0_isOpen rfl ⟨rfl, rfl⟩ ⟨by decide, by decide⟩ ⟨by decide, by decide⟩ [9, 10, 11, 12] rfl (by decide) (st := []) (Nat.le_of_ble_eq_true rfl) dX4_seen_15 ?_ rfl
    refine z_if_eq C (tgt := 33) dX4_seen_18 (by decide) (fun h18_2t => ?_) (fun h18_2f => ?_)
    · refine z_iconst C (v := (-1)) (by decide) dX4_seen_33 ?_
      exact ret _ _ _ _ (by first | rfl | (simp only [xSeen, if_pos h4_1t, if_pos h18_2t, ↓reduceIte]; done) | (simp only [xSeen, if_pos h4_1t, if_pos h18_2t, ↓reduceIte]; rfl) | (simp [xSeen, if_pos h4_1t, if_pos h18_2t, ↓reduceIte]; done)) rfl dX4_seen_34
    · refine z_aload_n C 0 rfl rfl dX4_seen_21 ?_
      refine z_get C (Cn := RX4) (T := TX4) (Nf := 5) (ci := 4) in4 0 1 l21 (v := .ref (a 9)) rfl rfl (by decide) rfl dX4_seen_22 ?_
      refine z_iload_n C 1 rfl rfl dX4_seen_25 ?_
      refine z_iload_n C 2 rfl rfl dX4_seen_26 ?_
      refine z_rVI C (c_X0_valueFor E (fun i => a (i + 9)) (xD X) t k) gX4_seen_X0_valueFor (ci := 0) (q0 := 0) rfl rfl hyX0_valueFor rfl ⟨rfl, rfl⟩ ⟨by decide, by decide⟩ ⟨by decide, by decide⟩ [9, 10, 11, 12] rfl (by decide) (st := []) (Nat.le_of_ble_eq_true rfl) dX4_seen_27 ?_ rfl
      refine z_goto C (tgt := 34) dX4_seen_30 (by decide) ?_
      exact ret _ _ _ _ (by first | rfl | (simp only [xSeen, if_pos h4_1t, if_neg h18_2f, ↓reduceIte]; done) | (simp only [xSeen, if_pos h4_1t, if_neg h18_2f, ↓reduceIte]; rfl) | (simp [xSeen, if_pos h4_1t, if_neg h18_2f, ↓reduceIte]; done)) rfl dX4_seen_34
  · refine z_bipush C (v := (-3)) (by decide) dX4_seen_7 ?_
    exact ret _ _ _ _ (by first | rfl | (simp only [xSeen, if_neg h4_1f, ↓reduceIte]; done) | (simp only [xSeen, if_neg h4_1f, ↓reduceIte]; rfl) | (simp [xSeen, if_neg h4_1f, ↓reduceIte]; done)) rfl dX4_seen_9
abbrev rmX4_sync : Room := { frames := 4, cells := 0, slots := 0, locals := 96 }
theorem hyX4_sync : yX4_sync.cls = RX4 ∧ yX4_sync.cls ≠ "java/lang/invoke/MethodHandle" ∧ yX4_sync.cls ≠ "java/lang/invoke/VarHandle" ∧ (parseMethodDescriptor yX4_sync.desc).map (fun d => d.parameters.length) = some 0 := by decide +kernel
set_option maxHeartbeats 4000000 in
set_option maxRecDepth 3000 in
theorem c_X4_sync (E : GE) (N : Nat) (hN : 16 ≤ N ∧ N ≤ 64) (a : Nat → Nat) (X : XS) (e : Nat) (he : jEn (xJ X) = nI e) (he3 : e ≤ 3) (w : Nat) (hw : xDn X = 0 → ¬ jRoom N (xJ X) (jDue (xJ X)) = 0 → jWa (jWL N (xJ X) e) = nI w ∧ w ≤ 64) : zI E yX4_sync wsX4_sync rmX4_sync [.ref (a 0)] (wX E a N X) ((xSync N X e w).1) (wX E a N ((xSync N X e w).2)) := by
  refine zI_of (cc := cX4_sync) (maxL := 1) (ty := .int) (by decide) rfl (vp_nar_int _) (Nat.le_of_ble_eq_true rfl) ?_
  intro K C ret
  replace C : zC E K cX4_sync wsX4_sync RX4 rmX4_sync 1 := C
  have in4 : ∀ w ∈ wsX40, w ∈ wsX4_sync := fun w h => List.mem_cons_of_mem _ (List.mem_append_left _ (List.mem_append_left _ (List.mem_append_right _ (h))))
  have l12 : zw K (.fieldLink RX4 12 "StoreLog3" "journal" "LStoreLog3$Journal;") := C.w (List.mem_cons_of_mem _ (List.mem_append_left _ (List.mem_append_left _ (List.mem_append_left _ (List.mem_append_left _ (List.mem_of_getElem? (i := 1) rfl))))))
  have l32 : zw K (.fieldLink RX4 32 "StoreLog3" "down" "Z") := C.w (List.mem_cons_of_mem _ (List.mem_append_left _ (List.mem_append_left _ (List.mem_append_left _ (List.mem_append_left _ (List.mem_of_getElem? (i := 0) rfl))))))
  show Z E K 0 0 (wX E a N X) 0 [(0, .ref (a 0))] []
  refine z_aload_n C 0 rfl rfl dX4_sync_0 ?_
  refine z_get C (Cn := RX4) (T := TX4) (Nf := 5) (ci := 4) in4 0 3 l32 (v := .int (xDn X)) rfl rfl (by decide) rfl dX4_sync_1 ?_
  refine z_if_eq C (tgt := 10) dX4_sync_4 (by decide) (fun h4_1t => ?_) (fun h4_1f => ?_)
  · refine z_aload_n C 0 rfl rfl dX4_sync_10 ?_
    refine z_get C (Cn := RX4) (T := TX4) (Nf := 5) (ci := 4) in4 0 0 l12 (v := .ref (a 1)) rfl rfl (by decide) rfl dX4_sync_11 ?_
    refine z_aload_n C 0 rfl rfl dX4_sync_14 ?_
    refine z_get C (Cn := RX4) (T := TX4) (Nf := 5) (ci := 4) in4 0 0 l12 (v := .ref (a 1)) rfl rfl (by decide) rfl dX4_sync_15 ?_
    refine z_rVI C (c_X2_logsDue E N hN (fun i => a (i + 1)) (xJ X)) gX4_sync_X2_logsDue (ci := 2) (q0 := 0) rfl rfl hyX2_logsDue rfl ⟨rfl, rfl⟩ ⟨by decide, by decide⟩ ⟨by decide, by decide⟩ [1, 2, 3, 4, 5, 6, 7, 8] rfl (by decide) (st := [.ref (a 1)]) (Nat.le_of_ble_eq_true rfl) dX4_sync_18 ?_ rfl
    refine z_rVI C (c_X2_hasRoom E N hN (fun i => a (i + 1)) (xJ X) (jDue (xJ X))) gX4_sync_X2_hasRoom (ci := 2) (q0 := 0) rfl rfl hyX2_hasRoom rfl ⟨rfl, rfl⟩ ⟨by decide, by decide⟩ ⟨by decide, by decide⟩ [1, 2, 3, 4, 5, 6, 7, 8] rfl (by decide) (st := []) (Nat.le_of_ble_eq_true rfl) dX4_sync_21 ?_ rfl
    refine z_if_ne C (tgt := 30) dX4_sync_24 (by decide) (fun h24_2t => ?_) (fun h24_2f => ?_)
    · refine z_aload_n C 0 rfl rfl dX4_sync_30 ?_
      refine z_get C (Cn := RX4) (T := TX4) (Nf := 5) (ci := 4) in4 0 0 l12 (v := .ref (a 1)) rfl rfl (by decide) rfl dX4_sync_31 ?_
      have ct1 := c_X2_writeLog E N hN (fun i => a (i + 1)) (xJ X) e he (by omega)
      obtain ⟨Jq2, hq34_2⟩ : ∃ z : JS, (jWL N (xJ X) e) = z := ⟨_, rfl⟩
      rw [hq34_2] at ct1
      refine z_callVV C ct1 gX4_sync_X2_writeLog (ci := 2) (q0 := 0) rfl rfl hyX2_writeLog rfl ⟨rfl, rfl⟩ ⟨by decide, by decide⟩ ⟨by decide, by decide⟩ [1, 2, 3, 4, 5, 6, 7, 8] [0, 9, 10, 11, 12, 13, 14] [0, 7, 8, 9, 10, 11, 12, 13, 14, 1, 2, 3, 4, 5, 6] (wr := [((a 0), .inr (4, [.ref (a 1), .ref (a 9), .ref (a 13), .int (xDn X), .int (xCm X)])), ((a 9), .inr (0, [.ref (a 10), .ref (a 11), .ref (a 12), .int (dOp (xD X))])), ((a 10), .inl (gI E, 32, .inl (dCo (xD X)))), ((a 11), .inl (gI E, 32, .inl (dCh (xD X)))), ((a 12), .inl (gI E, 32, .inl (dHo (xD X)))), ((a 13), .inr (1, [.ref (a 14), .int (fFp (xF X)), .int (fPg (xF X)), .int (fRe (xF X))])), ((a 14), .inl (gZ E, 64, .inl (fTe (xF X))))]) (V' := (wX E a N (xsJ X Jq2))) rfl rfl (by decide) (by decide) (by decide) rfl (by decide) (st := []) (Nat.le_of_ble_eq_true rfl) dX4_sync_34 ?_ rfl
      refine z_aload_n C 0 rfl rfl dX4_sync_37 ?_
      refine z_get C (Cn := RX4) (T := TX4) (Nf := 5) (ci := 4) in4 0 0 l12 (v := .ref (a 1)) rfl rfl (by decide) rfl dX4_sync_38 ?_
      have ct3 := c_X2_putAllOnDisk E N hN (fun i => a (i + 1)) Jq2 w (by rw [← hq34_2]; exact (hw h4_1t h24_2t).1) ((hw h4_1t h24_2t).2)
      obtain ⟨Jq4, hq41_4⟩ : ∃ z : JS, (jAll N Jq2 w) = z := ⟨_, rfl⟩
      rw [hq41_4] at ct3
      refine z_callVI C ct3 gX4_sync_X2_putAllOnDisk (ci := 2) (q0 := 0) rfl rfl hyX2_putAllOnDisk rfl ⟨rfl, rfl⟩ ⟨by decide, by decide⟩ ⟨by decide, by decide⟩ [1, 2, 3, 4, 5, 6, 7, 8] [0, 9, 10, 11, 12, 13, 14] [0, 7, 8, 9, 10, 11, 12, 13, 14, 1, 2, 3, 4, 5, 6] (wr := [((a 0), .inr (4, [.ref (a 1), .ref (a 9), .ref (a 13), .int (xDn X), .int (xCm X)])), ((a 9), .inr (0, [.ref (a 10), .ref (a 11), .ref (a 12), .int (dOp (xD X))])), ((a 10), .inl (gI E, 32, .inl (dCo (xD X)))), ((a 11), .inl (gI E, 32, .inl (dCh (xD X)))), ((a 12), .inl (gI E, 32, .inl (dHo (xD X)))), ((a 13), .inr (1, [.ref (a 14), .int (fFp (xF X)), .int (fPg (xF X)), .int (fRe (xF X))])), ((a 14), .inl (gZ E, 64, .inl (fTe (xF X))))]) (V' := (wX E a N (xsJ X Jq4))) rfl rfl (by decide) (by decide) (by decide) rfl (by decide) (st := []) (Nat.le_of_ble_eq_true rfl) dX4_sync_41 ?_ rfl
      exact ret _ _ _ _ (by first | rfl | (simp only [xSync, if_pos h4_1t, if_neg h24_2t, hq34_2, hq41_4, ↓reduceIte]; done) | (simp only [xSync, if_pos h4_1t, if_neg h24_2t, hq34_2, hq41_4, ↓reduceIte]; rfl) | (simp [xSync, if_pos h4_1t, if_neg h24_2t, hq34_2, hq41_4, ↓reduceIte]; done)) (by first | rfl | (simp only [xSync, if_pos h4_1t, if_neg h24_2t, hq34_2, hq41_4, ↓reduceIte]; done) | (simp only [xSync, if_pos h4_1t, if_neg h24_2t, hq34_2, hq41_4, ↓reduceIte]; rfl) | (simp [xSync, if_pos h4_1t, if_neg h24_2t, hq34_2, hq41_4, ↓reduceIte]; done)) dX4_sync_44
    · refine z_bipush C (v := (-2)) (by decide) dX4_sync_27 ?_
      exact ret _ _ _ _ (by first | rfl | (simp only [xSync, if_pos h4_1t, if_pos h24_2f, ↓reduceIte]; done) | (simp only [xSync, if_pos h4_1t, if_pos h24_2f, ↓reduceIte]; rfl) | (simp [xSync, if_pos h4_1t, if_pos h24_2f, ↓reduceIte]; done)) (by first | rfl | (simp only [xSync, if_pos h4_1t, if_pos h24_2f, ↓reduceIte]; done) | (simp only [xSync, if_pos h4_1t, if_pos h24_2f, ↓reduceIte]; rfl) | (simp [xSync, if_pos h4_1t, if_pos h24_2f, ↓reduceIte]; done)) dX4_sync_29
  · refine z_bipush C (v := (-3)) (by decide) dX4_sync_7 ?_
    exact ret _ _ _ _ (by first | rfl | (simp only [xSync, if_neg h4_1f, ↓reduceIte]; done) | (simp only [xSync, if_neg h4_1f, ↓reduceIte]; rfl) | (simp [xSync, if_neg h4_1f, ↓reduceIte]; done)) (by first | rfl | (simp only [xSync, if_neg h4_1f, ↓reduceIte]; done) | (simp only [xSync, if_neg h4_1f, ↓reduceIte]; rfl) | (simp [xSync, if_neg h4_1f, ↓reduceIte]; done)) dX4_sync_9
abbrev rmX4_checkpoint : Room := { frames := 5, cells := 0, slots := 0, locals := 123 }
theorem hyX4_checkpoint : yX4_checkpoint.cls = RX4 ∧ yX4_checkpoint.cls ≠ "java/lang/invoke/MethodHandle" ∧ yX4_checkpoint.cls ≠ "java/lang/invoke/VarHandle" ∧ (parseMethodDescriptor yX4_checkpoint.desc).map (fun d => d.parameters.length) = some 0 := by decide +kernel
set_option maxHeartbeats 4000000 in
set_option maxRecDepth 3000 in
theorem c_X4_checkpoint (E : GE) (N : Nat) (hN : 16 ≤ N ∧ N ≤ 64) (a : Nat → Nat) (X : XS) (e : Nat) (he : jEn (xJ X) = nI e) (he3 : e ≤ 3) (P : Nat) (hP : (pgF (xD X) 32).2 = nI P) (hP2 : P ≤ 64) : zI E yX4_checkpoint wsX4_checkpoint rmX4_checkpoint [.ref (a 0)] (wX E a N X) ((xChk N X e P).1) (wX E a N ((xChk N X e P).2)) := by
  refine zI_of (cc := cX4_checkpoint) (maxL := 2) (ty := .int) (by decide) rfl (vp_nar_int _) (Nat.le_of_ble_eq_true rfl) ?_
  intro K C ret
  replace C : zC E K cX4_checkpoint wsX4_checkpoint RX4 rmX4_checkpoint 2 := C
  have in4 : ∀ w ∈ wsX40, w ∈ wsX4_checkpoint := fun w h => List.mem_cons_of_mem _ (List.mem_append_left _ (List.mem_append_left _ (List.mem_append_left _ (List.mem_append_right _ (h)))))
  have l12 : zw K (.fieldLink RX4 12 "StoreLog3" "journal" "LStoreLog3$Journal;") := C.w (List.mem_cons_of_mem _ (List.mem_append_left _ (List.mem_append_left _ (List.mem_append_left _ (List.mem_append_left _ (List.mem_append_left _ (List.mem_of_getElem? (i := 2) rfl)))))))
  have l21 : zw K (.fieldLink RX4 21 "StoreLog3" "dictionary" "LStoreLog3$Dictionary;") := C.w (List.mem_cons_of_mem _ (List.mem_append_left _ (List.mem_append_left _ (List.mem_append_left _ (List.mem_append_left _ (List.mem_append_left _ (List.mem_of_getElem? (i := 1) rfl)))))))
  have l32 : zw K (.fieldLink RX4 32 "StoreLog3" "down" "Z") := C.w (List.mem_cons_of_mem _ (List.mem_append_left _ (List.mem_append_left _ (List.mem_append_left _ (List.mem_append_left _ (List.mem_append_left _ (List.mem_of_getElem? (i := 0) rfl)))))))
  show Z E K 0 0 (wX E a N X) 0 [(0, .ref (a 0))] []
  refine z_aload_n C 0 rfl rfl dX4_checkpoint_0 ?_
  refine z_get C (Cn := RX4) (T := TX4) (Nf := 5) (ci := 4) in4 0 3 l32 (v := .int (xDn X)) rfl rfl (by decide) rfl dX4_checkpoint_1 ?_
  refine z_if_eq C (tgt := 10) dX4_checkpoint_4 (by decide) (fun h4_1t => ?_) (fun h4_1f => ?_)
  · refine z_aload_n C 0 rfl rfl dX4_checkpoint_10 ?_
    refine z_get C (Cn := RX4) (T := TX4) (Nf := 5) (ci := 4) in4 0 1 l21 (v := .ref (a 9)) rfl rfl (by decide) rfl dX4_checkpoint_11 ?_
    refine z_rVI C (c_X0_openBits E (fun i => a (i + 9)) (xD X)) gX4_checkpoint_X0_openBits (ci := 0) (q0 := 0) rfl rfl hyX0_openBits rfl ⟨rfl, rfl⟩ ⟨by decide, by decide⟩ ⟨by decide, by decide⟩ [9, 10, 11, 12] rfl (by decide) (st := []) (Nat.le_of_ble_eq_true rfl) dX4_checkpoint_14 ?_ rfl
    refine z_if_eq C (tgt := 22) dX4_checkpoint_17 (by decide) (fun h17_2t => ?_) (fun h17_2f => ?_)
    · refine z_aload_n C 0 rfl rfl dX4_checkpoint_22 ?_
      refine z_get C (Cn := RX4) (T := TX4) (Nf := 5) (ci := 4) in4 0 1 l21 (v := .ref (a 9)) rfl rfl (by decide) rfl dX4_checkpoint_23 ?_
      refine z_rVI C (c_X0_pagesDue E (fun i => a (i + 9)) (xD X)) gX4_checkpoint_X0_pagesDue (ci := 0) (q0 := 0) rfl rfl hyX0_pagesDue rfl ⟨rfl, rfl⟩ ⟨by decide, by decide⟩ ⟨by decide, by decide⟩ [9, 10, 11, 12] rfl (by decide) (st := []) (Nat.le_of_ble_eq_true rfl) dX4_checkpoint_26 ?_ rfl
      refine z_top (y := (nI P)) hP ?_
      refine z_istore_n C (lv' := [(1, .int (nI P)), (0, .ref (a 0))]) rfl rfl (by decide) dX4_checkpoint_29 ?_
      refine z_aload_n C 1 rfl rfl dX4_checkpoint_30 ?_
      refine z_get C (Cn := RX4) (T := TX4) (Nf := 5) (ci := 4) in4 0 0 l12 (v := .ref (a 1)) rfl rfl (by decide) rfl dX4_checkpoint_31 ?_
      refine z_aload_n C 1 rfl rfl dX4_checkpoint_34 ?_
      refine z_get C (Cn := RX4) (T := TX4) (Nf := 5) (ci := 4) in4 0 0 l12 (v := .ref (a 1)) rfl rfl (by decide) rfl dX4_checkpoint_35 ?_
      refine z_rVI C (c_X2_logsDue E N hN (fun i => a (i + 1)) (xJ X)) gX4_checkpoint_X2_logsDue (ci := 2) (q0 := 0) rfl rfl hyX2_logsDue rfl ⟨rfl, rfl⟩ ⟨by decide, by decide⟩ ⟨by decide, by decide⟩ [1, 2, 3, 4, 5, 6, 7, 8] rfl (by decide) (st := [.ref (a 1)]) (Nat.le_of_ble_eq_true rfl) dX4_checkpoint_38 ?_ rfl
      refine z_iload_n C 0 rfl rfl dX4_checkpoint_41 ?_
      refine z_iadd C dX4_checkpoint_42 ?_
      refine z_rVI C (c_X2_hasRoom E N hN (fun i => a (i + 1)) (xJ X) ((jDue (xJ X)) + (nI P))) gX4_checkpoint_X2_hasRoom (ci := 2) (q0 := 0) rfl rfl hyX2_hasRoom rfl ⟨rfl, rfl⟩ ⟨by decide, by decide⟩ ⟨by decide, by decide⟩ [1, 2, 3, 4, 5, 6, 7, 8] rfl (by decide) (st := []) (Nat.le_of_ble_eq_true rfl) dX4_checkpoint_43 ?_ rfl
      refine z_if_ne C (tgt := 52) dX4_checkpoint_46 (by decide) (fun h46_3t => ?_) (fun h46_3f => ?_)
      · refine z_aload_n C 1 rfl rfl dX4_checkpoint_52 ?_
        refine z_get C (Cn := RX4) (T := TX4) (Nf := 5) (ci := 4) in4 0 0 l12 (v := .ref (a 1)) rfl rfl (by decide) rfl dX4_checkpoint_53 ?_
        have ct1 := c_X2_writeLog E N hN (fun i => a (i + 1)) (xJ X) e he (by omega)
        obtain ⟨Jq2, hq56_2⟩ : ∃ z : JS, (jWL N (xJ X) e) = z := ⟨_, rfl⟩
        rw [hq56_2] at ct1
        refine z_callVV C ct1 gX4_checkpoint_X2_writeLog (ci := 2) (q0 := 0) rfl rfl hyX2_writeLog rfl ⟨rfl, rfl⟩ ⟨by decide, by decide⟩ ⟨by decide, by decide⟩ [1, 2, 3, 4, 5, 6, 7, 8] [0, 9, 10, 11, 12, 13, 14] [0, 7, 8, 9, 10, 11, 12, 13, 14, 1, 2, 3, 4, 5, 6] (wr := [((a 0), .inr (4, [.ref (a 1), .ref (a 9), .ref (a 13), .int (xDn X), .int (xCm X)])), ((a 9), .inr (0, [.ref (a 10), .ref (a 11), .ref (a 12), .int (dOp (xD X))])), ((a 10), .inl (gI E, 32, .inl (dCo (xD X)))), ((a 11), .inl (gI E, 32, .inl (dCh (xD X)))), ((a 12), .inl (gI E, 32, .inl (dHo (xD X)))), ((a 13), .inr (1, [.ref (a 14), .int (fFp (xF X)), .int (fPg (xF X)), .int (fRe (xF X))])), ((a 14), .inl (gZ E, 64, .inl (fTe (xF X))))]) (V' := (wX E a N (xsJ X Jq2))) rfl rfl (by decide) (by decide) (by decide) rfl (by decide) (st := []) (Nat.le_of_ble_eq_true rfl) dX4_checkpoint_56 ?_ rfl
        refine z_aload_n C 1 rfl rfl dX4_checkpoint_59 ?_
        refine z_get C (Cn := RX4) (T := TX4) (Nf := 5) (ci := 4) in4 0 0 l12 (v := .ref (a 1)) rfl rfl (by decide) rfl dX4_checkpoint_60 ?_
        refine z_aload_n C 1 rfl rfl dX4_checkpoint_63 ?_
        refine z_get C (Cn := RX4) (T := TX4) (Nf := 5) (ci := 4) in4 0 1 l21 (v := .ref (a 9)) rfl rfl (by decide) rfl dX4_checkpoint_64 ?_
        refine z_iload_n C 0 rfl rfl dX4_checkpoint_67 ?_
        have ct3 := c_X2_writePages E N hN (fun i => a (i + 1)) Jq2 (fun i => a (i + 9)) (xD X) P hP2
        obtain ⟨Jq4, hq68_4⟩ : ∃ z : JS, (jWPg N Jq2 (xD X) P) = z := ⟨_, rfl⟩
        rw [hq68_4] at ct3
        refine z_callVV C ct3 gX4_checkpoint_X2_writePages (ci := 2) (q0 := 0) rfl rfl hyX2_writePages rfl ⟨rfl, rfl⟩ ⟨by decide, by decide⟩ ⟨by decide, by decide⟩ [1, 2, 3, 4, 5, 6, 7, 8, 9, 10, 11, 12] [0, 13, 14] [0, 3, 4, 5, 6, 7, 8, 9, 10, 11, 12, 13, 14, 1, 2] (wr := [((a 0), .inr (4, [.ref (a 1), .ref (a 9), .ref (a 13), .int (xDn X), .int (xCm X)])), ((a 13), .inr (1, [.ref (a 14), .int (fFp (xF X)), .int (fPg (xF X)), .int (fRe (xF X))])), ((a 14), .inl (gZ E, 64, .inl (fTe (xF X))))]) (V' := (wX E a N (xsJ X Jq4))) rfl rfl (by decide) (by decide) (by decide) rfl (by decide) (st := []) (Nat.le_of_ble_eq_true rfl) dX4_checkpoint_68 ?_ rfl
        refine z_iload_n C 0 rfl rfl dX4_checkpoint_71 ?_
        exact ret _ _ _ _ (by first | rfl | (simp only [xChk, if_pos h4_1t, if_pos h17_2t, if_neg h46_3t, hq56_2, hq68_4, ↓reduceIte]; done) | (simp only [xChk, if_pos h4_1t, if_pos h17_2t, if_neg h46_3t, hq56_2, hq68_4, ↓reduceIte]; rfl) | (simp [xChk, if_pos h4_1t, if_pos h17_2t, if_neg h46_3t, hq56_2, hq68_4, ↓reduceIte]; done)) (by first | rfl | (simp only [xChk, if_pos h4_1t, if_pos h17_2t, if_neg h46_3t, hq56_2, hq68_4, ↓reduceIte]; done) | (simp only [xChk, if_pos h4_1t, if_pos h17_2t, if_neg h46_3t, hq56_2, hq68_4, ↓reduceIte]; rfl) | (simp [xChk, if_pos h4_1t, if_pos h17_2t, if_neg h46_3t, hq56_2, hq68_4, ↓reduceIte]; done)) dX4_checkpoint_72
      · refine z_bipush C (v := (-2)) (by decide) dX4_checkpoint_49 ?_
        exact ret _ _ _ _ (by first | rfl | (simp only [xChk, if_pos h4_1t, if_pos h17_2t, if_pos h46_3f, ↓reduceIte]; done) | (simp only [xChk, if_pos h4_1t, if_pos h17_2t, if_pos h46_3f, ↓reduceIte]; rfl) | (simp [xChk, if_pos h4_1t, if_pos h17_2t, if_pos h46_3f, ↓reduceIte]; done)) (by first | rfl | (simp only [xChk, if_pos h4_1t, if_pos h17_2t, if_pos h46_3f, ↓reduceIte]; done) | (simp only [xChk, if_pos h4_1t, if_pos h17_2t, if_pos h46_3f, ↓reduceIte]; rfl) | (simp [xChk, if_pos h4_1t, if_pos h17_2t, if_pos h46_3f, ↓reduceIte]; done)) dX4_checkpoint_51
    · refine z_iconst C (v := (-1)) (by decide) dX4_checkpoint_20 ?_
      exact ret _ _ _ _ (by first | rfl | (simp only [xChk, if_pos h4_1t, if_neg h17_2f, ↓reduceIte]; done) | (simp only [xChk, if_pos h4_1t, if_neg h17_2f, ↓reduceIte]; rfl) | (simp [xChk, if_pos h4_1t, if_neg h17_2f, ↓reduceIte]; done)) (by first | rfl | (simp only [xChk, if_pos h4_1t, if_neg h17_2f, ↓reduceIte]; done) | (simp only [xChk, if_pos h4_1t, if_neg h17_2f, ↓reduceIte]; rfl) | (simp [xChk, if_pos h4_1t, if_neg h17_2f, ↓reduceIte]; done)) dX4_checkpoint_21
  · refine z_bipush C (v := (-3)) (by decide) dX4_checkpoint_7 ?_
    exact ret _ _ _ _ (by first | rfl | (simp only [xChk, if_neg h4_1f, ↓reduceIte]; done) | (simp only [xChk, if_neg h4_1f, ↓reduceIte]; rfl) | (simp [xChk, if_neg h4_1f, ↓reduceIte]; done)) (by first | rfl | (simp only [xChk, if_neg h4_1f, ↓reduceIte]; done) | (simp only [xChk, if_neg h4_1f, ↓reduceIte]; rfl) | (simp [xChk, if_neg h4_1f, ↓reduceIte]; done)) dX4_checkpoint_9
abbrev rmX4_cut : Room := { frames := 4, cells := 0, slots := 0, locals := 93 }
theorem hyX4_cut : yX4_cut.cls = RX4 ∧ yX4_cut.cls ≠ "java/lang/invoke/MethodHandle" ∧ yX4_cut.cls ≠ "java/lang/invoke/VarHandle" ∧ (parseMethodDescriptor yX4_cut.desc).map (fun d => d.parameters.length) = some 2 := by decide +kernel
set_option maxHeartbeats 4000000 in
set_option maxRecDepth 3000 in
theorem c_X4_cut (E : GE) (N : Nat) (hN : 16 ≤ N ∧ N ≤ 64) (a : Nat → Nat) (X : XS) (u v : Int32) (w : Nat) (hw : jWa (xJ X) = nI w) (hw2 : w ≤ 64) : zI E yX4_cut wsX4_cut rmX4_cut [.ref (a 0), .int u, .int v] (wX E a N X) ((xCut N X u v w).1) (wX E a N ((xCut N X u v w).2)) := by
  refine zI_of (cc := cX4_cut) (maxL := 4) (ty := .int) (by decide) rfl (vp_nar_int _) (Nat.le_of_ble_eq_true rfl) ?_
  intro K C ret
  replace C : zC E K cX4_cut wsX4_cut RX4 rmX4_cut 4 := C
  have in4 : ∀ w ∈ wsX40, w ∈ wsX4_cut := fun w h => List.mem_cons_of_mem _ (List.mem_append_left _ (List.mem_append_left _ (List.mem_append_left _ (List.mem_append_right _ (h)))))
  have l12 : zw K (.fieldLink RX4 12 "StoreLog3" "journal" "LStoreLog3$Journal;") := C.w (List.mem_cons_of_mem _ (List.mem_append_left _ (List.mem_append_left _ (List.mem_append_left _ (List.mem_append_left _ (List.mem_append_left _ (List.mem_of_getElem? (i := 1) rfl)))))))
  have l21 : zw K (.fieldLink RX4 21 "StoreLog3" "dictionary" "LStoreLog3$Dictionary;") := C.w (List.mem_cons_of_mem _ (List.mem_append_left _ (List.mem_append_left _ (List.mem_append_left _ (List.mem_append_left _ (List.mem_append_left _ (List.mem_of_getElem? (i := 2) rfl)))))))
  have l32 : zw K (.fieldLink RX4 32 "StoreLog3" "down" "Z") := C.w (List.mem_cons_of_mem _ (List.mem_append_left _ (List.mem_append_left _ (List.mem_append_left _ (List.mem_append_left _ (List.mem_append_left _ (List.mem_of_getElem? (i := 0) rfl)))))))
  show Z E K 0 0 (wX E a N X) 0 [(0, .ref (a 0)), (1, .int u), (2, .int v)] []
  refine z_aload_n C 0 rfl rfl dX4_cut_0 ?_
  refine z_get C (Cn := RX4) (T := TX4) (Nf := 5) (ci := 4) in4 0 3 l32 (v := .int (xDn X)) rfl rfl (by decide) rfl dX4_cut_1 ?_
  refine z_if_eq C (tgt := 10) dX4_cut_4 (by decide) (fun h4_1t => ?_) (fun h4_1f => ?_)
  · refine z_aload_n C 0 rfl rfl dX4_cut_10 ?_
    refine z_get C (Cn := RX4) (T := TX4) (Nf := 5) (ci := 4) in4 0 0 l12 (v := .ref (a 1)) rfl rfl (by decide) rfl dX4_cut_11 ?_
    refine z_rVI C (c_X2_waiting E N hN (fun i => a (i + 1)) (xJ X)) gX4_cut_X2_waiting (ci := 2) (q0 := 0) rfl rfl hyX2_waiting rfl ⟨rfl, rfl⟩ ⟨by decide, by decide⟩ ⟨by decide, by decide⟩ [1, 2, 3, 4, 5, 6, 7, 8] rfl (by decide) (st := []) (Nat.le_of_ble_eq_true rfl) dX4_cut_14 ?_ rfl
    refine z_top (y := (nI w)) hw ?_
    refine z_istore_n C (lv' := [(3, .int (nI w)), (0, .ref (a 0)), (1, .int u), (2, .int v)]) rfl rfl (by decide) dX4_cut_17 ?_
    refine z_iload_n C 2 rfl rfl dX4_cut_18 ?_
    refine z_if_lt C (tgt := 37) dX4_cut_19 (by decide) (fun h19_2t => ?_) (fun h19_2f => ?_)
    · refine z_iconst C (v := (-1)) (by decide) dX4_cut_37 ?_
      exact ret _ _ _ _ (by first | rfl | (simp only [xCut, if_pos h4_1t, if_pos h19_2t, ↓reduceIte]; done) | (simp only [xCut, if_pos h4_1t, if_pos h19_2t, ↓reduceIte]; rfl) | (simp [xCut, if_pos h4_1t, if_pos h19_2t, ↓reduceIte]; done)) (by first | rfl | (simp only [xCut, if_pos h4_1t, if_pos h19_2t, ↓reduceIte]; done) | (simp only [xCut, if_pos h4_1t, if_pos h19_2t, ↓reduceIte]; rfl) | (simp [xCut, if_pos h4_1t, if_pos h19_2t, ↓reduceIte]; done)) dX4_cut_38
    · refine z_iload_n C 2 rfl rfl dX4_cut_22 ?_
      refine z_iload_n C 0 rfl rfl dX4_cut_23 ?_
      refine z_icmp_gt C (tgt := 37) dX4_cut_24 (by decide) (fun h24_3t => ?_) (fun h24_3f => ?_)
      · refine z_iconst C (v := (-1)) (by decide) dX4_cut_37 ?_
        exact ret _ _ _ _ (by first | rfl | (simp only [xCut, if_pos h4_1t, if_neg h19_2f, if_pos h24_3t, ↓reduceIte]; done) | (simp only [xCut, if_pos h4_1t, if_neg h19_2f, if_pos h24_3t, ↓reduceIte]; rfl) | (simp [xCut, if_pos h4_1t, if_neg h19_2f, if_pos h24_3t, ↓reduceIte]; done)) (by first | rfl | (simp only [xCut, if_pos h4_1t, if_neg h19_2f, if_pos h24_3t, ↓reduceIte]; done) | (simp only [xCut, if_pos h4_1t, if_neg h19_2f, if_pos h24_3t, ↓reduceIte]; rfl) | (simp [xCut, if_pos h4_1t, if_neg h19_2f, if_pos h24_3t, ↓reduceIte]; done)) dX4_cut_38
      · refine z_iload_n C 3 rfl rfl dX4_cut_27 ?_
        refine z_if_lt C (tgt := 37) dX4_cut_28 (by decide) (fun h28_4t => ?_) (fun h28_4f => ?_)
        · refine z_iconst C (v := (-1)) (by decide) dX4_cut_37 ?_
          exact ret _ _ _ _ (by first | rfl | (simp only [xCut, if_pos h4_1t, if_neg h19_2f, if_neg h24_3f, if_pos h28_4t, ↓reduceIte]; done) | (simp only [xCut, if_pos h4_1t, if_neg h19_2f, if_neg h24_3f, if_pos h28_4t, ↓reduceIte]; rfl) | (simp [xCut, if_pos h4_1t, if_neg h19_2f, if_neg h24_3f, if_pos h28_4t, ↓reduceIte]; done)) (by first | rfl | (simp only [xCut, if_pos h4_1t, if_neg h19_2f, if_neg h24_3f, if_pos h28_4t, ↓reduceIte]; done) | (simp only [xCut, if_pos h4_1t, if_neg h19_2f, if_neg h24_3f, if_pos h28_4t, ↓reduceIte]; rfl) | (simp [xCut, if_pos h4_1t, if_neg h19_2f, if_neg h24_3f, if_pos h28_4t, ↓reduceIte]; done)) dX4_cut_38
        · refine z_iload_n C 3 rfl rfl dX4_cut_31 ?_
          refine z_bipush C (v := 32) (by decide) dX4_cut_32 ?_
          refine z_icmp_le C (tgt := 39) dX4_cut_34 (by decide) (fun h34_5t => ?_) (fun h34_5f => ?_)
          · obtain ⟨kp, hkp, rfl⟩ := zcutN hw2 h19_2f h24_3f
            obtain ⟨tr, htr, rfl⟩ := ztear h28_4f h34_5t
            refine z_aload_n C 1 rfl rfl dX4_cut_39 ?_
            refine z_get C (Cn := RX4) (T := TX4) (Nf := 5) (ci := 4) in4 0 0 l12 (v := .ref (a 1)) rfl rfl (by decide) rfl dX4_cut_40 ?_
            refine z_iload_n C 2 rfl rfl dX4_cut_43 ?_
            refine z_iload_n C 3 rfl rfl dX4_cut_44 ?_
            have ct1 := c_X2_loseMemory E N hN (fun i => a (i + 1)) (xJ X) kp tr w hw (by omega) htr
            obtain ⟨Jq2, hq45_2⟩ : ∃ z : JS, (jLose N (xJ X) kp tr w) = z := ⟨_, rfl⟩
            rw [hq45_2] at ct1
            refine z_callVV C ct1 gX4_cut_X2_loseMemory (ci := 2) (q0 := 0) rfl rfl hyX2_loseMemory rfl ⟨rfl, rfl⟩ ⟨by decide, by decide⟩ ⟨by decide, by decide⟩ [1, 2, 3, 4, 5, 6, 7, 8] [0, 9, 10, 11, 12, 13, 14] [0, 7, 8, 9, 10, 11, 12, 13, 14, 1, 2, 3, 4, 5, 6] (wr := [((a 0), .inr (4, [.ref (a 1), .ref (a 9), .ref (a 13), .int (xDn X), .int (xCm X)])), ((a 9), .inr (0, [.ref (a 10), .ref (a 11), .ref (a 12), .int (dOp (xD X))])), ((a 10), .inl (gI E, 32, .inl (dCo (xD X)))), ((a 11), .inl (gI E, 32, .inl (dCh (xD X)))), ((a 12), .inl (gI E, 32, .inl (dHo (xD X)))), ((a 13), .inr (1, [.ref (a 14), .int (fFp (xF X)), .int (fPg (xF X)), .int (fRe (xF X))])), ((a 14), .inl (gZ E, 64, .inl (fTe (xF X))))]) (V' := (wX E a N (xsJ X Jq2))) rfl rfl (by decide) (by decide) (by decide) rfl (by decide) (st := []) (Nat.le_of_ble_eq_true rfl) dX4_cut_45 ?_ rfl
            refine z_aload_n C 1 rfl rfl dX4_cut_48 ?_
            refine z_get C (Cn := RX4) (T := TX4) (Nf := 5) (ci := 4) in4 0 1 l21 (v := .ref (a 9)) rfl rfl (by decide) rfl dX4_cut_49 ?_
            have ct3 := c_X0_clear E (fun i => a (i + 9)) (xD X)
            obtain ⟨Dq4, hq52_4⟩ : ∃ z : DS, (dClear (xD X)) = z := ⟨_, rfl⟩
            rw [hq52_4] at ct3
            refine z_callVV C ct3 gX4_cut_X0_clear (ci := 0) (q0 := 0) rfl rfl hyX0_clear rfl ⟨rfl, rfl⟩ ⟨by decide, by decide⟩ ⟨by decide, by decide⟩ [9, 10, 11, 12] [0, 1, 2, 3, 4, 5, 6, 7, 8, 13, 14] [0, 1, 2, 3, 4, 5, 6, 7, 8, 11, 12, 13, 14, 9, 10] (wr := [((a 0), .inr (4, [.ref (a 1), .ref (a 9), .ref (a 13), .int (xDn X), .int (xCm X)])), ((a 1), .inr (2, [.ref (a 2), .ref (a 4), .ref (a 6), .ref (a 7), .ref (a 8), .int (jEn Jq2), .int (jWa Jq2), .int (jFw Jq2), .int (jSe Jq2), .int (jSc Jq2), .int (jFn Jq2), .int (jFp Jq2)])), ((a 2), .inr (3, [.int (nI N), .ref (a 3)])), ((a 3), .inl (gB E, 32 * N, .inl (jDk Jq2))), ((a 4), .inr (3, [.int (nI N), .ref (a 5)])), ((a 5), .inl (gB E, 32 * N, .inl (jMm Jq2))), ((a 6), .inl (gI E, 4, .inl (jEh Jq2))), ((a 7), .inl (gI E, 4, .inl (jEk Jq2))), ((a 8), .inl (gI E, 4, .inl (jEv Jq2))), ((a 13), .inr (1, [.ref (a 14), .int (fFp (xF X)), .int (fPg (xF X)), .int (fRe (xF X))])), ((a 14), .inl (gZ E, 64, .inl (fTe (xF X))))]) (V' := (wX E a N (xsD (xsJ X Jq2) Dq4))) rfl rfl (by decide) (by decide) (by decide) rfl (by decide) (st := []) (Nat.le_of_ble_eq_true rfl) dX4_cut_52 ?_ rfl
            refine z_aload_n C 1 rfl rfl dX4_cut_55 ?_
            refine z_iconst C (v := 1) (by decide) dX4_cut_56 ?_
            refine z_put C (Cn := RX4) (T := TX4) (Nf := 5) (ci := 4) in4 0 3 l32 rfl rfl (by decide) tyX4 tyX4_ok nmX4 rfl rfl rfl (Nat.le_of_ble_eq_true rfl) (V' := (wX E a N (xsDn (xsD (xsJ X Jq2) Dq4) 1))) rfl dX4_cut_57 ?_
            refine z_iload_n C 0 rfl rfl dX4_cut_60 ?_
            exact ret _ _ _ _ (by first | rfl | (simp only [xCut, if_pos h4_1t, if_neg h19_2f, if_neg h24_3f, if_neg h28_4f, if_pos h34_5t, hq45_2, hq52_4, ↓reduceIte]; done) | (simp only [xCut, if_pos h4_1t, if_neg h19_2f, if_neg h24_3f, if_neg h28_4f, if_pos h34_5t, hq45_2, hq52_4, ↓reduceIte]; rfl) | (simp [xCut, if_pos h4_1t, if_neg h19_2f, if_neg h24_3f, if_neg h28_4f, if_pos h34_5t, hq45_2, hq52_4, ↓reduceIte]; done)) (by simp only [xCut, if_pos h4_1t, if_neg h19_2f, if_neg h24_3f, if_neg h28_4f, if_pos h34_5t, hq45_2, hq52_4, ↓reduceIte, nI_clamp (show kp < 2 ^ 31 by omega), nI_clamp (show tr < 2 ^ 31 by omega)]) dX4_cut_61
          · refine z_iconst C (v := (-1)) (by decide) dX4_cut_37 ?_
            exact ret _ _ _ _ (by first | rfl | (simp only [xCut, if_pos h4_1t, if_neg h19_2f, if_neg h24_3f, if_neg h28_4f, if_neg h34_5f, ↓reduceIte]; done) | (simp only [xCut, if_pos h4_1t, if_neg h19_2f, if_neg h24_3f, if_neg h28_4f, if_neg h34_5f, ↓reduceIte]; rfl) | (simp [xCut, if_pos h4_1t, if_neg h19_2f, if_neg h24_3f, if_neg h28_4f, if_neg h34_5f, ↓reduceIte]; done)) (by first | rfl | (simp only [xCut, if_pos h4_1t, if_neg h19_2f, if_neg h24_3f, if_neg h28_4f, if_neg h34_5f, ↓reduceIte]; done) | (simp only [xCut, if_pos h4_1t, if_neg h19_2f, if_neg h24_3f, if_neg h28_4f, if_neg h34_5f, ↓reduceIte]; rfl) | (simp [xCut, if_pos h4_1t, if_neg h19_2f, if_neg h24_3f, if_neg h28_4f, if_neg h34_5f, ↓reduceIte]; done)) dX4_cut_38
  · refine z_bipush C (v := (-3)) (by decide) dX4_cut_7 ?_
    exact ret _ _ _ _ (by first | rfl | (simp only [xCut, if_neg h4_1f, ↓reduceIte]; done) | (simp only [xCut, if_neg h4_1f, ↓reduceIte]; rfl) | (simp [xCut, if_neg h4_1f, ↓reduceIte]; done)) (by first | rfl | (simp only [xCut, if_neg h4_1f, ↓reduceIte]; done) | (simp only [xCut, if_neg h4_1f, ↓reduceIte]; rfl) | (simp [xCut, if_neg h4_1f, ↓reduceIte]; done)) dX4_cut_9
abbrev rmX4_undoAllOpen : Room := { frames := 5, cells := 0, slots := 0, locals := 120 }
theorem hyX4_undoAllOpen : yX4_undoAllOpen.cls = RX4 ∧ yX4_undoAllOpen.cls ≠ "java/lang/invoke/MethodHandle" ∧ yX4_undoAllOpen.cls ≠ "java/lang/invoke/VarHandle" ∧ (parseMethodDescriptor yX4_undoAllOpen.desc).map (fun d => d.parameters.length) = some 0 := by decide +kernel
set_option maxHeartbeats 4000000 in
set_option maxRecDepth 3000 in
theorem c_X4_undoAllOpen (E : GE) (N : Nat) (hN : 16 ≤ N ∧ N ≤ 64) (a : Nat → Nat) (X : XS) (he : jEn (xJ X) = 0) : zI E yX4_undoAllOpen wsX4_undoAllOpen rmX4_undoAllOpen [.ref (a 0)] (wX E a N X) ((unL N 3 0 0 (0, X)).1) (wX E a N ((unL N 3 0 0 (0, X)).2)) := by
  refine zI_of (cc := cX4_undoAllOpen) (maxL := 3) (ty := .int) (by decide) rfl (vp_nar_int _) (Nat.le_of_ble_eq_true rfl) ?_
  intro K C ret
  replace C : zC E K cX4_undoAllOpen wsX4_undoAllOpen RX4 rmX4_undoAllOpen 3 := C
  have in4 : ∀ w ∈ wsX40, w ∈ wsX4_undoAllOpen := fun w h => List.mem_cons_of_mem _ (List.mem_append_left _ (List.mem_append_left _ (List.mem_append_left _ (List.mem_append_right _ (h)))))
  have l12 : zw K (.fieldLink RX4 12 "StoreLog3" "journal" "LStoreLog3$Journal;") := C.w (List.mem_cons_of_mem _ (List.mem_append_left _ (List.mem_append_left _ (List.mem_append_left _ (List.mem_append_left _ (List.mem_append_left _ (List.mem_of_getElem? (i := 1) rfl)))))))
  have l21 : zw K (.fieldLink RX4 21 "StoreLog3" "dictionary" "LStoreLog3$Dictionary;") := C.w (List.mem_cons_of_mem _ (List.mem_append_left _ (List.mem_append_left _ (List.mem_append_left _ (List.mem_append_left _ (List.mem_append_left _ (List.mem_of_getElem? (i := 0) rfl)))))))
  show Z E K 0 0 (wX E a N X) 0 [(0, .ref (a 0))] []
  refine z_iconst C (v := 0) (by decide) dX4_undoAllOpen_0 ?_
  refine z_istore_n C (lv' := [(1, .int 0), (0, .ref (a 0))]) rfl rfl (by decide) dX4_undoAllOpen_1 ?_
  refine z_iconst C (v := 0) (by decide) dX4_undoAllOpen_2 ?_
  refine z_istore_n C (lv' := [(2, .int 0), (1, .int 0), (0, .ref (a 0))]) rfl rfl (by decide) dX4_undoAllOpen_3 ?_
  have loop4 : ∀ (n j e : Nat) (u : Int32) (X1 : XS), j + n = 3 → e ≤ j → jEn (xJ X1) = nI e → unL N n j e (u, X1) = unL N 3 0 0 (0, X) → Z E K 0 0 (wX E a N X1) 4 [(0, .ref (a 0)), (1, .int u), (2, .int (nI j))] [] := by
    intro n
    induction n with
    | zero => 
      intro j e u X1 hj hej hen hT
      obtain rfl : j = 3 := by omega
      refine z_iload_n C 2 rfl rfl dX4_undoAllOpen_4 ?_
      refine z_iconst C (v := 3) (by decide) dX4_undoAllOpen_5 ?_
      refine z_icmp_ge C (tgt := 50) dX4_undoAllOpen_6 (by decide) (fun h6_1 => ?_) (fun h6_1 => absurd (nI_le (a := 3) (b := 3) (Nat.le_refl _) (by omega)) h6_1)
      refine z_iload_n C 1 rfl rfl dX4_undoAllOpen_50 ?_
      exact ret _ _ _ _ (by rw [← hT]; rfl) (by rw [← hT]; rfl) dX4_undoAllOpen_51
    | succ n ih4 => 
      intro j e u X1 hj hej hen hT
      refine z_iload_n C 2 rfl rfl dX4_undoAllOpen_4 ?_
      refine z_iconst C (v := 3) (by decide) dX4_undoAllOpen_5 ?_
      refine z_icmp_ge C (tgt := 50) dX4_undoAllOpen_6 (by decide) (fun h6_2 => absurd h6_2 (nI_ge (a := j) (b := 3) (by omega) (by omega))) (fun h6_2 => ?_)
      refine z_aload_n C 0 rfl rfl dX4_undoAllOpen_9 ?_
      refine z_get C (Cn := RX4) (T := TX4) (Nf := 5) (ci := 4) in4 0 1 l21 (v := .ref (a 9)) rfl rfl (by decide) rfl dX4_undoAllOpen_10 ?_
      refine z_iload_n C 2 rfl rfl dX4_undoAllOpen_13 ?_
      refine z_rVI C (c_X0_isOpen E (fun i => a (i + 9)) (xD X1) (nI j)) gX4_undoAllOpen_X0_isOpen (ci := 0) (q0 := 0) rfl rfl hyX0_isOpen rfl ⟨rfl, rfl⟩ ⟨by decide, by decide⟩ ⟨by decide, by decide⟩ [9, 10, 11, 12] rfl (by decide) (st := []) (Nat.le_of_ble_eq_true rfl) dX4_undoAllOpen_14 ?_ rfl
      refine z_if_eq C (tgt := 44) dX4_undoAllOpen_17 (by decide) (fun h17_3t => ?_) (fun h17_3f => ?_)
      · refine z_iinc C 2 rfl (v := (nI (j + 1))) (zinc _) (lv' := [(2, .int (nI (j + 1))), (0, .ref (a 0)), (1, .int u)]) rfl (by decide) dX4_undoAllOpen_44 ?_
        refine z_goto C (tgt := 4) dX4_undoAllOpen_47 (by decide) ?_
        refine z_lv (lv' := [(0, .ref (a 0)), (1, .int u), (2, .int (nI (j + 1)))]) [1, 2, 0] rfl ?_
        exact ih4 (j + 1) e _ _ (by omega) (by omega) hen (by rw [← hT]; simp only [unL, if_neg h6_2, if_pos h17_3t, ↓reduceIte])
      · refine z_aload_n C 0 rfl rfl dX4_undoAllOpen_20 ?_
        refine z_get C (Cn := RX4) (T := TX4) (Nf := 5) (ci := 4) in4 0 0 l12 (v := .ref (a 1)) rfl rfl (by decide) rfl dX4_undoAllOpen_21 ?_
        refine z_iload_n C 2 rfl rfl dX4_undoAllOpen_24 ?_
        refine z_iconst C (v := 3) (by decide) dX4_undoAllOpen_25 ?_
        refine z_iconst C (v := 0) (by decide) dX4_undoAllOpen_26 ?_
        refine z_iconst C (v := 0) (by decide) dX4_undoAllOpen_27 ?_
        have ct1 := c_X2_takeEntry E N hN (fun i => a (i + 1)) (xJ X1) (nI j) 3 0 0 e hen (by omega)
        obtain ⟨Jq2, hq28_2⟩ : ∃ z : JS, (jTake N (xJ X1) (nI j) 3 0 0 e) = z := ⟨_, rfl⟩
        rw [hq28_2] at ct1
        refine z_callVV C ct1 gX4_undoAllOpen_X2_takeEntry (ci := 2) (q0 := 0) rfl rfl hyX2_takeEntry rfl ⟨rfl, rfl⟩ ⟨by decide, by decide⟩ ⟨by decide, by decide⟩ [1, 2, 3, 4, 5, 6, 7, 8] [0, 9, 10, 11, 12, 13, 14] [0, 7, 8, 9, 10, 11, 12, 13, 14, 1, 2, 3, 4, 5, 6] (wr := [((a 0), .inr (4, [.ref (a 1), .ref (a 9), .ref (a 13), .int (xDn X1), .int (xCm X1)])), ((a 9), .inr (0, [.ref (a 10), .ref (a 11), .ref (a 12), .int (dOp (xD X1))])), ((a 10), .inl (gI E, 32, .inl (dCo (xD X1)))), ((a 11), .inl (gI E, 32, .inl (dCh (xD X1)))), ((a 12), .inl (gI E, 32, .inl (dHo (xD X1)))), ((a 13), .inr (1, [.ref (a 14), .int (fFp (xF X1)), .int (fPg (xF X1)), .int (fRe (xF X1))])), ((a 14), .inl (gZ E, 64, .inl (fTe (xF X1))))]) (V' := (wX E a N (xsJ X1 Jq2))) rfl rfl (by decide) (by decide) (by decide) rfl (by decide) (st := []) (Nat.le_of_ble_eq_true rfl) dX4_undoAllOpen_28 ?_ rfl
        refine z_aload_n C 0 rfl rfl dX4_undoAllOpen_31 ?_
        refine z_get C (Cn := RX4) (T := TX4) (Nf := 5) (ci := 4) in4 0 1 l21 (v := .ref (a 9)) rfl rfl (by decide) rfl dX4_undoAllOpen_32 ?_
        refine z_iload_n C 2 rfl rfl dX4_undoAllOpen_35 ?_
        refine z_iconst C (v := 0) (by decide) dX4_undoAllOpen_36 ?_
        have ct3 := c_X0_close E (fun i => a (i + 9)) (xD X1) (nI j) 0
        obtain ⟨Dq4, hq37_4⟩ : ∃ z : DS, ((dClose (xD X1) (nI j) 0).2) = z := ⟨_, rfl⟩
        rw [hq37_4] at ct3
        refine z_callVI C ct3 gX4_undoAllOpen_X0_close (ci := 0) (q0 := 0) rfl rfl hyX0_close rfl ⟨rfl, rfl⟩ ⟨by decide, by decide⟩ ⟨by decide, by decide⟩ [9, 10, 11, 12] [0, 1, 2, 3, 4, 5, 6, 7, 8, 13, 14] [0, 1, 2, 3, 4, 5, 6, 7, 8, 11, 12, 13, 14, 9, 10] (wr := [((a 0), .inr (4, [.ref (a 1), .ref (a 9), .ref (a 13), .int (xDn X1), .int (xCm X1)])), ((a 1), .inr (2, [.ref (a 2), .ref (a 4), .ref (a 6), .ref (a 7), .ref (a 8), .int (jEn Jq2), .int (jWa Jq2), .int (jFw Jq2), .int (jSe Jq2), .int (jSc Jq2), .int (jFn Jq2), .int (jFp Jq2)])), ((a 2), .inr (3, [.int (nI N), .ref (a 3)])), ((a 3), .inl (gB E, 32 * N, .inl (jDk Jq2))), ((a 4), .inr (3, [.int (nI N), .ref (a 5)])), ((a 5), .inl (gB E, 32 * N, .inl (jMm Jq2))), ((a 6), .inl (gI E, 4, .inl (jEh Jq2))), ((a 7), .inl (gI E, 4, .inl (jEk Jq2))), ((a 8), .inl (gI E, 4, .inl (jEv Jq2))), ((a 13), .inr (1, [.ref (a 14), .int (fFp (xF X1)), .int (fPg (xF X1)), .int (fRe (xF X1))])), ((a 14), .inl (gZ E, 64, .inl (fTe (xF X1))))]) (V' := (wX E a N (xsD (xsJ X1 Jq2) Dq4))) rfl rfl (by decide) (by decide) (by decide) rfl (by decide) (st := []) (Nat.le_of_ble_eq_true rfl) dX4_undoAllOpen_37 ?_ rfl
        refine z_pop C rfl dX4_undoAllOpen_40 ?_
        refine z_iinc C 1 rfl (v := (u + 1)) rfl (lv' := [(1, .int (u + 1)), (0, .ref (a 0)), (2, .int (nI j))]) rfl (by decide) dX4_undoAllOpen_41 ?_
        refine z_iinc C 2 rfl (v := (nI (j + 1))) (zinc _) (lv' := [(2, .int (nI (j + 1))), (1, .int (u + 1)), (0, .ref (a 0))]) rfl (by decide) dX4_undoAllOpen_44 ?_
        refine z_goto C (tgt := 4) dX4_undoAllOpen_47 (by decide) ?_
        refine z_lv (lv' := [(0, .ref (a 0)), (1, .int (u + 1)), (2, .int (nI (j + 1)))]) [2, 1, 0] rfl ?_
        exact ih4 (j + 1) (e + 1) _ _ (by omega) (by omega) (by have qe := jTake_En N (xJ X1) (nI j) 3 0 0 e (by omega); rw [hq28_2] at qe; exact qe) (by rw [← hT]; simp only [unL, if_neg h6_2, if_neg h17_3f, hq28_2, hq37_4, ↓reduceIte])
  refine z_lv (lv' := [(0, .ref (a 0)), (1, .int 0), (2, .int 0)]) [2, 1, 0] rfl ?_
  exact loop4 3 0 0 0 X (by omega) (by omega) he rfl
abbrev rmX4_start : Room := { frames := 6, cells := 0, slots := 0, locals := 142 }
theorem hyX4_start : yX4_start.cls = RX4 ∧ yX4_start.cls ≠ "java/lang/invoke/MethodHandle" ∧ yX4_start.cls ≠ "java/lang/invoke/VarHandle" ∧ (parseMethodDescriptor yX4_start.desc).map (fun d => d.parameters.length) = some 0 := by decide +kernel
set_option maxHeartbeats 4000000 in
set_option maxRecDepth 3000 in
theorem c_X4_start (E : GE) (N : Nat) (hN : 16 ≤ N ∧ N ≤ 64) (a : Nat → Nat) (X : XS) (he : jEn (xJ X) = 0) : zI E yX4_start wsX4_start rmX4_start [.ref (a 0)] (wX E a N X) ((xStart N X).1) (wX E a N ((xStart N X).2)) := by
  refine zI_of (cc := cX4_start) (maxL := 1) (ty := .int) (by decide) rfl (vp_nar_int _) (Nat.le_of_ble_eq_true rfl) ?_
  intro K C ret
  replace C : zC E K cX4_start wsX4_start RX4 rmX4_start 1 := C
  have in2 : ∀ w ∈ wsX20, w ∈ wsX4_start := fun w h => List.mem_cons_of_mem _ (List.mem_append_left _ (List.mem_append_left _ (List.mem_append_left _ (List.mem_append_right _ (h)))))
  have in4 : ∀ w ∈ wsX40, w ∈ wsX4_start := fun w h => List.mem_cons_of_mem _ (List.mem_append_left _ (List.mem_append_left _ (List.mem_append_left _ (List.mem_append_left _ (List.mem_append_right _ (h))))))
  have l12 : zw K (.fieldLink RX4 12 "StoreLog3" "journal" "LStoreLog3$Journal;") := C.w (List.mem_cons_of_mem _ (List.mem_append_left _ (List.mem_append_left _ (List.mem_append_left _ (List.mem_append_left _ (List.mem_append_left _ (List.mem_append_left _ (List.mem_of_getElem? (i := 2) rfl))))))))
  have l21 : zw K (.fieldLink RX4 21 "StoreLog3" "dictionary" "LStoreLog3$Dictionary;") := C.w (List.mem_cons_of_mem _ (List.mem_append_left _ (List.mem_append_left _ (List.mem_append_left _ (List.mem_append_left _ (List.mem_append_left _ (List.mem_append_left _ (List.mem_of_getElem? (i := 4) rfl))))))))
  have l28 : zw K (.fieldLink RX4 28 "StoreLog3" "finder" "LStoreLog3$Finder;") := C.w (List.mem_cons_of_mem _ (List.mem_append_left _ (List.mem_append_left _ (List.mem_append_left _ (List.mem_append_left _ (List.mem_append_left _ (List.mem_append_left _ (List.mem_of_getElem? (i := 1) rfl))))))))
  have l32 : zw K (.fieldLink RX4 32 "StoreLog3" "down" "Z") := C.w (List.mem_cons_of_mem _ (List.mem_append_left _ (List.mem_append_left _ (List.mem_append_left _ (List.mem_append_left _ (List.mem_append_left _ (List.mem_append_left _ (List.mem_of_getElem? (i := 0) rfl))))))))
  have l70 : zw K (.fieldLink RX4 70 "StoreLog3" "commits" "I") := C.w (List.mem_cons_of_mem _ (List.mem_append_left _ (List.mem_append_left _ (List.mem_append_left _ (List.mem_append_left _ (List.mem_append_left _ (List.mem_append_left _ (List.mem_of_getElem? (i := 5) rfl))))))))
  have l112 : zw K (.fieldLink RX4 112 "StoreLog3$Journal" "disk" "LStoreLog3$Sectors;") := C.w (List.mem_cons_of_mem _ (List.mem_append_left _ (List.mem_append_left _ (List.mem_append_left _ (List.mem_append_left _ (List.mem_append_left _ (List.mem_append_left _ (List.mem_of_getElem? (i := 3) rfl))))))))
  show Z E K 0 0 (wX E a N X) 0 [(0, .ref (a 0))] []
  refine z_aload_n C 0 rfl rfl dX4_start_0 ?_
  refine z_get C (Cn := RX4) (T := TX4) (Nf := 5) (ci := 4) in4 0 3 l32 (v := .int (xDn X)) rfl rfl (by decide) rfl dX4_start_1 ?_
  refine z_if_ne C (tgt := 9) dX4_start_4 (by decide) (fun h4_1t => ?_) (fun h4_1f => ?_)
  · refine z_aload_n C 0 rfl rfl dX4_start_9 ?_
    refine z_get C (Cn := RX4) (T := TX4) (Nf := 5) (ci := 4) in4 0 2 l28 (v := .ref (a 13)) rfl rfl (by decide) rfl dX4_start_10 ?_
    refine z_aload_n C 0 rfl rfl dX4_start_13 ?_
    refine z_get C (Cn := RX4) (T := TX4) (Nf := 5) (ci := 4) in4 0 0 l12 (v := .ref (a 1)) rfl rfl (by decide) rfl dX4_start_14 ?_
    refine z_get C (Cn := RX2) (T := TX2) (Nf := 12) (ci := 2) in2 1 0 l112 (v := .ref (a 2)) rfl rfl (by decide) rfl dX4_start_17 ?_
    have ct1 := c_X1_findCheckpoint E N hN (a 2) (a 3) (jDk (xJ X)) (fun i => a (i + 13)) (xF X)
    obtain ⟨Fq2, hq20_2⟩ : ∃ z : FS, (fFind N (jDk (xJ X)) (xF X)) = z := ⟨_, rfl⟩
    rw [hq20_2] at ct1
    refine z_callVI C ct1 gX4_start_X1_findCheckpoint (ci := 1) (q0 := 0) rfl rfl hyX1_findCheckpoint rfl ⟨rfl, rfl⟩ ⟨by decide, by decide⟩ ⟨by decide, by decide⟩ [13, 14, 2, 3] [0, 1, 4, 5, 6, 7, 8, 9, 10, 11, 12] [0, 1, 13, 14, 2, 3, 4, 5, 6, 7, 8, 9, 10, 11, 12] (wr := [((a 0), .inr (4, [.ref (a 1), .ref (a 9), .ref (a 13), .int (xDn X), .int (xCm X)])), ((a 1), .inr (2, [.ref (a 2), .ref (a 4), .ref (a 6), .ref (a 7), .ref (a 8), .int (jEn (xJ X)), .int (jWa (xJ X)), .int (jFw (xJ X)), .int (jSe (xJ X)), .int (jSc (xJ X)), .int (jFn (xJ X)), .int (jFp (xJ X))])), ((a 4), .inr (3, [.int (nI N), .ref (a 5)])), ((a 5), .inl (gB E, 32 * N, .inl (jMm (xJ X)))), ((a 6), .inl (gI E, 4, .inl (jEh (xJ X)))), ((a 7), .inl (gI E, 4, .inl (jEk (xJ X)))), ((a 8), .inl (gI E, 4, .inl (jEv (xJ X)))), ((a 9), .inr (0, [.ref (a 10), .ref (a 11), .ref (a 12), .int (dOp (xD X))])), ((a 10), .inl (gI E, 32, .inl (dCo (xD X)))), ((a 11), .inl (gI E, 32, .inl (dCh (xD X)))), ((a 12), .inl (gI E, 32, .inl (dHo (xD X))))]) (V' := (wX E a N (xsF X Fq2))) rfl rfl (by decide) (by decide) (by decide) rfl (by decide) (st := []) (Nat.le_of_ble_eq_true rfl) dX4_start_20 ?_ rfl
    refine z_if_ne C (tgt := 29) dX4_start_23 (by decide) (fun h23_2t => ?_) (fun h23_2f => ?_)
    · refine z_aload_n C 0 rfl rfl dX4_start_29 ?_
      refine z_get C (Cn := RX4) (T := TX4) (Nf := 5) (ci := 4) in4 0 2 l28 (v := .ref (a 13)) rfl rfl (by decide) rfl dX4_start_30 ?_
      refine z_aload_n C 0 rfl rfl dX4_start_33 ?_
      refine z_get C (Cn := RX4) (T := TX4) (Nf := 5) (ci := 4) in4 0 0 l12 (v := .ref (a 1)) rfl rfl (by decide) rfl dX4_start_34 ?_
      refine z_get C (Cn := RX2) (T := TX2) (Nf := 12) (ci := 2) in2 1 0 l112 (v := .ref (a 2)) rfl rfl (by decide) rfl dX4_start_37 ?_
      refine z_aload_n C 0 rfl rfl dX4_start_40 ?_
      refine z_get C (Cn := RX4) (T := TX4) (Nf := 5) (ci := 4) in4 0 1 l21 (v := .ref (a 9)) rfl rfl (by decide) rfl dX4_start_41 ?_
      have ct3 := c_X1_readPages E N hN (a 2) (a 3) (jDk (xJ X)) (fun i => a (i + 13)) Fq2 (fun i => a (i + 9)) (xD X)
      obtain ⟨Fq4, hq44_4⟩ : ∃ z : FS, (fsRe Fq2 (rdAll N (jDk (xJ X)) Fq2 (xD X)).1) = z := ⟨_, rfl⟩
      rw [hq44_4] at ct3
      obtain ⟨Dq5, hq44_5⟩ : ∃ z : DS, ((rdAll N (jDk (xJ X)) Fq2 (xD X)).2) = z := ⟨_, rfl⟩
      rw [hq44_5] at ct3
      refine z_callVV C ct3 gX4_start_X1_readPages (ci := 1) (q0 := 0) rfl rfl hyX1_readPages rfl ⟨rfl, rfl⟩ ⟨by decide, by decide⟩ ⟨by decide, by decide⟩ [13, 14, 2, 3, 9, 10, 11, 12] [0, 1, 4, 5, 6, 7, 8] [0, 1, 9, 10, 2, 3, 4, 5, 6, 11, 12, 13, 14, 7, 8] (wr := [((a 0), .inr (4, [.ref (a 1), .ref (a 9), .ref (a 13), .int (xDn X), .int (xCm X)])), ((a 1), .inr (2, [.ref (a 2), .ref (a 4), .ref (a 6), .ref (a 7), .ref (a 8), .int (jEn (xJ X)), .int (jWa (xJ X)), .int (jFw (xJ X)), .int (jSe (xJ X)), .int (jSc (xJ X)), .int (jFn (xJ X)), .int (jFp (xJ X))])), ((a 4), .inr (3, [.int (nI N), .ref (a 5)])), ((a 5), .inl (gB E, 32 * N, .inl (jMm (xJ X)))), ((a 6), .inl (gI E, 4, .inl (jEh (xJ X)))), ((a 7), .inl (gI E, 4, .inl (jEk (xJ X)))), ((a 8), .inl (gI E, 4, .inl (jEv (xJ X))))]) (V' := (wX E a N (xsD (xsF X Fq4) Dq5))) rfl rfl (by decide) (by decide) (by decide) rfl (by decide) (st := []) (Nat.le_of_ble_eq_true rfl) dX4_start_44 ?_ rfl
      refine z_aload_n C 0 rfl rfl dX4_start_47 ?_
      refine z_get C (Cn := RX4) (T := TX4) (Nf := 5) (ci := 4) in4 0 2 l28 (v := .ref (a 13)) rfl rfl (by decide) rfl dX4_start_48 ?_
      refine z_aload_n C 0 rfl rfl dX4_start_51 ?_
      refine z_get C (Cn := RX4) (T := TX4) (Nf := 5) (ci := 4) in4 0 0 l12 (v := .ref (a 1)) rfl rfl (by decide) rfl dX4_start_52 ?_
      refine z_get C (Cn := RX2) (T := TX2) (Nf := 12) (ci := 2) in2 1 0 l112 (v := .ref (a 2)) rfl rfl (by decide) rfl dX4_start_55 ?_
      refine z_aload_n C 0 rfl rfl dX4_start_58 ?_
      refine z_get C (Cn := RX4) (T := TX4) (Nf := 5) (ci := 4) in4 0 1 l21 (v := .ref (a 9)) rfl rfl (by decide) rfl dX4_start_59 ?_
      have ct6 := c_X1_goOverRun E N hN (a 2) (a 3) (jDk (xJ X)) (fun i => a (i + 13)) Fq4 (fun i => a (i + 9)) Dq5
      obtain ⟨Fq7, hq62_7⟩ : ∃ z : FS, ((gRun N (jDk (xJ X)) Fq4 Dq5).1) = z := ⟨_, rfl⟩
      rw [hq62_7] at ct6
      obtain ⟨Dq8, hq62_8⟩ : ∃ z : DS, ((gRun N (jDk (xJ X)) Fq4 Dq5).2) = z := ⟨_, rfl⟩
      rw [hq62_8] at ct6
      refine z_callVV C ct6 gX4_start_X1_goOverRun (ci := 1) (q0 := 0) rfl rfl hyX1_goOverRun rfl ⟨rfl, rfl⟩ ⟨by decide, by decide⟩ ⟨by decide, by decide⟩ [13, 14, 2, 3, 9, 10, 11, 12] [0, 1, 4, 5, 6, 7, 8] [0, 1, 9, 10, 2, 3, 4, 5, 6, 11, 12, 13, 14, 7, 8] (wr := [((a 0), .inr (4, [.ref (a 1), .ref (a 9), .ref (a 13), .int (xDn X), .int (xCm X)])), ((a 1), .inr (2, [.ref (a 2), .ref (a 4), .ref (a 6), .ref (a 7), .ref (a 8), .int (jEn (xJ X)), .int (jWa (xJ X)), .int (jFw (xJ X)), .int (jSe (xJ X)), .int (jSc (xJ X)), .int (jFn (xJ X)), .int (jFp (xJ X))])), ((a 4), .inr (3, [.int (nI N), .ref (a 5)])), ((a 5), .inl (gB E, 32 * N, .inl (jMm (xJ X)))), ((a 6), .inl (gI E, 4, .inl (jEh (xJ X)))), ((a 7), .inl (gI E, 4, .inl (jEk (xJ X)))), ((a 8), .inl (gI E, 4, .inl (jEv (xJ X))))]) (V' := (wX E a N (xsD (xsF X Fq7) Dq8))) rfl rfl (by decide) (by decide) (by decide) rfl (by decide) (st := []) (Nat.le_of_ble_eq_true rfl) dX4_start_62 ?_ rfl
      refine z_aload_n C 0 rfl rfl dX4_start_65 ?_
      refine z_get C (Cn := RX4) (T := TX4) (Nf := 5) (ci := 4) in4 0 0 l12 (v := .ref (a 1)) rfl rfl (by decide) rfl dX4_start_66 ?_
      refine z_aload_n C 0 rfl rfl dX4_start_69 ?_
      refine z_get C (Cn := RX4) (T := TX4) (Nf := 5) (ci := 4) in4 0 2 l28 (v := .ref (a 13)) rfl rfl (by decide) rfl dX4_start_70 ?_
      refine z_rVI C (c_X1_firstPage E (fun i => a (i + 13)) Fq7) gX4_start_X1_firstPage (ci := 1) (q0 := 0) rfl rfl hyX1_firstPage rfl ⟨rfl, rfl⟩ ⟨by decide, by decide⟩ ⟨by decide, by decide⟩ [13, 14] rfl (by decide) (st := [.ref (a 1)]) (Nat.le_of_ble_eq_true rfl) dX4_start_73 ?_ rfl
      refine z_aload_n C 0 rfl rfl dX4_start_76 ?_
      refine z_get C (Cn := RX4) (T := TX4) (Nf := 5) (ci := 4) in4 0 2 l28 (v := .ref (a 13)) rfl rfl (by decide) rfl dX4_start_77 ?_
      refine z_rVI C (c_X1_runEnd E (fun i => a (i + 13)) Fq7) gX4_start_X1_runEnd (ci := 1) (q0 := 0) rfl rfl hyX1_runEnd rfl ⟨rfl, rfl⟩ ⟨by decide, by decide⟩ ⟨by decide, by decide⟩ [13, 14] rfl (by decide) (st := [.int (fFp Fq7), .ref (a 1)]) (Nat.le_of_ble_eq_true rfl) dX4_start_80 ?_ rfl
      have ct9 := c_X2_goOn E N hN (fun i => a (i + 1)) (xJ X) (fFp Fq7) (fRe Fq7)
      obtain ⟨Jq10, hq83_10⟩ : ∃ z : JS, (jGoOn N (xJ X) (fFp Fq7) (fRe Fq7)) = z := ⟨_, rfl⟩
      rw [hq83_10] at ct9
      refine z_callVV C ct9 gX4_start_X2_goOn (ci := 2) (q0 := 0) rfl rfl hyX2_goOn rfl ⟨rfl, rfl⟩ ⟨by decide, by decide⟩ ⟨by decide, by decide⟩ [1, 2, 3, 4, 5, 6, 7, 8] [0, 9, 10, 11, 12, 13, 14] [0, 7, 8, 9, 10, 11, 12, 13, 14, 1, 2, 3, 4, 5, 6] (wr := [((a 0), .inr (4, [.ref (a 1), .ref (a 9), .ref (a 13), .int (xDn X), .int (xCm X)])), ((a 9), .inr (0, [.ref (a 10), .ref (a 11), .ref (a 12), .int (dOp Dq8)])), ((a 10), .inl (gI E, 32, .inl (dCo Dq8))), ((a 11), .inl (gI E, 32, .inl (dCh Dq8))), ((a 12), .inl (gI E, 32, .inl (dHo Dq8))), ((a 13), .inr (1, [.ref (a 14), .int (fFp Fq7), .int (fPg Fq7), .int (fRe Fq7)])), ((a 14), .inl (gZ E, 64, .inl (fTe Fq7)))]) (V' := (wX E a N (xsJ (xsD (xsF X Fq7) Dq8) Jq10))) rfl rfl (by decide) (by decide) (by decide) rfl (by decide) (st := []) (Nat.le_of_ble_eq_true rfl) dX4_start_83 ?_ rfl
      refine z_aload_n C 0 rfl rfl dX4_start_86 ?_
      refine z_iconst C (v := 0) (by decide) dX4_start_87 ?_
      refine z_put C (Cn := RX4) (T := TX4) (Nf := 5) (ci := 4) in4 0 4 l70 rfl rfl (by decide) tyX4 tyX4_ok nmX4 rfl rfl rfl (Nat.le_of_ble_eq_true rfl) (V' := (wX E a N (xsCm (xsJ (xsD (xsF X Fq7) Dq8) Jq10) 0))) rfl dX4_start_88 ?_
      refine z_aload_n C 0 rfl rfl dX4_start_91 ?_
      refine z_iconst C (v := 0) (by decide) dX4_start_92 ?_
      refine z_put C (Cn := RX4) (T := TX4) (Nf := 5) (ci := 4) in4 0 3 l32 rfl rfl (by decide) tyX4 tyX4_ok nmX4 rfl rfl rfl (Nat.le_of_ble_eq_true rfl) (V' := (wX E a N (xsDn (xsCm (xsJ (xsD (xsF X Fq7) Dq8) Jq10) 0) 0))) rfl dX4_start_93 ?_
      refine z_aload_n C 0 rfl rfl dX4_start_96 ?_
      have ct11 := c_X4_undoAllOpen E N hN a (xsDn (xsCm (xsJ (xsD (xsF X Fq7) Dq8) Jq10) 0) 0) (show jEn Jq10 = 0 from by rw [← hq83_10]; exact he)
      obtain ⟨Xq12, hq97_12⟩ : ∃ z : XS, ((unL N 3 0 0 (0, (xsDn (xsCm (xsJ (xsD (xsF X Fq7) Dq8) Jq10) 0) 0))).2) = z := ⟨_, rfl⟩
      rw [hq97_12] at ct11
      refine z_callVI C ct11 gX4_start_X4_undoAllOpen (ci := 4) (q0 := 0) rfl rfl hyX4_undoAllOpen rfl ⟨rfl, rfl⟩ ⟨by decide, by decide⟩ ⟨by decide, by decide⟩ [0, 1, 2, 3, 4, 5, 6, 7, 8, 9, 10, 11, 12, 13, 14] [] [0, 1, 2, 3, 4, 5, 6, 7, 8, 9, 10, 11, 12, 13, 14] (wr := []) (V' := (wX E a N Xq12)) rfl rfl (by decide) (by decide) (by decide) rfl (by decide) (st := []) (Nat.le_of_ble_eq_true rfl) dX4_start_97 ?_ rfl
      exact ret _ _ _ _ (by first | rfl | (simp only [xStart, xOn, xGo, xRd, xFnd, if_neg h4_1t, hq20_2, if_neg h23_2t, hq44_4, hq44_5, hq62_7, hq62_8, hq83_10, hq97_12, ↓reduceIte]; done) | (simp only [xStart, xOn, xGo, xRd, xFnd, if_neg h4_1t, hq20_2, if_neg h23_2t, hq44_4, hq44_5, hq62_7, hq62_8, hq83_10, hq97_12, ↓reduceIte]; rfl) | (simp [xStart, xOn, xGo, xRd, xFnd, if_neg h4_1t, hq20_2, if_neg h23_2t, hq44_4, hq44_5, hq62_7, hq62_8, hq83_10, hq97_12, ↓reduceIte]; done)) (by first | rfl | (simp only [xStart, xOn, xGo, xRd, xFnd, if_neg h4_1t, hq20_2, if_neg h23_2t, hq44_4, hq44_5, hq62_7, hq62_8, hq83_10, hq97_12, ↓reduceIte]; done) | (simp only [xStart, xOn, xGo, xRd, xFnd, if_neg h4_1t, hq20_2, if_neg h23_2t, hq44_4, hq44_5, hq62_7, hq62_8, hq83_10, hq97_12, ↓reduceIte]; rfl) | (simp [xStart, xOn, xGo, xRd, xFnd, if_neg h4_1t, hq20_2, if_neg h23_2t, hq44_4, hq44_5, hq62_7, hq62_8, hq83_10, hq97_12, ↓reduceIte]; done)) dX4_start_100
    · refine z_bipush C (v := (-4)) (by decide) dX4_start_26 ?_
      exact ret _ _ _ _ (by first | rfl | (simp only [xStart, xOn, xGo, xRd, xFnd, if_neg h4_1t, hq20_2, if_pos h23_2f, ↓reduceIte]; done) | (simp only [xStart, xOn, xGo, xRd, xFnd, if_neg h4_1t, hq20_2, if_pos h23_2f, ↓reduceIte]; rfl) | (simp [xStart, xOn, xGo, xRd, xFnd, if_neg h4_1t, hq20_2, if_pos h23_2f, ↓reduceIte]; done)) (by first | rfl | (simp only [xStart, xOn, xGo, xRd, xFnd, if_neg h4_1t, hq20_2, if_pos h23_2f, ↓reduceIte]; done) | (simp only [xStart, xOn, xGo, xRd, xFnd, if_neg h4_1t, hq20_2, if_pos h23_2f, ↓reduceIte]; rfl) | (simp [xStart, xOn, xGo, xRd, xFnd, if_neg h4_1t, hq20_2, if_pos h23_2f, ↓reduceIte]; done)) dX4_start_28
  · refine z_iconst C (v := (-1)) (by decide) dX4_start_7 ?_
    exact ret _ _ _ _ (by first | rfl | (simp only [xStart, xOn, xGo, xRd, xFnd, if_pos h4_1f, ↓reduceIte]; done) | (simp only [xStart, xOn, xGo, xRd, xFnd, if_pos h4_1f, ↓reduceIte]; rfl) | (simp [xStart, xOn, xGo, xRd, xFnd, if_pos h4_1f, ↓reduceIte]; done)) (by first | rfl | (simp only [xStart, xOn, xGo, xRd, xFnd, if_pos h4_1f, ↓reduceIte]; done) | (simp only [xStart, xOn, xGo, xRd, xFnd, if_pos h4_1f, ↓reduceIte]; rfl) | (simp [xStart, xOn, xGo, xRd, xFnd, if_pos h4_1f, ↓reduceIte]; done)) dX4_start_8
abbrev rmX4_at : Room := { frames := 1, cells := 0, slots := 0, locals := 22 }
theorem hyX4_at : yX4_at.cls = RX4 ∧ yX4_at.cls ≠ "java/lang/invoke/MethodHandle" ∧ yX4_at.cls ≠ "java/lang/invoke/VarHandle" ∧ (parseMethodDescriptor yX4_at.desc).map (fun d => d.parameters.length) = some 2 := by decide +kernel
set_option maxHeartbeats 4000000 in
set_option maxRecDepth 3000 in
theorem c_X4_at (E : GE) (N : Nat) (hN : 16 ≤ N ∧ N ≤ 64) (a : Nat → Nat) (X : XS) (s i : Int32) : zI E yX4_at wsX4_at rmX4_at [.ref (a 0), .int s, .int i] (wX E a N X) (bOf N (jDk (xJ X)) s i) (wX E a N X) := by
  refine zI_of (cc := cX4_at) (maxL := 3) (ty := .int) (by decide) rfl (vp_nar_int _) (Nat.le_of_ble_eq_true rfl) ?_
  intro K C ret
  replace C : zC E K cX4_at wsX4_at RX4 rmX4_at 3 := C
  have in2 : ∀ w ∈ wsX20, w ∈ wsX4_at := fun w h => List.mem_cons_of_mem _ (List.mem_append_left _ (List.mem_append_right _ (h)))
  have in4 : ∀ w ∈ wsX40, w ∈ wsX4_at := fun w h => List.mem_cons_of_mem _ (List.mem_append_left _ (List.mem_append_left _ (List.mem_append_right _ (h))))
  have l12 : zw K (.fieldLink RX4 12 "StoreLog3" "journal" "LStoreLog3$Journal;") := C.w (List.mem_cons_of_mem _ (List.mem_append_left _ (List.mem_append_left _ (List.mem_append_left _ (List.mem_of_getElem? (i := 0) rfl)))))
  have l112 : zw K (.fieldLink RX4 112 "StoreLog3$Journal" "disk" "LStoreLog3$Sectors;") := C.w (List.mem_cons_of_mem _ (List.mem_append_left _ (List.mem_append_left _ (List.mem_append_left _ (List.mem_of_getElem? (i := 1) rfl)))))
  show Z E K 0 0 (wX E a N X) 0 [(0, .ref (a 0)), (1, .int s), (2, .int i)] []
  refine z_aload_n C 0 rfl rfl dX4_at_0 ?_
  refine z_get C (Cn := RX4) (T := TX4) (Nf := 5) (ci := 4) in4 0 0 l12 (v := .ref (a 1)) rfl rfl (by decide) rfl dX4_at_1 ?_
  refine z_get C (Cn := RX2) (T := TX2) (Nf := 12) (ci := 2) in2 1 0 l112 (v := .ref (a 2)) rfl rfl (by decide) rfl dX4_at_4 ?_
  refine z_iload_n C 1 rfl rfl dX4_at_7 ?_
  refine z_iload_n C 2 rfl rfl dX4_at_8 ?_
  refine z_rVI C (c_X3_byteOf E N hN (a 2) (a 3) (jDk (xJ X)) s i) gX4_at_X3_byteOf (ci := 3) (q0 := 0) rfl rfl hyX3_byteOf rfl ⟨rfl, rfl⟩ ⟨by decide, by decide⟩ ⟨by decide, by decide⟩ [2, 3] rfl (by decide) (st := []) (Nat.le_of_ble_eq_true rfl) dX4_at_9 ?_ rfl
  exact ret _ _ _ _ (by first | rfl | (simp only [↓reduceIte]; done) | (simp only [↓reduceIte]; rfl) | (simp [↓reduceIte]; done)) rfl dX4_at_12
abbrev rmX4_sound : Room := { frames := 3, cells := 0, slots := 0, locals := 68 }
theorem hyX4_sound : yX4_sound.cls = RX4 ∧ yX4_sound.cls ≠ "java/lang/invoke/MethodHandle" ∧ yX4_sound.cls ≠ "java/lang/invoke/VarHandle" ∧ (parseMethodDescriptor yX4_sound.desc).map (fun d => d.parameters.length) = some 1 := by decide +kernel
set_option maxHeartbeats 4000000 in
set_option maxRecDepth 3000 in
theorem c_X4_sound (E : GE) (N : Nat) (hN : 16 ≤ N ∧ N ≤ 64) (a : Nat → Nat) (X : XS) (s : Int32) : zI E yX4_sound wsX4_sound rmX4_sound [.ref (a 0), .int s] (wX E a N X) (isS N (jDk (xJ X)) s) (wX E a N X) := by
  refine zI_of (cc := cX4_sound) (maxL := 2) (ty := .boolean) (by decide) rfl (by unfold isS; (repeat' split) <;> rfl) (Nat.le_of_ble_eq_true rfl) ?_
  intro K C ret
  replace C : zC E K cX4_sound wsX4_sound RX4 rmX4_sound 2 := C
  have in2 : ∀ w ∈ wsX20, w ∈ wsX4_sound := fun w h => List.mem_cons_of_mem _ (List.mem_append_left _ (List.mem_append_right _ (h)))
  have in4 : ∀ w ∈ wsX40, w ∈ wsX4_sound := fun w h => List.mem_cons_of_mem _ (List.mem_append_left _ (List.mem_append_left _ (List.mem_append_right _ (h))))
  have l12 : zw K (.fieldLink RX4 12 "StoreLog3" "journal" "LStoreLog3$Journal;") := C.w (List.mem_cons_of_mem _ (List.mem_append_left _ (List.mem_append_left _ (List.mem_append_left _ (List.mem_of_getElem? (i := 0) rfl)))))
  have l112 : zw K (.fieldLink RX4 112 "StoreLog3$Journal" "disk" "LStoreLog3$Sectors;") := C.w (List.mem_cons_of_mem _ (List.mem_append_left _ (List.mem_append_left _ (List.mem_append_left _ (List.mem_of_getElem? (i := 1) rfl)))))
  show Z E K 0 0 (wX E a N X) 0 [(0, .ref (a 0)), (1, .int s)] []
  refine z_aload_n C 0 rfl rfl dX4_sound_0 ?_
  refine z_get C (Cn := RX4) (T := TX4) (Nf := 5) (ci := 4) in4 0 0 l12 (v := .ref (a 1)) rfl rfl (by decide) rfl dX4_sound_1 ?_
  refine z_get C (Cn := RX2) (T := TX2) (Nf := 12) (ci := 2) in2 1 0 l112 (v := .ref (a 2)) rfl rfl (by decide) rfl dX4_sound_4 ?_
  refine z_iload_n C 1 rfl rfl dX4_sound_7 ?_
  refine z_rVI C (c_X3_isSound E N hN (a 2) (a 3) (jDk (xJ X)) s) gX4_sound_X3_isSound (ci := 3) (q0 := 0) rfl rfl hyX3_isSound rfl ⟨rfl, rfl⟩ ⟨by decide, by decide⟩ ⟨by decide, by decide⟩ [2, 3] rfl (by decide) (st := []) (Nat.le_of_ble_eq_true rfl) dX4_sound_8 ?_ rfl
  exact ret _ _ _ _ (by first | rfl | (simp only [↓reduceIte]; done) | (simp only [↓reduceIte]; rfl) | (simp [↓reduceIte]; done)) rfl dX4_sound_11
abbrev rmX4_poke : Room := { frames := 1, cells := 0, slots := 0, locals := 23 }
theorem hyX4_poke : yX4_poke.cls = RX4 ∧ yX4_poke.cls ≠ "java/lang/invoke/MethodHandle" ∧ yX4_poke.cls ≠ "java/lang/invoke/VarHandle" ∧ (parseMethodDescriptor yX4_poke.desc).map (fun d => d.parameters.length) = some 3 := by decide +kernel
set_option maxHeartbeats 4000000 in
set_option maxRecDepth 3000 in
theorem c_X4_poke (E : GE) (N : Nat) (hN : 16 ≤ N ∧ N ≤ 64) (a : Nat → Nat) (X : XS) (s i v : Int32) : zI E yX4_poke wsX4_poke rmX4_poke [.ref (a 0), .int s, .int i, .int v] (wX E a N X) ((xPoke N X s i v).1) (wX E a N ((xPoke N X s i v).2)) := by
  refine zI_of (cc := cX4_poke) (maxL := 5) (ty := .boolean) (by decide) rfl (nb01 (by unfold xPoke; (repeat' split) <;> first | exact Or.inl rfl | exact Or.inr rfl)) (Nat.le_of_ble_eq_true rfl) ?_
  intro K C ret
  replace C : zC E K cX4_poke wsX4_poke RX4 rmX4_poke 5 := C
  have in2 : ∀ w ∈ wsX20, w ∈ wsX4_poke := fun w h => List.mem_cons_of_mem _ (List.mem_append_left _ (List.mem_append_right _ (h)))
  have in4 : ∀ w ∈ wsX40, w ∈ wsX4_poke := fun w h => List.mem_cons_of_mem _ (List.mem_append_left _ (List.mem_append_left _ (List.mem_append_right _ (h))))
  have l12 : zw K (.fieldLink RX4 12 "StoreLog3" "journal" "LStoreLog3$Journal;") := C.w (List.mem_cons_of_mem _ (List.mem_append_left _ (List.mem_append_left _ (List.mem_append_left _ (List.mem_of_getElem? (i := 0) rfl)))))
  have l112 : zw K (.fieldLink RX4 112 "StoreLog3$Journal" "disk" "LStoreLog3$Sectors;") := C.w (List.mem_cons_of_mem _ (List.mem_append_left _ (List.mem_append_left _ (List.mem_append_left _ (List.mem_of_getElem? (i := 1) rfl)))))
  show Z E K 0 0 (wX E a N X) 0 [(0, .ref (a 0)), (1, .int s), (2, .int i), (3, .int v)] []
  refine z_aload_n C 0 rfl rfl dX4_poke_0 ?_
  refine z_get C (Cn := RX4) (T := TX4) (Nf := 5) (ci := 4) in4 0 0 l12 (v := .ref (a 1)) rfl rfl (by decide) rfl dX4_poke_1 ?_
  refine z_get C (Cn := RX2) (T := TX2) (Nf := 12) (ci := 2) in2 1 0 l112 (v := .ref (a 2)) rfl rfl (by decide) rfl dX4_poke_4 ?_
  refine z_iload_n C 1 rfl rfl dX4_poke_7 ?_
  refine z_iload_n C 2 rfl rfl dX4_poke_8 ?_
  refine z_rVI C (c_X3_byteOf E N hN (a 2) (a 3) (jDk (xJ X)) s i) gX4_poke_X3_byteOf (ci := 3) (q0 := 0) rfl rfl hyX3_byteOf rfl ⟨rfl, rfl⟩ ⟨by decide, by decide⟩ ⟨by decide, by decide⟩ [2, 3] rfl (by decide) (st := []) (Nat.le_of_ble_eq_true rfl) dX4_poke_9 ?_ rfl
  refine z_istore C (lv' := [(4, .int (bOf N (jDk (xJ X)) s i)), (0, .ref (a 0)), (1, .int s), (2, .int i), (3, .int v)]) rfl (by decide) dX4_poke_12 ?_
  refine z_iload C 0 rfl dX4_poke_14 ?_
  refine z_iconst C (v := (-1)) (by decide) dX4_poke_16 ?_
  refine z_icmp_eq C (tgt := 32) dX4_poke_17 (by decide) (fun h17_1t => ?_) (fun h17_1f => ?_)
  · refine z_iconst C (v := 0) (by decide) dX4_poke_32 ?_
    exact ret _ _ _ _ (by first | rfl | (simp only [xPoke, if_pos h17_1t, ↓reduceIte]; done) | (simp only [xPoke, if_pos h17_1t, ↓reduceIte]; rfl) | (simp [xPoke, if_pos h17_1t, ↓reduceIte]; done)) (by first | rfl | (simp only [xPoke, if_pos h17_1t, ↓reduceIte]; done) | (simp only [xPoke, if_pos h17_1t, ↓reduceIte]; rfl) | (simp [xPoke, if_pos h17_1t, ↓reduceIte]; done)) dX4_poke_33
  · refine z_iload_n C 4 rfl rfl dX4_poke_20 ?_
    refine z_iconst C (v := 1) (by decide) dX4_poke_21 ?_
    refine z_icmp_lt C (tgt := 32) dX4_poke_22 (by decide) (fun h22_2t => ?_) (fun h22_2f => ?_)
    · refine z_iconst C (v := 0) (by decide) dX4_poke_32 ?_
      exact ret _ _ _ _ (by first | rfl | (simp only [xPoke, if_neg h17_1f, if_pos h22_2t, ↓reduceIte]; done) | (simp only [xPoke, if_neg h17_1f, if_pos h22_2t, ↓reduceIte]; rfl) | (simp [xPoke, if_neg h17_1f, if_pos h22_2t, ↓reduceIte]; done)) (by first | rfl | (simp only [xPoke, if_neg h17_1f, if_pos h22_2t, ↓reduceIte]; done) | (simp only [xPoke, if_neg h17_1f, if_pos h22_2t, ↓reduceIte]; rfl) | (simp [xPoke, if_neg h17_1f, if_pos h22_2t, ↓reduceIte]; done)) dX4_poke_33
    · refine z_iload_n C 4 rfl rfl dX4_poke_25 ?_
      refine z_sipush C (v := 255) (by decide) dX4_poke_26 ?_
      refine z_icmp_le C (tgt := 34) dX4_poke_29 (by decide) (fun h29_3t => ?_) (fun h29_3f => ?_)
      · refine z_aload_n C 1 rfl rfl dX4_poke_34 ?_
        refine z_get C (Cn := RX4) (T := TX4) (Nf := 5) (ci := 4) in4 0 0 l12 (v := .ref (a 1)) rfl rfl (by decide) rfl dX4_poke_35 ?_
        refine z_get C (Cn := RX2) (T := TX2) (Nf := 12) (ci := 2) in2 1 0 l112 (v := .ref (a 2)) rfl rfl (by decide) rfl dX4_poke_38 ?_
        refine z_iload_n C 2 rfl rfl dX4_poke_41 ?_
        refine z_iload_n C 3 rfl rfl dX4_poke_42 ?_
        refine z_iload C 0 rfl dX4_poke_43 ?_
        refine z_iload_n C 4 rfl rfl dX4_poke_45 ?_
        refine z_ixor C dX4_poke_46 ?_
        have ct1 := c_X3_setByte E N hN (a 2) (a 3) (jDk (xJ X)) s i ((bOf N (jDk (xJ X)) s i) ^^^ v)
        obtain ⟨fq2, hq47_2⟩ : ∃ z : Nat → Int32, (sB N (jDk (xJ X)) s i ((bOf N (jDk (xJ X)) s i) ^^^ v)) = z := ⟨_, rfl⟩
        rw [hq47_2] at ct1
        refine z_callVV C ct1 gX4_poke_X3_setByte (ci := 3) (q0 := 0) rfl rfl hyX3_setByte rfl ⟨rfl, rfl⟩ ⟨by decide, by decide⟩ ⟨by decide, by decide⟩ [2, 3] [0, 1, 4, 5, 6, 7, 8, 9, 10, 11, 12, 13, 14] [0, 1, 13, 14, 2, 3, 4, 5, 6, 7, 8, 9, 10, 11, 12] (wr := [((a 0), .inr (4, [.ref (a 1), .ref (a 9), .ref (a 13), .int (xDn X), .int (xCm X)])), ((a 1), .inr (2, [.ref (a 2), .ref (a 4), .ref (a 6), .ref (a 7), .ref (a 8), .int (jEn (xJ X)), .int (jWa (xJ X)), .int (jFw (xJ X)), .int (jSe (xJ X)), .int (jSc (xJ X)), .int (jFn (xJ X)), .int (jFp (xJ X))])), ((a 4), .inr (3, [.int (nI N), .ref (a 5)])), ((a 5), .inl (gB E, 32 * N, .inl (jMm (xJ X)))), ((a 6), .inl (gI E, 4, .inl (jEh (xJ X)))), ((a 7), .inl (gI E, 4, .inl (jEk (xJ X)))), ((a 8), .inl (gI E, 4, .inl (jEv (xJ X)))), ((a 9), .inr (0, [.ref (a 10), .ref (a 11), .ref (a 12), .int (dOp (xD X))])), ((a 10), .inl (gI E, 32, .inl (dCo (xD X)))), ((a 11), .inl (gI E, 32, .inl (dCh (xD X)))), ((a 12), .inl (gI E, 32, .inl (dHo (xD X)))), ((a 13), .inr (1, [.ref (a 14), .int (fFp (xF X)), .int (fPg (xF X)), .int (fRe (xF X))])), ((a 14), .inl (gZ E, 64, .inl (fTe (xF X))))]) (V' := (wX E a N (xsJ X (jsDk (xJ X) fq2)))) rfl rfl (by decide) (by decide) (by decide) rfl (by decide) (st := []) (Nat.le_of_ble_eq_true rfl) dX4_poke_47 ?_ rfl
        refine z_iconst C (v := 1) (by decide) dX4_poke_50 ?_
        exact ret _ _ _ _ (by first | rfl | (simp only [xPoke, if_neg h17_1f, if_neg h22_2f, if_pos h29_3t, hq47_2, ↓reduceIte]; done) | (simp only [xPoke, if_neg h17_1f, if_neg h22_2f, if_pos h29_3t, hq47_2, ↓reduceIte]; rfl) | (simp [xPoke, if_neg h17_1f, if_neg h22_2f, if_pos h29_3t, hq47_2, ↓reduceIte]; done)) (by first | rfl | (simp only [xPoke, if_neg h17_1f, if_neg h22_2f, if_pos h29_3t, hq47_2, ↓reduceIte]; done) | (simp only [xPoke, if_neg h17_1f, if_neg h22_2f, if_pos h29_3t, hq47_2, ↓reduceIte]; rfl) | (simp [xPoke, if_neg h17_1f, if_neg h22_2f, if_pos h29_3t, hq47_2, ↓reduceIte]; done)) dX4_poke_51
      · refine z_iconst C (v := 0) (by decide) dX4_poke_32 ?_
        exact ret _ _ _ _ (by first | rfl | (simp only [xPoke, if_neg h17_1f, if_neg h22_2f, if_neg h29_3f, ↓reduceIte]; done) | (simp only [xPoke, if_neg h17_1f, if_neg h22_2f, if_neg h29_3f, ↓reduceIte]; rfl) | (simp [xPoke, if_neg h17_1f, if_neg h22_2f, if_neg h29_3f, ↓reduceIte]; done)) (by first | rfl | (simp only [xPoke, if_neg h17_1f, if_neg h22_2f, if_neg h29_3f, ↓reduceIte]; done) | (simp only [xPoke, if_neg h17_1f, if_neg h22_2f, if_neg h29_3f, ↓reduceIte]; rfl) | (simp [xPoke, if_neg h17_1f, if_neg h22_2f, if_neg h29_3f, ↓reduceIte]; done)) dX4_poke_33
abbrev rmX4_count : Room := { frames := 2, cells := 0, slots := 0, locals := 42 }
theorem hyX4_count : yX4_count.cls = RX4 ∧ yX4_count.cls ≠ "java/lang/invoke/MethodHandle" ∧ yX4_count.cls ≠ "java/lang/invoke/VarHandle" ∧ (parseMethodDescriptor yX4_count.desc).map (fun d => d.parameters.length) = some 1 := by decide +kernel
set_option maxHeartbeats 4000000 in
set_option maxRecDepth 3000 in
theorem c_X4_count (E : GE) (N : Nat) (hN : 16 ≤ N ∧ N ≤ 64) (a : Nat → Nat) (X : XS) (q : Int32) : zI E yX4_count wsX4_count rmX4_count [.ref (a 0), .int q] (wX E a N X) (xCount N X q) (wX E a N X) := by
  refine zI_of (cc := cX4_count) (maxL := 2) (ty := .int) (by decide) rfl (vp_nar_int _) (Nat.le_of_ble_eq_true rfl) ?_
  intro K C ret
  replace C : zC E K cX4_count wsX4_count RX4 rmX4_count 2 := C
  have in4 : ∀ w ∈ wsX40, w ∈ wsX4_count := fun w h => List.mem_cons_of_mem _ (List.mem_append_left _ (List.mem_append_left _ (List.mem_append_left _ (List.mem_append_right _ (h)))))
  have l12 : zw K (.fieldLink RX4 12 "StoreLog3" "journal" "LStoreLog3$Journal;") := C.w (List.mem_cons_of_mem _ (List.mem_append_left _ (List.mem_append_left _ (List.mem_append_left _ (List.mem_append_left _ (List.mem_append_left _ (List.mem_of_getElem? (i := 1) rfl)))))))
  have l21 : zw K (.fieldLink RX4 21 "StoreLog3" "dictionary" "LStoreLog3$Dictionary;") := C.w (List.mem_cons_of_mem _ (List.mem_append_left _ (List.mem_append_left _ (List.mem_append_left _ (List.mem_append_left _ (List.mem_append_left _ (List.mem_of_getElem? (i := 2) rfl)))))))
  have l32 : zw K (.fieldLink RX4 32 "StoreLog3" "down" "Z") := C.w (List.mem_cons_of_mem _ (List.mem_append_left _ (List.mem_append_left _ (List.mem_append_left _ (List.mem_append_left _ (List.mem_append_left _ (List.mem_of_getElem? (i := 0) rfl)))))))
  have l70 : zw K (.fieldLink RX4 70 "StoreLog3" "commits" "I") := C.w (List.mem_cons_of_mem _ (List.mem_append_left _ (List.mem_append_left _ (List.mem_append_left _ (List.mem_append_left _ (List.mem_append_left _ (List.mem_of_getElem? (i := 3) rfl)))))))
  show Z E K 0 0 (wX E a N X) 0 [(0, .ref (a 0)), (1, .int q)] []
  refine z_aload_n C 0 rfl rfl dX4_count_0 ?_
  refine z_get C (Cn := RX4) (T := TX4) (Nf := 5) (ci := 4) in4 0 3 l32 (v := .int (xDn X)) rfl rfl (by decide) rfl dX4_count_1 ?_
  refine z_if_eq C (tgt := 10) dX4_count_4 (by decide) (fun h4_1t => ?_) (fun h4_1f => ?_)
  · refine z_iload_n C 1 rfl rfl dX4_count_10 ?_
    by_cases hs11_0 : q = 0
    · subst hs11_0
      refine z_swIn C (tgt := 52) (off := 41) (by decide) (by decide) (by decide) dX4_count_11 (by decide) ?_
      refine z_aload_n C 0 rfl rfl dX4_count_52 ?_
      refine z_get C (Cn := RX4) (T := TX4) (Nf := 5) (ci := 4) in4 0 0 l12 (v := .ref (a 1)) rfl rfl (by decide) rfl dX4_count_53 ?_
      refine z_rVI C (c_X2_lastSerial E N hN (fun i => a (i + 1)) (xJ X)) gX4_count_X2_lastSerial (ci := 2) (q0 := 0) rfl rfl hyX2_lastSerial rfl ⟨rfl, rfl⟩ ⟨by decide, by decide⟩ ⟨by decide, by decide⟩ [1, 2, 3, 4, 5, 6, 7, 8] rfl (by decide) (st := []) (Nat.le_of_ble_eq_true rfl) dX4_count_56 ?_ rfl
      exact ret _ _ _ _ (by first | (simp only [xCount, if_pos h4_1t, ↓reduceIte]; done) | (simp only [xCount, if_pos h4_1t, ↓reduceIte]; rfl)) rfl dX4_count_59
    by_cases hs11_1 : q = 1
    · subst hs11_1
      refine z_swIn C (tgt := 60) (off := 49) (by decide) (by decide) (by decide) dX4_count_11 (by decide) ?_
      refine z_aload_n C 0 rfl rfl dX4_count_60 ?_
      refine z_get C (Cn := RX4) (T := TX4) (Nf := 5) (ci := 4) in4 0 0 l12 (v := .ref (a 1)) rfl rfl (by decide) rfl dX4_count_61 ?_
      refine z_rVI C (c_X2_lastSector E N hN (fun i => a (i + 1)) (xJ X)) gX4_count_X2_lastSector (ci := 2) (q0 := 0) rfl rfl hyX2_lastSector rfl ⟨rfl, rfl⟩ ⟨by decide, by decide⟩ ⟨by decide, by decide⟩ [1, 2, 3, 4, 5, 6, 7, 8] rfl (by decide) (st := []) (Nat.le_of_ble_eq_true rfl) dX4_count_64 ?_ rfl
      exact ret _ _ _ _ (by first | (simp only [xCount, if_pos h4_1t, ↓reduceIte]; done) | (simp only [xCount, if_pos h4_1t, ↓reduceIte]; rfl)) rfl dX4_count_67
    by_cases hs11_2 : q = 2
    · subst hs11_2
      refine z_swIn C (tgt := 68) (off := 57) (by decide) (by decide) (by decide) dX4_count_11 (by decide) ?_
      refine z_aload_n C 0 rfl rfl dX4_count_68 ?_
      refine z_get C (Cn := RX4) (T := TX4) (Nf := 5) (ci := 4) in4 0 0 l12 (v := .ref (a 1)) rfl rfl (by decide) rfl dX4_count_69 ?_
      refine z_rVI C (c_X2_waiting E N hN (fun i => a (i + 1)) (xJ X)) gX4_count_X2_waiting (ci := 2) (q0 := 0) rfl rfl hyX2_waiting rfl ⟨rfl, rfl⟩ ⟨by decide, by decide⟩ ⟨by decide, by decide⟩ [1, 2, 3, 4, 5, 6, 7, 8] rfl (by decide) (st := []) (Nat.le_of_ble_eq_true rfl) dX4_count_72 ?_ rfl
      exact ret _ _ _ _ (by first | (simp only [xCount, if_pos h4_1t, ↓reduceIte]; done) | (simp only [xCount, if_pos h4_1t, ↓reduceIte]; rfl)) rfl dX4_count_75
    by_cases hs11_3 : q = 3
    · subst hs11_3
      refine z_swIn C (tgt := 76) (off := 65) (by decide) (by decide) (by decide) dX4_count_11 (by decide) ?_
      refine z_aload_n C 0 rfl rfl dX4_count_76 ?_
      refine z_get C (Cn := RX4) (T := TX4) (Nf := 5) (ci := 4) in4 0 0 l12 (v := .ref (a 1)) rfl rfl (by decide) rfl dX4_count_77 ?_
      refine z_rVI C (c_X2_entries E N hN (fun i => a (i + 1)) (xJ X)) gX4_count_X2_entries (ci := 2) (q0 := 0) rfl rfl hyX2_entries rfl ⟨rfl, rfl⟩ ⟨by decide, by decide⟩ ⟨by decide, by decide⟩ [1, 2, 3, 4, 5, 6, 7, 8] rfl (by decide) (st := []) (Nat.le_of_ble_eq_true rfl) dX4_count_80 ?_ rfl
      exact ret _ _ _ _ (by first | (simp only [xCount, if_pos h4_1t, ↓reduceIte]; done) | (simp only [xCount, if_pos h4_1t, ↓reduceIte]; rfl)) rfl dX4_count_83
    by_cases hs11_4 : q = 4
    · subst hs11_4
      refine z_swIn C (tgt := 84) (off := 73) (by decide) (by decide) (by decide) dX4_count_11 (by decide) ?_
      refine z_aload_n C 0 rfl rfl dX4_count_84 ?_
      refine z_get C (Cn := RX4) (T := TX4) (Nf := 5) (ci := 4) in4 0 0 l12 (v := .ref (a 1)) rfl rfl (by decide) rfl dX4_count_85 ?_
      refine z_rVI C (c_X2_needed E N hN (fun i => a (i + 1)) (xJ X)) gX4_count_X2_needed (ci := 2) (q0 := 0) rfl rfl hyX2_needed rfl ⟨rfl, rfl⟩ ⟨by decide, by decide⟩ ⟨by decide, by decide⟩ [1, 2, 3, 4, 5, 6, 7, 8] rfl (by decide) (st := []) (Nat.le_of_ble_eq_true rfl) dX4_count_88 ?_ rfl
      exact ret _ _ _ _ (by first | (simp only [xCount, if_pos h4_1t, ↓reduceIte]; done) | (simp only [xCount, if_pos h4_1t, ↓reduceIte]; rfl)) rfl dX4_count_91
    by_cases hs11_5 : q = 5
    · subst hs11_5
      refine z_swIn C (tgt := 92) (off := 81) (by decide) (by decide) (by decide) dX4_count_11 (by decide) ?_
      refine z_aload_n C 0 rfl rfl dX4_count_92 ?_
      refine z_get C (Cn := RX4) (T := TX4) (Nf := 5) (ci := 4) in4 0 1 l21 (v := .ref (a 9)) rfl rfl (by decide) rfl dX4_count_93 ?_
      refine z_rVI C (c_X0_openBits E (fun i => a (i + 9)) (xD X)) gX4_count_X0_openBits (ci := 0) (q0 := 0) rfl rfl hyX0_openBits rfl ⟨rfl, rfl⟩ ⟨by decide, by decide⟩ ⟨by decide, by decide⟩ [9, 10, 11, 12] rfl (by decide) (st := []) (Nat.le_of_ble_eq_true rfl) dX4_count_96 ?_ rfl
      exact ret _ _ _ _ (by first | (simp only [xCount, if_pos h4_1t, ↓reduceIte]; done) | (simp only [xCount, if_pos h4_1t, ↓reduceIte]; rfl)) rfl dX4_count_99
    by_cases hs11_6 : q = 6
    · subst hs11_6
      refine z_swIn C (tgt := 100) (off := 89) (by decide) (by decide) (by decide) dX4_count_11 (by decide) ?_
      refine z_aload_n C 0 rfl rfl dX4_count_100 ?_
      refine z_get C (Cn := RX4) (T := TX4) (Nf := 5) (ci := 4) in4 0 4 l70 (v := .int (xCm X)) rfl rfl (by decide) rfl dX4_count_101 ?_
      exact ret _ _ _ _ (by first | (simp only [xCount, if_pos h4_1t, ↓reduceIte]; done) | (simp only [xCount, if_pos h4_1t, ↓reduceIte]; rfl)) rfl dX4_count_104
    refine z_swOut C (tgt := 105) (zsw7 hs11_0 hs11_1 hs11_2 hs11_3 hs11_4 hs11_5 hs11_6) dX4_count_11 (by decide) ?_
    refine z_iconst C (v := (-1)) (by decide) dX4_count_105 ?_
    exact ret _ _ _ _ (by first | (simp only [xCount, if_pos h4_1t, if_neg hs11_0, if_neg hs11_1, if_neg hs11_2, if_neg hs11_3, if_neg hs11_4, if_neg hs11_5, if_neg hs11_6, ↓reduceIte]; done) | (simp only [xCount, if_pos h4_1t, if_neg hs11_0, if_neg hs11_1, if_neg hs11_2, if_neg hs11_3, if_neg hs11_4, if_neg hs11_5, if_neg hs11_6, ↓reduceIte]; rfl)) rfl dX4_count_106
  · refine z_bipush C (v := (-3)) (by decide) dX4_count_7 ?_
    exact ret _ _ _ _ (by first | (simp only [xCount, if_neg h4_1f, ↓reduceIte]; done) | (simp only [xCount, if_neg h4_1f, ↓reduceIte]; rfl)) rfl dX4_count_9
abbrev rmX4_holder : Room := { frames := 2, cells := 0, slots := 0, locals := 41 }
theorem hyX4_holder : yX4_holder.cls = RX4 ∧ yX4_holder.cls ≠ "java/lang/invoke/MethodHandle" ∧ yX4_holder.cls ≠ "java/lang/invoke/VarHandle" ∧ (parseMethodDescriptor yX4_holder.desc).map (fun d => d.parameters.length) = some 1 := by decide +kernel
set_option maxHeartbeats 4000000 in
set_option maxRecDepth 3000 in
theorem c_X4_holder (E : GE) (N : Nat) (hN : 16 ≤ N ∧ N ≤ 64) (a : Nat → Nat) (X : XS) (k : Int32) : zI E yX4_holder wsX4_holder rmX4_holder [.ref (a 0), .int k] (wX E a N X) (xHolder X k) (wX E a N X) := by
  refine zI_of (cc := cX4_holder) (maxL := 2) (ty := .int) (by decide) rfl (vp_nar_int _) (Nat.le_of_ble_eq_true rfl) ?_
  intro K C ret
  replace C : zC E K cX4_holder wsX4_holder RX4 rmX4_holder 2 := C
  have in4 : ∀ w ∈ wsX40, w ∈ wsX4_holder := fun w h => List.mem_cons_of_mem _ (List.mem_append_left _ (List.mem_append_right _ (h)))
  have l21 : zw K (.fieldLink RX4 21 "StoreLog3" "dictionary" "LStoreLog3$Dictionary;") := C.w (List.mem_cons_of_mem _ (List.mem_append_left _ (List.mem_append_left _ (List.mem_of_getElem? (i := 1) rfl))))
  have l32 : zw K (.fieldLink RX4 32 "StoreLog3" "down" "Z") := C.w (List.mem_cons_of_mem _ (List.mem_append_left _ (List.mem_append_left _ (List.mem_of_getElem? (i := 0) rfl))))
  show Z E K 0 0 (wX E a N X) 0 [(0, .ref (a 0)), (1, .int k)] []
  refine z_aload_n C 0 rfl rfl dX4_holder_0 ?_
  refine z_get C (Cn := RX4) (T := TX4) (Nf := 5) (ci := 4) in4 0 3 l32 (v := .int (xDn X)) rfl rfl (by decide) rfl dX4_holder_1 ?_
  refine z_if_eq C (tgt := 12) dX4_holder_4 (by decide) (fun h4_1t => ?_) (fun h4_1f => ?_)
  · refine z_aload_n C 0 rfl rfl dX4_holder_12 ?_
    refine z_get C (Cn := RX4) (T := TX4) (Nf := 5) (ci := 4) in4 0 1 l21 (v := .ref (a 9)) rfl rfl (by decide) rfl dX4_holder_13 ?_
    refine z_iload_n C 1 rfl rfl dX4_holder_16 ?_
    refine z_rVI C (c_X0_holderOf E (fun i => a (i + 9)) (xD X) k) gX4_holder_X0_holderOf (ci := 0) (q0 := 0) rfl rfl hyX0_holderOf rfl ⟨rfl, rfl⟩ ⟨by decide, by decide⟩ ⟨by decide, by decide⟩ [9, 10, 11, 12] rfl (by decide) (st := []) (Nat.le_of_ble_eq_true rfl) dX4_holder_17 ?_ rfl
    exact ret _ _ _ _ (by first | rfl | (simp only [xHolder, if_pos h4_1t, ↓reduceIte]; done) | (simp only [xHolder, if_pos h4_1t, ↓reduceIte]; rfl) | (simp [xHolder, if_pos h4_1t, ↓reduceIte]; done)) rfl dX4_holder_20
  · refine z_bipush C (v := (-3)) (by decide) dX4_holder_7 ?_
    refine z_goto C (tgt := 20) dX4_holder_9 (by decide) ?_
    exact ret _ _ _ _ (by first | rfl | (simp only [xHolder, if_neg h4_1f, ↓reduceIte]; done) | (simp only [xHolder, if_neg h4_1f, ↓reduceIte]; rfl) | (simp [xHolder, if_neg h4_1f, ↓reduceIte]; done)) rfl dX4_holder_20
abbrev rmX4_format : Room := { frames := 4, cells := 0, slots := 0, locals := 94 }
theorem hyX4_format : yX4_format.cls = RX4 ∧ yX4_format.cls ≠ "java/lang/invoke/MethodHandle" ∧ yX4_format.cls ≠ "java/lang/invoke/VarHandle" ∧ (parseMethodDescriptor yX4_format.desc).map (fun d => d.parameters.length) = some 0 := by decide +kernel
set_option maxHeartbeats 4000000 in
set_option maxRecDepth 3000 in
theorem c_X4_format (E : GE) (N : Nat) (hN : 16 ≤ N ∧ N ≤ 64) (a : Nat → Nat) (X : XS) : zI E yX4_format wsX4_format rmX4_format [.ref (a 0)] (wX E a N X) ((xForm N X).1) (wX E a N ((xForm N X).2)) := by
  refine zI_of (cc := cX4_format) (maxL := 2) (ty := .int) (by decide) rfl (vp_nar_int _) (Nat.le_of_ble_eq_true rfl) ?_
  intro K C ret
  replace C : zC E K cX4_format wsX4_format RX4 rmX4_format 2 := C
  have in4 : ∀ w ∈ wsX40, w ∈ wsX4_format := fun w h => List.mem_cons_of_mem _ (List.mem_append_left _ (List.mem_append_left _ (List.mem_append_left _ (List.mem_append_right _ (h)))))
  have l12 : zw K (.fieldLink RX4 12 "StoreLog3" "journal" "LStoreLog3$Journal;") := C.w (List.mem_cons_of_mem _ (List.mem_append_left _ (List.mem_append_left _ (List.mem_append_left _ (List.mem_append_left _ (List.mem_append_left _ (List.mem_of_getElem? (i := 2) rfl)))))))
  have l21 : zw K (.fieldLink RX4 21 "StoreLog3" "dictionary" "LStoreLog3$Dictionary;") := C.w (List.mem_cons_of_mem _ (List.mem_append_left _ (List.mem_append_left _ (List.mem_append_left _ (List.mem_append_left _ (List.mem_append_left _ (List.mem_of_getElem? (i := 3) rfl)))))))
  have l32 : zw K (.fieldLink RX4 32 "StoreLog3" "down" "Z") := C.w (List.mem_cons_of_mem _ (List.mem_append_left _ (List.mem_append_left _ (List.mem_append_left _ (List.mem_append_left _ (List.mem_append_left _ (List.mem_of_getElem? (i := 0) rfl)))))))
  have l70 : zw K (.fieldLink RX4 70 "StoreLog3" "commits" "I") := C.w (List.mem_cons_of_mem _ (List.mem_append_left _ (List.mem_append_left _ (List.mem_append_left _ (List.mem_append_left _ (List.mem_append_left _ (List.mem_of_getElem? (i := 1) rfl)))))))
  show Z E K 0 0 (wX E a N X) 0 [(0, .ref (a 0))] []
  refine z_aload_n C 0 rfl rfl dX4_format_0 ?_
  refine z_get C (Cn := RX4) (T := TX4) (Nf := 5) (ci := 4) in4 0 3 l32 (v := .int (xDn X)) rfl rfl (by decide) rfl dX4_format_1 ?_
  refine z_if_eq C (tgt := 11) dX4_format_4 (by decide) (fun h4_1t => ?_) (fun h4_1f => ?_)
  · refine z_aload_n C 0 rfl rfl dX4_format_11 ?_
    refine z_get C (Cn := RX4) (T := TX4) (Nf := 5) (ci := 4) in4 0 4 l70 (v := .int (xCm X)) rfl rfl (by decide) rfl dX4_format_12 ?_
    refine z_istore_n C (lv' := [(1, .int (xCm X)), (0, .ref (a 0))]) rfl rfl (by decide) dX4_format_15 ?_
    refine z_aload_n C 1 rfl rfl dX4_format_16 ?_
    refine z_get C (Cn := RX4) (T := TX4) (Nf := 5) (ci := 4) in4 0 0 l12 (v := .ref (a 1)) rfl rfl (by decide) rfl dX4_format_17 ?_
    have ct1 := c_X2_beginAnew E N hN (fun i => a (i + 1)) (xJ X)
    obtain ⟨Jq2, hq20_2⟩ : ∃ z : JS, (jBegin N (xJ X)) = z := ⟨_, rfl⟩
    rw [hq20_2] at ct1
    refine z_callVV C ct1 gX4_format_X2_beginAnew (ci := 2) (q0 := 0) rfl rfl hyX2_beginAnew rfl ⟨rfl, rfl⟩ ⟨by decide, by decide⟩ ⟨by decide, by decide⟩ [1, 2, 3, 4, 5, 6, 7, 8] [0, 9, 10, 11, 12, 13, 14] [0, 7, 8, 9, 10, 11, 12, 13, 14, 1, 2, 3, 4, 5, 6] (wr := [((a 0), .inr (4, [.ref (a 1), .ref (a 9), .ref (a 13), .int (xDn X), .int (xCm X)])), ((a 9), .inr (0, [.ref (a 10), .ref (a 11), .ref (a 12), .int (dOp (xD X))])), ((a 10), .inl (gI E, 32, .inl (dCo (xD X)))), ((a 11), .inl (gI E, 32, .inl (dCh (xD X)))), ((a 12), .inl (gI E, 32, .inl (dHo (xD X)))), ((a 13), .inr (1, [.ref (a 14), .int (fFp (xF X)), .int (fPg (xF X)), .int (fRe (xF X))])), ((a 14), .inl (gZ E, 64, .inl (fTe (xF X))))]) (V' := (wX E a N (xsJ X Jq2))) rfl rfl (by decide) (by decide) (by decide) rfl (by decide) (st := []) (Nat.le_of_ble_eq_true rfl) dX4_format_20 ?_ rfl
    refine z_aload_n C 1 rfl rfl dX4_format_23 ?_
    refine z_get C (Cn := RX4) (T := TX4) (Nf := 5) (ci := 4) in4 0 1 l21 (v := .ref (a 9)) rfl rfl (by decide) rfl dX4_format_24 ?_
    have ct3 := c_X0_clear E (fun i => a (i + 9)) (xD X)
    obtain ⟨Dq4, hq27_4⟩ : ∃ z : DS, (dClear (xD X)) = z := ⟨_, rfl⟩
    rw [hq27_4] at ct3
    refine z_callVV C ct3 gX4_format_X0_clear (ci := 0) (q0 := 0) rfl rfl hyX0_clear rfl ⟨rfl, rfl⟩ ⟨by decide, by decide⟩ ⟨by decide, by decide⟩ [9, 10, 11, 12] [0, 1, 2, 3, 4, 5, 6, 7, 8, 13, 14] [0, 1, 2, 3, 4, 5, 6, 7, 8, 11, 12, 13, 14, 9, 10] (wr := [((a 0), .inr (4, [.ref (a 1), .ref (a 9), .ref (a 13), .int (xDn X), .int (xCm X)])), ((a 1), .inr (2, [.ref (a 2), .ref (a 4), .ref (a 6), .ref (a 7), .ref (a 8), .int (jEn Jq2), .int (jWa Jq2), .int (jFw Jq2), .int (jSe Jq2), .int (jSc Jq2), .int (jFn Jq2), .int (jFp Jq2)])), ((a 2), .inr (3, [.int (nI N), .ref (a 3)])), ((a 3), .inl (gB E, 32 * N, .inl (jDk Jq2))), ((a 4), .inr (3, [.int (nI N), .ref (a 5)])), ((a 5), .inl (gB E, 32 * N, .inl (jMm Jq2))), ((a 6), .inl (gI E, 4, .inl (jEh Jq2))), ((a 7), .inl (gI E, 4, .inl (jEk Jq2))), ((a 8), .inl (gI E, 4, .inl (jEv Jq2))), ((a 13), .inr (1, [.ref (a 14), .int (fFp (xF X)), .int (fPg (xF X)), .int (fRe (xF X))])), ((a 14), .inl (gZ E, 64, .inl (fTe (xF X))))]) (V' := (wX E a N (xsD (xsJ X Jq2) Dq4))) rfl rfl (by decide) (by decide) (by decide) rfl (by decide) (st := []) (Nat.le_of_ble_eq_true rfl) dX4_format_27 ?_ rfl
    refine z_aload_n C 1 rfl rfl dX4_format_30 ?_
    refine z_iconst C (v := 0) (by decide) dX4_format_31 ?_
    refine z_put C (Cn := RX4) (T := TX4) (Nf := 5) (ci := 4) in4 0 4 l70 rfl rfl (by decide) tyX4 tyX4_ok nmX4 rfl rfl rfl (Nat.le_of_ble_eq_true rfl) (V' := (wX E a N (xsCm (xsD (xsJ X Jq2) Dq4) 0))) rfl dX4_format_32 ?_
    refine z_aload_n C 1 rfl rfl dX4_format_35 ?_
    refine z_iconst C (v := 0) (by decide) dX4_format_36 ?_
    refine z_put C (Cn := RX4) (T := TX4) (Nf := 5) (ci := 4) in4 0 3 l32 rfl rfl (by decide) tyX4 tyX4_ok nmX4 rfl rfl rfl (Nat.le_of_ble_eq_true rfl) (V' := (wX E a N (xsDn (xsCm (xsD (xsJ X Jq2) Dq4) 0) 0))) rfl dX4_format_37 ?_
    refine z_iload_n C 0 rfl rfl dX4_format_40 ?_
    exact ret _ _ _ _ (by first | rfl | (simp only [xForm, if_pos h4_1t, hq20_2, hq27_4, ↓reduceIte]; done) | (simp only [xForm, if_pos h4_1t, hq20_2, hq27_4, ↓reduceIte]; rfl) | (simp [xForm, if_pos h4_1t, hq20_2, hq27_4, ↓reduceIte]; done)) (by first | rfl | (simp only [xForm, if_pos h4_1t, hq20_2, hq27_4, ↓reduceIte]; done) | (simp only [xForm, if_pos h4_1t, hq20_2, hq27_4, ↓reduceIte]; rfl) | (simp [xForm, if_pos h4_1t, hq20_2, hq27_4, ↓reduceIte]; done)) dX4_format_41
  · refine z_iconst C (v := 0) (by decide) dX4_format_7 ?_
    refine z_goto C (tgt := 15) dX4_format_8 (by decide) ?_
    refine z_istore_n C (lv' := [(1, .int 0), (0, .ref (a 0))]) rfl rfl (by decide) dX4_format_15 ?_
    refine z_aload_n C 1 rfl rfl dX4_format_16 ?_
    refine z_get C (Cn := RX4) (T := TX4) (Nf := 5) (ci := 4) in4 0 0 l12 (v := .ref (a 1)) rfl rfl (by decide) rfl dX4_format_17 ?_
    have ct5 := c_X2_beginAnew E N hN (fun i => a (i + 1)) (xJ X)
    obtain ⟨Jq6, hq20_6⟩ : ∃ z : JS, (jBegin N (xJ X)) = z := ⟨_, rfl⟩
    rw [hq20_6] at ct5
    refine z_callVV C ct5 gX4_format_X2_beginAnew (ci := 2) (q0 := 0) rfl rfl hyX2_beginAnew rfl ⟨rfl, rfl⟩ ⟨by decide, by decide⟩ ⟨by decide, by decide⟩ [1, 2, 3, 4, 5, 6, 7, 8] [0, 9, 10, 11, 12, 13, 14] [0, 7, 8, 9, 10, 11, 12, 13, 14, 1, 2, 3, 4, 5, 6] (wr := [((a 0), .inr (4, [.ref (a 1), .ref (a 9), .ref (a 13), .int (xDn X), .int (xCm X)])), ((a 9), .inr (0, [.ref (a 10), .ref (a 11), .ref (a 12), .int (dOp (xD X))])), ((a 10), .inl (gI E, 32, .inl (dCo (xD X)))), ((a 11), .inl (gI E, 32, .inl (dCh (xD X)))), ((a 12), .inl (gI E, 32, .inl (dHo (xD X)))), ((a 13), .inr (1, [.ref (a 14), .int (fFp (xF X)), .int (fPg (xF X)), .int (fRe (xF X))])), ((a 14), .inl (gZ E, 64, .inl (fTe (xF X))))]) (V' := (wX E a N (xsJ X Jq6))) rfl rfl (by decide) (by decide) (by decide) rfl (by decide) (st := []) (Nat.le_of_ble_eq_true rfl) dX4_format_20 ?_ rfl
    refine z_aload_n C 1 rfl rfl dX4_format_23 ?_
    refine z_get C (Cn := RX4) (T := TX4) (Nf := 5) (ci := 4) in4 0 1 l21 (v := .ref (a 9)) rfl rfl (by decide) rfl dX4_format_24 ?_
    have ct7 := c_X0_clear E (fun i => a (i + 9)) (xD X)
    obtain ⟨Dq8, hq27_8⟩ : ∃ z : DS, (dClear (xD X)) = z := ⟨_, rfl⟩
    rw [hq27_8] at ct7
    refine z_callVV C ct7 gX4_format_X0_clear (ci := 0) (q0 := 0) rfl rfl hyX0_clear rfl ⟨rfl, rfl⟩ ⟨by decide, by decide⟩ ⟨by decide, by decide⟩ [9, 10, 11, 12] [0, 1, 2, 3, 4, 5, 6, 7, 8, 13, 14] [0, 1, 2, 3, 4, 5, 6, 7, 8, 11, 12, 13, 14, 9, 10] (wr := [((a 0), .inr (4, [.ref (a 1), .ref (a 9), .ref (a 13), .int (xDn X), .int (xCm X)])), ((a 1), .inr (2, [.ref (a 2), .ref (a 4), .ref (a 6), .ref (a 7), .ref (a 8), .int (jEn Jq6), .int (jWa Jq6), .int (jFw Jq6), .int (jSe Jq6), .int (jSc Jq6), .int (jFn Jq6), .int (jFp Jq6)])), ((a 2), .inr (3, [.int (nI N), .ref (a 3)])), ((a 3), .inl (gB E, 32 * N, .inl (jDk Jq6))), ((a 4), .inr (3, [.int (nI N), .ref (a 5)])), ((a 5), .inl (gB E, 32 * N, .inl (jMm Jq6))), ((a 6), .inl (gI E, 4, .inl (jEh Jq6))), ((a 7), .inl (gI E, 4, .inl (jEk Jq6))), ((a 8), .inl (gI E, 4, .inl (jEv Jq6))), ((a 13), .inr (1, [.ref (a 14), .int (fFp (xF X)), .int (fPg (xF X)), .int (fRe (xF X))])), ((a 14), .inl (gZ E, 64, .inl (fTe (xF X))))]) (V' := (wX E a N (xsD (xsJ X Jq6) Dq8))) rfl rfl (by decide) (by decide) (by decide) rfl (by decide) (st := []) (Nat.le_of_ble_eq_true rfl) dX4_format_27 ?_ rfl
    refine z_aload_n C 1 rfl rfl dX4_format_30 ?_
    refine z_iconst C (v := 0) (by decide) dX4_format_31 ?_
    refine z_put C (Cn := RX4) (T := TX4) (Nf := 5) (ci := 4) in4 0 4 l70 rfl rfl (by decide) tyX4 tyX4_ok nmX4 rfl rfl rfl (Nat.le_of_ble_eq_true rfl) (V' := (wX E a N (xsCm (xsD (xsJ X Jq6) Dq8) 0))) rfl dX4_format_32 ?_
    refine z_aload_n C 1 rfl rfl dX4_format_35 ?_
    refine z_iconst C (v := 0) (by decide) dX4_format_36 ?_
    refine z_put C (Cn := RX4) (T := TX4) (Nf := 5) (ci := 4) in4 0 3 l32 rfl rfl (by decide) tyX4 tyX4_ok nmX4 rfl rfl rfl (Nat.le_of_ble_eq_true rfl) (V' := (wX E a N (xsDn (xsCm (xsD (xsJ X Jq6) Dq8) 0) 0))) rfl dX4_format_37 ?_
    refine z_iload_n C 0 rfl rfl dX4_format_40 ?_
    exact ret _ _ _ _ (by first | rfl | (simp only [xForm, if_neg h4_1f, hq20_6, hq27_8, ↓reduceIte]; done) | (simp only [xForm, if_neg h4_1f, hq20_6, hq27_8, ↓reduceIte]; rfl) | (simp [xForm, if_neg h4_1f, hq20_6, hq27_8, ↓reduceIte]; done)) (by first | rfl | (simp only [xForm, if_neg h4_1f, hq20_6, hq27_8, ↓reduceIte]; done) | (simp only [xForm, if_neg h4_1f, hq20_6, hq27_8, ↓reduceIte]; rfl) | (simp [xForm, if_neg h4_1f, hq20_6, hq27_8, ↓reduceIte]; done)) dX4_format_41

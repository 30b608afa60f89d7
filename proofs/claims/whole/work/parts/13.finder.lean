/-! Part 13: the finder -/
theorem zclY {z : Int32} : z ≤ nI z.toNatClampNeg := by
  rw [Int32.le_iff_toInt_le]
  have h1 : z.toInt < 2 ^ 31 := Int32.toInt_lt z
  have h2 : z.toNatClampNeg = z.toInt.toNat := rfl
  rw [nI_toInt (by omega)]
  omega
theorem zclN {z : Int32} {j n : Nat} (h : j + (n + 1) = z.toNatClampNeg) : ¬ z ≤ nI j := by
  rw [Int32.le_iff_toInt_le]
  have h1 : z.toInt < 2 ^ 31 := Int32.toInt_lt z
  have h2 : z.toNatClampNeg = z.toInt.toNat := rfl
  rw [nI_toInt (by omega)]
  omega
theorem z10 : ((1 : Int32) = 0) = False := eq_false (by decide)
theorem z20 : ((2 : Int32) = 0) = False := eq_false (by decide)
theorem z21 : ((2 : Int32) = 1) = False := eq_false (by decide)
theorem zin64 {x : Int32} (h1 : ¬ x < 0) (h2 : ¬ (64 : Int32) ≤ x) : vp_in x 64 := by
  have a1 := znlt h1
  have a2 := znle h2
  exact zvin (by simpa using a1) (by simpa using a2)
def fIs (F : FS) (s : Int32) : Int32 := if s < 0 then 0 else if 64 ≤ s then 0 else if fTe F s.toNatClampNeg = 0 then 0 else 1
def ilL (N : Nat) (f : Nat → Int32) (s : Int32) : Nat → Nat → Int32
  | 0, _ => 1
  | n + 1, j => if isT (bOf N f s (6 + nI j * 5) >>> (2 &&& 31)) = 0 then 0 else if isK (bOf N f s (6 + nI j * 5 + 1)) = 0 then 0 else ilL N f s n (j + 1)
def isLg (N : Nat) (f : Nat → Int32) (s : Int32) : Int32 := if bOf N f s 0 = 1 then (if bOf N f s 5 < 1 then 0 else if bOf N f s 5 ≤ 4 then ilL N f s (bOf N f s 5).toNatClampNeg 0 else 0) else 0
def ipL (N : Nat) (f : Nat → Int32) (s : Int32) : Nat → Nat → Int32
  | 0, _ => if bOf N f s 27 ≤ bOf N f s 26 then 0 else 1
  | n + 1, j => if isK (bOf N f s (6 + nI j * 4)) = 0 then 0 else ipL N f s n (j + 1)
def isPg (N : Nat) (f : Nat → Int32) (s : Int32) : Int32 := if bOf N f s 0 = 2 then (if bOf N f s 5 ≤ 5 then ipL N f s (bOf N f s 5).toNatClampNeg 0 else 0) else 0
theorem ilL_01 (N : Nat) (f : Nat → Int32) (s : Int32) : ∀ n j, ilL N f s n j = 0 ∨ ilL N f s n j = 1 := by
  intro n
  induction n with
  | zero => intro j; exact Or.inr rfl
  | succ n ih =>
    intro j
    unfold ilL
    split
    · exact Or.inl rfl
    · split
      · exact Or.inl rfl
      · exact ih (j + 1)
theorem ipL_01 (N : Nat) (f : Nat → Int32) (s : Int32) : ∀ n j, ipL N f s n j = 0 ∨ ipL N f s n j = 1 := by
  intro n
  induction n with
  | zero =>
    intro j
    unfold ipL
    split
    · exact Or.inl rfl
    · exact Or.inr rfl
  | succ n ih =>
    intro j
    unfold ipL
    split
    · exact Or.inl rfl
    · exact ih (j + 1)
theorem nb01 {x : Int32} (h : x = 0 ∨ x = 1) : narrow .boolean (.int x) = .int x := by
  rcases h with h | h <;> (rw [h]; rfl)
theorem isLg_nb (N : Nat) (f : Nat → Int32) (s : Int32) : narrow .boolean (.int (isLg N f s)) = .int (isLg N f s) := by
  apply nb01
  unfold isLg
  split
  · split
    · exact Or.inl rfl
    · split
      · exact ilL_01 N f s _ _
      · exact Or.inl rfl
  · exact Or.inl rfl
theorem isPg_nb (N : Nat) (f : Nat → Int32) (s : Int32) : narrow .boolean (.int (isPg N f s)) = .int (isPg N f s) := by
  apply nb01
  unfold isPg
  split
  · split
    · exact ipL_01 N f s _ _
    · exact Or.inl rfl
  · exact Or.inl rfl
def rpL (N : Nat) (f : Nat → Int32) (s : Int32) : Nat → Nat → DS → DS
  | 0, _, D => D
  | n + 1, j, D => rpL N f s n (j + 1) (dSetC D (bOf N f s (6 + nI j * 4)) (nOf N f s (6 + nI j * 4 + 1) 3))
def rPage (N : Nat) (f : Nat → Int32) (s : Int32) (D : DS) : DS := rpL N f s (bOf N f s 5).toNatClampNeg 0 D
def goS (N : Nat) (f : Nat → Int32) (s : Int32) (j : Nat) (D : DS) : DS := if bOf N f s (6 + nI j * 5) &&& 3 = 0 then dChg D (bOf N f s (6 + nI j * 5) >>> (2 &&& 31)) (bOf N f s (6 + nI j * 5 + 1)) (nOf N f s (6 + nI j * 5 + 2) 3) else if bOf N f s (6 + nI j * 5) &&& 3 = 1 then dChg D (bOf N f s (6 + nI j * 5) >>> (2 &&& 31)) (bOf N f s (6 + nI j * 5 + 1)) (-1) else if bOf N f s (6 + nI j * 5) &&& 3 = 2 then (dClose D (bOf N f s (6 + nI j * 5) >>> (2 &&& 31)) 1).2 else (dClose D (bOf N f s (6 + nI j * 5) >>> (2 &&& 31)) 0).2
def goL (N : Nat) (f : Nat → Int32) (s : Int32) : Nat → Nat → DS → DS
  | 0, _, D => D
  | n + 1, j, D => goL N f s n (j + 1) (goS N f s j D)
def gLog (N : Nat) (f : Nat → Int32) (s : Int32) (D : DS) : DS := goL N f s (bOf N f s 5).toNatClampNeg 0 D
def tlS (N : Nat) (f : Nat → Int32) (s : Int32) : Int32 := if isLg N f s = 0 then (if isPg N f s = 0 then 0 else if isS N f s = 0 then 0 else 1) else if isS N f s = 0 then 0 else 1
def laL (N : Nat) (f te : Nat → Int32) : Nat → Nat → Int32
  | 0 => te
  | n + 1 => upd (laL N f te n) n (tlS N f (nI n))
def ppL (N : Nat) (f : Nat → Int32) (F : FS) (s : Int32) : Nat → Nat → Int32 → Int32
  | 0, _, _ => bOf N f s 27
  | n + 1, j, c => if fIs F c = 0 then 0 else if bOf N f c 0 = 2 then (if bOf N f c 26 = nI j then (if bOf N f c 27 = bOf N f s 27 then (if nOf N f c 1 4 = nOf N f s 1 4 + nI j then ppL N f F s n (j + 1) (bhd N c) else 0) else 0) else 0) else 0
def pgsF (N : Nat) (f : Nat → Int32) (F : FS) (s : Int32) : Int32 := ppL N f F s (bOf N f s 27).toNatClampNeg 0 s
def isLt (u v : Int32) : Int32 := if lg_cmp (Int32.toInt64 u &&& 4294967295) (Int32.toInt64 v &&& 4294967295) ≤ 0 then 0 else 1
def fcS (N : Nat) (f : Nat → Int32) (j : Nat) (F : FS) : FS := if pgsF N f F (nI j) ≤ 0 then F else if fPg F = 0 then fsPg (fsFp F (nI j)) (pgsF N f F (nI j)) else if isLt (nOf N f (nI j) 1 4) (nOf N f (fFp F) 1 4) = 0 then F else fsPg (fsFp F (nI j)) (pgsF N f F (nI j))
def fcL (N : Nat) (f : Nat → Int32) : Nat → Nat → FS → FS
  | 0, _, F => F
  | n + 1, j, F => fcL N f n (j + 1) (fcS N f j F)
def fFind (N : Nat) (f : Nat → Int32) (F : FS) : FS := fcL N f N 0 (fsPg (fsTe F (laL N f (fTe F) 64)) 0)
def fFound (N : Nat) (f : Nat → Int32) (F : FS) : Int32 := if fPg (fFind N f F) ≤ 0 then 0 else 1
def rdL (N : Nat) (f : Nat → Int32) : Nat → Int32 → Int32 × DS → Int32 × DS
  | 0, _, x => x
  | n + 1, s, x => rdL N f n (bhd N s) (s, rPage N f s x.2)
def rdAll (N : Nat) (f : Nat → Int32) (F : FS) (D : DS) : Int32 × DS := rdL N f (fPg F).toNatClampNeg (fFp F) (fRe F, D)
def grL (N : Nat) (f : Nat → Int32) : Nat → FS × DS → FS × DS
  | 0, x => x
  | n + 1, x => if fIs x.1 (bhd N (fRe x.1)) = 0 then x else if nOf N f (bhd N (fRe x.1)) 1 4 = nOf N f (fRe x.1) 1 4 + 1 then (if bOf N f (bhd N (fRe x.1)) 0 = 1 then grL N f n (fsRe x.1 (bhd N (fRe x.1)), gLog N f (bhd N (fRe x.1)) x.2) else grL N f n (fsRe x.1 (bhd N (fRe x.1)), x.2)) else x
def gRun (N : Nat) (f : Nat → Int32) (F : FS) (D : DS) : FS × DS := grL N f N (F, D)
abbrev rmX1_firstPage : Room := { frames := 0, cells := 0, slots := 0, locals := 0 }
theorem hyX1_firstPage : yX1_firstPage.cls = RX1 ∧ yX1_firstPage.cls ≠ "java/lang/invoke/MethodHandle" ∧ yX1_firstPage.cls ≠ "java/lang/invoke/VarHandle" ∧ (parseMethodDescriptor yX1_firstPage.desc).map (fun d => d.parameters.length) = some 0 := by decide +kernel
set_option maxHeartbeats 4000000 in
set_option maxRecDepth 3000 in
theorem c_X1_firstPage (E : GE) (a : Nat → Nat) (F : FS) : zI E yX1_firstPage wsX1_firstPage rmX1_firstPage [.ref (a 0)] (wF E a F) (fFp F) (wF E a F) := by
  refine zI_of (cc := cX1_firstPage) (maxL := 1) (ty := .int) (by decide) rfl (vp_nar_int _) (Nat.le_of_ble_eq_true rfl) ?_
  intro K C ret
  replace C : zC E K cX1_firstPage wsX1_firstPage RX1 rmX1_firstPage 1 := C
  have in1 : ∀ w ∈ wsX10, w ∈ wsX1_firstPage := fun w h => List.mem_cons_of_mem _ (List.mem_append_right _ (h))
  have l15 : zw K (.fieldLink RX1 15 "StoreLog3$Finder" "firstPage" "I") := C.w (List.mem_cons_of_mem _ (List.mem_append_left _ (List.mem_of_getElem? (i := 0) rfl)))
  show Z E K 0 0 (wF E a F) 0 [(0, .ref (a 0))] []
  refine z_aload_n C 0 rfl rfl dX1_firstPage_0 ?_
  refine z_get C (Cn := RX1) (T := TX1) (Nf := 4) (ci := 1) in1 0 1 l15 (v := .int (fFp F)) rfl rfl (by decide) rfl dX1_firstPage_1 ?_
  exact ret _ _ _ _ (by first | rfl | (simp only [↓reduceIte]; done) | (simp only [↓reduceIte]; rfl) | (simp [↓reduceIte]; done)) rfl dX1_firstPage_4
abbrev rmX1_runEnd : Room := { frames := 0, cells := 0, slots := 0, locals := 0 }
theorem hyX1_runEnd : yX1_runEnd.cls = RX1 ∧ yX1_runEnd.cls ≠ "java/lang/invoke/MethodHandle" ∧ yX1_runEnd.cls ≠ "java/lang/invoke/VarHandle" ∧ (parseMethodDescriptor yX1_runEnd.desc).map (fun d => d.parameters.length) = some 0 := by decide +kernel
set_option maxHeartbeats 4000000 in
set_option maxRecDepth 3000 in
theorem c_X1_runEnd (E : GE) (a : Nat → Nat) (F : FS) : zI E yX1_runEnd wsX1_runEnd rmX1_runEnd [.ref (a 0)] (wF E a F) (fRe F) (wF E a F) := by
  refine zI_of (cc := cX1_runEnd) (maxL := 1) (ty := .int) (by decide) rfl (vp_nar_int _) (Nat.le_of_ble_eq_true rfl) ?_
  intro K C ret
  replace C : zC E K cX1_runEnd wsX1_runEnd RX1 rmX1_runEnd 1 := C
  have in1 : ∀ w ∈ wsX10, w ∈ wsX1_runEnd := fun w h => List.mem_cons_of_mem _ (List.mem_append_right _ (h))
  have l19 : zw K (.fieldLink RX1 19 "StoreLog3$Finder" "runEnd" "I") := C.w (List.mem_cons_of_mem _ (List.mem_append_left _ (List.mem_of_getElem? (i := 0) rfl)))
  show Z E K 0 0 (wF E a F) 0 [(0, .ref (a 0))] []
  refine z_aload_n C 0 rfl rfl dX1_runEnd_0 ?_
  refine z_get C (Cn := RX1) (T := TX1) (Nf := 4) (ci := 1) in1 0 3 l19 (v := .int (fRe F)) rfl rfl (by decide) rfl dX1_runEnd_1 ?_
  exact ret _ _ _ _ (by first | rfl | (simp only [↓reduceIte]; done) | (simp only [↓reduceIte]; rfl) | (simp [↓reduceIte]; done)) rfl dX1_runEnd_4
abbrev rmX1_isTelling : Room := { frames := 0, cells := 0, slots := 0, locals := 0 }
theorem hyX1_isTelling : yX1_isTelling.cls = RX1 ∧ yX1_isTelling.cls ≠ "java/lang/invoke/MethodHandle" ∧ yX1_isTelling.cls ≠ "java/lang/invoke/VarHandle" ∧ (parseMethodDescriptor yX1_isTelling.desc).map (fun d => d.parameters.length) = some 1 := by decide +kernel
set_option maxHeartbeats 4000000 in
set_option maxRecDepth 3000 in
theorem c_X1_isTelling (E : GE) (a : Nat → Nat) (F : FS) (s : Int32) : zI E yX1_isTelling wsX1_isTelling rmX1_isTelling [.ref (a 0), .int s] (wF E a F) (fIs F s) (wF E a F) := by
  refine zI_of (cc := cX1_isTelling) (maxL := 2) (ty := .boolean) (by decide) rfl (by unfold fIs; (repeat' split) <;> rfl) (Nat.le_of_ble_eq_true rfl) ?_
  intro K C ret
  replace C : zC E K cX1_isTelling wsX1_isTelling RX1 rmX1_isTelling 2 := C
  have in1 : ∀ w ∈ wsX10, w ∈ wsX1_isTelling := fun w h => List.mem_cons_of_mem _ (List.mem_append_right _ (h))
  have l9 : zw K (.fieldLink RX1 9 "StoreLog3$Finder" "tells" "[Z") := C.w (List.mem_cons_of_mem _ (List.mem_append_left _ (List.mem_of_getElem? (i := 0) rfl)))
  show Z E K 0 0 (wF E a F) 0 [(0, .ref (a 0)), (1, .int s)] []
  refine z_iload_n C 1 rfl rfl dX1_isTelling_0 ?_
  refine z_if_lt C (tgt := 26) dX1_isTelling_1 (by decide) (fun h1_1 => ?_) (fun h1_1 => ?_)
  · refine z_iconst C (v := 0) (by decide) dX1_isTelling_26 ?_
    exact ret _ _ _ _ (by first | rfl | (simp only [fIs, h1_1, ↓reduceIte]; done) | (simp only [fIs, h1_1, ↓reduceIte]; rfl) | (simp [fIs, h1_1, ↓reduceIte]; done)) rfl dX1_isTelling_27
  · refine z_iload_n C 1 rfl rfl dX1_isTelling_4 ?_
    refine z_aload_n C 0 rfl rfl dX1_isTelling_5 ?_
    refine z_get C (Cn := RX1) (T := TX1) (Nf := 4) (ci := 1) in1 0 0 l9 (v := .ref (a 1)) rfl rfl (by decide) rfl dX1_isTelling_6 ?_
    refine z_zalen C 1 rfl (v := 64) rfl dX1_isTelling_9 ?_
    refine z_icmp_ge C (tgt := 26) dX1_isTelling_10 (by decide) (fun h10_2 => ?_) (fun h10_2 => ?_)
    · refine z_iconst C (v := 0) (by decide) dX1_isTelling_26 ?_
      exact ret _ _ _ _ (by first | rfl | (simp only [fIs, h1_1, h10_2, ↓reduceIte]; done) | (simp only [fIs, h1_1, h10_2, ↓reduceIte]; rfl) | (simp [fIs, h1_1, h10_2, ↓reduceIte]; done)) rfl dX1_isTelling_27
    · refine z_aload_n C 0 rfl rfl dX1_isTelling_13 ?_
      refine z_get C (Cn := RX1) (T := TX1) (Nf := 4) (ci := 1) in1 0 0 l9 (v := .ref (a 1)) rfl rfl (by decide) rfl dX1_isTelling_14 ?_
      refine z_iload_n C 1 rfl rfl dX1_isTelling_17 ?_
      refine z_zald C 1 rfl (zin64 h1_1 h10_2) (v := ((fTe F) s.toNatClampNeg)) rfl dX1_isTelling_18 ?_
      refine z_if_eq C (tgt := 26) dX1_isTelling_19 (by decide) (fun h19_3 => ?_) (fun h19_3 => ?_)
      · refine z_iconst C (v := 0) (by decide) dX1_isTelling_26 ?_
        exact ret _ _ _ _ (by first | rfl | (simp only [fIs, h1_1, h10_2, h19_3, ↓reduceIte]; done) | (simp only [fIs, h1_1, h10_2, h19_3, ↓reduceIte]; rfl) | (simp [fIs, h1_1, h10_2, h19_3, ↓reduceIte]; done)) rfl dX1_isTelling_27
      · refine z_iconst C (v := 1) (by decide) dX1_isTelling_22 ?_
        refine z_goto C (tgt := 27) dX1_isTelling_23 (by decide) ?_
        exact ret _ _ _ _ (by first | rfl | (simp only [fIs, h1_1, h10_2, h19_3, ↓reduceIte]; done) | (simp only [fIs, h1_1, h10_2, h19_3, ↓reduceIte]; rfl) | (simp [fIs, h1_1, h10_2, h19_3, ↓reduceIte]; done)) rfl dX1_isTelling_27
abbrev rmX1_isLater : Room := { frames := 0, cells := 0, slots := 0, locals := 0 }
theorem hyX1_isLater : yX1_isLater.cls = RX1 ∧ yX1_isLater.cls ≠ "java/lang/invoke/MethodHandle" ∧ yX1_isLater.cls ≠ "java/lang/invoke/VarHandle" ∧ (parseMethodDescriptor yX1_isLater.desc).map (fun d => d.parameters.length) = some 2 := by decide +kernel
set_option maxHeartbeats 4000000 in
set_option maxRecDepth 3000 in
theorem c_X1_isLater (E : GE) (u v : Int32) : zI E yX1_isLater wsX1_isLater rmX1_isLater [.int u, .int v] [] (isLt u v) [] := by
  refine zI_of (cc := cX1_isLater) (maxL := 2) (ty := .boolean) (by decide) rfl (by unfold isLt; (repeat' split) <;> rfl) (Nat.le_of_ble_eq_true rfl) ?_
  intro K C ret
  replace C : zC E K cX1_isLater wsX1_isLater RX1 rmX1_isLater 2 := C
  have l75 : zw K (.constantLong RX1 75 (4294967295)) := C.w (List.mem_cons_of_mem _ (List.mem_of_getElem? (i := 0) rfl))
  show Z E K 0 0 [] 0 [(0, .int u), (1, .int v)] []
  refine z_iload_n C 0 rfl rfl dX1_isLater_0 ?_
  refine z_i2l C (v := (Int32.toInt64 u)) rfl dX1_isLater_1 ?_
  refine z_ldc2 C l75 dX1_isLater_2 ?_
  refine z_land C dX1_isLater_5 ?_
  refine z_iload_n C 1 rfl rfl dX1_isLater_6 ?_
  refine z_i2l C (v := (Int32.toInt64 v)) rfl dX1_isLater_7 ?_
  refine z_ldc2 C l75 dX1_isLater_8 ?_
  refine z_land C dX1_isLater_11 ?_
  refine z_lcmp C dX1_isLater_12 ?_
  refine z_if_le C (tgt := 20) dX1_isLater_13 (by decide) (fun h13_1 => ?_) (fun h13_1 => ?_)
  · refine z_iconst C (v := 0) (by decide) dX1_isLater_20 ?_
    exact ret _ _ _ _ (by first | rfl | (simp only [isLt, h13_1, ↓reduceIte]; done) | (simp only [isLt, h13_1, ↓reduceIte]; rfl) | (simp [isLt, h13_1, ↓reduceIte]; done)) rfl dX1_isLater_21
  · refine z_iconst C (v := 1) (by decide) dX1_isLater_16 ?_
    refine z_goto C (tgt := 21) dX1_isLater_17 (by decide) ?_
    exact ret _ _ _ _ (by first | rfl | (simp only [isLt, h13_1, ↓reduceIte]; done) | (simp only [isLt, h13_1, ↓reduceIte]; rfl) | (simp [isLt, h13_1, ↓reduceIte]; done)) rfl dX1_isLater_21
abbrev rmX1_isLog : Room := { frames := 1, cells := 0, slots := 0, locals := 22 }
theorem hyX1_isLog : yX1_isLog.cls = RX1 ∧ yX1_isLog.cls ≠ "java/lang/invoke/MethodHandle" ∧ yX1_isLog.cls ≠ "java/lang/invoke/VarHandle" ∧ (parseMethodDescriptor yX1_isLog.desc).map (fun d => d.parameters.length) = some 2 := by decide +kernel
set_option maxHeartbeats 4000000 in
set_option maxRecDepth 3000 in
theorem c_X1_isLog (E : GE) (N : Nat) (hN : 16 ≤ N ∧ N ≤ 64) (b1 b2 : Nat) (f : Nat → Int32) (s : Int32) : zI E yX1_isLog wsX1_isLog rmX1_isLog [.ref b1, .int s] (wS E b1 b2 N f) (isLg N f s) (wS E b1 b2 N f) := by
  refine zI_of (cc := cX1_isLog) (maxL := 5) (ty := .boolean) (by decide) rfl (isLg_nb N f s) (Nat.le_of_ble_eq_true rfl) ?_
  intro K C ret
  replace C : zC E K cX1_isLog wsX1_isLog RX1 rmX1_isLog 5 := C
  show Z E K 0 0 (wS E b1 b2 N f) 0 [(0, .ref b1), (1, .int s)] []
  refine z_aload_n C 0 rfl rfl dX1_isLog_0 ?_
  refine z_iload_n C 1 rfl rfl dX1_isLog_1 ?_
  refine z_iconst C (v := 5) (by decide) dX1_isLog_2 ?_
  refine z_rVI C (c_X3_byteOf E N hN b1 b2 f s 5) gX1_isLog_X3_byteOf (ci := 3) (q0 := 0) rfl rfl hyX3_byteOf rfl ⟨rfl, rfl⟩ ⟨by decide, by decide⟩ ⟨by decide, by decide⟩ [0, 1] rfl (by decide) (st := []) (Nat.le_of_ble_eq_true rfl) dX1_isLog_3 ?_ rfl
  refine z_istore_n C (lv' := [(2, .int (bOf N f s 5)), (0, .ref b1), (1, .int s)]) rfl rfl (by decide) dX1_isLog_6 ?_
  refine z_aload_n C 1 rfl rfl dX1_isLog_7 ?_
  refine z_iload_n C 2 rfl rfl dX1_isLog_8 ?_
  refine z_iconst C (v := 0) (by decide) dX1_isLog_9 ?_
  refine z_rVI C (c_X3_byteOf E N hN b1 b2 f s 0) gX1_isLog_X3_byteOf (ci := 3) (q0 := 0) rfl rfl hyX3_byteOf rfl ⟨rfl, rfl⟩ ⟨by decide, by decide⟩ ⟨by decide, by decide⟩ [0, 1] rfl (by decide) (st := []) (Nat.le_of_ble_eq_true rfl) dX1_isLog_10 ?_ rfl
  refine z_iconst C (v := 1) (by decide) dX1_isLog_13 ?_
  refine z_icmp_ne C (tgt := 27) dX1_isLog_14 (by decide) (fun h14_1 => ?_) (fun h14_1 => ?_)
  · refine z_iconst C (v := 0) (by decide) dX1_isLog_27 ?_
    exact ret _ _ _ _ (by first | rfl | (simp only [isLg, h14_1, ↓reduceIte]; done) | (simp only [isLg, h14_1, ↓reduceIte]; rfl) | (simp [isLg, h14_1, ↓reduceIte]; done)) rfl dX1_isLog_28
  · refine z_iload_n C 0 rfl rfl dX1_isLog_17 ?_
    refine z_iconst C (v := 1) (by decide) dX1_isLog_18 ?_
    refine z_icmp_lt C (tgt := 27) dX1_isLog_19 (by decide) (fun h19_2 => ?_) (fun h19_2 => ?_)
    · refine z_iconst C (v := 0) (by decide) dX1_isLog_27 ?_
      exact ret _ _ _ _ (by first | rfl | (simp only [isLg, h14_1, h19_2, ↓reduceIte]; done) | (simp only [isLg, h14_1, h19_2, ↓reduceIte]; rfl) | (simp [isLg, h14_1, h19_2, ↓reduceIte]; done)) rfl dX1_isLog_28
    · refine z_iload_n C 0 rfl rfl dX1_isLog_22 ?_
      refine z_iconst C (v := 4) (by decide) dX1_isLog_23 ?_
      refine z_icmp_le C (tgt := 29) dX1_isLog_24 (by decide) (fun h24_3 => ?_) (fun h24_3 => ?_)
      · refine z_iconst C (v := 0) (by decide) dX1_isLog_29 ?_
        refine z_istore_n C (lv' := [(3, .int 0), (2, .int (bOf N f s 5)), (0, .ref b1), (1, .int s)]) rfl rfl (by decide) dX1_isLog_30 ?_
        have loop31 : ∀ (n j : Nat), j + n = (bOf N f s 5).toNatClampNeg → ilL N f s n j = ilL N f s (bOf N f s 5).toNatClampNeg 0 → Z E K 0 0 (wS E b1 b2 N f) 31 [(0, .ref b1), (1, .int s), (2, .int (bOf N f s 5)), (3, .int (nI j))] [] := by
          intro n
          induction n with
          | zero => 
            intro j hj hT
            have hjB : j = (bOf N f s 5).toNatClampNeg := by omega
            subst hjB
            refine z_iload_n C 3 rfl rfl dX1_isLog_31 ?_
            refine z_iload_n C 2 rfl rfl dX1_isLog_32 ?_
            refine z_icmp_ge C (tgt := 82) dX1_isLog_33 (by decide) (fun h33_4 => ?_) (fun h33_4 => absurd zclY h33_4)
            refine z_iconst C (v := 1) (by decide) dX1_isLog_82 ?_
            exact ret _ _ _ _ (by simp only [isLg, h14_1, h19_2, h24_3, ↓reduceIte]; rw [← hT]; first | rfl | (simp only [ilL, h33_4, ↓reduceIte]; done)) rfl dX1_isLog_83
          | succ n ih31 => 
            intro j hj hT
            refine z_iload_n C 3 rfl rfl dX1_isLog_31 ?_
            refine z_iload_n C 2 rfl rfl dX1_isLog_32 ?_
            refine z_icmp_ge C (tgt := 82) dX1_isLog_33 (by decide) (fun h33_5 => absurd h33_5 (zclN hj)) (fun h33_5 => ?_)
            refine z_bipush C (v := 6) (by decide) dX1_isLog_36 ?_
            refine z_iload_n C 3 rfl rfl dX1_isLog_38 ?_
            refine z_iconst C (v := 5) (by decide) dX1_isLog_39 ?_
            refine z_imul C dX1_isLog_40 ?_
            refine z_iadd C dX1_isLog_41 ?_
            refine z_istore C (lv' := [(4, .int (6 + ((nI j) * 5))), (0, .ref b1), (1, .int s), (2, .int (bOf N f s 5)), (3, .int (nI j))]) rfl (by decide) dX1_isLog_42 ?_
            refine z_aload_n C 1 rfl rfl dX1_isLog_44 ?_
            refine z_iload_n C 2 rfl rfl dX1_isLog_45 ?_
            refine z_iload C 0 rfl dX1_isLog_46 ?_
            refine z_rVI C (c_X3_byteOf E N hN b1 b2 f s (6 + ((nI j) * 5))) gX1_isLog_X3_byteOf (ci := 3) (q0 := 0) rfl rfl hyX3_byteOf rfl ⟨rfl, rfl⟩ ⟨by decide, by decide⟩ ⟨by decide, by decide⟩ [0, 1] rfl (by decide) (st := []) (Nat.le_of_ble_eq_true rfl) dX1_isLog_48 ?_ rfl
            refine z_iconst C (v := 2) (by decide) dX1_isLog_51 ?_
            refine z_ishr C dX1_isLog_52 ?_
            refine z_rNI C (c_X4_isTransaction E ((bOf N f s (6 + ((nI j) * 5))) >>> (2 &&& 31))) gX1_isLog_X4_isTransaction_n77 (fun _ h => h.2.2.2.2.1) (C.w (List.mem_cons_of_mem _ (List.mem_append_left _ (List.mem_of_getElem? (i := 8) rfl)))) (C.w (List.mem_cons_of_mem _ (List.mem_append_left _ (List.mem_of_getElem? (i := 7) rfl)))) hyX4_isTransaction.2 rfl ⟨rfl, rfl⟩ ⟨by decide, by decide⟩ ⟨by decide, by decide⟩ [] rfl (by decide) (st := []) (Nat.le_of_ble_eq_true rfl) dX1_isLog_53 ?_ rfl
            refine z_if_eq C (tgt := 74) dX1_isLog_56 (by decide) (fun h56_6 => ?_) (fun h56_6 => ?_)
            · refine z_iconst C (v := 0) (by decide) dX1_isLog_74 ?_
              exact ret _ _ _ _ (by simp only [isLg, h14_1, h19_2, h24_3, ↓reduceIte]; rw [← hT]; first | rfl | (simp only [ilL, h33_5, h56_6, ↓reduceIte]; done)) rfl dX1_isLog_75
            · refine z_aload_n C 1 rfl rfl dX1_isLog_59 ?_
              refine z_iload_n C 2 rfl rfl dX1_isLog_60 ?_
              refine z_iload C 0 rfl dX1_isLog_61 ?_
              refine z_iconst C (v := 1) (by decide) dX1_isLog_63 ?_
              refine z_iadd C dX1_isLog_64 ?_
              refine z_rVI C (c_X3_byteOf E N hN b1 b2 f s ((6 + ((nI j) * 5)) + 1)) gX1_isLog_X3_byteOf (ci := 3) (q0 := 0) rfl rfl hyX3_byteOf rfl ⟨rfl, rfl⟩ ⟨by decide, by decide⟩ ⟨by decide, by decide⟩ [0, 1] rfl (by decide) (st := []) (Nat.le_of_ble_eq_true rfl) dX1_isLog_65 ?_ rfl
              refine z_rNI C (c_X4_isKey E (bOf N f s ((6 + ((nI j) * 5)) + 1))) gX1_isLog_X4_isKey_n80 (fun _ h => h.2.2.2.2.2) (C.w (List.mem_cons_of_mem _ (List.mem_append_left _ (List.mem_of_getElem? (i := 8) rfl)))) (C.w (List.mem_cons_of_mem _ (List.mem_append_left _ (List.mem_of_getElem? (i := 10) rfl)))) hyX4_isKey.2 rfl ⟨rfl, rfl⟩ ⟨by decide, by decide⟩ ⟨by decide, by decide⟩ [] rfl (by decide) (st := []) (Nat.le_of_ble_eq_true rfl) dX1_isLog_68 ?_ rfl
              refine z_if_ne C (tgt := 76) dX1_isLog_71 (by decide) (fun h71_7 => ?_) (fun h71_7 => ?_)
              · refine z_iinc C 4 rfl (v := (nI (j + 1))) (zinc _) (lv' := [(3, .int (nI (j + 1))), (4, .int (6 + ((nI j) * 5))), (0, .ref b1), (1, .int s), (2, .int (bOf N f s 5))]) rfl (by decide) dX1_isLog_76 ?_
                refine z_goto C (tgt := 31) dX1_isLog_79 (by decide) ?_
                refine z_lv (lv' := [(0, .ref b1), (1, .int s), (2, .int (bOf N f s 5)), (3, .int (nI (j + 1)))]) [2, 3, 4, 0] rfl ?_
                exact ih31 (j + 1) (by omega) (by rw [← hT]; simp only [ilL, h14_1, h19_2, h24_3, h33_5, h56_6, h71_7, ↓reduceIte])
              · refine z_iconst C (v := 0) (by decide) dX1_isLog_74 ?_
                exact ret _ _ _ _ (by simp only [isLg, h14_1, h19_2, h24_3, ↓reduceIte]; rw [← hT]; first | rfl | (simp only [ilL, h33_5, h56_6, h71_7, ↓reduceIte]; done)) rfl dX1_isLog_75
        refine z_lv (lv' := [(0, .ref b1), (1, .int s), (2, .int (bOf N f s 5)), (3, .int 0)]) [2, 3, 1, 0] rfl ?_
        exact loop31 (bOf N f s 5).toNatClampNeg 0  (by omega) rfl
      · refine z_iconst C (v := 0) (by decide) dX1_isLog_27 ?_
        exact ret _ _ _ _ (by first | rfl | (simp only [isLg, h14_1, h19_2, h24_3, ↓reduceIte]; done) | (simp only [isLg, h14_1, h19_2, h24_3, ↓reduceIte]; rfl) | (simp [isLg, h14_1, h19_2, h24_3, ↓reduceIte]; done)) rfl dX1_isLog_28
abbrev rmX1_isPage : Room := { frames := 1, cells := 0, slots := 0, locals := 22 }
theorem hyX1_isPage : yX1_isPage.cls = RX1 ∧ yX1_isPage.cls ≠ "java/lang/invoke/MethodHandle" ∧ yX1_isPage.cls ≠ "java/lang/invoke/VarHandle" ∧ (parseMethodDescriptor yX1_isPage.desc).map (fun d => d.parameters.length) = some 2 := by decide +kernel
set_option maxHeartbeats 4000000 in
set_option maxRecDepth 3000 in
theorem c_X1_isPage (E : GE) (N : Nat) (hN : 16 ≤ N ∧ N ≤ 64) (b1 b2 : Nat) (f : Nat → Int32) (s : Int32) : zI E yX1_isPage wsX1_isPage rmX1_isPage [.ref b1, .int s] (wS E b1 b2 N f) (isPg N f s) (wS E b1 b2 N f) := by
  refine zI_of (cc := cX1_isPage) (maxL := 4) (ty := .boolean) (by decide) rfl (isPg_nb N f s) (Nat.le_of_ble_eq_true rfl) ?_
  intro K C ret
  replace C : zC E K cX1_isPage wsX1_isPage RX1 rmX1_isPage 4 := C
  show Z E K 0 0 (wS E b1 b2 N f) 0 [(0, .ref b1), (1, .int s)] []
  refine z_aload_n C 0 rfl rfl dX1_isPage_0 ?_
  refine z_iload_n C 1 rfl rfl dX1_isPage_1 ?_
  refine z_iconst C (v := 5) (by decide) dX1_isPage_2 ?_
  refine z_rVI C (c_X3_byteOf E N hN b1 b2 f s 5) gX1_isPage_X3_byteOf (ci := 3) (q0 := 0) rfl rfl hyX3_byteOf rfl ⟨rfl, rfl⟩ ⟨by decide, by decide⟩ ⟨by decide, by decide⟩ [0, 1] rfl (by decide) (st := []) (Nat.le_of_ble_eq_true rfl) dX1_isPage_3 ?_ rfl
  refine z_istore_n C (lv' := [(2, .int (bOf N f s 5)), (0, .ref b1), (1, .int s)]) rfl rfl (by decide) dX1_isPage_6 ?_
  refine z_aload_n C 1 rfl rfl dX1_isPage_7 ?_
  refine z_iload_n C 2 rfl rfl dX1_isPage_8 ?_
  refine z_iconst C (v := 0) (by decide) dX1_isPage_9 ?_
  refine z_rVI C (c_X3_byteOf E N hN b1 b2 f s 0) gX1_isPage_X3_byteOf (ci := 3) (q0 := 0) rfl rfl hyX3_byteOf rfl ⟨rfl, rfl⟩ ⟨by decide, by decide⟩ ⟨by decide, by decide⟩ [0, 1] rfl (by decide) (st := []) (Nat.le_of_ble_eq_true rfl) dX1_isPage_10 ?_ rfl
  refine z_iconst C (v := 2) (by decide) dX1_isPage_13 ?_
  refine z_icmp_ne C (tgt := 22) dX1_isPage_14 (by decide) (fun h14_1 => ?_) (fun h14_1 => ?_)
  · refine z_iconst C (v := 0) (by decide) dX1_isPage_22 ?_
    exact ret _ _ _ _ (by first | rfl | (simp only [isPg, h14_1, ↓reduceIte]; done) | (simp only [isPg, h14_1, ↓reduceIte]; rfl) | (simp [isPg, h14_1, ↓reduceIte]; done)) rfl dX1_isPage_23
  · refine z_iload_n C 0 rfl rfl dX1_isPage_17 ?_
    refine z_iconst C (v := 5) (by decide) dX1_isPage_18 ?_
    refine z_icmp_le C (tgt := 24) dX1_isPage_19 (by decide) (fun h19_2 => ?_) (fun h19_2 => ?_)
    · refine z_iconst C (v := 0) (by decide) dX1_isPage_24 ?_
      refine z_istore_n C (lv' := [(3, .int 0), (2, .int (bOf N f s 5)), (0, .ref b1), (1, .int s)]) rfl rfl (by decide) dX1_isPage_25 ?_
      have loop26 : ∀ (n j : Nat), j + n = (bOf N f s 5).toNatClampNeg → ipL N f s n j = ipL N f s (bOf N f s 5).toNatClampNeg 0 → Z E K 0 0 (wS E b1 b2 N f) 26 [(0, .ref b1), (1, .int s), (2, .int (bOf N f s 5)), (3, .int (nI j))] [] := by
        intro n
        induction n with
        | zero => 
          intro j hj hT
          have hjB : j = (bOf N f s 5).toNatClampNeg := by omega
          subst hjB
          refine z_iload_n C 3 rfl rfl dX1_isPage_26 ?_
          refine z_iload_n C 2 rfl rfl dX1_isPage_27 ?_
          refine z_icmp_ge C (tgt := 56) dX1_isPage_28 (by decide) (fun h28_3 => ?_) (fun h28_3 => absurd zclY h28_3)
          refine z_aload_n C 0 rfl rfl dX1_isPage_56 ?_
          refine z_iload_n C 1 rfl rfl dX1_isPage_57 ?_
          refine z_bipush C (v := 26) (by decide) dX1_isPage_58 ?_
          refine z_rVI C (c_X3_byteOf E N hN b1 b2 f s 26) gX1_isPage_X3_byteOf (ci := 3) (q0 := 0) rfl rfl hyX3_byteOf rfl ⟨rfl, rfl⟩ ⟨by decide, by decide⟩ ⟨by decide, by decide⟩ [0, 1] rfl (by decide) (st := []) (Nat.le_of_ble_eq_true rfl) dX1_isPage_60 ?_ rfl
          refine z_aload_n C 0 rfl rfl dX1_isPage_63 ?_
          refine z_iload_n C 1 rfl rfl dX1_isPage_64 ?_
          refine z_bipush C (v := 27) (by decide) dX1_isPage_65 ?_
          refine z_rVI C (c_X3_byteOf E N hN b1 b2 f s 27) gX1_isPage_X3_byteOf (ci := 3) (q0 := 0) rfl rfl hyX3_byteOf rfl ⟨rfl, rfl⟩ ⟨by decide, by decide⟩ ⟨by decide, by decide⟩ [0, 1] rfl (by decide) (st := [.int (bOf N f s 26)]) (Nat.le_of_ble_eq_true rfl) dX1_isPage_67 ?_ rfl
          refine z_icmp_ge C (tgt := 77) dX1_isPage_70 (by decide) (fun h70_4 => ?_) (fun h70_4 => ?_)
          · refine z_iconst C (v := 0) (by decide) dX1_isPage_77 ?_
            exact ret _ _ _ _ (by simp only [isPg, h14_1, h19_2, ↓reduceIte]; rw [← hT]; first | rfl | (simp only [ipL, h28_3, h70_4, ↓reduceIte]; done)) rfl dX1_isPage_78
          · refine z_iconst C (v := 1) (by decide) dX1_isPage_73 ?_
            refine z_goto C (tgt := 78) dX1_isPage_74 (by decide) ?_
            exact ret _ _ _ _ (by simp only [isPg, h14_1, h19_2, ↓reduceIte]; rw [← hT]; first | rfl | (simp only [ipL, h28_3, h70_4, ↓reduceIte]; done)) rfl dX1_isPage_78
        | succ n ih26 => 
          intro j hj hT
          refine z_iload_n C 3 rfl rfl dX1_isPage_26 ?_
          refine z_iload_n C 2 rfl rfl dX1_isPage_27 ?_
          refine z_icmp_ge C (tgt := 56) dX1_isPage_28 (by decide) (fun h28_5 => absurd h28_5 (zclN hj)) (fun h28_5 => ?_)
          refine z_aload_n C 0 rfl rfl dX1_isPage_31 ?_
          refine z_iload_n C 1 rfl rfl dX1_isPage_32 ?_
          refine z_bipush C (v := 6) (by decide) dX1_isPage_33 ?_
          refine z_iload_n C 3 rfl rfl dX1_isPage_35 ?_
          refine z_iconst C (v := 4) (by decide) dX1_isPage_36 ?_
          refine z_imul C dX1_isPage_37 ?_
          refine z_iadd C dX1_isPage_38 ?_
          refine z_rVI C (c_X3_byteOf E N hN b1 b2 f s (6 + ((nI j) * 4))) gX1_isPage_X3_byteOf (ci := 3) (q0 := 0) rfl rfl hyX3_byteOf rfl ⟨rfl, rfl⟩ ⟨by decide, by decide⟩ ⟨by decide, by decide⟩ [0, 1] rfl (by decide) (st := []) (Nat.le_of_ble_eq_true rfl) dX1_isPage_39 ?_ rfl
          refine z_rNI C (c_X4_isKey E (bOf N f s (6 + ((nI j) * 4)))) gX1_isPage_X4_isKey_n80 (fun _ h => h.2.2.2.2.2) (C.w (List.mem_cons_of_mem _ (List.mem_append_left _ (List.mem_of_getElem? (i := 8) rfl)))) (C.w (List.mem_cons_of_mem _ (List.mem_append_left _ (List.mem_of_getElem? (i := 7) rfl)))) hyX4_isKey.2 rfl ⟨rfl, rfl⟩ ⟨by decide, by decide⟩ ⟨by decide, by decide⟩ [] rfl (by decide) (st := []) (Nat.le_of_ble_eq_true rfl) dX1_isPage_42 ?_ rfl
          refine z_if_ne C (tgt := 50) dX1_isPage_45 (by decide) (fun h45_6 => ?_) (fun h45_6 => ?_)
          · refine z_iinc C 3 rfl (v := (nI (j + 1))) (zinc _) (lv' := [(3, .int (nI (j + 1))), (0, .ref b1), (1, .int s), (2, .int (bOf N f s 5))]) rfl (by decide) dX1_isPage_50 ?_
            refine z_goto C (tgt := 26) dX1_isPage_53 (by decide) ?_
            refine z_lv (lv' := [(0, .ref b1), (1, .int s), (2, .int (bOf N f s 5)), (3, .int (nI (j + 1)))]) [1, 2, 3, 0] rfl ?_
            exact ih26 (j + 1) (by omega) (by rw [← hT]; simp only [ipL, h14_1, h19_2, h28_5, h45_6, ↓reduceIte])
          · refine z_iconst C (v := 0) (by decide) dX1_isPage_48 ?_
            exact ret _ _ _ _ (by simp only [isPg, h14_1, h19_2, ↓reduceIte]; rw [← hT]; first | rfl | (simp only [ipL, h28_5, h45_6, ↓reduceIte]; done)) rfl dX1_isPage_49
      refine z_lv (lv' := [(0, .ref b1), (1, .int s), (2, .int (bOf N f s 5)), (3, .int 0)]) [2, 3, 1, 0] rfl ?_
      exact loop26 (bOf N f s 5).toNatClampNeg 0  (by omega) rfl
    · refine z_iconst C (v := 0) (by decide) dX1_isPage_22 ?_
      exact ret _ _ _ _ (by first | rfl | (simp only [isPg, h14_1, h19_2, ↓reduceIte]; done) | (simp only [isPg, h14_1, h19_2, ↓reduceIte]; rfl) | (simp [isPg, h14_1, h19_2, ↓reduceIte]; done)) rfl dX1_isPage_23
abbrev rmX1_readPage : Room := { frames := 2, cells := 0, slots := 0, locals := 47 }
theorem hyX1_readPage : yX1_readPage.cls = RX1 ∧ yX1_readPage.cls ≠ "java/lang/invoke/MethodHandle" ∧ yX1_readPage.cls ≠ "java/lang/invoke/VarHandle" ∧ (parseMethodDescriptor yX1_readPage.desc).map (fun d => d.parameters.length) = some 3 := by decide +kernel
set_option maxHeartbeats 4000000 in
set_option maxRecDepth 3000 in
theorem c_X1_readPage (E : GE) (N : Nat) (hN : 16 ≤ N ∧ N ≤ 64) (b1 b2 : Nat) (f : Nat → Int32) (a2 : Nat → Nat) (D : DS) (s : Int32) : zV E yX1_readPage wsX1_readPage rmX1_readPage [.ref b1, .int s, .ref (a2 0)] ((wS E b1 b2 N f) ++ (wD E a2 D)) ((wS E b1 b2 N f) ++ (wD E a2 (rPage N f s D))) := by
  refine zV_of (cc := cX1_readPage) (maxL := 6) (by decide) rfl (Nat.le_of_ble_eq_true rfl) ?_
  intro K C ret
  replace C : zC E K cX1_readPage wsX1_readPage RX1 rmX1_readPage 6 := C
  show Z E K 0 0 ((wS E b1 b2 N f) ++ (wD E a2 D)) 0 [(0, .ref b1), (1, .int s), (2, .ref (a2 0))] []
  refine z_aload_n C 0 rfl rfl dX1_readPage_0 ?_
  refine z_iload_n C 1 rfl rfl dX1_readPage_1 ?_
  refine z_iconst C (v := 5) (by decide) dX1_readPage_2 ?_
  refine z_rVI C (c_X3_byteOf E N hN b1 b2 f s 5) gX1_readPage_X3_byteOf (ci := 3) (q0 := 0) rfl rfl hyX3_byteOf rfl ⟨rfl, rfl⟩ ⟨by decide, by decide⟩ ⟨by decide, by decide⟩ [0, 1] rfl (by decide) (st := []) (Nat.le_of_ble_eq_true rfl) dX1_readPage_3 ?_ rfl
  refine z_istore_n C (lv' := [(3, .int (bOf N f s 5)), (0, .ref b1), (1, .int s), (2, .ref (a2 0))]) rfl rfl (by decide) dX1_readPage_6 ?_
  refine z_iconst C (v := 0) (by decide) dX1_readPage_7 ?_
  refine z_istore C (lv' := [(4, .int 0), (3, .int (bOf N f s 5)), (0, .ref b1), (1, .int s), (2, .ref (a2 0))]) rfl (by decide) dX1_readPage_8 ?_
  have loop10 : ∀ (n j : Nat) (D1 : DS), j + n = (bOf N f s 5).toNatClampNeg → rpL N f s n j D1 = rpL N f s (bOf N f s 5).toNatClampNeg 0 D → Z E K 0 0 ((wS E b1 b2 N f) ++ (wD E a2 D1)) 10 [(0, .ref b1), (1, .int s), (2, .ref (a2 0)), (3, .int (bOf N f s 5)), (4, .int (nI j))] [] := by
    intro n
    induction n with
    | zero => 
      intro j D1 hj hT
      have hjB : j = (bOf N f s 5).toNatClampNeg := by omega
      subst hjB
      refine z_iload C 4 rfl dX1_readPage_10 ?_
      refine z_iload_n C 3 rfl rfl dX1_readPage_12 ?_
      refine z_icmp_ge C (tgt := 52) dX1_readPage_13 (by decide) (fun h13_1 => ?_) (fun h13_1 => absurd zclY h13_1)
      exact ret _ _ _ (by unfold rPage; rw [← hT]; rfl) dX1_readPage_52
    | succ n ih10 => 
      intro j D1 hj hT
      refine z_iload C 4 rfl dX1_readPage_10 ?_
      refine z_iload_n C 3 rfl rfl dX1_readPage_12 ?_
      refine z_icmp_ge C (tgt := 52) dX1_readPage_13 (by decide) (fun h13_2 => absurd h13_2 (zclN hj)) (fun h13_2 => ?_)
      refine z_bipush C (v := 6) (by decide) dX1_readPage_16 ?_
      refine z_iload C 4 rfl dX1_readPage_18 ?_
      refine z_iconst C (v := 4) (by decide) dX1_readPage_20 ?_
      refine z_imul C dX1_readPage_21 ?_
      refine z_iadd C dX1_readPage_22 ?_
      refine z_istore C (lv' := [(5, .int (6 + ((nI j) * 4))), (0, .ref b1), (1, .int s), (2, .ref (a2 0)), (3, .int (bOf N f s 5)), (4, .int (nI j))]) rfl (by decide) dX1_readPage_23 ?_
      refine z_aload_n C 3 rfl rfl dX1_readPage_25 ?_
      refine z_aload_n C 1 rfl rfl dX1_readPage_26 ?_
      refine z_iload_n C 2 rfl rfl dX1_readPage_27 ?_
      refine z_iload C 0 rfl dX1_readPage_28 ?_
      refine z_rVI C (c_X3_byteOf E N hN b1 b2 f s (6 + ((nI j) * 4))) gX1_readPage_X3_byteOf (ci := 3) (q0 := 0) rfl rfl hyX3_byteOf rfl ⟨rfl, rfl⟩ ⟨by decide, by decide⟩ ⟨by decide, by decide⟩ [0, 1] rfl (by decide) (st := [.ref (a2 0)]) (Nat.le_of_ble_eq_true rfl) dX1_readPage_30 ?_ rfl
      refine z_aload_n C 1 rfl rfl dX1_readPage_33 ?_
      refine z_iload_n C 2 rfl rfl dX1_readPage_34 ?_
      refine z_iload C 0 rfl dX1_readPage_35 ?_
      refine z_iconst C (v := 1) (by decide) dX1_readPage_37 ?_
      refine z_iadd C dX1_readPage_38 ?_
      refine z_iconst C (v := 3) (by decide) dX1_readPage_39 ?_
      refine z_rVI C (c_X3_numberOf E N hN b1 b2 f s ((6 + ((nI j) * 4)) + 1) 3 (by decide)) gX1_readPage_X3_numberOf (ci := 3) (q0 := 0) rfl rfl hyX3_numberOf rfl ⟨rfl, rfl⟩ ⟨by decide, by decide⟩ ⟨by decide, by decide⟩ [0, 1] rfl (by decide) (st := [.int (bOf N f s (6 + ((nI j) * 4))), .ref (a2 0)]) (Nat.le_of_ble_eq_true rfl) dX1_readPage_40 ?_ rfl
      have ct1 := c_X0_setCommitted E a2 D1 (bOf N f s (6 + ((nI j) * 4))) (nOf N f s ((6 + ((nI j) * 4)) + 1) 3)
      obtain ⟨Dq2, hq43_2⟩ : ∃ z : DS, (dSetC D1 (bOf N f s (6 + ((nI j) * 4))) (nOf N f s ((6 + ((nI j) * 4)) + 1) 3)) = z := ⟨_, rfl⟩
      rw [hq43_2] at ct1
      refine z_callVV C ct1 gX1_readPage_X0_setCommitted (ci := 0) (q0 := 0) rfl rfl hyX0_setCommitted rfl ⟨rfl, rfl⟩ ⟨by decide, by decide⟩ ⟨by decide, by decide⟩ [2, 3, 4, 5] [0, 1] [0, 1, 2, 3, 4, 5] (wr := [(b1, .inr (3, [.int (nI N), .ref b2])), (b2, .inl (gB E, 32 * N, .inl f))]) (V' := ((wS E b1 b2 N f) ++ (wD E a2 Dq2))) rfl rfl (by decide) (by decide) (by decide) rfl (by decide) (st := []) (Nat.le_of_ble_eq_true rfl) dX1_readPage_43 ?_ rfl
      refine z_iinc C 5 rfl (v := (nI (j + 1))) (zinc _) (lv' := [(4, .int (nI (j + 1))), (5, .int (6 + ((nI j) * 4))), (0, .ref b1), (1, .int s), (2, .ref (a2 0)), (3, .int (bOf N f s 5))]) rfl (by decide) dX1_readPage_46 ?_
      refine z_goto C (tgt := 10) dX1_readPage_49 (by decide) ?_
      refine z_lv (lv' := [(0, .ref b1), (1, .int s), (2, .ref (a2 0)), (3, .int (bOf N f s 5)), (4, .int (nI (j + 1)))]) [2, 3, 4, 5, 0] rfl ?_
      exact ih10 (j + 1) _ (by omega) (by rw [← hT]; simp only [rpL, hq43_2])
  refine z_lv (lv' := [(0, .ref b1), (1, .int s), (2, .ref (a2 0)), (3, .int (bOf N f s 5)), (4, .int 0)]) [2, 3, 4, 1, 0] rfl ?_
  exact loop10 (bOf N f s 5).toNatClampNeg 0 D (by omega) rfl
abbrev rmX1_goOverLog : Room := { frames := 3, cells := 0, slots := 0, locals := 65 }
theorem hyX1_goOverLog : yX1_goOverLog.cls = RX1 ∧ yX1_goOverLog.cls ≠ "java/lang/invoke/MethodHandle" ∧ yX1_goOverLog.cls ≠ "java/lang/invoke/VarHandle" ∧ (parseMethodDescriptor yX1_goOverLog.desc).map (fun d => d.parameters.length) = some 3 := by decide +kernel
set_option maxHeartbeats 4000000 in
set_option maxRecDepth 3000 in
theorem c_X1_goOverLog (E : GE) (N : Nat) (hN : 16 ≤ N ∧ N ≤ 64) (b1 b2 : Nat) (f : Nat → Int32) (a2 : Nat → Nat) (D : DS) (s : Int32) : zV E yX1_goOverLog wsX1_goOverLog rmX1_goOverLog [.ref b1, .int s, .ref (a2 0)] ((wS E b1 b2 N f) ++ (wD E a2 D)) ((wS E b1 b2 N f) ++ (wD E a2 (gLog N f s D))) := by
  refine zV_of (cc := cX1_goOverLog) (maxL := 9) (by decide) rfl (Nat.le_of_ble_eq_true rfl) ?_
  intro K C ret
  replace C : zC E K cX1_goOverLog wsX1_goOverLog RX1 rmX1_goOverLog 9 := C
  show Z E K 0 0 ((wS E b1 b2 N f) ++ (wD E a2 D)) 0 [(0, .ref b1), (1, .int s), (2, .ref (a2 0))] []
  refine z_aload_n C 0 rfl rfl dX1_goOverLog_0 ?_
  refine z_iload_n C 1 rfl rfl dX1_goOverLog_1 ?_
  refine z_iconst C (v := 5) (by decide) dX1_goOverLog_2 ?_
  refine z_rVI C (c_X3_byteOf E N hN b1 b2 f s 5) gX1_goOverLog_X3_byteOf (ci := 3) (q0 := 0) rfl rfl hyX3_byteOf rfl ⟨rfl, rfl⟩ ⟨by decide, by decide⟩ ⟨by decide, by decide⟩ [0, 1] rfl (by decide) (st := []) (Nat.le_of_ble_eq_true rfl) dX1_goOverLog_3 ?_ rfl
  refine z_istore_n C (lv' := [(3, .int (bOf N f s 5)), (0, .ref b1), (1, .int s), (2, .ref (a2 0))]) rfl rfl (by decide) dX1_goOverLog_6 ?_
  refine z_iconst C (v := 0) (by decide) dX1_goOverLog_7 ?_
  refine z_istore C (lv' := [(4, .int 0), (3, .int (bOf N f s 5)), (0, .ref b1), (1, .int s), (2, .ref (a2 0))]) rfl (by decide) dX1_goOverLog_8 ?_
  have loop10 : ∀ (n j : Nat) (D1 : DS), j + n = (bOf N f s 5).toNatClampNeg → goL N f s n j D1 = goL N f s (bOf N f s 5).toNatClampNeg 0 D → Z E K 0 0 ((wS E b1 b2 N f) ++ (wD E a2 D1)) 10 [(0, .ref b1), (1, .int s), (2, .ref (a2 0)), (3, .int (bOf N f s 5)), (4, .int (nI j))] [] := by
    intro n
    induction n with
    | zero => 
      intro j D1 hj hT
      have hjB : j = (bOf N f s 5).toNatClampNeg := by omega
      subst hjB
      refine z_iload C 4 rfl dX1_goOverLog_10 ?_
      refine z_iload_n C 3 rfl rfl dX1_goOverLog_12 ?_
      refine z_icmp_ge C (tgt := 126) dX1_goOverLog_13 (by decide) (fun h13_1 => ?_) (fun h13_1 => absurd zclY h13_1)
      exact ret _ _ _ (by unfold gLog; rw [← hT]; rfl) dX1_goOverLog_126
    | succ n ih10 => 
      intro j D1 hj hT
      refine z_iload C 4 rfl dX1_goOverLog_10 ?_
      refine z_iload_n C 3 rfl rfl dX1_goOverLog_12 ?_
      refine z_icmp_ge C (tgt := 126) dX1_goOverLog_13 (by decide) (fun h13_2 => absurd h13_2 (zclN hj)) (fun h13_2 => ?_)
      refine z_bipush C (v := 6) (by decide) dX1_goOverLog_16 ?_
      refine z_iload C 4 rfl dX1_goOverLog_18 ?_
      refine z_iconst C (v := 5) (by decide) dX1_goOverLog_20 ?_
      refine z_imul C dX1_goOverLog_21 ?_
      refine z_iadd C dX1_goOverLog_22 ?_
      refine z_istore C (lv' := [(5, .int (6 + ((nI j) * 5))), (0, .ref b1), (1, .int s), (2, .ref (a2 0)), (3, .int (bOf N f s 5)), (4, .int (nI j))]) rfl (by decide) dX1_goOverLog_23 ?_
      refine z_aload_n C 1 rfl rfl dX1_goOverLog_25 ?_
      refine z_iload_n C 2 rfl rfl dX1_goOverLog_26 ?_
      refine z_iload C 0 rfl dX1_goOverLog_27 ?_
      refine z_rVI C (c_X3_byteOf E N hN b1 b2 f s (6 + ((nI j) * 5))) gX1_goOverLog_X3_byteOf (ci := 3) (q0 := 0) rfl rfl hyX3_byteOf rfl ⟨rfl, rfl⟩ ⟨by decide, by decide⟩ ⟨by decide, by decide⟩ [0, 1] rfl (by decide) (st := []) (Nat.le_of_ble_eq_true rfl) dX1_goOverLog_29 ?_ rfl
      refine z_iconst C (v := 2) (by decide) dX1_goOverLog_32 ?_
      refine z_ishr C dX1_goOverLog_33 ?_
      refine z_istore C (lv' := [(6, .int ((bOf N f s (6 + ((nI j) * 5))) >>> (2 &&& 31))), (5, .int (6 + ((nI j) * 5))), (0, .ref b1), (1, .int s), (2, .ref (a2 0)), (3, .int (bOf N f s 5)), (4, .int (nI j))]) rfl (by decide) dX1_goOverLog_34 ?_
      refine z_aload_n C 2 rfl rfl dX1_goOverLog_36 ?_
      refine z_iload_n C 3 rfl rfl dX1_goOverLog_37 ?_
      refine z_iload C 1 rfl dX1_goOverLog_38 ?_
      refine z_rVI C (c_X3_byteOf E N hN b1 b2 f s (6 + ((nI j) * 5))) gX1_goOverLog_X3_byteOf (ci := 3) (q0 := 0) rfl rfl hyX3_byteOf rfl ⟨rfl, rfl⟩ ⟨by decide, by decide⟩ ⟨by decide, by decide⟩ [0, 1] rfl (by decide) (st := []) (Nat.le_of_ble_eq_true rfl) dX1_goOverLog_40 ?_ rfl
      refine z_iconst C (v := 3) (by decide) dX1_goOverLog_43 ?_
      refine z_iand C dX1_goOverLog_44 ?_
      refine z_istore C (lv' := [(7, .int ((bOf N f s (6 + ((nI j) * 5))) &&& 3)), (6, .int ((bOf N f s (6 + ((nI j) * 5))) >>> (2 &&& 31))), (5, .int (6 + ((nI j) * 5))), (0, .ref b1), (1, .int s), (2, .ref (a2 0)), (3, .int (bOf N f s 5)), (4, .int (nI j))]) rfl (by decide) dX1_goOverLog_45 ?_
      refine z_aload_n C 3 rfl rfl dX1_goOverLog_47 ?_
      refine z_iload_n C 4 rfl rfl dX1_goOverLog_48 ?_
      refine z_iload C 2 rfl dX1_goOverLog_49 ?_
      refine z_iconst C (v := 1) (by decide) dX1_goOverLog_51 ?_
      refine z_iadd C dX1_goOverLog_52 ?_
      refine z_rVI C (c_X3_byteOf E N hN b1 b2 f s ((6 + ((nI j) * 5)) + 1)) gX1_goOverLog_X3_byteOf (ci := 3) (q0 := 0) rfl rfl hyX3_byteOf rfl ⟨rfl, rfl⟩ ⟨by decide, by decide⟩ ⟨by decide, by decide⟩ [0, 1] rfl (by decide) (st := []) (Nat.le_of_ble_eq_true rfl) dX1_goOverLog_53 ?_ rfl
      refine z_istore C (lv' := [(8, .int (bOf N f s ((6 + ((nI j) * 5)) + 1))), (7, .int ((bOf N f s (6 + ((nI j) * 5))) &&& 3)), (6, .int ((bOf N f s (6 + ((nI j) * 5))) >>> (2 &&& 31))), (5, .int (6 + ((nI j) * 5))), (0, .ref b1), (1, .int s), (2, .ref (a2 0)), (3, .int (bOf N f s 5)), (4, .int (nI j))]) rfl (by decide) dX1_goOverLog_56 ?_
      refine z_iload C 1 rfl dX1_goOverLog_58 ?_
      refine z_if_ne C (tgt := 84) dX1_goOverLog_60 (by decide) (fun h60_3 => ?_) (fun h60_3 => ?_)
      · refine z_iload C 1 rfl dX1_goOverLog_84 ?_
        refine z_iconst C (v := 1) (by decide) dX1_goOverLog_86 ?_
        refine z_icmp_ne C (tgt := 102) dX1_goOverLog_87 (by decide) (fun h87_4 => ?_) (fun h87_4 => ?_)
        · refine z_aload_n C 6 rfl rfl dX1_goOverLog_102 ?_
          refine z_iload C 2 rfl dX1_goOverLog_103 ?_
          refine z_iload C 1 rfl dX1_goOverLog_105 ?_
          refine z_iconst C (v := 2) (by decide) dX1_goOverLog_107 ?_
          refine z_icmp_ne C (tgt := 115) dX1_goOverLog_108 (by decide) (fun h108_5 => ?_) (fun h108_5 => ?_)
          · refine z_iconst C (v := 0) (by decide) dX1_goOverLog_115 ?_
            have ct1 := c_X0_close E a2 D1 ((bOf N f s (6 + ((nI j) * 5))) >>> (2 &&& 31)) 0
            obtain ⟨Dq2, hq116_2⟩ : ∃ z : DS, ((dClose D1 ((bOf N f s (6 + ((nI j) * 5))) >>> (2 &&& 31)) 0).2) = z := ⟨_, rfl⟩
            rw [hq116_2] at ct1
            refine z_callVI C ct1 gX1_goOverLog_X0_close (ci := 0) (q0 := 0) rfl rfl hyX0_close rfl ⟨rfl, rfl⟩ ⟨by decide, by decide⟩ ⟨by decide, by decide⟩ [2, 3, 4, 5] [0, 1] [0, 1, 2, 3, 4, 5] (wr := [(b1, .inr (3, [.int (nI N), .ref b2])), (b2, .inl (gB E, 32 * N, .inl f))]) (V' := ((wS E b1 b2 N f) ++ (wD E a2 Dq2))) rfl rfl (by decide) (by decide) (by decide) rfl (by decide) (st := []) (Nat.le_of_ble_eq_true rfl) dX1_goOverLog_116 ?_ rfl
            refine z_pop C rfl dX1_goOverLog_119 ?_
            refine z_iinc C 8 rfl (v := (nI (j + 1))) (zinc _) (lv' := [(4, .int (nI (j + 1))), (8, .int (bOf N f s ((6 + ((nI j) * 5)) + 1))), (7, .int ((bOf N f s (6 + ((nI j) * 5))) &&& 3)), (6, .int ((bOf N f s (6 + ((nI j) * 5))) >>> (2 &&& 31))), (5, .int (6 + ((nI j) * 5))), (0, .ref b1), (1, .int s), (2, .ref (a2 0)), (3, .int (bOf N f s 5))]) rfl (by decide) dX1_goOverLog_120 ?_
            refine z_goto C (tgt := 10) dX1_goOverLog_123 (by decide) ?_
            refine z_lv (lv' := [(0, .ref b1), (1, .int s), (2, .ref (a2 0)), (3, .int (bOf N f s 5)), (4, .int (nI (j + 1)))]) [5, 6, 7, 8, 0] rfl ?_
            exact ih10 (j + 1) _ (by omega) (by rw [← hT]; simp only [goL, goS, h13_2, h60_3, h87_4, h108_5, hq116_2, z10, z20, z21, ↓reduceIte])
          · refine z_iconst C (v := 1) (by decide) dX1_goOverLog_111 ?_
            refine z_goto C (tgt := 116) dX1_goOverLog_112 (by decide) ?_
            have ct3 := c_X0_close E a2 D1 ((bOf N f s (6 + ((nI j) * 5))) >>> (2 &&& 31)) 1
            obtain ⟨Dq4, hq116_4⟩ : ∃ z : DS, ((dClose D1 ((bOf N f s (6 + ((nI j) * 5))) >>> (2 &&& 31)) 1).2) = z := ⟨_, rfl⟩
            rw [hq116_4] at ct3
            refine z_callVI C ct3 gX1_goOverLog_X0_close (ci := 0) (q0 := 0) rfl rfl hyX0_close rfl ⟨rfl, rfl⟩ ⟨by decide, by decide⟩ ⟨by decide, by decide⟩ [2, 3, 4, 5] [0, 1] [0, 1, 2, 3, 4, 5] (wr := [(b1, .inr (3, [.int (nI N), .ref b2])), (b2, .inl (gB E, 32 * N, .inl f))]) (V' := ((wS E b1 b2 N f) ++ (wD E a2 Dq4))) rfl rfl (by decide) (by decide) (by decide) rfl (by decide) (st := []) (Nat.le_of_ble_eq_true rfl) dX1_goOverLog_116 ?_ rfl
            refine z_pop C rfl dX1_goOverLog_119 ?_
            refine z_iinc C 8 rfl (v := (nI (j + 1))) (zinc _) (lv' := [(4, .int (nI (j + 1))), (8, .int (bOf N f s ((6 + ((nI j) * 5)) + 1))), (7, .int ((bOf N f s (6 + ((nI j) * 5))) &&& 3)), (6, .int ((bOf N f s (6 + ((nI j) * 5))) >>> (2 &&& 31))), (5, .int (6 + ((nI j) * 5))), (0, .ref b1), (1, .int s), (2, .ref (a2 0)), (3, .int (bOf N f s 5))]) rfl (by decide) dX1_goOverLog_120 ?_
            refine z_goto C (tgt := 10) dX1_goOverLog_123 (by decide) ?_
            refine z_lv (lv' := [(0, .ref b1), (1, .int s), (2, .ref (a2 0)), (3, .int (bOf N f s 5)), (4, .int (nI (j + 1)))]) [5, 6, 7, 8, 0] rfl ?_
            exact ih10 (j + 1) _ (by omega) (by rw [← hT]; simp only [goL, goS, h13_2, h60_3, h87_4, h108_5, hq116_4, z10, z20, z21, ↓reduceIte])
        · refine z_aload_n C 6 rfl rfl dX1_goOverLog_90 ?_
          refine z_iload C 2 rfl dX1_goOverLog_91 ?_
          refine z_iload C 0 rfl dX1_goOverLog_93 ?_
          refine z_iconst C (v := (-1)) (by decide) dX1_goOverLog_95 ?_
          have ct5 := c_X0_change E a2 D1 ((bOf N f s (6 + ((nI j) * 5))) >>> (2 &&& 31)) (bOf N f s ((6 + ((nI j) * 5)) + 1)) (-1)
          obtain ⟨Dq6, hq96_6⟩ : ∃ z : DS, (dChg D1 ((bOf N f s (6 + ((nI j) * 5))) >>> (2 &&& 31)) (bOf N f s ((6 + ((nI j) * 5)) + 1)) (-1)) = z := ⟨_, rfl⟩
          rw [hq96_6] at ct5
          refine z_callVV C ct5 gX1_goOverLog_X0_change (ci := 0) (q0 := 0) rfl rfl hyX0_change rfl ⟨rfl, rfl⟩ ⟨by decide, by decide⟩ ⟨by decide, by decide⟩ [2, 3, 4, 5] [0, 1] [0, 1, 2, 3, 4, 5] (wr := [(b1, .inr (3, [.int (nI N), .ref b2])), (b2, .inl (gB E, 32 * N, .inl f))]) (V' := ((wS E b1 b2 N f) ++ (wD E a2 Dq6))) rfl rfl (by decide) (by decide) (by decide) rfl (by decide) (st := []) (Nat.le_of_ble_eq_true rfl) dX1_goOverLog_96 ?_ rfl
          refine z_goto C (tgt := 120) dX1_goOverLog_99 (by decide) ?_
          refine z_iinc C 8 rfl (v := (nI (j + 1))) (zinc _) (lv' := [(4, .int (nI (j + 1))), (8, .int (bOf N f s ((6 + ((nI j) * 5)) + 1))), (7, .int ((bOf N f s (6 + ((nI j) * 5))) &&& 3)), (6, .int ((bOf N f s (6 + ((nI j) * 5))) >>> (2 &&& 31))), (5, .int (6 + ((nI j) * 5))), (0, .ref b1), (1, .int s), (2, .ref (a2 0)), (3, .int (bOf N f s 5))]) rfl (by decide) dX1_goOverLog_120 ?_
          refine z_goto C (tgt := 10) dX1_goOverLog_123 (by decide) ?_
          refine z_lv (lv' := [(0, .ref b1), (1, .int s), (2, .ref (a2 0)), (3, .int (bOf N f s 5)), (4, .int (nI (j + 1)))]) [5, 6, 7, 8, 0] rfl ?_
          exact ih10 (j + 1) _ (by omega) (by rw [← hT]; simp only [goL, goS, h13_2, h60_3, h87_4, hq96_6, z10, z20, z21, ↓reduceIte])
      · refine z_aload_n C 6 rfl rfl dX1_goOverLog_63 ?_
        refine z_iload C 2 rfl dX1_goOverLog_64 ?_
        refine z_iload C 0 rfl dX1_goOverLog_66 ?_
        refine z_aload_n C 4 rfl rfl dX1_goOverLog_68 ?_
        refine z_iload_n C 5 rfl rfl dX1_goOverLog_69 ?_
        refine z_iload C 3 rfl dX1_goOverLog_70 ?_
        refine z_iconst C (v := 2) (by decide) dX1_goOverLog_72 ?_
        refine z_iadd C dX1_goOverLog_73 ?_
        refine z_iconst C (v := 3) (by decide) dX1_goOverLog_74 ?_
        refine z_rVI C (c_X3_numberOf E N hN b1 b2 f s ((6 + ((nI j) * 5)) + 2) 3 (by decide)) gX1_goOverLog_X3_numberOf (ci := 3) (q0 := 0) rfl rfl hyX3_numberOf rfl ⟨rfl, rfl⟩ ⟨by decide, by decide⟩ ⟨by decide, by decide⟩ [0, 1] rfl (by decide) (st := [.int (bOf N f s ((6 + ((nI j) * 5)) + 1)), .int ((bOf N f s (6 + ((nI j) * 5))) >>> (2 &&& 31)), .ref (a2 0)]) (Nat.le_of_ble_eq_true rfl) dX1_goOverLog_75 ?_ rfl
        have ct7 := c_X0_change E a2 D1 ((bOf N f s (6 + ((nI j) * 5))) >>> (2 &&& 31)) (bOf N f s ((6 + ((nI j) * 5)) + 1)) (nOf N f s ((6 + ((nI j) * 5)) + 2) 3)
        obtain ⟨Dq8, hq78_8⟩ : ∃ z : DS, (dChg D1 ((bOf N f s (6 + ((nI j) * 5))) >>> (2 &&& 31)) (bOf N f s ((6 + ((nI j) * 5)) + 1)) (nOf N f s ((6 + ((nI j) * 5)) + 2) 3)) = z := ⟨_, rfl⟩
        rw [hq78_8] at ct7
        refine z_callVV C ct7 gX1_goOverLog_X0_change (ci := 0) (q0 := 0) rfl rfl hyX0_change rfl ⟨rfl, rfl⟩ ⟨by decide, by decide⟩ ⟨by decide, by decide⟩ [2, 3, 4, 5] [0, 1] [0, 1, 2, 3, 4, 5] (wr := [(b1, .inr (3, [.int (nI N), .ref b2])), (b2, .inl (gB E, 32 * N, .inl f))]) (V' := ((wS E b1 b2 N f) ++ (wD E a2 Dq8))) rfl rfl (by decide) (by decide) (by decide) rfl (by decide) (st := []) (Nat.le_of_ble_eq_true rfl) dX1_goOverLog_78 ?_ rfl
        refine z_goto C (tgt := 120) dX1_goOverLog_81 (by decide) ?_
        refine z_iinc C 8 rfl (v := (nI (j + 1))) (zinc _) (lv' := [(4, .int (nI (j + 1))), (8, .int (bOf N f s ((6 + ((nI j) * 5)) + 1))), (7, .int ((bOf N f s (6 + ((nI j) * 5))) &&& 3)), (6, .int ((bOf N f s (6 + ((nI j) * 5))) >>> (2 &&& 31))), (5, .int (6 + ((nI j) * 5))), (0, .ref b1), (1, .int s), (2, .ref (a2 0)), (3, .int (bOf N f s 5))]) rfl (by decide) dX1_goOverLog_120 ?_
        refine z_goto C (tgt := 10) dX1_goOverLog_123 (by decide) ?_
        refine z_lv (lv' := [(0, .ref b1), (1, .int s), (2, .ref (a2 0)), (3, .int (bOf N f s 5)), (4, .int (nI (j + 1)))]) [5, 6, 7, 8, 0] rfl ?_
        exact ih10 (j + 1) _ (by omega) (by rw [← hT]; simp only [goL, goS, h13_2, h60_3, hq78_8, z10, z20, z21, ↓reduceIte])
  refine z_lv (lv' := [(0, .ref b1), (1, .int s), (2, .ref (a2 0)), (3, .int (bOf N f s 5)), (4, .int 0)]) [2, 3, 4, 1, 0] rfl ?_
  exact loop10 (bOf N f s 5).toNatClampNeg 0 D (by omega) rfl
abbrev rmX1_lookAt : Room := { frames := 3, cells := 0, slots := 0, locals := 68 }
theorem hyX1_lookAt : yX1_lookAt.cls = RX1 ∧ yX1_lookAt.cls ≠ "java/lang/invoke/MethodHandle" ∧ yX1_lookAt.cls ≠ "java/lang/invoke/VarHandle" ∧ (parseMethodDescriptor yX1_lookAt.desc).map (fun d => d.parameters.length) = some 1 := by decide +kernel
set_option maxHeartbeats 4000000 in
set_option maxRecDepth 3000 in
theorem c_X1_lookAt (E : GE) (N : Nat) (hN : 16 ≤ N ∧ N ≤ 64) (b1 b2 : Nat) (f : Nat → Int32) (a : Nat → Nat) (F : FS) : zV E yX1_lookAt wsX1_lookAt rmX1_lookAt [.ref (a 0), .ref b1] ((wF E a F) ++ (wS E b1 b2 N f)) ((wF E a (fsTe F (laL N f (fTe F) 64))) ++ (wS E b1 b2 N f)) := by
  refine zV_of (cc := cX1_lookAt) (maxL := 3) (by decide) rfl (Nat.le_of_ble_eq_true rfl) ?_
  intro K C ret
  replace C : zC E K cX1_lookAt wsX1_lookAt RX1 rmX1_lookAt 3 := C
  have in1 : ∀ w ∈ wsX10, w ∈ wsX1_lookAt := fun w h => List.mem_cons_of_mem _ (List.mem_append_left _ (List.mem_append_right _ (h)))
  have l9 : zw K (.fieldLink RX1 9 "StoreLog3$Finder" "tells" "[Z") := C.w (List.mem_cons_of_mem _ (List.mem_append_left _ (List.mem_append_left _ (List.mem_append_left _ (List.mem_of_getElem? (i := 0) rfl)))))
  show Z E K 0 0 ((wF E a F) ++ (wS E b1 b2 N f)) 0 [(0, .ref (a 0)), (1, .ref b1)] []
  refine z_iconst C (v := 0) (by decide) dX1_lookAt_0 ?_
  refine z_istore_n C (lv' := [(2, .int 0), (0, .ref (a 0)), (1, .ref b1)]) rfl rfl (by decide) dX1_lookAt_1 ?_
  have loop2 : ∀ (n j : Nat), j + n = 64 → Z E K 0 0 ((wF E a (fsTe F (laL N f (fTe F) j))) ++ (wS E b1 b2 N f)) 2 [(0, .ref (a 0)), (1, .ref b1), (2, .int (nI j))] [] := by
    intro n
    induction n with
    | zero => 
      intro j hj
      obtain rfl : j = 64 := by omega
      refine z_iload_n C 2 rfl rfl dX1_lookAt_2 ?_
      refine z_aload_n C 0 rfl rfl dX1_lookAt_3 ?_
      refine z_get C (Cn := RX1) (T := TX1) (Nf := 4) (ci := 1) in1 0 0 l9 (v := .ref (a 1)) rfl rfl (by decide) rfl dX1_lookAt_4 ?_
      refine z_zalen C 1 rfl (v := 64) rfl dX1_lookAt_7 ?_
      refine z_icmp_ge C (tgt := 52) dX1_lookAt_8 (by decide) (fun h8_1 => ?_) (fun h8_1 => absurd (nI_le (a := 64) (b := 64) (Nat.le_refl _) (by omega)) h8_1)
      exact ret _ _ _ (by first | rfl | (simp only [laL, tlS, h8_1, ↓reduceIte]; done) | (simp only [laL, tlS, h8_1, ↓reduceIte]; rfl) | (simp [laL, tlS, h8_1, ↓reduceIte]; done)) dX1_lookAt_52
    | succ n ih2 => 
      intro j hj
      refine z_iload_n C 2 rfl rfl dX1_lookAt_2 ?_
      refine z_aload_n C 0 rfl rfl dX1_lookAt_3 ?_
      refine z_get C (Cn := RX1) (T := TX1) (Nf := 4) (ci := 1) in1 0 0 l9 (v := .ref (a 1)) rfl rfl (by decide) rfl dX1_lookAt_4 ?_
      refine z_zalen C 1 rfl (v := 64) rfl dX1_lookAt_7 ?_
      refine z_icmp_ge C (tgt := 52) dX1_lookAt_8 (by decide) (fun h8_2 => absurd h8_2 (nI_ge (a := j) (b := 64) (by omega) (by omega))) (fun h8_2 => ?_)
      refine z_aload_n C 0 rfl rfl dX1_lookAt_11 ?_
      refine z_get C (Cn := RX1) (T := TX1) (Nf := 4) (ci := 1) in1 0 0 l9 (v := .ref (a 1)) rfl rfl (by decide) rfl dX1_lookAt_12 ?_
      refine z_iload_n C 2 rfl rfl dX1_lookAt_15 ?_
      refine z_aload_n C 1 rfl rfl dX1_lookAt_16 ?_
      refine z_iload_n C 2 rfl rfl dX1_lookAt_17 ?_
      refine z_rSI C (c_X1_isLog E N hN b1 b2 f (nI j)) gX1_lookAt_X1_isLog hyX1_isLog.2 rfl ⟨rfl, rfl⟩ ⟨by decide, by decide⟩ ⟨by decide, by decide⟩ [2, 3] rfl (by decide) (st := [.int (nI j), .ref (a 1)]) (Nat.le_of_ble_eq_true rfl) dX1_lookAt_18 ?_ rfl
      refine z_if_ne C (tgt := 32) dX1_lookAt_21 (by decide) (fun h21_3 => ?_) (fun h21_3 => ?_)
      · refine z_aload_n C 1 rfl rfl dX1_lookAt_32 ?_
        refine z_iload_n C 2 rfl rfl dX1_lookAt_33 ?_
        refine z_rVI C (c_X3_isSound E N hN b1 b2 f (nI j)) gX1_lookAt_X3_isSound (ci := 3) (q0 := 0) rfl rfl hyX3_isSound rfl ⟨rfl, rfl⟩ ⟨by decide, by decide⟩ ⟨by decide, by decide⟩ [2, 3] rfl (by decide) (st := [.int (nI j), .ref (a 1)]) (Nat.le_of_ble_eq_true rfl) dX1_lookAt_34 ?_ rfl
        refine z_if_eq C (tgt := 44) dX1_lookAt_37 (by decide) (fun h37_4 => ?_) (fun h37_4 => ?_)
        · refine z_iconst C (v := 0) (by decide) dX1_lookAt_44 ?_
          refine z_zast C 1 rfl (vp_in_nI (by omega) (by omega)) (g := (upd (laL N f (fTe F) j) j 0)) (by rw [vz_0, nI_clamp (by omega)]) (V' := ((wF E a (fsTe F (upd (laL N f (fTe F) j) j 0))) ++ (wS E b1 b2 N f))) rfl dX1_lookAt_45 ?_
          refine z_iinc C 2 rfl (v := (nI (j + 1))) (zinc _) (lv' := [(2, .int (nI (j + 1))), (0, .ref (a 0)), (1, .ref b1)]) rfl (by decide) dX1_lookAt_46 ?_
          refine z_goto C (tgt := 2) dX1_lookAt_49 (by decide) ?_
          refine z_lv (lv' := [(0, .ref (a 0)), (1, .ref b1), (2, .int (nI (j + 1)))]) [1, 2, 0] rfl ?_
          refine z_eq (V2 := ((wF E a (fsTe F (laL N f (fTe F) (j + 1)))) ++ (wS E b1 b2 N f))) (lv2 := [(0, .ref (a 0)), (1, .ref b1), (2, .int (nI (j + 1)))]) (by first | rfl | (simp only [laL, tlS, h8_2, h21_3, h37_4, ↓reduceIte]; done) | (simp only [laL, tlS, h8_2, h21_3, h37_4, ↓reduceIte]; rfl)) (by first | rfl | (simp only [laL, tlS, h8_2, h21_3, h37_4, ↓reduceIte]; done) | (simp only [laL, tlS, h8_2, h21_3, h37_4, ↓reduceIte]; rfl)) rfl ?_
          exact ih2 (j + 1)  (by omega)
        · refine z_iconst C (v := 1) (by decide) dX1_lookAt_40 ?_
          refine z_goto C (tgt := 45) dX1_lookAt_41 (by decide) ?_
          refine z_zast C 1 rfl (vp_in_nI (by omega) (by omega)) (g := (upd (laL N f (fTe F) j) j 1)) (by rw [vz_1, nI_clamp (by omega)]) (V' := ((wF E a (fsTe F (upd (laL N f (fTe F) j) j 1))) ++ (wS E b1 b2 N f))) rfl dX1_lookAt_45 ?_
          refine z_iinc C 2 rfl (v := (nI (j + 1))) (zinc _) (lv' := [(2, .int (nI (j + 1))), (0, .ref (a 0)), (1, .ref b1)]) rfl (by decide) dX1_lookAt_46 ?_
          refine z_goto C (tgt := 2) dX1_lookAt_49 (by decide) ?_
          refine z_lv (lv' := [(0, .ref (a 0)), (1, .ref b1), (2, .int (nI (j + 1)))]) [1, 2, 0] rfl ?_
          refine z_eq (V2 := ((wF E a (fsTe F (laL N f (fTe F) (j + 1)))) ++ (wS E b1 b2 N f))) (lv2 := [(0, .ref (a 0)), (1, .ref b1), (2, .int (nI (j + 1)))]) (by first | rfl | (simp only [laL, tlS, h8_2, h21_3, h37_4, ↓reduceIte]; done) | (simp only [laL, tlS, h8_2, h21_3, h37_4, ↓reduceIte]; rfl)) (by first | rfl | (simp only [laL, tlS, h8_2, h21_3, h37_4, ↓reduceIte]; done) | (simp only [laL, tlS, h8_2, h21_3, h37_4, ↓reduceIte]; rfl)) rfl ?_
          exact ih2 (j + 1)  (by omega)
      · refine z_aload_n C 1 rfl rfl dX1_lookAt_24 ?_
        refine z_iload_n C 2 rfl rfl dX1_lookAt_25 ?_
        refine z_rSI C (c_X1_isPage E N hN b1 b2 f (nI j)) gX1_lookAt_X1_isPage hyX1_isPage.2 rfl ⟨rfl, rfl⟩ ⟨by decide, by decide⟩ ⟨by decide, by decide⟩ [2, 3] rfl (by decide) (st := [.int (nI j), .ref (a 1)]) (Nat.le_of_ble_eq_true rfl) dX1_lookAt_26 ?_ rfl
        refine z_if_eq C (tgt := 44) dX1_lookAt_29 (by decide) (fun h29_5 => ?_) (fun h29_5 => ?_)
        · refine z_iconst C (v := 0) (by decide) dX1_lookAt_44 ?_
          refine z_zast C 1 rfl (vp_in_nI (by omega) (by omega)) (g := (upd (laL N f (fTe F) j) j 0)) (by rw [vz_0, nI_clamp (by omega)]) (V' := ((wF E a (fsTe F (upd (laL N f (fTe F) j) j 0))) ++ (wS E b1 b2 N f))) rfl dX1_lookAt_45 ?_
          refine z_iinc C 2 rfl (v := (nI (j + 1))) (zinc _) (lv' := [(2, .int (nI (j + 1))), (0, .ref (a 0)), (1, .ref b1)]) rfl (by decide) dX1_lookAt_46 ?_
          refine z_goto C (tgt := 2) dX1_lookAt_49 (by decide) ?_
          refine z_lv (lv' := [(0, .ref (a 0)), (1, .ref b1), (2, .int (nI (j + 1)))]) [1, 2, 0] rfl ?_
          refine z_eq (V2 := ((wF E a (fsTe F (laL N f (fTe F) (j + 1)))) ++ (wS E b1 b2 N f))) (lv2 := [(0, .ref (a 0)), (1, .ref b1), (2, .int (nI (j + 1)))]) (by first | rfl | (simp only [laL, tlS, h8_2, h21_3, h29_5, ↓reduceIte]; done) | (simp only [laL, tlS, h8_2, h21_3, h29_5, ↓reduceIte]; rfl)) (by first | rfl | (simp only [laL, tlS, h8_2, h21_3, h29_5, ↓reduceIte]; done) | (simp only [laL, tlS, h8_2, h21_3, h29_5, ↓reduceIte]; rfl)) rfl ?_
          exact ih2 (j + 1)  (by omega)
        · refine z_aload_n C 1 rfl rfl dX1_lookAt_32 ?_
          refine z_iload_n C 2 rfl rfl dX1_lookAt_33 ?_
          refine z_rVI C (c_X3_isSound E N hN b1 b2 f (nI j)) gX1_lookAt_X3_isSound (ci := 3) (q0 := 0) rfl rfl hyX3_isSound rfl ⟨rfl, rfl⟩ ⟨by decide, by decide⟩ ⟨by decide, by decide⟩ [2, 3] rfl (by decide) (st := [.int (nI j), .ref (a 1)]) (Nat.le_of_ble_eq_true rfl) dX1_lookAt_34 ?_ rfl
          refine z_if_eq C (tgt := 44) dX1_lookAt_37 (by decide) (fun h37_6 => ?_) (fun h37_6 => ?_)
          · refine z_iconst C (v := 0) (by decide) dX1_lookAt_44 ?_
            refine z_zast C 1 rfl (vp_in_nI (by omega) (by omega)) (g := (upd (laL N f (fTe F) j) j 0)) (by rw [vz_0, nI_clamp (by omega)]) (V' := ((wF E a (fsTe F (upd (laL N f (fTe F) j) j 0))) ++ (wS E b1 b2 N f))) rfl dX1_lookAt_45 ?_
            refine z_iinc C 2 rfl (v := (nI (j + 1))) (zinc _) (lv' := [(2, .int (nI (j + 1))), (0, .ref (a 0)), (1, .ref b1)]) rfl (by decide) dX1_lookAt_46 ?_
            refine z_goto C (tgt := 2) dX1_lookAt_49 (by decide) ?_
            refine z_lv (lv' := [(0, .ref (a 0)), (1, .ref b1), (2, .int (nI (j + 1)))]) [1, 2, 0] rfl ?_
            refine z_eq (V2 := ((wF E a (fsTe F (laL N f (fTe F) (j + 1)))) ++ (wS E b1 b2 N f))) (lv2 := [(0, .ref (a 0)), (1, .ref b1), (2, .int (nI (j + 1)))]) (by first | rfl | (simp only [laL, tlS, h8_2, h21_3, h29_5, h37_6, ↓reduceIte]; done) | (simp only [laL, tlS, h8_2, h21_3, h29_5, h37_6, ↓reduceIte]; rfl)) (by first | rfl | (simp only [laL, tlS, h8_2, h21_3, h29_5, h37_6, ↓reduceIte]; done) | (simp only [laL, tlS, h8_2, h21_3, h29_5, h37_6, ↓reduceIte]; rfl)) rfl ?_
            exact ih2 (j + 1)  (by omega)
          · refine z_iconst C (v := 1) (by decide) dX1_lookAt_40 ?_
            refine z_goto C (tgt := 45) dX1_lookAt_41 (by decide) ?_
            refine z_zast C 1 rfl (vp_in_nI (by omega) (by omega)) (g := (upd (laL N f (fTe F) j) j 1)) (by rw [vz_1, nI_clamp (by omega)]) (V' := ((wF E a (fsTe F (upd (laL N f (fTe F) j) j 1))) ++ (wS E b1 b2 N f))) rfl dX1_lookAt_45 ?_
            refine z_iinc C 2 rfl (v := (nI (j + 1))) (zinc _) (lv' := [(2, .int (nI (j + 1))), (0, .ref (a 0)), (1, .ref b1)]) rfl (by decide) dX1_lookAt_46 ?_
            refine z_goto C (tgt := 2) dX1_lookAt_49 (by decide) ?_
            refine z_lv (lv' := [(0, .ref (a 0)), (1, .ref b1), (2, .int (nI (j + 1)))]) [1, 2, 0] rfl ?_
            refine z_eq (V2 := ((wF E a (fsTe F (laL N f (fTe F) (j + 1)))) ++ (wS E b1 b2 N f))) (lv2 := [(0, .ref (a 0)), (1, .ref b1), (2, .int (nI (j + 1)))]) (by first | rfl | (simp only [laL, tlS, h8_2, h21_3, h29_5, h37_6, ↓reduceIte]; done) | (simp only [laL, tlS, h8_2, h21_3, h29_5, h37_6, ↓reduceIte]; rfl)) (by first | rfl | (simp only [laL, tlS, h8_2, h21_3, h29_5, h37_6, ↓reduceIte]; done) | (simp only [laL, tlS, h8_2, h21_3, h29_5, h37_6, ↓reduceIte]; rfl)) rfl ?_
            exact ih2 (j + 1)  (by omega)
  refine z_lv (lv' := [(0, .ref (a 0)), (1, .ref b1), (2, .int 0)]) [1, 2, 0] rfl ?_
  exact loop2 64 0  (by omega)
abbrev rmX1_pagesFrom : Room := { frames := 3, cells := 0, slots := 0, locals := 68 }
theorem hyX1_pagesFrom : yX1_pagesFrom.cls = RX1 ∧ yX1_pagesFrom.cls ≠ "java/lang/invoke/MethodHandle" ∧ yX1_pagesFrom.cls ≠ "java/lang/invoke/VarHandle" ∧ (parseMethodDescriptor yX1_pagesFrom.desc).map (fun d => d.parameters.length) = some 2 := by decide +kernel
set_option maxHeartbeats 4000000 in
set_option maxRecDepth 3000 in
theorem c_X1_pagesFrom (E : GE) (N : Nat) (hN : 16 ≤ N ∧ N ≤ 64) (b1 b2 : Nat) (f : Nat → Int32) (a : Nat → Nat) (F : FS) (s : Int32) : zI E yX1_pagesFrom wsX1_pagesFrom rmX1_pagesFrom [.ref (a 0), .ref b1, .int s] ((wF E a F) ++ (wS E b1 b2 N f)) (pgsF N f F s) ((wF E a F) ++ (wS E b1 b2 N f)) := by
  refine zI_of (cc := cX1_pagesFrom) (maxL := 6) (ty := .int) (by decide) rfl (vp_nar_int _) (Nat.le_of_ble_eq_true rfl) ?_
  intro K C ret
  replace C : zC E K cX1_pagesFrom wsX1_pagesFrom RX1 rmX1_pagesFrom 6 := C
  show Z E K 0 0 ((wF E a F) ++ (wS E b1 b2 N f)) 0 [(0, .ref (a 0)), (1, .ref b1), (2, .int s)] []
  refine z_aload_n C 1 rfl rfl dX1_pagesFrom_0 ?_
  refine z_iload_n C 2 rfl rfl dX1_pagesFrom_1 ?_
  refine z_bipush C (v := 27) (by decide) dX1_pagesFrom_2 ?_
  refine z_rVI C (c_X3_byteOf E N hN b1 b2 f s 27) gX1_pagesFrom_X3_byteOf (ci := 3) (q0 := 0) rfl rfl hyX3_byteOf rfl ⟨rfl, rfl⟩ ⟨by decide, by decide⟩ ⟨by decide, by decide⟩ [2, 3] rfl (by decide) (st := []) (Nat.le_of_ble_eq_true rfl) dX1_pagesFrom_4 ?_ rfl
  refine z_istore_n C (lv' := [(3, .int (bOf N f s 27)), (0, .ref (a 0)), (1, .ref b1), (2, .int s)]) rfl rfl (by decide) dX1_pagesFrom_7 ?_
  refine z_iload_n C 3 rfl rfl dX1_pagesFrom_8 ?_
  refine z_istore C (lv' := [(4, .int s), (3, .int (bOf N f s 27)), (0, .ref (a 0)), (1, .ref b1), (2, .int s)]) rfl (by decide) dX1_pagesFrom_9 ?_
  refine z_iconst C (v := 0) (by decide) dX1_pagesFrom_11 ?_
  refine z_istore C (lv' := [(5, .int 0), (4, .int s), (3, .int (bOf N f s 27)), (0, .ref (a 0)), (1, .ref b1), (2, .int s)]) rfl (by decide) dX1_pagesFrom_12 ?_
  have loop14 : ∀ (n j : Nat) (c : Int32), j + n = (bOf N f s 27).toNatClampNeg → ppL N f F s n j c = ppL N f F s (bOf N f s 27).toNatClampNeg 0 s → Z E K 0 0 ((wF E a F) ++ (wS E b1 b2 N f)) 14 [(0, .ref (a 0)), (1, .ref b1), (2, .int s), (3, .int (bOf N f s 27)), (4, .int c), (5, .int (nI j))] [] := by
    intro n
    induction n with
    | zero => 
      intro j c hj hT
      have hjB : j = (bOf N f s 27).toNatClampNeg := by omega
      subst hjB
      refine z_iload C 5 rfl dX1_pagesFrom_14 ?_
      refine z_iload_n C 3 rfl rfl dX1_pagesFrom_16 ?_
      refine z_icmp_ge C (tgt := 98) dX1_pagesFrom_17 (by decide) (fun h17_1 => ?_) (fun h17_1 => absurd zclY h17_1)
      refine z_iload_n C 3 rfl rfl dX1_pagesFrom_98 ?_
      exact ret _ _ _ _ (by unfold pgsF; rw [← hT]; first | rfl | (simp only [ppL, h17_1, ↓reduceIte]; done)) rfl dX1_pagesFrom_99
    | succ n ih14 => 
      intro j c hj hT
      refine z_iload C 5 rfl dX1_pagesFrom_14 ?_
      refine z_iload_n C 3 rfl rfl dX1_pagesFrom_16 ?_
      refine z_icmp_ge C (tgt := 98) dX1_pagesFrom_17 (by decide) (fun h17_2 => absurd h17_2 (zclN hj)) (fun h17_2 => ?_)
      refine z_aload_n C 0 rfl rfl dX1_pagesFrom_20 ?_
      refine z_iload C 4 rfl dX1_pagesFrom_21 ?_
      refine z_rVI C (c_X1_isTelling E a F c) gX1_pagesFrom_X1_isTelling (ci := 1) (q0 := 0) rfl rfl hyX1_isTelling rfl ⟨rfl, rfl⟩ ⟨by decide, by decide⟩ ⟨by decide, by decide⟩ [0, 1] rfl (by decide) (st := []) (Nat.le_of_ble_eq_true rfl) dX1_pagesFrom_23 ?_ rfl
      refine z_if_eq C (tgt := 82) dX1_pagesFrom_26 (by decide) (fun h26_3 => ?_) (fun h26_3 => ?_)
      · refine z_iconst C (v := 0) (by decide) dX1_pagesFrom_82 ?_
        exact ret _ _ _ _ (by unfold pgsF; rw [← hT]; first | rfl | (simp only [ppL, h17_2, h26_3, ↓reduceIte]; done)) rfl dX1_pagesFrom_83
      · refine z_aload_n C 1 rfl rfl dX1_pagesFrom_29 ?_
        refine z_iload C 4 rfl dX1_pagesFrom_30 ?_
        refine z_iconst C (v := 0) (by decide) dX1_pagesFrom_32 ?_
        refine z_rVI C (c_X3_byteOf E N hN b1 b2 f c 0) gX1_pagesFrom_X3_byteOf (ci := 3) (q0 := 0) rfl rfl hyX3_byteOf rfl ⟨rfl, rfl⟩ ⟨by decide, by decide⟩ ⟨by decide, by decide⟩ [2, 3] rfl (by decide) (st := []) (Nat.le_of_ble_eq_true rfl) dX1_pagesFrom_33 ?_ rfl
        refine z_iconst C (v := 2) (by decide) dX1_pagesFrom_36 ?_
        refine z_icmp_ne C (tgt := 82) dX1_pagesFrom_37 (by decide) (fun h37_4 => ?_) (fun h37_4 => ?_)
        · refine z_iconst C (v := 0) (by decide) dX1_pagesFrom_82 ?_
          exact ret _ _ _ _ (by unfold pgsF; rw [← hT]; first | rfl | (simp only [ppL, h17_2, h26_3, h37_4, ↓reduceIte]; done)) rfl dX1_pagesFrom_83
        · refine z_aload_n C 1 rfl rfl dX1_pagesFrom_40 ?_
          refine z_iload C 4 rfl dX1_pagesFrom_41 ?_
          refine z_bipush C (v := 26) (by decide) dX1_pagesFrom_43 ?_
          refine z_rVI C (c_X3_byteOf E N hN b1 b2 f c 26) gX1_pagesFrom_X3_byteOf (ci := 3) (q0 := 0) rfl rfl hyX3_byteOf rfl ⟨rfl, rfl⟩ ⟨by decide, by decide⟩ ⟨by decide, by decide⟩ [2, 3] rfl (by decide) (st := []) (Nat.le_of_ble_eq_true rfl) dX1_pagesFrom_45 ?_ rfl
          refine z_iload C 5 rfl dX1_pagesFrom_48 ?_
          refine z_icmp_ne C (tgt := 82) dX1_pagesFrom_50 (by decide) (fun h50_5 => ?_) (fun h50_5 => ?_)
          · refine z_iconst C (v := 0) (by decide) dX1_pagesFrom_82 ?_
            exact ret _ _ _ _ (by unfold pgsF; rw [← hT]; first | rfl | (simp only [ppL, h17_2, h26_3, h37_4, h50_5, ↓reduceIte]; done)) rfl dX1_pagesFrom_83
          · refine z_aload_n C 1 rfl rfl dX1_pagesFrom_53 ?_
            refine z_iload C 4 rfl dX1_pagesFrom_54 ?_
            refine z_bipush C (v := 27) (by decide) dX1_pagesFrom_56 ?_
            refine z_rVI C (c_X3_byteOf E N hN b1 b2 f c 27) gX1_pagesFrom_X3_byteOf (ci := 3) (q0 := 0) rfl rfl hyX3_byteOf rfl ⟨rfl, rfl⟩ ⟨by decide, by decide⟩ ⟨by decide, by decide⟩ [2, 3] rfl (by decide) (st := []) (Nat.le_of_ble_eq_true rfl) dX1_pagesFrom_58 ?_ rfl
            refine z_iload_n C 3 rfl rfl dX1_pagesFrom_61 ?_
            refine z_icmp_ne C (tgt := 82) dX1_pagesFrom_62 (by decide) (fun h62_6 => ?_) (fun h62_6 => ?_)
            · refine z_iconst C (v := 0) (by decide) dX1_pagesFrom_82 ?_
              exact ret _ _ _ _ (by unfold pgsF; rw [← hT]; first | rfl | (simp only [ppL, h17_2, h26_3, h37_4, h50_5, h62_6, ↓reduceIte]; done)) rfl dX1_pagesFrom_83
            · refine z_aload_n C 1 rfl rfl dX1_pagesFrom_65 ?_
              refine z_iload C 4 rfl dX1_pagesFrom_66 ?_
              refine z_rVI C (c_X3_serialOf E N hN b1 b2 f c) gX1_pagesFrom_X3_serialOf (ci := 3) (q0 := 0) rfl rfl hyX3_serialOf rfl ⟨rfl, rfl⟩ ⟨by decide, by decide⟩ ⟨by decide, by decide⟩ [2, 3] rfl (by decide) (st := []) (Nat.le_of_ble_eq_true rfl) dX1_pagesFrom_68 ?_ rfl
              refine z_aload_n C 1 rfl rfl dX1_pagesFrom_71 ?_
              refine z_iload_n C 2 rfl rfl dX1_pagesFrom_72 ?_
              refine z_rVI C (c_X3_serialOf E N hN b1 b2 f s) gX1_pagesFrom_X3_serialOf (ci := 3) (q0 := 0) rfl rfl hyX3_serialOf rfl ⟨rfl, rfl⟩ ⟨by decide, by decide⟩ ⟨by decide, by decide⟩ [2, 3] rfl (by decide) (st := [.int (nOf N f c 1 4)]) (Nat.le_of_ble_eq_true rfl) dX1_pagesFrom_73 ?_ rfl
              refine z_iload C 5 rfl dX1_pagesFrom_76 ?_
              refine z_iadd C dX1_pagesFrom_78 ?_
              refine z_icmp_eq C (tgt := 84) dX1_pagesFrom_79 (by decide) (fun h79_7 => ?_) (fun h79_7 => ?_)
              · refine z_aload_n C 1 rfl rfl dX1_pagesFrom_84 ?_
                refine z_iload C 4 rfl dX1_pagesFrom_85 ?_
                refine z_rVI C (c_X3_behind E N hN b1 b2 f c) gX1_pagesFrom_X3_behind (ci := 3) (q0 := 0) rfl rfl hyX3_behind rfl ⟨rfl, rfl⟩ ⟨by decide, by decide⟩ ⟨by decide, by decide⟩ [2, 3] rfl (by decide) (st := []) (Nat.le_of_ble_eq_true rfl) dX1_pagesFrom_87 ?_ rfl
                refine z_istore C (lv' := [(4, .int (bhd N c)), (0, .ref (a 0)), (1, .ref b1), (2, .int s), (3, .int (bOf N f s 27)), (5, .int (nI j))]) rfl (by decide) dX1_pagesFrom_90 ?_
                refine z_iinc C 5 rfl (v := (nI (j + 1))) (zinc _) (lv' := [(5, .int (nI (j + 1))), (4, .int (bhd N c)), (0, .ref (a 0)), (1, .ref b1), (2, .int s), (3, .int (bOf N f s 27))]) rfl (by decide) dX1_pagesFrom_92 ?_
                refine z_goto C (tgt := 14) dX1_pagesFrom_95 (by decide) ?_
                refine z_lv (lv' := [(0, .ref (a 0)), (1, .ref b1), (2, .int s), (3, .int (bOf N f s 27)), (4, .int (bhd N c)), (5, .int (nI (j + 1)))]) [2, 3, 4, 5, 1, 0] rfl ?_
                exact ih14 (j + 1) _ (by omega) (by rw [← hT]; simp only [ppL, h17_2, h26_3, h37_4, h50_5, h62_6, h79_7, ↓reduceIte])
              · refine z_iconst C (v := 0) (by decide) dX1_pagesFrom_82 ?_
                exact ret _ _ _ _ (by unfold pgsF; rw [← hT]; first | rfl | (simp only [ppL, h17_2, h26_3, h37_4, h50_5, h62_6, h79_7, ↓reduceIte]; done)) rfl dX1_pagesFrom_83
  refine z_lv (lv' := [(0, .ref (a 0)), (1, .ref b1), (2, .int s), (3, .int (bOf N f s 27)), (4, .int s), (5, .int 0)]) [3, 4, 5, 2, 1, 0] rfl ?_
  exact loop14 (bOf N f s 27).toNatClampNeg 0 s (by omega) rfl
abbrev rmX1_findCheckpoint : Room := { frames := 4, cells := 0, slots := 0, locals := 93 }
theorem hyX1_findCheckpoint : yX1_findCheckpoint.cls = RX1 ∧ yX1_findCheckpoint.cls ≠ "java/lang/invoke/MethodHandle" ∧ yX1_findCheckpoint.cls ≠ "java/lang/invoke/VarHandle" ∧ (parseMethodDescriptor yX1_findCheckpoint.desc).map (fun d => d.parameters.length) = some 1 := by decide +kernel
set_option maxHeartbeats 4000000 in
set_option maxRecDepth 3000 in
theorem c_X1_findCheckpoint (E : GE) (N : Nat) (hN : 16 ≤ N ∧ N ≤ 64) (b1 b2 : Nat) (f : Nat → Int32) (a : Nat → Nat) (F : FS) : zI E yX1_findCheckpoint wsX1_findCheckpoint rmX1_findCheckpoint [.ref (a 0), .ref b1] ((wF E a F) ++ (wS E b1 b2 N f)) (fFound N f F) ((wF E a (fFind N f F)) ++ (wS E b1 b2 N f)) := by
  refine zI_of (cc := cX1_findCheckpoint) (maxL := 4) (ty := .boolean) (by decide) rfl (by unfold fFound; (repeat' split) <;> rfl) (Nat.le_of_ble_eq_true rfl) ?_
  intro K C ret
  replace C : zC E K cX1_findCheckpoint wsX1_findCheckpoint RX1 rmX1_findCheckpoint 4 := C
  have in1 : ∀ w ∈ wsX10, w ∈ wsX1_findCheckpoint := fun w h => List.mem_cons_of_mem _ (List.mem_append_left _ (List.mem_append_right _ (h)))
  have l15 : zw K (.fieldLink RX1 15 "StoreLog3$Finder" "firstPage" "I") := C.w (List.mem_cons_of_mem _ (List.mem_append_left _ (List.mem_append_left _ (List.mem_append_left _ (List.mem_of_getElem? (i := 1) rfl)))))
  have l26 : zw K (.fieldLink RX1 26 "StoreLog3$Finder" "pages" "I") := C.w (List.mem_cons_of_mem _ (List.mem_append_left _ (List.mem_append_left _ (List.mem_append_left _ (List.mem_of_getElem? (i := 0) rfl)))))
  show Z E K 0 0 ((wF E a F) ++ (wS E b1 b2 N f)) 0 [(0, .ref (a 0)), (1, .ref b1)] []
  refine z_aload_n C 0 rfl rfl dX1_findCheckpoint_0 ?_
  refine z_aload_n C 1 rfl rfl dX1_findCheckpoint_1 ?_
  have ct1 := c_X1_lookAt E N hN b1 b2 f a F
  obtain ⟨Fq2, hq2_2⟩ : ∃ z : FS, (fsTe F (laL N f (fTe F) 64)) = z := ⟨_, rfl⟩
  rw [hq2_2] at ct1
  refine z_callVV C ct1 gX1_findCheckpoint_X1_lookAt (ci := 1) (q0 := 0) rfl rfl hyX1_lookAt rfl ⟨rfl, rfl⟩ ⟨by decide, by decide⟩ ⟨by decide, by decide⟩ [0, 1, 2, 3] [] [0, 1, 2, 3] (wr := []) (V' := ((wF E a Fq2) ++ (wS E b1 b2 N f))) rfl rfl (by decide) (by decide) (by decide) rfl (by decide) (st := []) (Nat.le_of_ble_eq_true rfl) dX1_findCheckpoint_2 ?_ rfl
  refine z_aload_n C 0 rfl rfl dX1_findCheckpoint_5 ?_
  refine z_iconst C (v := 0) (by decide) dX1_findCheckpoint_6 ?_
  refine z_put C (Cn := RX1) (T := TX1) (Nf := 4) (ci := 1) in1 0 2 l26 rfl rfl (by decide) tyX1 tyX1_ok nmX1 rfl rfl rfl (Nat.le_of_ble_eq_true rfl) (V' := ((wF E a (fsPg Fq2 0)) ++ (wS E b1 b2 N f))) rfl dX1_findCheckpoint_7 ?_
  refine z_iconst C (v := 0) (by decide) dX1_findCheckpoint_10 ?_
  refine z_istore_n C (lv' := [(2, .int 0), (0, .ref (a 0)), (1, .ref b1)]) rfl rfl (by decide) dX1_findCheckpoint_11 ?_
  have loop12 : ∀ (n j : Nat) (F1 : FS), j + n = N → fcL N f n j F1 = fcL N f N 0 (fsPg (fsTe F (laL N f (fTe F) 64)) 0) → Z E K 0 0 ((wF E a F1) ++ (wS E b1 b2 N f)) 12 [(0, .ref (a 0)), (1, .ref b1), (2, .int (nI j))] [] := by
    intro n
    induction n with
    | zero => 
      intro j F1 hj hT
      obtain rfl : N = j := by omega
      refine z_iload_n C 2 rfl rfl dX1_findCheckpoint_12 ?_
      refine z_aload_n C 1 rfl rfl dX1_findCheckpoint_13 ?_
      refine z_rVI C (c_X3_size E N hN b1 b2 f) gX1_findCheckpoint_X3_size (ci := 3) (q0 := 0) rfl rfl hyX3_size rfl ⟨rfl, rfl⟩ ⟨by decide, by decide⟩ ⟨by decide, by decide⟩ [2, 3] rfl (by decide) (st := [.int (nI N)]) (Nat.le_of_ble_eq_true rfl) dX1_findCheckpoint_14 ?_ rfl
      refine z_icmp_ge C (tgt := 73) dX1_findCheckpoint_17 (by decide) (fun h17_1 => ?_) (fun h17_1 => absurd (nI_le (a := N) (b := N) (Nat.le_refl _) (by omega)) h17_1)
      refine z_aload_n C 0 rfl rfl dX1_findCheckpoint_73 ?_
      refine z_get C (Cn := RX1) (T := TX1) (Nf := 4) (ci := 1) in1 0 2 l26 (v := .int (fPg F1)) rfl rfl (by decide) rfl dX1_findCheckpoint_74 ?_
      refine z_if_le C (tgt := 84) dX1_findCheckpoint_77 (by decide) (fun h77_2 => ?_) (fun h77_2 => ?_)
      · refine z_iconst C (v := 0) (by decide) dX1_findCheckpoint_84 ?_
        exact ret _ _ _ _ (by unfold fFound fFind; rw [← hT]; simp only [fcL, h77_2, ↓reduceIte]) (by unfold fFind; rw [← hT]; rfl) dX1_findCheckpoint_85
      · refine z_iconst C (v := 1) (by decide) dX1_findCheckpoint_80 ?_
        refine z_goto C (tgt := 85) dX1_findCheckpoint_81 (by decide) ?_
        exact ret _ _ _ _ (by unfold fFound fFind; rw [← hT]; simp only [fcL, h77_2, ↓reduceIte]) (by unfold fFind; rw [← hT]; rfl) dX1_findCheckpoint_85
    | succ n ih12 => 
      intro j F1 hj hT
      refine z_iload_n C 2 rfl rfl dX1_findCheckpoint_12 ?_
      refine z_aload_n C 1 rfl rfl dX1_findCheckpoint_13 ?_
      refine z_rVI C (c_X3_size E N hN b1 b2 f) gX1_findCheckpoint_X3_size (ci := 3) (q0 := 0) rfl rfl hyX3_size rfl ⟨rfl, rfl⟩ ⟨by decide, by decide⟩ ⟨by decide, by decide⟩ [2, 3] rfl (by decide) (st := [.int (nI j)]) (Nat.le_of_ble_eq_true rfl) dX1_findCheckpoint_14 ?_ rfl
      refine z_icmp_ge C (tgt := 73) dX1_findCheckpoint_17 (by decide) (fun h17_3 => absurd h17_3 (nI_ge (a := j) (b := N) (by omega) (by omega))) (fun h17_3 => ?_)
      refine z_aload_n C 0 rfl rfl dX1_findCheckpoint_20 ?_
      refine z_aload_n C 1 rfl rfl dX1_findCheckpoint_21 ?_
      refine z_iload_n C 2 rfl rfl dX1_findCheckpoint_22 ?_
      refine z_rVI C (c_X1_pagesFrom E N hN b1 b2 f a F1 (nI j)) gX1_findCheckpoint_X1_pagesFrom (ci := 1) (q0 := 0) rfl rfl hyX1_pagesFrom rfl ⟨rfl, rfl⟩ ⟨by decide, by decide⟩ ⟨by decide, by decide⟩ [0, 1, 2, 3] rfl (by decide) (st := []) (Nat.le_of_ble_eq_true rfl) dX1_findCheckpoint_23 ?_ rfl
      refine z_istore_n C (lv' := [(3, .int (pgsF N f F1 (nI j))), (0, .ref (a 0)), (1, .ref b1), (2, .int (nI j))]) rfl rfl (by decide) dX1_findCheckpoint_26 ?_
      refine z_iload_n C 0 rfl rfl dX1_findCheckpoint_27 ?_
      refine z_if_le C (tgt := 67) dX1_findCheckpoint_28 (by decide) (fun h28_4 => ?_) (fun h28_4 => ?_)
      · refine z_iinc C 3 rfl (v := (nI (j + 1))) (zinc _) (lv' := [(2, .int (nI (j + 1))), (3, .int (pgsF N f F1 (nI j))), (0, .ref (a 0)), (1, .ref b1)]) rfl (by decide) dX1_findCheckpoint_67 ?_
        refine z_goto C (tgt := 12) dX1_findCheckpoint_70 (by decide) ?_
        refine z_lv (lv' := [(0, .ref (a 0)), (1, .ref b1), (2, .int (nI (j + 1)))]) [2, 3, 0] rfl ?_
        exact ih12 (j + 1) _ (by omega) (by rw [← hT]; simp only [fcL, fcS, hq2_2, h17_3, h28_4, ↓reduceIte])
      · refine z_aload_n C 1 rfl rfl dX1_findCheckpoint_31 ?_
        refine z_get C (Cn := RX1) (T := TX1) (Nf := 4) (ci := 1) in1 0 2 l26 (v := .int (fPg F1)) rfl rfl (by decide) rfl dX1_findCheckpoint_32 ?_
        refine z_if_eq C (tgt := 57) dX1_findCheckpoint_35 (by decide) (fun h35_5 => ?_) (fun h35_5 => ?_)
        · refine z_aload_n C 1 rfl rfl dX1_findCheckpoint_57 ?_
          refine z_iload_n C 3 rfl rfl dX1_findCheckpoint_58 ?_
          refine z_put C (Cn := RX1) (T := TX1) (Nf := 4) (ci := 1) in1 0 1 l15 rfl rfl (by decide) tyX1 tyX1_ok nmX1 rfl rfl rfl (Nat.le_of_ble_eq_true rfl) (V' := ((wF E a (fsFp F1 (nI j))) ++ (wS E b1 b2 N f))) rfl dX1_findCheckpoint_59 ?_
          refine z_aload_n C 1 rfl rfl dX1_findCheckpoint_62 ?_
          refine z_iload_n C 0 rfl rfl dX1_findCheckpoint_63 ?_
          refine z_put C (Cn := RX1) (T := TX1) (Nf := 4) (ci := 1) in1 0 2 l26 rfl rfl (by decide) tyX1 tyX1_ok nmX1 rfl rfl rfl (Nat.le_of_ble_eq_true rfl) (V' := ((wF E a (fsPg (fsFp F1 (nI j)) (pgsF N f F1 (nI j)))) ++ (wS E b1 b2 N f))) rfl dX1_findCheckpoint_64 ?_
          refine z_iinc C 3 rfl (v := (nI (j + 1))) (zinc _) (lv' := [(2, .int (nI (j + 1))), (3, .int (pgsF N f F1 (nI j))), (0, .ref (a 0)), (1, .ref b1)]) rfl (by decide) dX1_findCheckpoint_67 ?_
          refine z_goto C (tgt := 12) dX1_findCheckpoint_70 (by decide) ?_
          refine z_lv (lv' := [(0, .ref (a 0)), (1, .ref b1), (2, .int (nI (j + 1)))]) [2, 3, 0] rfl ?_
          exact ih12 (j + 1) _ (by omega) (by rw [← hT]; simp only [fcL, fcS, hq2_2, h17_3, h28_4, h35_5, ↓reduceIte])
        · refine z_aload_n C 2 rfl rfl dX1_findCheckpoint_38 ?_
          refine z_iload_n C 3 rfl rfl dX1_findCheckpoint_39 ?_
          refine z_rVI C (c_X3_serialOf E N hN b1 b2 f (nI j)) gX1_findCheckpoint_X3_serialOf (ci := 3) (q0 := 0) rfl rfl hyX3_serialOf rfl ⟨rfl, rfl⟩ ⟨by decide, by decide⟩ ⟨by decide, by decide⟩ [2, 3] rfl (by decide) (st := []) (Nat.le_of_ble_eq_true rfl) dX1_findCheckpoint_40 ?_ rfl
          refine z_aload_n C 2 rfl rfl dX1_findCheckpoint_43 ?_
          refine z_aload_n C 1 rfl rfl dX1_findCheckpoint_44 ?_
          refine z_get C (Cn := RX1) (T := TX1) (Nf := 4) (ci := 1) in1 0 1 l15 (v := .int (fFp F1)) rfl rfl (by decide) rfl dX1_findCheckpoint_45 ?_
          refine z_rVI C (c_X3_serialOf E N hN b1 b2 f (fFp F1)) gX1_findCheckpoint_X3_serialOf (ci := 3) (q0 := 0) rfl rfl hyX3_serialOf rfl ⟨rfl, rfl⟩ ⟨by decide, by decide⟩ ⟨by decide, by decide⟩ [2, 3] rfl (by decide) (st := [.int (nOf N f (nI j) 1 4)]) (Nat.le_of_ble_eq_true rfl) dX1_findCheckpoint_48 ?_ rfl
          refine z_rSI C (c_X1_isLater E (nOf N f (nI j) 1 4) (nOf N f (fFp F1) 1 4)) gX1_findCheckpoint_X1_isLater hyX1_isLater.2 rfl ⟨rfl, rfl⟩ ⟨by decide, by decide⟩ ⟨by decide, by decide⟩ [] rfl (by decide) (st := []) (Nat.le_of_ble_eq_true rfl) dX1_findCheckpoint_51 ?_ rfl
          refine z_if_eq C (tgt := 67) dX1_findCheckpoint_54 (by decide) (fun h54_6 => ?_) (fun h54_6 => ?_)
          · refine z_iinc C 3 rfl (v := (nI (j + 1))) (zinc _) (lv' := [(2, .int (nI (j + 1))), (3, .int (pgsF N f F1 (nI j))), (0, .ref (a 0)), (1, .ref b1)]) rfl (by decide) dX1_findCheckpoint_67 ?_
            refine z_goto C (tgt := 12) dX1_findCheckpoint_70 (by decide) ?_
            refine z_lv (lv' := [(0, .ref (a 0)), (1, .ref b1), (2, .int (nI (j + 1)))]) [2, 3, 0] rfl ?_
            exact ih12 (j + 1) _ (by omega) (by rw [← hT]; simp only [fcL, fcS, hq2_2, h17_3, h28_4, h35_5, h54_6, ↓reduceIte])
          · refine z_aload_n C 1 rfl rfl dX1_findCheckpoint_57 ?_
            refine z_iload_n C 3 rfl rfl dX1_findCheckpoint_58 ?_
            refine z_put C (Cn := RX1) (T := TX1) (Nf := 4) (ci := 1) in1 0 1 l15 rfl rfl (by decide) tyX1 tyX1_ok nmX1 rfl rfl rfl (Nat.le_of_ble_eq_true rfl) (V' := ((wF E a (fsFp F1 (nI j))) ++ (wS E b1 b2 N f))) rfl dX1_findCheckpoint_59 ?_
            refine z_aload_n C 1 rfl rfl dX1_findCheckpoint_62 ?_
            refine z_iload_n C 0 rfl rfl dX1_findCheckpoint_63 ?_
            refine z_put C (Cn := RX1) (T := TX1) (Nf := 4) (ci := 1) in1 0 2 l26 rfl rfl (by decide) tyX1 tyX1_ok nmX1 rfl rfl rfl (Nat.le_of_ble_eq_true rfl) (V' := ((wF E a (fsPg (fsFp F1 (nI j)) (pgsF N f F1 (nI j)))) ++ (wS E b1 b2 N f))) rfl dX1_findCheckpoint_64 ?_
            refine z_iinc C 3 rfl (v := (nI (j + 1))) (zinc _) (lv' := [(2, .int (nI (j + 1))), (3, .int (pgsF N f F1 (nI j))), (0, .ref (a 0)), (1, .ref b1)]) rfl (by decide) dX1_findCheckpoint_67 ?_
            refine z_goto C (tgt := 12) dX1_findCheckpoint_70 (by decide) ?_
            refine z_lv (lv' := [(0, .ref (a 0)), (1, .ref b1), (2, .int (nI (j + 1)))]) [2, 3, 0] rfl ?_
            exact ih12 (j + 1) _ (by omega) (by rw [← hT]; simp only [fcL, fcS, hq2_2, h17_3, h28_4, h35_5, h54_6, ↓reduceIte])
  refine z_lv (lv' := [(0, .ref (a 0)), (1, .ref b1), (2, .int 0)]) [1, 2, 0] rfl ?_
  exact loop12 N 0 _ (by omega) (by simp only [hq2_2])
abbrev rmX1_readPages : Room := { frames := 3, cells := 0, slots := 0, locals := 72 }
theorem hyX1_readPages : yX1_readPages.cls = RX1 ∧ yX1_readPages.cls ≠ "java/lang/invoke/MethodHandle" ∧ yX1_readPages.cls ≠ "java/lang/invoke/VarHandle" ∧ (parseMethodDescriptor yX1_readPages.desc).map (fun d => d.parameters.length) = some 2 := by decide +kernel
set_option maxHeartbeats 4000000 in
set_option maxRecDepth 3000 in
theorem c_X1_readPages (E : GE) (N : Nat) (hN : 16 ≤ N ∧ N ≤ 64) (b1 b2 : Nat) (f : Nat → Int32) (a : Nat → Nat) (F : FS) (a2 : Nat → Nat) (D : DS) : zV E yX1_readPages wsX1_readPages rmX1_readPages [.ref (a 0), .ref b1, .ref (a2 0)] ((wF E a F) ++ (wS E b1 b2 N f) ++ (wD E a2 D)) ((wF E a (fsRe F (rdAll N f F D).1)) ++ (wS E b1 b2 N f) ++ (wD E a2 ((rdAll N f F D).2))) := by
  refine zV_of (cc := cX1_readPages) (maxL := 5) (by decide) rfl (Nat.le_of_ble_eq_true rfl) ?_
  intro K C ret
  replace C : zC E K cX1_readPages wsX1_readPages RX1 rmX1_readPages 5 := C
  have in1 : ∀ w ∈ wsX10, w ∈ wsX1_readPages := fun w h => List.mem_cons_of_mem _ (List.mem_append_left _ (List.mem_append_left _ (List.mem_append_right _ (h))))
  have l15 : zw K (.fieldLink RX1 15 "StoreLog3$Finder" "firstPage" "I") := C.w (List.mem_cons_of_mem _ (List.mem_append_left _ (List.mem_append_left _ (List.mem_append_left _ (List.mem_append_left _ (List.mem_of_getElem? (i := 0) rfl))))))
  have l19 : zw K (.fieldLink RX1 19 "StoreLog3$Finder" "runEnd" "I") := C.w (List.mem_cons_of_mem _ (List.mem_append_left _ (List.mem_append_left _ (List.mem_append_left _ (List.mem_append_left _ (List.mem_of_getElem? (i := 2) rfl))))))
  have l26 : zw K (.fieldLink RX1 26 "StoreLog3$Finder" "pages" "I") := C.w (List.mem_cons_of_mem _ (List.mem_append_left _ (List.mem_append_left _ (List.mem_append_left _ (List.mem_append_left _ (List.mem_of_getElem? (i := 1) rfl))))))
  show Z E K 0 0 ((wF E a F) ++ (wS E b1 b2 N f) ++ (wD E a2 D)) 0 [(0, .ref (a 0)), (1, .ref b1), (2, .ref (a2 0))] []
  refine z_aload_n C 0 rfl rfl dX1_readPages_0 ?_
  refine z_get C (Cn := RX1) (T := TX1) (Nf := 4) (ci := 1) in1 0 1 l15 (v := .int (fFp F)) rfl rfl (by decide) rfl dX1_readPages_1 ?_
  refine z_istore_n C (lv' := [(3, .int (fFp F)), (0, .ref (a 0)), (1, .ref b1), (2, .ref (a2 0))]) rfl rfl (by decide) dX1_readPages_4 ?_
  refine z_iconst C (v := 0) (by decide) dX1_readPages_5 ?_
  refine z_istore C (lv' := [(4, .int 0), (3, .int (fFp F)), (0, .ref (a 0)), (1, .ref b1), (2, .ref (a2 0))]) rfl (by decide) dX1_readPages_6 ?_
  have loop8 : ∀ (n j : Nat) (s re : Int32) (D1 : DS), j + n = (fPg F).toNatClampNeg → rdL N f n s (re, D1) = rdL N f (fPg F).toNatClampNeg (fFp F) (fRe F, D) → Z E K 0 0 ((wF E a (fsRe F re)) ++ (wS E b1 b2 N f) ++ (wD E a2 D1)) 8 [(0, .ref (a 0)), (1, .ref b1), (2, .ref (a2 0)), (3, .int s), (4, .int (nI j))] [] := by
    intro n
    induction n with
    | zero => 
      intro j s re D1 hj hT
      have hjB : j = (fPg F).toNatClampNeg := by omega
      subst hjB
      refine z_iload C 4 rfl dX1_readPages_8 ?_
      refine z_aload_n C 0 rfl rfl dX1_readPages_10 ?_
      refine z_get C (Cn := RX1) (T := TX1) (Nf := 4) (ci := 1) in1 0 2 l26 (v := .int (fPg F)) rfl rfl (by decide) rfl dX1_readPages_11 ?_
      refine z_icmp_ge C (tgt := 40) dX1_readPages_14 (by decide) (fun h14_1 => ?_) (fun h14_1 => absurd zclY h14_1)
      exact ret _ _ _ (by unfold rdAll; rw [← hT]; rfl) dX1_readPages_40
    | succ n ih8 => 
      intro j s re D1 hj hT
      refine z_iload C 4 rfl dX1_readPages_8 ?_
      refine z_aload_n C 0 rfl rfl dX1_readPages_10 ?_
      refine z_get C (Cn := RX1) (T := TX1) (Nf := 4) (ci := 1) in1 0 2 l26 (v := .int (fPg F)) rfl rfl (by decide) rfl dX1_readPages_11 ?_
      refine z_icmp_ge C (tgt := 40) dX1_readPages_14 (by decide) (fun h14_2 => absurd h14_2 (zclN hj)) (fun h14_2 => ?_)
      refine z_aload_n C 1 rfl rfl dX1_readPages_17 ?_
      refine z_iload_n C 3 rfl rfl dX1_readPages_18 ?_
      refine z_aload_n C 2 rfl rfl dX1_readPages_19 ?_
      have ct1 := c_X1_readPage E N hN b1 b2 f a2 D1 s
      obtain ⟨Dq2, hq20_2⟩ : ∃ z : DS, (rPage N f s D1) = z := ⟨_, rfl⟩
      rw [hq20_2] at ct1
      refine z_callSV C ct1 gX1_readPages_X1_readPage hyX1_readPage.2 rfl ⟨rfl, rfl⟩ ⟨by decide, by decide⟩ ⟨by decide, by decide⟩ [2, 3, 4, 5, 6, 7] [0, 1] [0, 1, 2, 3, 4, 5, 6, 7] (wr := [((a 0), .inr (1, [.ref (a 1), .int (fFp F), .int (fPg F), .int re])), ((a 1), .inl (gZ E, 64, .inl (fTe F)))]) (V' := ((wF E a (fsRe F re)) ++ (wS E b1 b2 N f) ++ (wD E a2 Dq2))) rfl rfl (by decide) (by decide) (by decide) rfl (by decide) (st := []) (Nat.le_of_ble_eq_true rfl) dX1_readPages_20 ?_ rfl
      refine z_aload_n C 0 rfl rfl dX1_readPages_23 ?_
      refine z_iload_n C 3 rfl rfl dX1_readPages_24 ?_
      refine z_put C (Cn := RX1) (T := TX1) (Nf := 4) (ci := 1) in1 0 3 l19 rfl rfl (by decide) tyX1 tyX1_ok nmX1 rfl rfl rfl (Nat.le_of_ble_eq_true rfl) (V' := ((wF E a (fsRe F s)) ++ (wS E b1 b2 N f) ++ (wD E a2 Dq2))) rfl dX1_readPages_25 ?_
      refine z_aload_n C 1 rfl rfl dX1_readPages_28 ?_
      refine z_iload_n C 3 rfl rfl dX1_readPages_29 ?_
      refine z_rVI C (c_X3_behind E N hN b1 b2 f s) gX1_readPages_X3_behind (ci := 3) (q0 := 0) rfl rfl hyX3_behind rfl ⟨rfl, rfl⟩ ⟨by decide, by decide⟩ ⟨by decide, by decide⟩ [2, 3] rfl (by decide) (st := []) (Nat.le_of_ble_eq_true rfl) dX1_readPages_30 ?_ rfl
      refine z_istore_n C (lv' := [(3, .int (bhd N s)), (0, .ref (a 0)), (1, .ref b1), (2, .ref (a2 0)), (4, .int (nI j))]) rfl rfl (by decide) dX1_readPages_33 ?_
      refine z_iinc C 4 rfl (v := (nI (j + 1))) (zinc _) (lv' := [(4, .int (nI (j + 1))), (3, .int (bhd N s)), (0, .ref (a 0)), (1, .ref b1), (2, .ref (a2 0))]) rfl (by decide) dX1_readPages_34 ?_
      refine z_goto C (tgt := 8) dX1_readPages_37 (by decide) ?_
      refine z_lv (lv' := [(0, .ref (a 0)), (1, .ref b1), (2, .ref (a2 0)), (3, .int (bhd N s)), (4, .int (nI (j + 1)))]) [2, 3, 4, 1, 0] rfl ?_
      exact ih8 (j + 1) _ _ _ (by omega) (by rw [← hT]; simp only [rdL, hq20_2])
  refine z_lv (lv' := [(0, .ref (a 0)), (1, .ref b1), (2, .ref (a2 0)), (3, .int (fFp F)), (4, .int 0)]) [2, 3, 4, 1, 0] rfl ?_
  exact loop8 (fPg F).toNatClampNeg 0 (fFp F) (fRe F) D (by omega) rfl
abbrev rmX1_goOverRun : Room := { frames := 4, cells := 0, slots := 0, locals := 93 }
theorem hyX1_goOverRun : yX1_goOverRun.cls = RX1 ∧ yX1_goOverRun.cls ≠ "java/lang/invoke/MethodHandle" ∧ yX1_goOverRun.cls ≠ "java/lang/invoke/VarHandle" ∧ (parseMethodDescriptor yX1_goOverRun.desc).map (fun d => d.parameters.length) = some 2 := by decide +kernel
set_option maxHeartbeats 4000000 in
set_option maxRecDepth 3000 in
theorem c_X1_goOverRun (E : GE) (N : Nat) (hN : 16 ≤ N ∧ N ≤ 64) (b1 b2 : Nat) (f : Nat → Int32) (a : Nat → Nat) (F : FS) (a2 : Nat → Nat) (D : DS) : zV E yX1_goOverRun wsX1_goOverRun rmX1_goOverRun [.ref (a 0), .ref b1, .ref (a2 0)] ((wF E a F) ++ (wS E b1 b2 N f) ++ (wD E a2 D)) ((wF E a ((gRun N f F D).1)) ++ (wS E b1 b2 N f) ++ (wD E a2 ((gRun N f F D).2))) := by
  refine zV_of (cc := cX1_goOverRun) (maxL := 5) (by decide) rfl (Nat.le_of_ble_eq_true rfl) ?_
  intro K C ret
  replace C : zC E K cX1_goOverRun wsX1_goOverRun RX1 rmX1_goOverRun 5 := C
  have in1 : ∀ w ∈ wsX10, w ∈ wsX1_goOverRun := fun w h => List.mem_cons_of_mem _ (List.mem_append_left _ (List.mem_append_left _ (List.mem_append_right _ (h))))
  have l19 : zw K (.fieldLink RX1 19 "StoreLog3$Finder" "runEnd" "I") := C.w (List.mem_cons_of_mem _ (List.mem_append_left _ (List.mem_append_left _ (List.mem_append_left _ (List.mem_append_left _ (List.mem_of_getElem? (i := 0) rfl))))))
  show Z E K 0 0 ((wF E a F) ++ (wS E b1 b2 N f) ++ (wD E a2 D)) 0 [(0, .ref (a 0)), (1, .ref b1), (2, .ref (a2 0))] []
  refine z_iconst C (v := 0) (by decide) dX1_goOverRun_0 ?_
  refine z_istore_n C (lv' := [(3, .int 0), (0, .ref (a 0)), (1, .ref b1), (2, .ref (a2 0))]) rfl rfl (by decide) dX1_goOverRun_1 ?_
  have loop2 : ∀ (n j : Nat) (F1 : FS) (D1 : DS), j + n = N → grL N f n (F1, D1) = grL N f N (F, D) → Z E K 0 0 ((wF E a F1) ++ (wS E b1 b2 N f) ++ (wD E a2 D1)) 2 [(0, .ref (a 0)), (1, .ref b1), (2, .ref (a2 0)), (3, .int (nI j))] [] := by
    intro n
    induction n with
    | zero => 
      intro j F1 D1 hj hT
      obtain rfl : N = j := by omega
      refine z_iload_n C 3 rfl rfl dX1_goOverRun_2 ?_
      refine z_aload_n C 1 rfl rfl dX1_goOverRun_3 ?_
      refine z_rVI C (c_X3_size E N hN b1 b2 f) gX1_goOverRun_X3_size (ci := 3) (q0 := 0) rfl rfl hyX3_size rfl ⟨rfl, rfl⟩ ⟨by decide, by decide⟩ ⟨by decide, by decide⟩ [2, 3] rfl (by decide) (st := [.int (nI N)]) (Nat.le_of_ble_eq_true rfl) dX1_goOverRun_4 ?_ rfl
      refine z_icmp_ge C (tgt := 79) dX1_goOverRun_7 (by decide) (fun h7_1 => ?_) (fun h7_1 => absurd (nI_le (a := N) (b := N) (Nat.le_refl _) (by omega)) h7_1)
      exact ret _ _ _ (by unfold gRun; rw [← hT]; first | rfl | (simp only [grL, h7_1, ↓reduceIte]; done)) dX1_goOverRun_79
    | succ n ih2 => 
      intro j F1 D1 hj hT
      refine z_iload_n C 3 rfl rfl dX1_goOverRun_2 ?_
      refine z_aload_n C 1 rfl rfl dX1_goOverRun_3 ?_
      refine z_rVI C (c_X3_size E N hN b1 b2 f) gX1_goOverRun_X3_size (ci := 3) (q0 := 0) rfl rfl hyX3_size rfl ⟨rfl, rfl⟩ ⟨by decide, by decide⟩ ⟨by decide, by decide⟩ [2, 3] rfl (by decide) (st := [.int (nI j)]) (Nat.le_of_ble_eq_true rfl) dX1_goOverRun_4 ?_ rfl
      refine z_icmp_ge C (tgt := 79) dX1_goOverRun_7 (by decide) (fun h7_2 => absurd h7_2 (nI_ge (a := j) (b := N) (by omega) (by omega))) (fun h7_2 => ?_)
      refine z_aload_n C 1 rfl rfl dX1_goOverRun_10 ?_
      refine z_aload_n C 0 rfl rfl dX1_goOverRun_11 ?_
      refine z_get C (Cn := RX1) (T := TX1) (Nf := 4) (ci := 1) in1 0 3 l19 (v := .int (fRe F1)) rfl rfl (by decide) rfl dX1_goOverRun_12 ?_
      refine z_rVI C (c_X3_behind E N hN b1 b2 f (fRe F1)) gX1_goOverRun_X3_behind (ci := 3) (q0 := 0) rfl rfl hyX3_behind rfl ⟨rfl, rfl⟩ ⟨by decide, by decide⟩ ⟨by decide, by decide⟩ [2, 3] rfl (by decide) (st := []) (Nat.le_of_ble_eq_true rfl) dX1_goOverRun_15 ?_ rfl
      refine z_istore C (lv' := [(4, .int (bhd N (fRe F1))), (0, .ref (a 0)), (1, .ref b1), (2, .ref (a2 0)), (3, .int (nI j))]) rfl (by decide) dX1_goOverRun_18 ?_
      refine z_aload_n C 1 rfl rfl dX1_goOverRun_20 ?_
      refine z_iload C 0 rfl dX1_goOverRun_21 ?_
      refine z_rVI C (c_X1_isTelling E a F1 (bhd N (fRe F1))) gX1_goOverRun_X1_isTelling (ci := 1) (q0 := 0) rfl rfl hyX1_isTelling rfl ⟨rfl, rfl⟩ ⟨by decide, by decide⟩ ⟨by decide, by decide⟩ [0, 1] rfl (by decide) (st := []) (Nat.le_of_ble_eq_true rfl) dX1_goOverRun_23 ?_ rfl
      refine z_if_eq C (tgt := 48) dX1_goOverRun_26 (by decide) (fun h26_3 => ?_) (fun h26_3 => ?_)
      · exact ret _ _ _ (by unfold gRun; rw [← hT]; first | rfl | (simp only [grL, h7_2, h26_3, ↓reduceIte]; done)) dX1_goOverRun_48
      · refine z_aload_n C 2 rfl rfl dX1_goOverRun_29 ?_
        refine z_iload C 0 rfl dX1_goOverRun_30 ?_
        refine z_rVI C (c_X3_serialOf E N hN b1 b2 f (bhd N (fRe F1))) gX1_goOverRun_X3_serialOf (ci := 3) (q0 := 0) rfl rfl hyX3_serialOf rfl ⟨rfl, rfl⟩ ⟨by decide, by decide⟩ ⟨by decide, by decide⟩ [2, 3] rfl (by decide) (st := []) (Nat.le_of_ble_eq_true rfl) dX1_goOverRun_32 ?_ rfl
        refine z_aload_n C 2 rfl rfl dX1_goOverRun_35 ?_
        refine z_aload_n C 1 rfl rfl dX1_goOverRun_36 ?_
        refine z_get C (Cn := RX1) (T := TX1) (Nf := 4) (ci := 1) in1 0 3 l19 (v := .int (fRe F1)) rfl rfl (by decide) rfl dX1_goOverRun_37 ?_
        refine z_rVI C (c_X3_serialOf E N hN b1 b2 f (fRe F1)) gX1_goOverRun_X3_serialOf (ci := 3) (q0 := 0) rfl rfl hyX3_serialOf rfl ⟨rfl, rfl⟩ ⟨by decide, by decide⟩ ⟨by decide, by decide⟩ [2, 3] rfl (by decide) (st := [.int (nOf N f (bhd N (fRe F1)) 1 4)]) (Nat.le_of_ble_eq_true rfl) dX1_goOverRun_40 ?_ rfl
        refine z_iconst C (v := 1) (by decide) dX1_goOverRun_43 ?_
        refine z_iadd C dX1_goOverRun_44 ?_
        refine z_icmp_eq C (tgt := 49) dX1_goOverRun_45 (by decide) (fun h45_4 => ?_) (fun h45_4 => ?_)
        · refine z_aload_n C 2 rfl rfl dX1_goOverRun_49 ?_
          refine z_iload C 0 rfl dX1_goOverRun_50 ?_
          refine z_iconst C (v := 0) (by decide) dX1_goOverRun_52 ?_
          refine z_rVI C (c_X3_byteOf E N hN b1 b2 f (bhd N (fRe F1)) 0) gX1_goOverRun_X3_byteOf (ci := 3) (q0 := 0) rfl rfl hyX3_byteOf rfl ⟨rfl, rfl⟩ ⟨by decide, by decide⟩ ⟨by decide, by decide⟩ [2, 3] rfl (by decide) (st := []) (Nat.le_of_ble_eq_true rfl) dX1_goOverRun_53 ?_ rfl
          refine z_iconst C (v := 1) (by decide) dX1_goOverRun_56 ?_
          refine z_icmp_ne C (tgt := 67) dX1_goOverRun_57 (by decide) (fun h57_5 => ?_) (fun h57_5 => ?_)
          · refine z_aload_n C 1 rfl rfl dX1_goOverRun_67 ?_
            refine z_iload C 0 rfl dX1_goOverRun_68 ?_
            refine z_put C (Cn := RX1) (T := TX1) (Nf := 4) (ci := 1) in1 0 3 l19 rfl rfl (by decide) tyX1 tyX1_ok nmX1 rfl rfl rfl (Nat.le_of_ble_eq_true rfl) (V' := ((wF E a (fsRe F1 (bhd N (fRe F1)))) ++ (wS E b1 b2 N f) ++ (wD E a2 D1))) rfl dX1_goOverRun_70 ?_
            refine z_iinc C 4 rfl (v := (nI (j + 1))) (zinc _) (lv' := [(3, .int (nI (j + 1))), (4, .int (bhd N (fRe F1))), (0, .ref (a 0)), (1, .ref b1), (2, .ref (a2 0))]) rfl (by decide) dX1_goOverRun_73 ?_
            refine z_goto C (tgt := 2) dX1_goOverRun_76 (by decide) ?_
            refine z_lv (lv' := [(0, .ref (a 0)), (1, .ref b1), (2, .ref (a2 0)), (3, .int (nI (j + 1)))]) [2, 3, 4, 0] rfl ?_
            exact ih2 (j + 1) _ _ (by omega) (by rw [← hT]; simp only [grL, h7_2, h26_3, h45_4, h57_5, ↓reduceIte])
          · refine z_aload_n C 2 rfl rfl dX1_goOverRun_60 ?_
            refine z_iload C 0 rfl dX1_goOverRun_61 ?_
            refine z_aload_n C 3 rfl rfl dX1_goOverRun_63 ?_
            have ct1 := c_X1_goOverLog E N hN b1 b2 f a2 D1 (bhd N (fRe F1))
            obtain ⟨Dq2, hq64_2⟩ : ∃ z : DS, (gLog N f (bhd N (fRe F1)) D1) = z := ⟨_, rfl⟩
            rw [hq64_2] at ct1
            refine z_callSV C ct1 gX1_goOverRun_X1_goOverLog hyX1_goOverLog.2 rfl ⟨rfl, rfl⟩ ⟨by decide, by decide⟩ ⟨by decide, by decide⟩ [2, 3, 4, 5, 6, 7] [0, 1] [0, 1, 2, 3, 4, 5, 6, 7] (wr := [((a 0), .inr (1, [.ref (a 1), .int (fFp F1), .int (fPg F1), .int (fRe F1)])), ((a 1), .inl (gZ E, 64, .inl (fTe F1)))]) (V' := ((wF E a F1) ++ (wS E b1 b2 N f) ++ (wD E a2 Dq2))) rfl rfl (by decide) (by decide) (by decide) rfl (by decide) (st := []) (Nat.le_of_ble_eq_true rfl) dX1_goOverRun_64 ?_ rfl
            refine z_aload_n C 1 rfl rfl dX1_goOverRun_67 ?_
            refine z_iload C 0 rfl dX1_goOverRun_68 ?_
            refine z_put C (Cn := RX1) (T := TX1) (Nf := 4) (ci := 1) in1 0 3 l19 rfl rfl (by decide) tyX1 tyX1_ok nmX1 rfl rfl rfl (Nat.le_of_ble_eq_true rfl) (V' := ((wF E a (fsRe F1 (bhd N (fRe F1)))) ++ (wS E b1 b2 N f) ++ (wD E a2 Dq2))) rfl dX1_goOverRun_70 ?_
            refine z_iinc C 4 rfl (v := (nI (j + 1))) (zinc _) (lv' := [(3, .int (nI (j + 1))), (4, .int (bhd N (fRe F1))), (0, .ref (a 0)), (1, .ref b1), (2, .ref (a2 0))]) rfl (by decide) dX1_goOverRun_73 ?_
            refine z_goto C (tgt := 2) dX1_goOverRun_76 (by decide) ?_
            refine z_lv (lv' := [(0, .ref (a 0)), (1, .ref b1), (2, .ref (a2 0)), (3, .int (nI (j + 1)))]) [2, 3, 4, 0] rfl ?_
            exact ih2 (j + 1) _ _ (by omega) (by rw [← hT]; simp only [grL, h7_2, h26_3, h45_4, h57_5, hq64_2, ↓reduceIte])
        · exact ret _ _ _ (by unfold gRun; rw [← hT]; first | rfl | (simp only [grL, h7_2, h26_3, h45_4, ↓reduceIte]; done)) dX1_goOverRun_48
  refine z_lv (lv' := [(0, .ref (a 0)), (1, .ref b1), (2, .ref (a2 0)), (3, .int 0)]) [1, 2, 3, 0] rfl ?_
  exact loop2 N 0 F D (by omega) rfl

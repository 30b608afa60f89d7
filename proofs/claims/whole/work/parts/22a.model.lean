/-! Part 22: the reference: what is laid, synced, cut, a checkpoint -/
def lyL (s w : Nat) (g d : Nat → Int32) : Nat → Nat → Int32
  | 0 => d
  | n + 1 => upd (lyL s w g d n) (32 * s + n) (b8 (g (32 * w + n)))
def lyA (wt ws d : Nat → Int32) : Nat → Nat → Int32
  | 0 => d
  | n + 1 => lyL (wt n).toNatClampNeg n ws (lyA wt ws d n) 32
def wtOk (N : Nat) (wt : Nat → Int32) (w : Nat) : Prop := ∀ i, i < w → wt i = nI (wt i).toNatClampNeg ∧ (wt i).toNatClampNeg < N
theorem wtOk_step {N : Nat} {wt : Nat → Int32} {w c : Nat} (hN : 16 ≤ N ∧ N ≤ 64) (h : wtOk N wt w) : wtOk N (upd wt w (nI ((c + 1) % N))) (w + 1) := by
  have hm : (c + 1) % N < N := Nat.mod_lt _ (by omega)
  intro i hi
  by_cases e : i = w
  · subst e
    rw [pk_us, nI_clamp (by omega)]
    exact ⟨rfl, hm⟩
  · rw [pk_un e]
    exact h i (by omega)
def mSyF (M : MS) (w : Nat) : Int32 × MS := (nI w, msWf (msWa (msDk M (lyA (mWt M) (mWs M) (mDk M) w)) 0) (mNf M))
def mSync (N : Nat) (M : MS) (e w c : Nat) : Int32 × MS := if mDn M = 0 then (if mEn M ≤ 0 then mSyF M w else if mMay N M 1 = 0 then (-2, M) else mSyF (mWE N M e w c) (w + 1)) else (-3, M)
def mCutD (M : MS) (kp tr w : Nat) : Nat → Int32 := if nI w ≤ nI kp then lyA (mWt M) (mWs M) (mDk M) kp else lyL (mWt M kp).toNatClampNeg kp (mWs M) (lyA (mWt M) (mWs M) (mDk M) kp) tr
def mCut (N : Nat) (M : MS) (u v : Int32) (w : Nat) : Int32 × MS := if mDn M = 0 then (if mIn u 0 (nI w) = 0 then (-1, M) else if mIn v 0 32 = 0 then (-1, M) else (nI w, msDn (mForget (msDk M (mCutD M u.toNatClampNeg v.toNatClampNeg w))) 1)) else (-3, M)
theorem mInN {u : Int32} {w : Nat} (hw : w ≤ 64) (h : ¬ mIn u 0 (nI w) = 0) : ∃ kp : Nat, kp ≤ w ∧ u = nI kp := by
  have h1 := mIn_of h
  rw [nI_toInt (by omega)] at h1
  have e0 : (0 : Int32).toInt = 0 := rfl
  have e1 : u.toNatClampNeg = u.toInt.toNat := rfl
  exact ⟨u.toNatClampNeg, by omega, ztoNI (by omega)⟩
def cpR (r d : Nat → Int32) : Nat → Nat → Int32
  | 0 => d
  | n + 1 => upd (cpR r d n) n (b8 (r n))
def mR0 (M : MS) : Nat → Int32 := slRow (upd (clRow (mRw M) 2 1) 27 1) 0
def mBeg0 (N : Nat) (M : MS) : MS := msDk (msRw (msWf (msNf (msSe (msSc (msDn (mForget M) 0) 0) 1) 1) 1) (mR0 M)) (cpR (mR0 M) (clA (mDk M) (32 * N)) 32)
def mcI (M : MS) : Nat → Int32
  | 0 => 0
  | n + 1 => if mVa M n = -1 then mcI M n + 0 else mcI M n + 1
def mPg (M : MS) : Int32 := if mcI M 32 = 0 then 1 else (mcI M 32 + 4) / 5
def ckL (va : Nat → Int32) : Nat → Nat → Nat → (Nat → Int32) → Nat × Nat × (Nat → Int32)
  | 0, k, m, r => (k, m, r)
  | n + 1, k, m, r => if 5 ≤ nI m then (k, m, r) else if va k = -1 then ckL va n (k + 1) m r else ckL va n (k + 1) (m + 1) (nmL (va k) 3 (7 + 4 * m) (upd r (6 + 4 * m) (b8 (nI k))) 3)
theorem ckL_le (va : Nat → Int32) : ∀ n k m r, k + n = 32 → (ckL va n k m r).1 ≤ 32 := by
  intro n
  induction n with
  | zero => intro k m r h; exact Nat.le_of_eq h
  | succ n ih =>
    intro k m r h
    unfold ckL
    split
    · show k ≤ 32
      omega
    · split
      · exact ih _ _ _ (by omega)
      · exact ih _ _ _ (by omega)
def ckX (M : MS) (k : Nat) : Nat × Nat × (Nat → Int32) := ckL (mVa M) (32 - k) k 0 (clRow (mRw M) 2 (mSe M + 1))
def ckR (M : MS) (P j k : Nat) : Nat → Int32 := upd (upd (upd (ckX M k).2.2 5 (b8 (nI (ckX M k).2.1))) 26 (b8 (nI j))) 27 (b8 (nI P))
def cpL (N P : Nat) : Nat → Nat → Nat → Nat → Nat → MS → MS
  | 0, _, _, _, _, M => M
  | n + 1, j, k, w, c, M => cpL N P n (j + 1) (ckX M k).1 (w + 1) ((c + 1) % N) (mWr N (msRw M (ckR M P j k)) w c)
def mCkF (N P : Nat) (M : MS) (w c : Nat) : Int32 × MS := (nI P, cpL N P P 0 0 w c (msNf M (mSe M + 1)))
def mChk (N : Nat) (M : MS) (e w c P : Nat) : Int32 × MS := if mDn M = 0 then (if mOp M 0 = 0 then (if mOp M 1 = 0 then (if mOp M 2 = 0 then (if mEn M ≤ 0 then (if mMay N M (nI P + 0) = 0 then (-2, M) else mCkF N P M w c) else (if mMay N M (nI P + 1) = 0 then (-2, M) else mCkF N P (mWE N M e w c) (w + 1) ((c + 1) % N))) else (-1, M)) else (-1, M)) else (-1, M)) else (-3, M)
theorem zlt5 {m : Nat} (hm : m ≤ 5) (h : ¬ (5 : Int32) ≤ nI m) : m < 5 := by
  refine Nat.lt_of_le_of_ne hm (fun e => h ?_)
  subst e
  exact nI_le (a := 5) (b := 5) (by omega) (by omega)
def mAt (N : Nat) (M : MS) (s i : Int32) : Int32 := if mIn s 0 (nI N - 1) = 0 then -1 else if mIn i 0 31 = 0 then -1 else bA (mDk M) s.toNatClampNeg i.toNatClampNeg
def mSound (N : Nat) (M : MS) (s : Int32) : Int32 := if mIn s 0 (nI N - 1) = 0 then 0 else if mSnd (mDk M) s.toNatClampNeg = 0 then 0 else 1
def mPoke (N : Nat) (M : MS) (s i v : Int32) : Int32 × MS := if mIn s 0 (nI N - 1) = 0 then (0, M) else if mIn i 0 31 = 0 then (0, M) else if mIn v 1 255 = 0 then (0, M) else (1, msDk M (upd (mDk M) (32 * s.toNatClampNeg + i.toNatClampNeg) (b8 (mDk M (32 * s.toNatClampNeg + i.toNatClampNeg) ^^^ b8 v))))
theorem mInSec {N : Nat} (hN : 16 ≤ N ∧ N ≤ 64) {s : Int32} (h : ¬ mIn s 0 (nI N - 1) = 0) : ∃ s1 : Nat, s1 < N ∧ s = nI s1 := by
  have h1 := mIn_of h
  rw [show nI N - 1 = nI (N - 1) from by
    have := nI_pred (N - 1)
    rw [show N - 1 + 1 = N by omega] at this
    exact this] at h1
  rw [nI_toInt (by omega)] at h1
  have e0 : (0 : Int32).toInt = 0 := rfl
  have e1 : s.toNatClampNeg = s.toInt.toNat := rfl
  exact ⟨s.toNatClampNeg, by omega, ztoNI (by omega)⟩
theorem mIn31N {s : Int32} (h : ¬ mIn s 0 31 = 0) : ∃ s1 : Nat, s1 < 32 ∧ s = nI s1 := by
  have h1 := mIn_of h
  have e0 : (0 : Int32).toInt = 0 := rfl
  have e2 : (31 : Int32).toInt = 31 := rfl
  have e1 : s.toNatClampNeg = s.toInt.toNat := rfl
  exact ⟨s.toNatClampNeg, by omega, ztoNI (by omega)⟩
def mCount (M : MS) (q : Int32) : Int32 := if mDn M = 0 then (if q = 0 then mSe M else if q = 1 then mSc M else if q = 2 then mWa M else if q = 3 then mEn M else if q = 4 then mNeed M else if q = 5 then ((if mOp M 0 = 0 then 0 else 1) + (if mOp M 1 = 0 then 0 else 2)) + (if mOp M 2 = 0 then 0 else 4) else if q = 6 then mCm M else -1) else -3
def mForm (N : Nat) (M : MS) : Int32 × MS := (if mDn M = 0 then mCm M else 0, mBeg0 N M)
abbrev rmX5_lay : Room := { frames := 0, cells := 0, slots := 0, locals := 0 }
theorem hyX5_lay : yX5_lay.cls = RX5 ∧ yX5_lay.cls ≠ "java/lang/invoke/MethodHandle" ∧ yX5_lay.cls ≠ "java/lang/invoke/VarHandle" ∧ (parseMethodDescriptor yX5_lay.desc).map (fun d => d.parameters.length) = some 2 := by decide +kernel
set_option maxHeartbeats 4000000 in
set_option maxRecDepth 3000 in
theorem c_X5_lay (E : GE) (N : Nat) (hN : 16 ≤ N ∧ N ≤ 64) (a : Nat → Nat) (M : MS) (w : Nat) (b : Nat) (hw : w < 64) (hb : b ≤ 32) (hs : mWt M w = nI (mWt M w).toNatClampNeg) (hs2 : (mWt M w).toNatClampNeg < N) : zV E yX5_lay wsX5_lay rmX5_lay [.ref (a 0), .int (nI w), .int (nI b)] (wM E a N M) (wM E a N (msDk M (lyL ((mWt M) w).toNatClampNeg w (mWs M) (mDk M) b))) := by
  refine zV_of (cc := cX5_lay) (maxL := 4) (by decide) rfl (Nat.le_of_ble_eq_true rfl) ?_
  intro K C ret
  replace C : zC E K cX5_lay wsX5_lay RX5 rmX5_lay 4 := C
  have in5 : ∀ w ∈ wsX50, w ∈ wsX5_lay := fun w h => List.mem_cons_of_mem _ (List.mem_append_right _ (h))
  have l7 : zw K (.fieldLink RX5 7 "StoreLog3Model" "disk" "[B") := C.w (List.mem_cons_of_mem _ (List.mem_append_left _ (List.mem_of_getElem? (i := 0) rfl)))
  have l13 : zw K (.fieldLink RX5 13 "StoreLog3Model" "whereTo" "[I") := C.w (List.mem_cons_of_mem _ (List.mem_append_left _ (List.mem_of_getElem? (i := 1) rfl)))
  have l17 : zw K (.fieldLink RX5 17 "StoreLog3Model" "waits" "[B") := C.w (List.mem_cons_of_mem _ (List.mem_append_left _ (List.mem_of_getElem? (i := 2) rfl)))
  show Z E K 0 0 (wM E a N M) 0 [(0, .ref (a 0)), (1, .int (nI w)), (2, .int (nI b))] []
  refine z_iconst C (v := 0) (by decide) dX5_lay_0 ?_
  refine z_istore_n C (lv' := [(3, .int 0), (0, .ref (a 0)), (1, .int (nI w)), (2, .int (nI b))]) rfl rfl (by decide) dX5_lay_1 ?_
  have loop2 : ∀ (n j : Nat), j + n = b → Z E K 0 0 (wM E a N (msDk M (lyL (mWt M w).toNatClampNeg w (mWs M) (mDk M) j))) 2 [(0, .ref (a 0)), (1, .int (nI w)), (2, .int (nI b)), (3, .int (nI j))] [] := by
    intro n
    induction n with
    | zero => 
      intro j hj
      obtain rfl : b = j := by omega
      obtain ⟨fz1, hz1⟩ : ∃ z : Nat → Int32, (lyL (mWt M w).toNatClampNeg w (mWs M) (mDk M) b) = z := ⟨_, rfl⟩
      rw [hz1]
      refine z_iload_n C 3 rfl rfl dX5_lay_2 ?_
      refine z_iload_n C 2 rfl rfl dX5_lay_3 ?_
      refine z_icmp_ge C (tgt := 40) dX5_lay_4 (by decide) (fun h4_1 => ?_) (fun h4_1 => absurd (nI_le (a := b) (b := b) (Nat.le_refl _) (by omega)) h4_1)
      subst hz1
      exact ret _ _ _ (by first | rfl | (simp only [if_pos h4_1, ↓reduceIte]; done) | (simp only [if_pos h4_1, ↓reduceIte]; rfl) | (simp [if_pos h4_1, ↓reduceIte]; done)) dX5_lay_40
    | succ n ih2 => 
      intro j hj
      refine z_iload_n C 3 rfl rfl dX5_lay_2 ?_
      refine z_iload_n C 2 rfl rfl dX5_lay_3 ?_
      refine z_icmp_ge C (tgt := 40) dX5_lay_4 (by decide) (fun h4_2 => absurd h4_2 (nI_ge (a := j) (b := b) (by omega) (by omega))) (fun h4_2 => ?_)
      refine z_aload_n C 0 rfl rfl dX5_lay_7 ?_
      refine z_get C (Cn := RX5) (T := TX5) (Nf := 20) (ci := 5) in5 0 1 l7 (v := .ref (a 1)) rfl rfl (by decide) rfl dX5_lay_8 ?_
      refine z_bipush C (v := 32) (by decide) dX5_lay_11 ?_
      refine z_aload_n C 0 rfl rfl dX5_lay_13 ?_
      refine z_get C (Cn := RX5) (T := TX5) (Nf := 20) (ci := 5) in5 0 4 l13 (v := .ref (a 2)) rfl rfl (by decide) rfl dX5_lay_14 ?_
      refine z_iload_n C 1 rfl rfl dX5_lay_17 ?_
      refine z_iald C 2 rfl (vp_in_nI (by omega) (by omega)) (v := ((mWt M) w)) (congrArg (mWt M) (nI_clamp (by omega))) dX5_lay_18 ?_
      refine z_top (y := (nI (mWt M w).toNatClampNeg)) hs ?_
      refine z_imul C dX5_lay_19 ?_
      refine z_top (y := (nI (32 * (mWt M w).toNatClampNeg))) (zmul 32 _) ?_
      refine z_iload_n C 3 rfl rfl dX5_lay_20 ?_
      refine z_iadd C dX5_lay_21 ?_
      refine z_top (y := (nI (32 * (mWt M w).toNatClampNeg + j))) (nI_add _ _) ?_
      refine z_aload_n C 0 rfl rfl dX5_lay_22 ?_
      refine z_get C (Cn := RX5) (T := TX5) (Nf := 20) (ci := 5) in5 0 5 l17 (v := .ref (a 3)) rfl rfl (by decide) rfl dX5_lay_23 ?_
      refine z_bipush C (v := 32) (by decide) dX5_lay_26 ?_
      refine z_iload_n C 1 rfl rfl dX5_lay_28 ?_
      refine z_imul C dX5_lay_29 ?_
      refine z_top (y := (nI (32 * w))) (zmul 32 _) ?_
      refine z_iload_n C 3 rfl rfl dX5_lay_30 ?_
      refine z_iadd C dX5_lay_31 ?_
      refine z_top (y := (nI (32 * w + j))) (nI_add _ _) ?_
      refine z_bald C 3 rfl (vp_in_nI (by omega) (by omega)) (v := ((mWs M) (32 * w + j))) (congrArg (mWs M) (nI_clamp (by omega))) dX5_lay_32 ?_
      obtain ⟨fz2, hz2⟩ : ∃ z : Nat → Int32, (upd (lyL (mWt M w).toNatClampNeg w (mWs M) (mDk M) j) (32 * (mWt M w).toNatClampNeg + j) (b8 ((mWs M) (32 * w + j)))) = z := ⟨_, rfl⟩
      refine z_bast C 1 rfl (vp_in_nI (by omega) (by omega)) (g := fz2) (Eq.trans (by rw [b8_st, nI_clamp (by omega)]) hz2) (V' := (wM E a N (msDk M fz2))) rfl dX5_lay_33 ?_
      refine z_iinc C 3 rfl (v := (nI (j + 1))) (zinc _) (lv' := [(3, .int (nI (j + 1))), (0, .ref (a 0)), (1, .int (nI w)), (2, .int (nI b))]) rfl (by decide) dX5_lay_34 ?_
      refine z_goto C (tgt := 2) dX5_lay_37 (by decide) ?_
      subst hz2
      refine z_lv (lv' := [(0, .ref (a 0)), (1, .int (nI w)), (2, .int (nI b)), (3, .int (nI (j + 1)))]) [1, 2, 3, 0] rfl ?_
      exact ih2 (j + 1)  (by omega)
  refine z_lv (lv' := [(0, .ref (a 0)), (1, .int (nI w)), (2, .int (nI b)), (3, .int 0)]) [1, 2, 3, 0] rfl ?_
  exact loop2 b 0  (by omega)
abbrev rmX5_sync : Room := { frames := 4, cells := 0, slots := 0, locals := 89 }
theorem hyX5_sync : yX5_sync.cls = RX5 ∧ yX5_sync.cls ≠ "java/lang/invoke/MethodHandle" ∧ yX5_sync.cls ≠ "java/lang/invoke/VarHandle" ∧ (parseMethodDescriptor yX5_sync.desc).map (fun d => d.parameters.length) = some 0 := by decide +kernel
set_option maxHeartbeats 4000000 in
set_option maxRecDepth 3000 in
theorem c_X5_sync (E : GE) (N : Nat) (hN : 16 ≤ N ∧ N ≤ 64) (a : Nat → Nat) (M : MS) (e : Nat) (he : mEn M = nI e) (he3 : e ≤ 3) (w c : Nat) (hw : mWa M = nI w) (hw2 : w < 64) (hc : mSc M = nI c) (hc2 : c < N) (hwt : wtOk N (mWt M) w) : zI E yX5_sync wsX5_sync rmX5_sync [.ref (a 0)] (wM E a N M) ((mSync N M e w c).1) (wM E a N ((mSync N M e w c).2)) := by
  refine zI_of (cc := cX5_sync) (maxL := 3) (ty := .int) (by decide) rfl (vp_nar_int _) (Nat.le_of_ble_eq_true rfl) ?_
  intro K C ret
  replace C : zC E K cX5_sync wsX5_sync RX5 rmX5_sync 3 := C
  have in5 : ∀ w ∈ wsX50, w ∈ wsX5_sync := fun w h => List.mem_cons_of_mem _ (List.mem_append_right _ (h))
  have l52 : zw K (.fieldLink RX5 52 "StoreLog3Model" "waiting" "I") := C.w (List.mem_cons_of_mem _ (List.mem_append_left _ (List.mem_append_left _ (List.mem_of_getElem? (i := 2) rfl))))
  have l55 : zw K (.fieldLink RX5 55 "StoreLog3Model" "entries" "I") := C.w (List.mem_cons_of_mem _ (List.mem_append_left _ (List.mem_append_left _ (List.mem_of_getElem? (i := 1) rfl))))
  have l64 : zw K (.fieldLink RX5 64 "StoreLog3Model" "isDown" "Z") := C.w (List.mem_cons_of_mem _ (List.mem_append_left _ (List.mem_append_left _ (List.mem_of_getElem? (i := 0) rfl))))
  have l74 : zw K (.fieldLink RX5 74 "StoreLog3Model" "newFirst" "I") := C.w (List.mem_cons_of_mem _ (List.mem_append_left _ (List.mem_append_left _ (List.mem_of_getElem? (i := 3) rfl))))
  have l77 : zw K (.fieldLink RX5 77 "StoreLog3Model" "wholeFirst" "I") := C.w (List.mem_cons_of_mem _ (List.mem_append_left _ (List.mem_append_left _ (List.mem_of_getElem? (i := 4) rfl))))
  show Z E K 0 0 (wM E a N M) 0 [(0, .ref (a 0))] []
  have join39 : ∀ (M1 : MS) (W : Nat), mWa M1 = nI W → W ≤ 64 → wtOk N (mWt M1) W → mSyF M1 W = mSync N M e w c → Z E K 0 0 (wM E a N M1) 39 [(0, .ref (a 0))] [] := by
    intro M1 W hW hW64 hwt hT
    refine z_aload_n C 0 rfl rfl dX5_sync_39 ?_
    refine z_get C (Cn := RX5) (T := TX5) (Nf := 20) (ci := 5) in5 0 3 l52 (v := .int (mWa M1)) rfl rfl (by decide) rfl dX5_sync_40 ?_
    refine z_top (y := (nI W)) hW ?_
    refine z_istore_n C (lv' := [(1, .int (nI W)), (0, .ref (a 0))]) rfl rfl (by decide) dX5_sync_43 ?_
    refine z_iconst C (v := 0) (by decide) dX5_sync_44 ?_
    refine z_istore_n C (lv' := [(2, .int 0), (1, .int (nI W)), (0, .ref (a 0))]) rfl rfl (by decide) dX5_sync_45 ?_
    have loop46 : ∀ (n j : Nat), j + n = W → Z E K 0 0 (wM E a N (msDk M1 (lyA (mWt M1) (mWs M1) (mDk M1) j))) 46 [(0, .ref (a 0)), (1, .int (nI W)), (2, .int (nI j))] [] := by
      intro n
      induction n with
      | zero => 
        intro j hj
        obtain rfl : W = j := by omega
        obtain ⟨fz1, hz1⟩ : ∃ z : Nat → Int32, (lyA (mWt M1) (mWs M1) (mDk M1) W) = z := ⟨_, rfl⟩
        rw [hz1]
        refine z_iload_n C 2 rfl rfl dX5_sync_46 ?_
        refine z_iload_n C 1 rfl rfl dX5_sync_47 ?_
        refine z_icmp_ge C (tgt := 64) dX5_sync_48 (by decide) (fun h48_1 => ?_) (fun h48_1 => absurd (nI_le (a := W) (b := W) (Nat.le_refl _) (by omega)) h48_1)
        refine z_aload_n C 0 rfl rfl dX5_sync_64 ?_
        refine z_iconst C (v := 0) (by decide) dX5_sync_65 ?_
        refine z_put C (Cn := RX5) (T := TX5) (Nf := 20) (ci := 5) in5 0 3 l52 rfl rfl (by decide) tyX5 tyX5_ok nmX5 rfl rfl rfl (Nat.le_of_ble_eq_true rfl) (V' := (wM E a N (msWa (msDk M1 fz1) 0))) rfl dX5_sync_66 ?_
        refine z_aload_n C 0 rfl rfl dX5_sync_69 ?_
        refine z_aload_n C 0 rfl rfl dX5_sync_70 ?_
        refine z_get C (Cn := RX5) (T := TX5) (Nf := 20) (ci := 5) in5 0 8 l74 (v := .int (mNf M1)) rfl rfl (by decide) rfl dX5_sync_71 ?_
        obtain ⟨iz2, hz2⟩ : ∃ z : Int32, (mNf M1) = z := ⟨_, rfl⟩
        refine z_top hz2 ?_
        refine z_put C (Cn := RX5) (T := TX5) (Nf := 20) (ci := 5) in5 0 9 l77 rfl rfl (by decide) tyX5 tyX5_ok nmX5 rfl rfl rfl (Nat.le_of_ble_eq_true rfl) (V' := (wM E a N (msWf (msWa (msDk M1 fz1) 0) iz2))) rfl dX5_sync_74 ?_
        refine z_iload_n C 1 rfl rfl dX5_sync_77 ?_
        subst hz2
        subst hz1
        exact ret _ _ _ _ (by rw [← hT]; rfl) (by rw [← hT]; rfl) dX5_sync_78
      | succ n ih46 => 
        intro j hj
        refine z_iload_n C 2 rfl rfl dX5_sync_46 ?_
        refine z_iload_n C 1 rfl rfl dX5_sync_47 ?_
        refine z_icmp_ge C (tgt := 64) dX5_sync_48 (by decide) (fun h48_2 => absurd h48_2 (nI_ge (a := j) (b := W) (by omega) (by omega))) (fun h48_2 => ?_)
        refine z_aload_n C 0 rfl rfl dX5_sync_51 ?_
        refine z_iload_n C 2 rfl rfl dX5_sync_52 ?_
        refine z_bipush C (v := 32) (by decide) dX5_sync_53 ?_
        obtain ⟨fq4, hq55_4⟩ : ∃ z : Nat → Int32, (lyL ((mWt (msDk M1 (lyA (mWt M1) (mWs M1) (mDk M1) j))) j).toNatClampNeg j (mWs (msDk M1 (lyA (mWt M1) (mWs M1) (mDk M1) j))) (mDk (msDk M1 (lyA (mWt M1) (mWs M1) (mDk M1) j))) 32) = z := ⟨_, rfl⟩
        have ct3 : zV E yX5_lay wsX5_lay rmX5_lay [.ref (a 0), .int (nI j), .int 32] (wM E a N (msDk M1 (lyA (mWt M1) (mWs M1) (mDk M1) j))) (wM E a N (msDk M1 fq4)) := by subst hq55_4; exact c_X5_lay E N hN a (msDk M1 (lyA (mWt M1) (mWs M1) (mDk M1) j)) j 32 (by omega) (by decide) ((hwt j (by omega)).1) ((hwt j (by omega)).2)
        refine z_callVV C ct3 gX5_sync_X5_lay (ci := 5) (q0 := 0) rfl rfl hyX5_lay rfl ⟨rfl, rfl⟩ ⟨by decide, by decide⟩ ⟨by decide, by decide⟩ [0, 1, 2, 3, 4, 5, 6, 7, 8, 9, 10, 11] [] [0, 1, 2, 3, 4, 5, 6, 7, 8, 9, 10, 11] (wr := []) (V' := (wM E a N (msDk M1 fq4))) rfl rfl (by decide) (by decide) (by decide) rfl (by decide) (st := []) (Nat.le_of_ble_eq_true rfl) dX5_sync_55 ?_ rfl
        refine z_iinc C 2 rfl (v := (nI (j + 1))) (zinc _) (lv' := [(2, .int (nI (j + 1))), (0, .ref (a 0)), (1, .int (nI W))]) rfl (by decide) dX5_sync_58 ?_
        refine z_goto C (tgt := 46) dX5_sync_61 (by decide) ?_
        subst hq55_4
        refine z_lv (lv' := [(0, .ref (a 0)), (1, .int (nI W)), (2, .int (nI (j + 1)))]) [1, 2, 0] rfl ?_
        exact ih46 (j + 1)  (by omega)
    refine z_lv (lv' := [(0, .ref (a 0)), (1, .int (nI W)), (2, .int 0)]) [2, 1, 0] rfl ?_
    exact loop46 W 0  (by omega)
  refine z_aload_n C 0 rfl rfl dX5_sync_0 ?_
  refine z_get C (Cn := RX5) (T := TX5) (Nf := 20) (ci := 5) in5 0 2 l64 (v := .int (mDn M)) rfl rfl (by decide) rfl dX5_sync_1 ?_
  refine z_if_eq C (tgt := 10) dX5_sync_4 (by decide) (fun h4_3t => ?_) (fun h4_3f => ?_)
  · refine z_aload_n C 0 rfl rfl dX5_sync_10 ?_
    refine z_get C (Cn := RX5) (T := TX5) (Nf := 20) (ci := 5) in5 0 10 l55 (v := .int (mEn M)) rfl rfl (by decide) rfl dX5_sync_11 ?_
    refine z_if_le C (tgt := 28) dX5_sync_14 (by decide) (fun h14_4t => ?_) (fun h14_4f => ?_)
    · refine z_aload_n C 0 rfl rfl dX5_sync_28 ?_
      refine z_get C (Cn := RX5) (T := TX5) (Nf := 20) (ci := 5) in5 0 10 l55 (v := .int (mEn M)) rfl rfl (by decide) rfl dX5_sync_29 ?_
      refine z_if_le C (tgt := 39) dX5_sync_32 (by decide) (fun h32_5 => ?_) (fun h32_5 => absurd h14_4t h32_5)
      exact join39 M w hw (by omega) hwt (by simp only [mSync, if_pos h4_3t, if_pos h14_4t, if_pos h32_5, ↓reduceIte])
    · refine z_aload_n C 0 rfl rfl dX5_sync_17 ?_
      refine z_iconst C (v := 1) (by decide) dX5_sync_18 ?_
      refine z_rVI C (c_X5_mayWrite E N hN a M 1) gX5_sync_X5_mayWrite (ci := 5) (q0 := 0) rfl rfl hyX5_mayWrite rfl ⟨rfl, rfl⟩ ⟨by decide, by decide⟩ ⟨by decide, by decide⟩ [0, 1, 2, 3, 4, 5, 6, 7, 8, 9, 10, 11] rfl (by decide) (st := []) (Nat.le_of_ble_eq_true rfl) dX5_sync_19 ?_ rfl
      refine z_if_ne C (tgt := 28) dX5_sync_22 (by decide) (fun h22_6t => ?_) (fun h22_6f => ?_)
      · refine z_aload_n C 0 rfl rfl dX5_sync_28 ?_
        refine z_get C (Cn := RX5) (T := TX5) (Nf := 20) (ci := 5) in5 0 10 l55 (v := .int (mEn M)) rfl rfl (by decide) rfl dX5_sync_29 ?_
        refine z_if_le C (tgt := 39) dX5_sync_32 (by decide) (fun h32_7 => absurd h32_7 h14_4f) (fun h32_7 => ?_)
        refine z_aload_n C 0 rfl rfl dX5_sync_35 ?_
        obtain ⟨Mq6, hq36_6⟩ : ∃ z : MS, (mWE N M e w c) = z := ⟨_, rfl⟩
        have ct5 : zV E yX5_writeEntries wsX5_writeEntries rmX5_writeEntries [.ref (a 0)] (wM E a N M) (wM E a N Mq6) := by subst hq36_6; exact c_X5_writeEntries E N hN a M e he (by omega) w c hw hw2 hc hc2
        refine z_callVV C ct5 gX5_sync_X5_writeEntries (ci := 5) (q0 := 0) rfl rfl hyX5_writeEntries rfl ⟨rfl, rfl⟩ ⟨by decide, by decide⟩ ⟨by decide, by decide⟩ [0, 1, 2, 3, 4, 5, 6, 7, 8, 9, 10, 11] [] [0, 1, 2, 3, 4, 5, 6, 7, 8, 9, 10, 11] (wr := []) (V' := (wM E a N Mq6)) rfl rfl (by decide) (by decide) (by decide) rfl (by decide) (st := []) (Nat.le_of_ble_eq_true rfl) dX5_sync_36 ?_ rfl
        subst hq36_6
        exact join39 _ (w + 1) rfl (by omega) (wtOk_step hN hwt) (by simp only [mSync, if_pos h4_3t, if_neg h14_4f, if_neg h22_6t, if_neg h32_7, ↓reduceIte])
      · refine z_bipush C (v := (-2)) (by decide) dX5_sync_25 ?_
        exact ret _ _ _ _ (by first | rfl | (simp only [mSync, if_pos h4_3t, if_neg h14_4f, if_pos h22_6f, ↓reduceIte]; done) | (simp only [mSync, if_pos h4_3t, if_neg h14_4f, if_pos h22_6f, ↓reduceIte]; rfl) | (simp [mSync, if_pos h4_3t, if_neg h14_4f, if_pos h22_6f, ↓reduceIte]; done)) (by first | rfl | (simp only [mSync, if_pos h4_3t, if_neg h14_4f, if_pos h22_6f, ↓reduceIte]; done) | (simp only [mSync, if_pos h4_3t, if_neg h14_4f, if_pos h22_6f, ↓reduceIte]; rfl) | (simp [mSync, if_pos h4_3t, if_neg h14_4f, if_pos h22_6f, ↓reduceIte]; done)) dX5_sync_27
  · refine z_bipush C (v := (-3)) (by decide) dX5_sync_7 ?_
    exact ret _ _ _ _ (by first | rfl | (simp only [mSync, if_neg h4_3f, ↓reduceIte]; done) | (simp only [mSync, if_neg h4_3f, ↓reduceIte]; rfl) | (simp [mSync, if_neg h4_3f, ↓reduceIte]; done)) (by first | rfl | (simp only [mSync, if_neg h4_3f, ↓reduceIte]; done) | (simp only [mSync, if_neg h4_3f, ↓reduceIte]; rfl) | (simp [mSync, if_neg h4_3f, ↓reduceIte]; done)) dX5_sync_9
abbrev rmX5_cut : Room := { frames := 1, cells := 0, slots := 0, locals := 23 }
theorem hyX5_cut : yX5_cut.cls = RX5 ∧ yX5_cut.cls ≠ "java/lang/invoke/MethodHandle" ∧ yX5_cut.cls ≠ "java/lang/invoke/VarHandle" ∧ (parseMethodDescriptor yX5_cut.desc).map (fun d => d.parameters.length) = some 2 := by decide +kernel
set_option maxHeartbeats 4000000 in
set_option maxRecDepth 3000 in
theorem c_X5_cut (E : GE) (N : Nat) (hN : 16 ≤ N ∧ N ≤ 64) (a : Nat → Nat) (M : MS) (u : Int32) (v : Int32) (w : Nat) (hw : mWa M = nI w) (hw2 : w < 64) (hwt : wtOk N (mWt M) w) : zI E yX5_cut wsX5_cut rmX5_cut [.ref (a 0), .int u, .int v] (wM E a N M) ((mCut N M u v w).1) (wM E a N ((mCut N M u v w).2)) := by
  refine zI_of (cc := cX5_cut) (maxL := 5) (ty := .int) (by decide) rfl (vp_nar_int _) (Nat.le_of_ble_eq_true rfl) ?_
  intro K C ret
  replace C : zC E K cX5_cut wsX5_cut RX5 rmX5_cut 5 := C
  have in5 : ∀ w ∈ wsX50, w ∈ wsX5_cut := fun w h => List.mem_cons_of_mem _ (List.mem_append_right _ (h))
  have l52 : zw K (.fieldLink RX5 52 "StoreLog3Model" "waiting" "I") := C.w (List.mem_cons_of_mem _ (List.mem_append_left _ (List.mem_of_getElem? (i := 1) rfl)))
  have l64 : zw K (.fieldLink RX5 64 "StoreLog3Model" "isDown" "Z") := C.w (List.mem_cons_of_mem _ (List.mem_append_left _ (List.mem_of_getElem? (i := 0) rfl)))
  show Z E K 0 0 (wM E a N M) 0 [(0, .ref (a 0)), (1, .int u), (2, .int v)] []
  refine z_aload_n C 0 rfl rfl dX5_cut_0 ?_
  refine z_get C (Cn := RX5) (T := TX5) (Nf := 20) (ci := 5) in5 0 2 l64 (v := .int (mDn M)) rfl rfl (by decide) rfl dX5_cut_1 ?_
  refine z_if_eq C (tgt := 10) dX5_cut_4 (by decide) (fun h4_1t => ?_) (fun h4_1f => ?_)
  · refine z_iload_n C 1 rfl rfl dX5_cut_10 ?_
    refine z_iconst C (v := 0) (by decide) dX5_cut_11 ?_
    refine z_aload_n C 0 rfl rfl dX5_cut_12 ?_
    refine z_get C (Cn := RX5) (T := TX5) (Nf := 20) (ci := 5) in5 0 3 l52 (v := .int (mWa M)) rfl rfl (by decide) rfl dX5_cut_13 ?_
    refine z_top (y := (nI w)) hw ?_
    refine z_rSI C (c_X5_isIn E u 0 (nI w)) gX5_cut_X5_isIn hyX5_isIn.2 rfl ⟨rfl, rfl⟩ ⟨by decide, by decide⟩ ⟨by decide, by decide⟩ [] rfl (by decide) (st := []) (Nat.le_of_ble_eq_true rfl) dX5_cut_16 ?_ rfl
    refine z_if_eq C (tgt := 32) dX5_cut_19 (by decide) (fun h19_2t => ?_) (fun h19_2f => ?_)
    · refine z_iconst C (v := (-1)) (by decide) dX5_cut_32 ?_
      exact ret _ _ _ _ (by first | rfl | (simp only [mCut, if_pos h4_1t, if_pos h19_2t, ↓reduceIte]; done) | (simp only [mCut, if_pos h4_1t, if_pos h19_2t, ↓reduceIte]; rfl) | (simp [mCut, if_pos h4_1t, if_pos h19_2t, ↓reduceIte]; done)) (by first | rfl | (simp only [mCut, if_pos h4_1t, if_pos h19_2t, ↓reduceIte]; done) | (simp only [mCut, if_pos h4_1t, if_pos h19_2t, ↓reduceIte]; rfl) | (simp [mCut, if_pos h4_1t, if_pos h19_2t, ↓reduceIte]; done)) dX5_cut_33
    · refine z_iload_n C 2 rfl rfl dX5_cut_22 ?_
      refine z_iconst C (v := 0) (by decide) dX5_cut_23 ?_
      refine z_bipush C (v := 32) (by decide) dX5_cut_24 ?_
      refine z_rSI C (c_X5_isIn E v 0 32) gX5_cut_X5_isIn hyX5_isIn.2 rfl ⟨rfl, rfl⟩ ⟨by decide, by decide⟩ ⟨by decide, by decide⟩ [] rfl (by decide) (st := []) (Nat.le_of_ble_eq_true rfl) dX5_cut_26 ?_ rfl
      refine z_if_ne C (tgt := 34) dX5_cut_29 (by decide) (fun h29_3t => ?_) (fun h29_3f => ?_)
      · obtain ⟨kp, hkp, rfl⟩ := mInN (by omega) h19_2f
        obtain ⟨tr, htr, rfl⟩ := mInN (w := 32) (by omega) h29_3t
        refine z_aload_n C 0 rfl rfl dX5_cut_34 ?_
        refine z_get C (Cn := RX5) (T := TX5) (Nf := 20) (ci := 5) in5 0 3 l52 (v := .int (mWa M)) rfl rfl (by decide) rfl dX5_cut_35 ?_
        refine z_top (y := (nI w)) hw ?_
        refine z_istore_n C (lv' := [(3, .int (nI w)), (0, .ref (a 0)), (1, .int (nI kp)), (2, .int (nI tr))]) rfl rfl (by decide) dX5_cut_38 ?_
        refine z_iconst C (v := 0) (by decide) dX5_cut_39 ?_
        refine z_istore C (lv' := [(4, .int 0), (3, .int (nI w)), (0, .ref (a 0)), (1, .int (nI kp)), (2, .int (nI tr))]) rfl (by decide) dX5_cut_40 ?_
        have loop42 : ∀ (n j : Nat), j + n = kp → Z E K 0 0 (wM E a N (msDk M (lyA (mWt M) (mWs M) (mDk M) j))) 42 [(0, .ref (a 0)), (1, .int (nI kp)), (2, .int (nI tr)), (3, .int (nI w)), (4, .int (nI j))] [] := by
          intro n
          induction n with
          | zero => 
            intro j hj
            obtain rfl : kp = j := by omega
            obtain ⟨fz1, hz1⟩ : ∃ z : Nat → Int32, (lyA (mWt M) (mWs M) (mDk M) kp) = z := ⟨_, rfl⟩
            rw [hz1]
            refine z_iload C 4 rfl dX5_cut_42 ?_
            refine z_iload_n C 1 rfl rfl dX5_cut_44 ?_
            refine z_icmp_ge C (tgt := 62) dX5_cut_45 (by decide) (fun h45_4 => ?_) (fun h45_4 => absurd (nI_le (a := kp) (b := kp) (Nat.le_refl _) (by omega)) h45_4)
            refine z_iload_n C 1 rfl rfl dX5_cut_62 ?_
            refine z_iload_n C 3 rfl rfl dX5_cut_63 ?_
            refine z_icmp_ge C (tgt := 73) dX5_cut_64 (by decide) (fun h64_5t => ?_) (fun h64_5f => ?_)
            · refine z_aload_n C 0 rfl rfl dX5_cut_73 ?_
              obtain ⟨fq3, hq74_3⟩ : ∃ z : Nat → Int32, (fgO (mOp (msDk M fz1)) 3) = z := ⟨_, rfl⟩
              obtain ⟨fq4, hq74_4⟩ : ∃ z : Nat → Int32, (fgV (mVa (msDk M fz1)) 32) = z := ⟨_, rfl⟩
              obtain ⟨fq5, hq74_5⟩ : ∃ z : Nat → Int32, (fgV (mHo (msDk M fz1)) 32) = z := ⟨_, rfl⟩
              have ct2 : zV E yX5_forget wsX5_forget rmX5_forget [.ref (a 0)] (wM E a N (msDk M fz1)) (wM E a N (msHo (msVa (msOp (msCm (msEn (msWa (msDk M fz1) 0) 0) 0) fq3) fq4) fq5)) := by subst hq74_5; subst hq74_4; subst hq74_3; exact c_X5_forget E N hN a (msDk M fz1)
              refine z_callVV C ct2 gX5_cut_X5_forget (ci := 5) (q0 := 0) rfl rfl hyX5_forget rfl ⟨rfl, rfl⟩ ⟨by decide, by decide⟩ ⟨by decide, by decide⟩ [0, 1, 2, 3, 4, 5, 6, 7, 8, 9, 10, 11] [] [0, 1, 2, 3, 4, 5, 6, 7, 8, 9, 10, 11] (wr := []) (V' := (wM E a N (msHo (msVa (msOp (msCm (msEn (msWa (msDk M fz1) 0) 0) 0) fq3) fq4) fq5))) rfl rfl (by decide) (by decide) (by decide) rfl (by decide) (st := []) (Nat.le_of_ble_eq_true rfl) dX5_cut_74 ?_ rfl
              refine z_aload_n C 0 rfl rfl dX5_cut_77 ?_
              refine z_iconst C (v := 1) (by decide) dX5_cut_78 ?_
              refine z_put C (Cn := RX5) (T := TX5) (Nf := 20) (ci := 5) in5 0 2 l64 rfl rfl (by decide) tyX5 tyX5_ok nmX5 rfl rfl rfl (Nat.le_of_ble_eq_true rfl) (V' := (wM E a N (msDn (msHo (msVa (msOp (msCm (msEn (msWa (msDk M fz1) 0) 0) 0) fq3) fq4) fq5) 1))) rfl dX5_cut_79 ?_
              refine z_iload_n C 3 rfl rfl dX5_cut_82 ?_
              subst hq74_5
              subst hq74_4
              subst hq74_3
              subst hz1
              exact ret _ _ _ _ (by first | (simp only [mCut, mCutD, if_pos h4_1t, if_neg h19_2f, if_neg h29_3t, if_pos h45_4, if_pos h64_5t, ↓reduceIte, nI_clamp (show kp < 2 ^ 31 by omega), nI_clamp (show tr < 2 ^ 31 by omega)]; done) | (simp only [mCut, mCutD, if_pos h4_1t, if_neg h19_2f, if_neg h29_3t, if_pos h45_4, if_pos h64_5t, ↓reduceIte, nI_clamp (show kp < 2 ^ 31 by omega), nI_clamp (show tr < 2 ^ 31 by omega)]; rfl)) (by first | (simp only [mCut, mCutD, if_pos h4_1t, if_neg h19_2f, if_neg h29_3t, if_pos h45_4, if_pos h64_5t, ↓reduceIte, nI_clamp (show kp < 2 ^ 31 by omega), nI_clamp (show tr < 2 ^ 31 by omega)]; done) | (simp only [mCut, mCutD, if_pos h4_1t, if_neg h19_2f, if_neg h29_3t, if_pos h45_4, if_pos h64_5t, ↓reduceIte, nI_clamp (show kp < 2 ^ 31 by omega), nI_clamp (show tr < 2 ^ 31 by omega)]; rfl)) dX5_cut_83
            · refine z_aload_n C 0 rfl rfl dX5_cut_67 ?_
              refine z_iload_n C 1 rfl rfl dX5_cut_68 ?_
              refine z_iload_n C 2 rfl rfl dX5_cut_69 ?_
              obtain ⟨fq7, hq70_7⟩ : ∃ z : Nat → Int32, (lyL ((mWt (msDk M fz1)) kp).toNatClampNeg kp (mWs (msDk M fz1)) (mDk (msDk M fz1)) tr) = z := ⟨_, rfl⟩
              have ct6 : zV E yX5_lay wsX5_lay rmX5_lay [.ref (a 0), .int (nI kp), .int (nI tr)] (wM E a N (msDk M fz1)) (wM E a N (msDk M fq7)) := by subst hq70_7; exact c_X5_lay E N hN a (msDk M fz1) kp tr (by omega) htr ((hwt kp (by have hlt := h64_5f; rw [nI_leI (by omega) (by omega)] at hlt; omega)).1) ((hwt kp (by have hlt := h64_5f; rw [nI_leI (by omega) (by omega)] at hlt; omega)).2)
              refine z_callVV C ct6 gX5_cut_X5_lay (ci := 5) (q0 := 0) rfl rfl hyX5_lay rfl ⟨rfl, rfl⟩ ⟨by decide, by decide⟩ ⟨by decide, by decide⟩ [0, 1, 2, 3, 4, 5, 6, 7, 8, 9, 10, 11] [] [0, 1, 2, 3, 4, 5, 6, 7, 8, 9, 10, 11] (wr := []) (V' := (wM E a N (msDk M fq7))) rfl rfl (by decide) (by decide) (by decide) rfl (by decide) (st := []) (Nat.le_of_ble_eq_true rfl) dX5_cut_70 ?_ rfl
              refine z_aload_n C 0 rfl rfl dX5_cut_73 ?_
              obtain ⟨fq9, hq74_9⟩ : ∃ z : Nat → Int32, (fgO (mOp (msDk M fq7)) 3) = z := ⟨_, rfl⟩
              obtain ⟨fq10, hq74_10⟩ : ∃ z : Nat → Int32, (fgV (mVa (msDk M fq7)) 32) = z := ⟨_, rfl⟩
              obtain ⟨fq11, hq74_11⟩ : ∃ z : Nat → Int32, (fgV (mHo (msDk M fq7)) 32) = z := ⟨_, rfl⟩
              have ct8 : zV E yX5_forget wsX5_forget rmX5_forget [.ref (a 0)] (wM E a N (msDk M fq7)) (wM E a N (msHo (msVa (msOp (msCm (msEn (msWa (msDk M fq7) 0) 0) 0) fq9) fq10) fq11)) := by subst hq74_11; subst hq74_10; subst hq74_9; exact c_X5_forget E N hN a (msDk M fq7)
              refine z_callVV C ct8 gX5_cut_X5_forget (ci := 5) (q0 := 0) rfl rfl hyX5_forget rfl ⟨rfl, rfl⟩ ⟨by decide, by decide⟩ ⟨by decide, by decide⟩ [0, 1, 2, 3, 4, 5, 6, 7, 8, 9, 10, 11] [] [0, 1, 2, 3, 4, 5, 6, 7, 8, 9, 10, 11] (wr := []) (V' := (wM E a N (msHo (msVa (msOp (msCm (msEn (msWa (msDk M fq7) 0) 0) 0) fq9) fq10) fq11))) rfl rfl (by decide) (by decide) (by decide) rfl (by decide) (st := []) (Nat.le_of_ble_eq_true rfl) dX5_cut_74 ?_ rfl
              refine z_aload_n C 0 rfl rfl dX5_cut_77 ?_
              refine z_iconst C (v := 1) (by decide) dX5_cut_78 ?_
              refine z_put C (Cn := RX5) (T := TX5) (Nf := 20) (ci := 5) in5 0 2 l64 rfl rfl (by decide) tyX5 tyX5_ok nmX5 rfl rfl rfl (Nat.le_of_ble_eq_true rfl) (V' := (wM E a N (msDn (msHo (msVa (msOp (msCm (msEn (msWa (msDk M fq7) 0) 0) 0) fq9) fq10) fq11) 1))) rfl dX5_cut_79 ?_
              refine z_iload_n C 3 rfl rfl dX5_cut_82 ?_
              subst hq74_11
              subst hq74_10
              subst hq74_9
              subst hq70_7
              subst hz1
              exact ret _ _ _ _ (by first | (simp only [mCut, mCutD, if_pos h4_1t, if_neg h19_2f, if_neg h29_3t, if_pos h45_4, if_neg h64_5f, ↓reduceIte, nI_clamp (show kp < 2 ^ 31 by omega), nI_clamp (show tr < 2 ^ 31 by omega)]; done) | (simp only [mCut, mCutD, if_pos h4_1t, if_neg h19_2f, if_neg h29_3t, if_pos h45_4, if_neg h64_5f, ↓reduceIte, nI_clamp (show kp < 2 ^ 31 by omega), nI_clamp (show tr < 2 ^ 31 by omega)]; rfl)) (by first | (simp only [mCut, mCutD, if_pos h4_1t, if_neg h19_2f, if_neg h29_3t, if_pos h45_4, if_neg h64_5f, ↓reduceIte, nI_clamp (show kp < 2 ^ 31 by omega), nI_clamp (show tr < 2 ^ 31 by omega)]; done) | (simp only [mCut, mCutD, if_pos h4_1t, if_neg h19_2f, if_neg h29_3t, if_pos h45_4, if_neg h64_5f, ↓reduceIte, nI_clamp (show kp < 2 ^ 31 by omega), nI_clamp (show tr < 2 ^ 31 by omega)]; rfl)) dX5_cut_83
          | succ n ih42 => 
            intro j hj
            refine z_iload C 4 rfl dX5_cut_42 ?_
            refine z_iload_n C 1 rfl rfl dX5_cut_44 ?_
            refine z_icmp_ge C (tgt := 62) dX5_cut_45 (by decide) (fun h45_6 => absurd h45_6 (nI_ge (a := j) (b := kp) (by omega) (by omega))) (fun h45_6 => ?_)
            refine z_aload_n C 0 rfl rfl dX5_cut_48 ?_
            refine z_iload C 4 rfl dX5_cut_49 ?_
            refine z_bipush C (v := 32) (by decide) dX5_cut_51 ?_
            obtain ⟨fq13, hq53_13⟩ : ∃ z : Nat → Int32, (lyL ((mWt (msDk M (lyA (mWt M) (mWs M) (mDk M) j))) j).toNatClampNeg j (mWs (msDk M (lyA (mWt M) (mWs M) (mDk M) j))) (mDk (msDk M (lyA (mWt M) (mWs M) (mDk M) j))) 32) = z := ⟨_, rfl⟩
            have ct12 : zV E yX5_lay wsX5_lay rmX5_lay [.ref (a 0), .int (nI j), .int 32] (wM E a N (msDk M (lyA (mWt M) (mWs M) (mDk M) j))) (wM E a N (msDk M fq13)) := by subst hq53_13; exact c_X5_lay E N hN a (msDk M (lyA (mWt M) (mWs M) (mDk M) j)) j 32 (by omega) (by decide) ((hwt j (by omega)).1) ((hwt j (by omega)).2)
            refine z_callVV C ct12 gX5_cut_X5_lay (ci := 5) (q0 := 0) rfl rfl hyX5_lay rfl ⟨rfl, rfl⟩ ⟨by decide, by decide⟩ ⟨by decide, by decide⟩ [0, 1, 2, 3, 4, 5, 6, 7, 8, 9, 10, 11] [] [0, 1, 2, 3, 4, 5, 6, 7, 8, 9, 10, 11] (wr := []) (V' := (wM E a N (msDk M fq13))) rfl rfl (by decide) (by decide) (by decide) rfl (by decide) (st := []) (Nat.le_of_ble_eq_true rfl) dX5_cut_53 ?_ rfl
            refine z_iinc C 4 rfl (v := (nI (j + 1))) (zinc _) (lv' := [(4, .int (nI (j + 1))), (0, .ref (a 0)), (1, .int (nI kp)), (2, .int (nI tr)), (3, .int (nI w))]) rfl (by decide) dX5_cut_56 ?_
            refine z_goto C (tgt := 42) dX5_cut_59 (by decide) ?_
            subst hq53_13
            refine z_lv (lv' := [(0, .ref (a 0)), (1, .int (nI kp)), (2, .int (nI tr)), (3, .int (nI w)), (4, .int (nI (j + 1)))]) [1, 2, 3, 4, 0] rfl ?_
            exact ih42 (j + 1)  (by omega)
        refine z_lv (lv' := [(0, .ref (a 0)), (1, .int (nI kp)), (2, .int (nI tr)), (3, .int (nI w)), (4, .int 0)]) [2, 3, 4, 1, 0] rfl ?_
        exact loop42 kp 0  (by omega)
      · refine z_iconst C (v := (-1)) (by decide) dX5_cut_32 ?_
        exact ret _ _ _ _ (by first | rfl | (simp only [mCut, if_pos h4_1t, if_neg h19_2f, if_pos h29_3f, ↓reduceIte]; done) | (simp only [mCut, if_pos h4_1t, if_neg h19_2f, if_pos h29_3f, ↓reduceIte]; rfl) | (simp [mCut, if_pos h4_1t, if_neg h19_2f, if_pos h29_3f, ↓reduceIte]; done)) (by first | rfl | (simp only [mCut, if_pos h4_1t, if_neg h19_2f, if_pos h29_3f, ↓reduceIte]; done) | (simp only [mCut, if_pos h4_1t, if_neg h19_2f, if_pos h29_3f, ↓reduceIte]; rfl) | (simp [mCut, if_pos h4_1t, if_neg h19_2f, if_pos h29_3f, ↓reduceIte]; done)) dX5_cut_33
  · refine z_bipush C (v := (-3)) (by decide) dX5_cut_7 ?_
    exact ret _ _ _ _ (by first | rfl | (simp only [mCut, if_neg h4_1f, ↓reduceIte]; done) | (simp only [mCut, if_neg h4_1f, ↓reduceIte]; rfl) | (simp [mCut, if_neg h4_1f, ↓reduceIte]; done)) (by first | rfl | (simp only [mCut, if_neg h4_1f, ↓reduceIte]; done) | (simp only [mCut, if_neg h4_1f, ↓reduceIte]; rfl) | (simp [mCut, if_neg h4_1f, ↓reduceIte]; done)) dX5_cut_9

/-! Part 23: the reference's start -/
def bsS (N : Nat) (d : Nat → Int32) (j : Nat) (b : Int32) : Int32 := if b < 0 then (if mPgs N d j ≤ 0 then b else nI j) else if nA d j 1 4 + (-2147483648) ≤ nA d b.toNatClampNeg 1 4 + (-2147483648) then b else if mPgs N d j ≤ 0 then b else nI j
def bsL (N : Nat) (d : Nat → Int32) : Nat → Nat → Int32 → Int32
  | 0, _, b => b
  | n + 1, j, b => bsL N d n (j + 1) (bsS N d j b)
def mBest (N : Nat) (d : Nat → Int32) : Int32 := bsL N d N 0 (-1)
def pvS (d : Nat → Int32) (s : Nat) : Nat → Nat → (Nat → Int32) → Nat → Int32
  | 0, _, v => v
  | n + 1, e, v => pvS d s n (e + 1) (upd v (bA d s (6 + 4 * e)).toNatClampNeg (nA d s (7 + 4 * e) 3))
def pvL (N : Nat) (d : Nat → Int32) (b : Nat) : Nat → Nat → (Nat → Int32) → Nat → Int32
  | 0, _, v => v
  | n + 1, j, v => pvL N d b n (j + 1) (pvS d ((b + j) % N) (bA d ((b + j) % N) 5).toNatClampNeg 0 v)
noncomputable def ruL (N : Nat) (d : Nat → Int32) (b : Nat) : Nat → Nat → QS → Nat × QS
  | 0, q, x => (q, x)
  | n + 1, q, x => if mTell d ((b + q) % N) = 0 then (q, x) else if nA d ((b + q) % N) 1 4 = nA d b 1 4 + nI q then (if bA d ((b + q) % N) 0 = 1 then ruL N d b n (q + 1) (mRedo d ((b + q) % N) x) else ruL N d b n (q + 1) x) else (q, x)
noncomputable def muL (N : Nat) : Nat → Nat → Nat → Nat → Int32 × MS → Int32 × MS
  | 0, _, _, _, x => x
  | n + 1, j, e, c, x => if mOp x.2 j = 0 then muL N n (j + 1) e c x else muL N n (j + 1) (e + 1) c (x.1 + 1, mAdd N (mRel x.2 j 0).2 (4 * nI j + 3) 0 0 e 0 c)
noncomputable def mM3 (N : Nat) (M : MS) (b q : Nat) (x : QS) : MS := msDn (msSc (msSe (msNf (msWf (msHe (msHo (msVa (msOp (mForget M) x.1) x.2.1) x.2.2.1) x.2.2.2) (nA (mDk M) b 1 4)) (nA (mDk M) b 1 4)) (nA (mDk M) b 1 4 + nI q - 1)) (nI ((b + q - 1) % N))) 0
noncomputable def mRun (N : Nat) (M : MS) (b : Nat) : Nat × QS := ruL N (mDk M) b (N - (mPgs N (mDk M) b).toNatClampNeg) (mPgs N (mDk M) b).toNatClampNeg (fgO (mOp M) 3, pvL N (mDk M) b (mPgs N (mDk M) b).toNatClampNeg 0 (fgV (mVa M) 32), fgV (mHo M) 32, mHe M)
noncomputable def mStF (N : Nat) (M : MS) (b : Nat) : Int32 × MS := muL N 3 0 0 ((b + (mRun N M b).1 - 1) % N) (0, mM3 N M b (mRun N M b).1 (mRun N M b).2)
noncomputable def mStart (N : Nat) (M : MS) : Int32 × MS := if mDn M = 0 then (-1, M) else if 0 ≤ mBest N (mDk M) then mStF N M (mBest N (mDk M)).toNatClampNeg else (-4, M)
theorem mAdd_small (N : Nat) (M : MS) (h k v : Int32) (e w c : Nat) (he : e ≤ 2) : mAdd N M h k v e w c = mPut1 M h k v e := by
  unfold mAdd
  rw [if_neg (fun q => ?_)]
  have := (nI_eq (a := e + 1) (b := 4) (by omega) (by omega)).mp q
  omega
theorem zpred {m : Nat} (h : 1 ≤ m) : nI m - 1 = nI (m - 1) := by
  have := nI_pred (m - 1)
  rw [show m - 1 + 1 = m by omega] at this
  exact this
theorem zpos {x : Int32} (h : ¬ x ≤ 0) : 1 ≤ x.toNatClampNeg := by
  rw [Int32.le_iff_toInt_le] at h
  have e0 : (0 : Int32).toInt = 0 := rfl
  have e1 : x.toNatClampNeg = x.toInt.toNat := rfl
  omega
theorem zbb {N : Nat} {b : Int32} {p : Nat → Prop} (h : b = -1 ∨ ∃ k, k < N ∧ b = nI k ∧ p k) (h0 : ¬ b < 0) : ∃ k, k < N ∧ p k ∧ b = nI k := by
  rcases h with h | ⟨k, h1, h2, h3⟩
  · subst h; exact absurd (by decide) h0
  · exact ⟨k, h1, h3, h2⟩
theorem zbb2 {N : Nat} {b : Int32} {p : Nat → Prop} (h : b = -1 ∨ ∃ k, k < N ∧ b = nI k ∧ p k) (h0 : 0 ≤ b) : ∃ k, k < N ∧ p k ∧ b = nI k := by
  rcases h with h | ⟨k, h1, h2, h3⟩
  · subst h; exact absurd h0 (by decide)
  · exact ⟨k, h1, h3, h2⟩
theorem lt_of_nle {d : Nat → Int32} {s i : Nat} {k : Int32} {n : Nat} (hk : k.toInt = n) (h : ¬ k ≤ bA d s i) : (bA d s i).toNatClampNeg < n := by
  have a := bA_rng d s i
  have e : (bA d s i).toNatClampNeg = (bA d s i).toInt.toNat := rfl
  rw [Int32.le_iff_toInt_le] at h
  omega
theorem teL_all {d : Nat → Int32} {s : Nat} : ∀ n j g, ¬ teL d s n j g = 0 → ¬ g = 0 ∧ ∀ i, j ≤ i → i < j + n → ¬ teG d s i = 0 := by
  intro n
  induction n with
  | zero => intro j g h; exact ⟨h, fun i h1 h2 => absurd h1 (by omega)⟩
  | succ n ih =>
    intro j g h
    unfold teL at h
    by_cases hg : g = 0
    · simp [hg] at h
    · simp only [hg, ↓reduceIte] at h
      obtain ⟨h1, h2⟩ := ih (j + 1) (teG d s j) h
      refine ⟨hg, fun i ha hb => ?_⟩
      by_cases e : i = j
      · subst e; exact h1
      · exact h2 i (by omega) (by omega)
theorem mTell_log {d : Nat → Int32} {s : Nat} (h : ¬ mTell d s = 0) (h1 : bA d s 0 = 1) : (bA d s 5).toNatClampNeg ≤ 4 ∧ ∀ j, j < (bA d s 5).toNatClampNeg → rdH d s j < 12 ∧ rdK d s j < 32 := by
  obtain ⟨h2, h3⟩ := teL_all _ _ _ h
  refine ⟨?_, fun j hj => ?_⟩
  · unfold tg0 at h2
    by_cases hs0 : mSnd d s = 0
    · rw [if_pos hs0] at h2
      exact absurd rfl h2
    · rw [if_neg hs0, if_pos h1] at h2
      split at h2
      · exact absurd rfl h2
      · split at h2
        · exact absurd rfl h2
        · next h4 => exact bA_le (n := 4) rfl h4
  · have h4 := h3 j (by omega) (by omega)
    unfold teG at h4
    rw [if_pos h1] at h4
    split at h4
    · exact absurd rfl h4
    · next h5 =>
      split at h4
      · exact absurd rfl h4
      · next h6 => exact ⟨lt_of_nle (n := 12) rfl h5, lt_of_nle (n := 32) rfl h6⟩
theorem mTell_page {d : Nat → Int32} {s : Nat} (h : ¬ mTell d s = 0) (h1 : bA d s 0 = 2) : (bA d s 5).toNatClampNeg ≤ 5 ∧ ∀ j, j < (bA d s 5).toNatClampNeg → (bA d s (6 + 4 * j)).toNatClampNeg < 32 := by
  obtain ⟨h2, h3⟩ := teL_all _ _ _ h
  refine ⟨tg0_5 h2, fun j hj => ?_⟩
  have h4 := h3 j (by omega) (by omega)
  unfold teG at h4
  rw [h1, if_neg (by decide)] at h4
  split at h4
  · exact absurd rfl h4
  · next h5 => exact lt_of_nle (n := 32) rfl h5
theorem mpL_all {N : Nat} {d : Nat → Int32} {s : Nat} : ∀ n j g, ¬ mpL N d s n j g = 0 → ¬ g = 0 ∧ ∀ i, j ≤ i → i < j + n → ¬ mpG N d s i = 0 := by
  intro n
  induction n with
  | zero => intro j g h; exact ⟨h, fun i h1 h2 => absurd h1 (by omega)⟩
  | succ n ih =>
    intro j g h
    unfold mpL at h
    by_cases hg : g = 0
    · simp [hg] at h
    · simp only [hg, ↓reduceIte] at h
      obtain ⟨h1, h2⟩ := ih (j + 1) (mpG N d s j) h
      refine ⟨hg, fun i ha hb => ?_⟩
      by_cases e : i = j
      · subst e; exact h1
      · exact h2 i (by omega) (by omega)
theorem mPgs_ok {N : Nat} (hN : 16 ≤ N ∧ N ≤ 64) {d : Nat → Int32} {b : Nat} : (mPgs N d b).toNatClampNeg ≤ N ∧ mPgs N d b = nI (mPgs N d b).toNatClampNeg ∧ ∀ p, p < (mPgs N d b).toNatClampNeg → (bA d ((b + p) % N) 5).toNatClampNeg ≤ 5 ∧ ∀ e, e < (bA d ((b + p) % N) 5).toNatClampNeg → (bA d ((b + p) % N) (6 + 4 * e)).toNatClampNeg < 32 := by
  by_cases h : mpL N d b (bA d b 27).toNatClampNeg 0 (mp0 N d b) = 0
  · have e : mPgs N d b = 0 := by unfold mPgs; rw [if_pos h]
    rw [e]
    exact ⟨Nat.zero_le N, rfl, fun p hp => absurd hp (by decide +revert)⟩
  · have e : mPgs N d b = bA d b 27 := by unfold mPgs; rw [if_neg h]
    rw [e]
    obtain ⟨h1, h2⟩ := mpL_all _ _ _ h
    refine ⟨?_, bA_nI d b 27, fun p hp => ?_⟩
    · unfold mp0 at h1
      split at h1
      · exact absurd rfl h1
      · next h3 => exact bA_le (n := N) (nI_toInt (by omega)) h3
    · have h3 := h2 p (by omega) (by omega)
      unfold mpG at h3
      split at h3
      · exact absurd rfl h3
      · next h4 =>
        split at h3
        · next h5 => exact mTell_page h4 h5
        · exact absurd rfl h3
abbrev rmX5_start : Room := { frames := 5, cells := 0, slots := 0, locals := 120 }
theorem hyX5_start : yX5_start.cls = RX5 ∧ yX5_start.cls ≠ "java/lang/invoke/MethodHandle" ∧ yX5_start.cls ≠ "java/lang/invoke/VarHandle" ∧ (parseMethodDescriptor yX5_start.desc).map (fun d => d.parameters.length) = some 0 := by decide +kernel
set_option maxHeartbeats 4000000 in
set_option maxRecDepth 3000 in
theorem c_X5_start (E : GE) (N : Nat) (hN : 16 ≤ N ∧ N ≤ 64) (a : Nat → Nat) (M : MS) : zI E yX5_start wsX5_start rmX5_start [.ref (a 0)] (wM E a N M) ((mStart N M).1) (wM E a N ((mStart N M).2)) := by
  refine zI_of (cc := cX5_start) (maxL := 7) (ty := .int) (by decide) rfl (vp_nar_int _) (Nat.le_of_ble_eq_true rfl) ?_
  intro K C ret
  replace C : zC E K cX5_start wsX5_start RX5 rmX5_start 7 := C
  have in5 : ∀ w ∈ wsX50, w ∈ wsX5_start := fun w h => List.mem_cons_of_mem _ (List.mem_append_right _ (h))
  have l29 : zw K (.fieldLink RX5 29 "StoreLog3Model" "values" "[I") := C.w (List.mem_cons_of_mem _ (List.mem_append_left _ (List.mem_append_left _ (List.mem_of_getElem? (i := 3) rfl))))
  have l32 : zw K (.fieldLink RX5 32 "StoreLog3Model" "isOpen" "[Z") := C.w (List.mem_cons_of_mem _ (List.mem_append_left _ (List.mem_append_left _ (List.mem_of_getElem? (i := 8) rfl))))
  have l45 : zw K (.fieldLink RX5 45 "StoreLog3Model" "sectors" "I") := C.w (List.mem_cons_of_mem _ (List.mem_append_left _ (List.mem_append_left _ (List.mem_of_getElem? (i := 1) rfl))))
  have l64 : zw K (.fieldLink RX5 64 "StoreLog3Model" "isDown" "Z") := C.w (List.mem_cons_of_mem _ (List.mem_append_left _ (List.mem_append_left _ (List.mem_of_getElem? (i := 0) rfl))))
  have l68 : zw K (.fieldLink RX5 68 "StoreLog3Model" "lastSector" "I") := C.w (List.mem_cons_of_mem _ (List.mem_append_left _ (List.mem_append_left _ (List.mem_of_getElem? (i := 7) rfl))))
  have l71 : zw K (.fieldLink RX5 71 "StoreLog3Model" "lastSerial" "I") := C.w (List.mem_cons_of_mem _ (List.mem_append_left _ (List.mem_append_left _ (List.mem_of_getElem? (i := 6) rfl))))
  have l74 : zw K (.fieldLink RX5 74 "StoreLog3Model" "newFirst" "I") := C.w (List.mem_cons_of_mem _ (List.mem_append_left _ (List.mem_append_left _ (List.mem_of_getElem? (i := 5) rfl))))
  have l77 : zw K (.fieldLink RX5 77 "StoreLog3Model" "wholeFirst" "I") := C.w (List.mem_cons_of_mem _ (List.mem_append_left _ (List.mem_append_left _ (List.mem_of_getElem? (i := 4) rfl))))
  have l156 : zw K (.constant RX5 156 (-2147483648)) := C.w (List.mem_cons_of_mem _ (List.mem_append_left _ (List.mem_append_left _ (List.mem_of_getElem? (i := 2) rfl))))
  show Z E K 0 0 (wM E a N M) 0 [(0, .ref (a 0))] []
  have join81 : ∀ (b : Nat), b < N → 1 ≤ (mPgs N (mDk M) b).toNatClampNeg → mStart N M = mStF N M b → Z E K 0 0 (wM E a N M) 81 [(0, .ref (a 0)), (1, .int (nI b))] [] := by
    intro b hbN hpg1 hT0
    obtain ⟨hpgN, hpgI, hpv⟩ := mPgs_ok hN (d := (mDk M)) (b := b)
    have join245 : ∀ (q : Nat) (op va ho he : Nat → Int32), q ≤ N → 1 ≤ q → mRun N M b = (q, op, va, ho, he) → Z E K 0 0 (wM E a N (msHe (msHo (msVa (msOp (msCm (msEn (msWa M 0) 0) 0) op) va) ho) he)) 245 [(0, .ref (a 0)), (1, .int (nI b)), (3, .int (nI q))] [] := by
      intro q op va ho he hqN hq1 hT4
      refine z_aload_n C 0 rfl rfl dX5_start_245 ?_
      refine z_aload_n C 0 rfl rfl dX5_start_246 ?_
      refine z_iload_n C 1 rfl rfl dX5_start_247 ?_
      refine z_rVI C (c_X5_serialAt E N hN a (msHe (msHo (msVa (msOp (msCm (msEn (msWa M 0) 0) 0) op) va) ho) he) b (by omega)) gX5_start_X5_serialAt (ci := 5) (q0 := 0) rfl rfl hyX5_serialAt rfl ⟨rfl, rfl⟩ ⟨by decide, by decide⟩ ⟨by decide, by decide⟩ [0, 1, 2, 3, 4, 5, 6, 7, 8, 9, 10, 11] rfl (by decide) (st := [.ref (a 0)]) (Nat.le_of_ble_eq_true rfl) dX5_start_248 ?_ rfl
      obtain ⟨iz1, hz1⟩ : ∃ z : Int32, (nA (mDk (msHe (msHo (msVa (msOp (msCm (msEn (msWa M 0) 0) 0) op) va) ho) he)) b 1 4) = z := ⟨_, rfl⟩
      refine z_top hz1 ?_
      refine z_put C (Cn := RX5) (T := TX5) (Nf := 20) (ci := 5) in5 0 9 l77 rfl rfl (by decide) tyX5 tyX5_ok nmX5 rfl rfl rfl (Nat.le_of_ble_eq_true rfl) (V' := (wM E a N (msWf (msHe (msHo (msVa (msOp (msCm (msEn (msWa M 0) 0) 0) op) va) ho) he) iz1))) rfl dX5_start_251 ?_
      refine z_aload_n C 0 rfl rfl dX5_start_254 ?_
      refine z_aload_n C 0 rfl rfl dX5_start_255 ?_
      refine z_get C (Cn := RX5) (T := TX5) (Nf := 20) (ci := 5) in5 0 9 l77 (v := .int iz1) rfl rfl (by decide) rfl dX5_start_256 ?_
      refine z_put C (Cn := RX5) (T := TX5) (Nf := 20) (ci := 5) in5 0 8 l74 rfl rfl (by decide) tyX5 tyX5_ok nmX5 rfl rfl rfl (Nat.le_of_ble_eq_true rfl) (V' := (wM E a N (msNf (msWf (msHe (msHo (msVa (msOp (msCm (msEn (msWa M 0) 0) 0) op) va) ho) he) iz1) iz1))) rfl dX5_start_259 ?_
      refine z_aload_n C 0 rfl rfl dX5_start_262 ?_
      refine z_aload_n C 0 rfl rfl dX5_start_263 ?_
      refine z_get C (Cn := RX5) (T := TX5) (Nf := 20) (ci := 5) in5 0 9 l77 (v := .int iz1) rfl rfl (by decide) rfl dX5_start_264 ?_
      refine z_iload_n C 2 rfl rfl dX5_start_267 ?_
      refine z_iadd C dX5_start_268 ?_
      refine z_iconst C (v := 1) (by decide) dX5_start_269 ?_
      refine z_isub C dX5_start_270 ?_
      obtain ⟨iz2, hz2⟩ : ∃ z : Int32, ((iz1 + (nI q)) - 1) = z := ⟨_, rfl⟩
      refine z_top hz2 ?_
      refine z_put C (Cn := RX5) (T := TX5) (Nf := 20) (ci := 5) in5 0 7 l71 rfl rfl (by decide) tyX5 tyX5_ok nmX5 rfl rfl rfl (Nat.le_of_ble_eq_true rfl) (V' := (wM E a N (msSe (msNf (msWf (msHe (msHo (msVa (msOp (msCm (msEn (msWa M 0) 0) 0) op) va) ho) he) iz1) iz1) iz2))) rfl dX5_start_271 ?_
      refine z_aload_n C 0 rfl rfl dX5_start_274 ?_
      refine z_iload_n C 1 rfl rfl dX5_start_275 ?_
      refine z_iload_n C 2 rfl rfl dX5_start_276 ?_
      refine z_iadd C dX5_start_277 ?_
      refine z_top (y := (nI (b + q))) (nI_add _ _) ?_
      refine z_iconst C (v := 1) (by decide) dX5_start_278 ?_
      refine z_isub C dX5_start_279 ?_
      refine z_top (y := (nI (b + q - 1))) (zpred (by omega)) ?_
      refine z_aload_n C 0 rfl rfl dX5_start_280 ?_
      refine z_get C (Cn := RX5) (T := TX5) (Nf := 20) (ci := 5) in5 0 0 l45 (v := .int (nI N)) rfl rfl (by decide) rfl dX5_start_281 ?_
      refine z_irem C (nI_ne0 (by omega) (by omega)) dX5_start_284 ?_
      refine z_top (y := (nI ((b + q - 1) % N))) (zrem (by omega) (by omega) (by omega)) ?_
      refine z_put C (Cn := RX5) (T := TX5) (Nf := 20) (ci := 5) in5 0 6 l68 rfl rfl (by decide) tyX5 tyX5_ok nmX5 rfl rfl rfl (Nat.le_of_ble_eq_true rfl) (V' := (wM E a N (msSc (msSe (msNf (msWf (msHe (msHo (msVa (msOp (msCm (msEn (msWa M 0) 0) 0) op) va) ho) he) iz1) iz1) iz2) (nI ((b + q - 1) % N))))) rfl dX5_start_285 ?_
      refine z_aload_n C 0 rfl rfl dX5_start_288 ?_
      refine z_iconst C (v := 0) (by decide) dX5_start_289 ?_
      refine z_put C (Cn := RX5) (T := TX5) (Nf := 20) (ci := 5) in5 0 2 l64 rfl rfl (by decide) tyX5 tyX5_ok nmX5 rfl rfl rfl (Nat.le_of_ble_eq_true rfl) (V' := (wM E a N (msDn (msSc (msSe (msNf (msWf (msHe (msHo (msVa (msOp (msCm (msEn (msWa M 0) 0) 0) op) va) ho) he) iz1) iz1) iz2) (nI ((b + q - 1) % N))) 0))) rfl dX5_start_290 ?_
      refine z_iconst C (v := 0) (by decide) dX5_start_293 ?_
      refine z_istore C (lv' := [(5, .int 0), (0, .ref (a 0)), (1, .int (nI b)), (3, .int (nI q))]) rfl (by decide) dX5_start_294 ?_
      refine z_iconst C (v := 0) (by decide) dX5_start_296 ?_
      refine z_istore C (lv' := [(6, .int 0), (5, .int 0), (0, .ref (a 0)), (1, .int (nI b)), (3, .int (nI q))]) rfl (by decide) dX5_start_297 ?_
      subst hz2
      subst hz1
      have loop299 : ∀ (n j e : Nat) (u : Int32) (M3 : MS), j + n = 3 → e ≤ j → mEn M3 = nI e → mWa M3 = nI 0 → mSc M3 = nI ((b + q - 1) % N) → muL N n j e ((b + q - 1) % N) (u, M3) = mStF N M b → Z E K 0 0 (wM E a N M3) 299 [(0, .ref (a 0)), (5, .int u), (6, .int (nI j))] [] := by
        intro n
        induction n with
        | zero => 
          intro j e u M3 hj hej hen hwa hsc hT5
          obtain rfl : j = 3 := by omega
          refine z_iload C 2 rfl dX5_start_299 ?_
          refine z_iconst C (v := 3) (by decide) dX5_start_301 ?_
          refine z_icmp_ge C (tgt := 344) dX5_start_302 (by decide) (fun h302_1 => ?_) (fun h302_1 => absurd (nI_le (a := 3) (b := 3) (Nat.le_refl _) (by omega)) h302_1)
          refine z_iload C 1 rfl dX5_start_344 ?_
          exact ret _ _ _ _ (by rw [hT0, ← hT5]; rfl) (by rw [hT0, ← hT5]; rfl) dX5_start_346
        | succ n ih299 => 
          intro j e u M3 hj hej hen hwa hsc hT5
          refine z_iload C 2 rfl dX5_start_299 ?_
          refine z_iconst C (v := 3) (by decide) dX5_start_301 ?_
          refine z_icmp_ge C (tgt := 344) dX5_start_302 (by decide) (fun h302_2 => absurd h302_2 (nI_ge (a := j) (b := 3) (by omega) (by omega))) (fun h302_2 => ?_)
          refine z_aload_n C 0 rfl rfl dX5_start_305 ?_
          refine z_get C (Cn := RX5) (T := TX5) (Nf := 20) (ci := 5) in5 0 15 l32 (v := .ref (a 8)) rfl rfl (by decide) rfl dX5_start_306 ?_
          refine z_iload C 2 rfl dX5_start_309 ?_
          refine z_zald C 8 rfl (vp_in_nI (by omega) (by omega)) (v := ((mOp M3) j)) (congrArg (mOp M3) (nI_clamp (by omega))) dX5_start_311 ?_
          refine z_if_eq C (tgt := 338) dX5_start_312 (by decide) (fun h312_3t => ?_) (fun h312_3f => ?_)
          · refine z_iinc C 2 rfl (v := (nI (j + 1))) (zinc _) (lv' := [(6, .int (nI (j + 1))), (0, .ref (a 0)), (5, .int u)]) rfl (by decide) dX5_start_338 ?_
            refine z_goto C (tgt := 299) dX5_start_341 (by decide) ?_
            refine z_lv (lv' := [(0, .ref (a 0)), (5, .int u), (6, .int (nI (j + 1)))]) [1, 2, 0] rfl ?_
            exact ih299 (j + 1) e _ _ (by omega) (by omega) hen hwa hsc (by rw [← hT5]; first | (simp only [muL, if_neg h302_2, if_pos h312_3t, ↓reduceIte]; done) | (simp only [muL, if_neg h302_2, if_pos h312_3t, ↓reduceIte]; rfl))
          · refine z_aload_n C 0 rfl rfl dX5_start_315 ?_
            refine z_iload C 2 rfl dX5_start_316 ?_
            refine z_iconst C (v := 0) (by decide) dX5_start_318 ?_
            obtain ⟨yq4, hq319_4⟩ : ∃ z : Int32 × (Nat → Int32) × (Nat → Int32), (mRl (nI j) 0 (mHe M3) (mVa M3) (mHo M3)) = z := ⟨_, rfl⟩
            obtain ⟨fq5, hq319_5⟩ : ∃ z : Nat → Int32, (upd (mOp M3) j 0) = z := ⟨_, rfl⟩
            have ct3 : zI E yX5_release wsX5_release rmX5_release [.ref (a 0), .int (nI j), .int 0] (wM E a N M3) (yq4.1) (wM E a N (msOp (msHo (msVa M3 yq4.2.1) yq4.2.2) fq5)) := by subst hq319_5; subst hq319_4; exact c_X5_release E N hN a M3 j 0 (by omega)
            refine z_callVI C ct3 gX5_start_X5_release (ci := 5) (q0 := 0) rfl rfl hyX5_release rfl ⟨rfl, rfl⟩ ⟨by decide, by decide⟩ ⟨by decide, by decide⟩ [0, 1, 2, 3, 4, 5, 6, 7, 8, 9, 10, 11] [] [0, 1, 2, 3, 4, 5, 6, 7, 8, 9, 10, 11] (wr := []) (V' := (wM E a N (msOp (msHo (msVa M3 yq4.2.1) yq4.2.2) fq5))) rfl rfl (by decide) (by decide) (by decide) rfl (by decide) (st := []) (Nat.le_of_ble_eq_true rfl) dX5_start_319 ?_ rfl
            refine z_pop C rfl dX5_start_322 ?_
            refine z_aload_n C 0 rfl rfl dX5_start_323 ?_
            refine z_iconst C (v := 4) (by decide) dX5_start_324 ?_
            refine z_iload C 2 rfl dX5_start_325 ?_
            refine z_imul C dX5_start_327 ?_
            refine z_iconst C (v := 3) (by decide) dX5_start_328 ?_
            refine z_iadd C dX5_start_329 ?_
            refine z_iconst C (v := 0) (by decide) dX5_start_330 ?_
            refine z_iconst C (v := 0) (by decide) dX5_start_331 ?_
            obtain ⟨Mq7, hq332_7⟩ : ∃ z : MS, (mAdd N (msOp (msHo (msVa M3 yq4.2.1) yq4.2.2) fq5) ((4 * (nI j)) + 3) 0 0 e 0 ((b + q - 1) % N)) = z := ⟨_, rfl⟩
            have ct6 : zV E yX5_add wsX5_add rmX5_add [.ref (a 0), .int ((4 * (nI j)) + 3), .int 0, .int 0] (wM E a N (msOp (msHo (msVa M3 yq4.2.1) yq4.2.2) fq5)) (wM E a N Mq7) := by subst hq332_7; exact c_X5_add E N hN a (msOp (msHo (msVa M3 yq4.2.1) yq4.2.2) fq5) ((4 * (nI j)) + 3) 0 0 e hen (by omega) 0 ((b + q - 1) % N) hwa (by omega) hsc (Nat.mod_lt _ (by omega))
            refine z_callVV C ct6 gX5_start_X5_add (ci := 5) (q0 := 0) rfl rfl hyX5_add rfl ⟨rfl, rfl⟩ ⟨by decide, by decide⟩ ⟨by decide, by decide⟩ [0, 1, 2, 3, 4, 5, 6, 7, 8, 9, 10, 11] [] [0, 1, 2, 3, 4, 5, 6, 7, 8, 9, 10, 11] (wr := []) (V' := (wM E a N Mq7)) rfl rfl (by decide) (by decide) (by decide) rfl (by decide) (st := []) (Nat.le_of_ble_eq_true rfl) dX5_start_332 ?_ rfl
            refine z_iinc C 1 rfl (v := (u + 1)) rfl (lv' := [(5, .int (u + 1)), (0, .ref (a 0)), (6, .int (nI j))]) rfl (by decide) dX5_start_335 ?_
            refine z_iinc C 2 rfl (v := (nI (j + 1))) (zinc _) (lv' := [(6, .int (nI (j + 1))), (5, .int (u + 1)), (0, .ref (a 0))]) rfl (by decide) dX5_start_338 ?_
            refine z_goto C (tgt := 299) dX5_start_341 (by decide) ?_
            subst hq332_7
            subst hq319_5
            subst hq319_4
            refine z_lv (lv' := [(0, .ref (a 0)), (5, .int (u + 1)), (6, .int (nI (j + 1)))]) [2, 1, 0] rfl ?_
            exact ih299 (j + 1) (e + 1) _ _ (by omega) (by omega) (by rw [mAdd_small _ _ _ _ _ _ _ _ (by omega)]; rfl) (by rw [mAdd_small _ _ _ _ _ _ _ _ (by omega)]; exact hwa) (by rw [mAdd_small _ _ _ _ _ _ _ _ (by omega)]; exact hsc) (by rw [← hT5]; first | (simp only [muL, mRel, if_neg h302_2, if_neg h312_3f, ↓reduceIte]; done) | (simp only [muL, mRel, if_neg h302_2, if_neg h312_3f, ↓reduceIte]; rfl))
      refine z_lv (lv' := [(0, .ref (a 0)), (5, .int 0), (6, .int 0)]) [2, 1, 0] rfl ?_
      exact loop299 3 0 0 0 _ (by omega) (by omega) rfl rfl rfl (by unfold mStF; rw [hT4]; rfl)
    refine z_aload_n C 0 rfl rfl dX5_start_81 ?_
    obtain ⟨fq9, hq82_9⟩ : ∃ z : Nat → Int32, (fgO (mOp M) 3) = z := ⟨_, rfl⟩
    obtain ⟨fq10, hq82_10⟩ : ∃ z : Nat → Int32, (fgV (mVa M) 32) = z := ⟨_, rfl⟩
    obtain ⟨fq11, hq82_11⟩ : ∃ z : Nat → Int32, (fgV (mHo M) 32) = z := ⟨_, rfl⟩
    have ct8 : zV E yX5_forget wsX5_forget rmX5_forget [.ref (a 0)] (wM E a N M) (wM E a N (msHo (msVa (msOp (msCm (msEn (msWa M 0) 0) 0) fq9) fq10) fq11)) := by subst hq82_11; subst hq82_10; subst hq82_9; exact c_X5_forget E N hN a M
    refine z_callVV C ct8 gX5_start_X5_forget (ci := 5) (q0 := 0) rfl rfl hyX5_forget rfl ⟨rfl, rfl⟩ ⟨by decide, by decide⟩ ⟨by decide, by decide⟩ [0, 1, 2, 3, 4, 5, 6, 7, 8, 9, 10, 11] [] [0, 1, 2, 3, 4, 5, 6, 7, 8, 9, 10, 11] (wr := []) (V' := (wM E a N (msHo (msVa (msOp (msCm (msEn (msWa M 0) 0) 0) fq9) fq10) fq11))) rfl rfl (by decide) (by decide) (by decide) rfl (by decide) (st := []) (Nat.le_of_ble_eq_true rfl) dX5_start_82 ?_ rfl
    refine z_aload_n C 0 rfl rfl dX5_start_85 ?_
    refine z_iload_n C 1 rfl rfl dX5_start_86 ?_
    refine z_rVI C (c_X5_pagesFrom E N hN a (msHo (msVa (msOp (msCm (msEn (msWa M 0) 0) 0) fq9) fq10) fq11) b hbN) gX5_start_X5_pagesFrom (ci := 5) (q0 := 0) rfl rfl hyX5_pagesFrom rfl ⟨rfl, rfl⟩ ⟨by decide, by decide⟩ ⟨by decide, by decide⟩ [0, 1, 2, 3, 4, 5, 6, 7, 8, 9, 10, 11] rfl (by decide) (st := []) (Nat.le_of_ble_eq_true rfl) dX5_start_87 ?_ rfl
    refine z_istore_n C (lv' := [(2, .int (mPgs N (mDk (msHo (msVa (msOp (msCm (msEn (msWa M 0) 0) 0) fq9) fq10) fq11)) b)), (0, .ref (a 0)), (1, .int (nI b))]) rfl rfl (by decide) dX5_start_90 ?_
    refine z_iconst C (v := 0) (by decide) dX5_start_91 ?_
    refine z_istore_n C (lv' := [(3, .int 0), (2, .int (mPgs N (mDk (msHo (msVa (msOp (msCm (msEn (msWa M 0) 0) 0) fq9) fq10) fq11)) b)), (0, .ref (a 0)), (1, .int (nI b))]) rfl rfl (by decide) dX5_start_92 ?_
    subst hq82_11
    subst hq82_10
    subst hq82_9
    have loop93 : ∀ (n j : Nat) (va : Nat → Int32), j + n = (mPgs N (mDk M) b).toNatClampNeg → pvL N (mDk M) b n j va = pvL N (mDk M) b (mPgs N (mDk M) b).toNatClampNeg 0 (fgV (mVa M) 32) → Z E K 0 0 (wM E a N (msVa (msHo (msOp (msCm (msEn (msWa M 0) 0) 0) (fgO (mOp M) 3)) (fgV (mHo M) 32)) va)) 93 [(0, .ref (a 0)), (1, .int (nI b)), (2, .int (mPgs N (mDk M) b)), (3, .int (nI j))] [] := by
      intro n
      induction n with
      | zero => 
        intro j va hj hT1
        have hjB : j = (mPgs N (mDk M) b).toNatClampNeg := by omega
        subst hjB
        obtain ⟨fz12, hz12⟩ : ∃ z : Nat → Int32, (fgO (mOp M) 3) = z := ⟨_, rfl⟩
        rw [hz12]
        obtain ⟨fz13, hz13⟩ : ∃ z : Nat → Int32, (fgV (mHo M) 32) = z := ⟨_, rfl⟩
        rw [hz13]
        refine z_iload_n C 3 rfl rfl dX5_start_93 ?_
        refine z_iload_n C 2 rfl rfl dX5_start_94 ?_
        refine z_icmp_ge C (tgt := 167) dX5_start_95 (by decide) (fun h95_4 => ?_) (fun h95_4 => absurd zclY h95_4)
        refine z_iload_n C 2 rfl rfl dX5_start_167 ?_
        refine z_top (y := (nI (mPgs N (mDk M) b).toNatClampNeg)) hpgI ?_
        refine z_istore_n C (lv' := [(3, .int (nI (mPgs N (mDk M) b).toNatClampNeg)), (0, .ref (a 0)), (1, .int (nI b)), (2, .int (mPgs N (mDk M) b))]) rfl rfl (by decide) dX5_start_168 ?_
        refine z_iload_n C 2 rfl rfl dX5_start_169 ?_
        refine z_iload_n C 0 rfl rfl dX5_start_170 ?_
        refine z_iadd C dX5_start_171 ?_
        refine z_top (y := (nI (b + (mPgs N (mDk M) b).toNatClampNeg))) (nI_add _ _) ?_
        refine z_aload_n C 1 rfl rfl dX5_start_172 ?_
        refine z_get C (Cn := RX5) (T := TX5) (Nf := 20) (ci := 5) in5 0 0 l45 (v := .int (nI N)) rfl rfl (by decide) rfl dX5_start_173 ?_
        refine z_irem C (nI_ne0 (by omega) (by omega)) dX5_start_176 ?_
        refine z_top (y := (nI ((b + (mPgs N (mDk M) b).toNatClampNeg) % N))) (zrem (by omega) (by omega) (by omega)) ?_
        refine z_istore C (lv' := [(4, .int (nI ((b + (mPgs N (mDk M) b).toNatClampNeg) % N))), (3, .int (nI (mPgs N (mDk M) b).toNatClampNeg)), (0, .ref (a 0)), (1, .int (nI b)), (2, .int (mPgs N (mDk M) b))]) rfl (by decide) dX5_start_177 ?_
        subst hz13
        subst hz12
        have loop179 : ∀ (n q : Nat) (op va ho he : Nat → Int32), q + n = N → 1 ≤ q → ruL N (mDk M) b n q (op, va, ho, he) = mRun N M b → Z E K 0 0 (wM E a N (msHe (msHo (msVa (msOp (msCm (msEn (msWa M 0) 0) 0) op) va) ho) he)) 179 [(0, .ref (a 0)), (1, .int (nI b)), (3, .int (nI q)), (4, .int (nI ((b + q) % N)))] [] := by
          intro n
          induction n with
          | zero => 
            intro q op va ho he hqn hq1 hT3
            obtain rfl : N = q := by omega
            refine z_iload_n C 2 rfl rfl dX5_start_179 ?_
            refine z_aload_n C 0 rfl rfl dX5_start_180 ?_
            refine z_get C (Cn := RX5) (T := TX5) (Nf := 20) (ci := 5) in5 0 0 l45 (v := .int (nI N)) rfl rfl (by decide) rfl dX5_start_181 ?_
            refine z_icmp_ge C (tgt := 245) dX5_start_184 (by decide) (fun h184_5 => ?_) (fun h184_5 => absurd (nI_le (a := N) (b := N) (Nat.le_refl _) (by omega)) h184_5)
            refine z_lv (lv' := [(0, .ref (a 0)), (1, .int (nI b)), (3, .int (nI N))]) [0, 1, 2] rfl ?_
            exact join245 N op va ho he (by omega) (by omega) hT3.symm
          | succ n ih179 => 
            intro q op va ho he hqn hq1 hT3
            have hnx : ((b + q) % N) < N := Nat.mod_lt _ (by omega)
            refine z_iload_n C 2 rfl rfl dX5_start_179 ?_
            refine z_aload_n C 0 rfl rfl dX5_start_180 ?_
            refine z_get C (Cn := RX5) (T := TX5) (Nf := 20) (ci := 5) in5 0 0 l45 (v := .int (nI N)) rfl rfl (by decide) rfl dX5_start_181 ?_
            refine z_icmp_ge C (tgt := 245) dX5_start_184 (by decide) (fun h184_6 => absurd h184_6 (nI_ge (a := q) (b := N) (by omega) (by omega))) (fun h184_6 => ?_)
            refine z_aload_n C 0 rfl rfl dX5_start_187 ?_
            refine z_iload C 3 rfl dX5_start_188 ?_
            refine z_rVI C (c_X5_tells E N hN a (msHe (msHo (msVa (msOp (msCm (msEn (msWa M 0) 0) 0) op) va) ho) he) ((b + q) % N) (by omega)) gX5_start_X5_tells (ci := 5) (q0 := 0) rfl rfl hyX5_tells rfl ⟨rfl, rfl⟩ ⟨by decide, by decide⟩ ⟨by decide, by decide⟩ [0, 1, 2, 3, 4, 5, 6, 7, 8, 9, 10, 11] rfl (by decide) (st := []) (Nat.le_of_ble_eq_true rfl) dX5_start_190 ?_ rfl
            refine z_if_eq C (tgt := 245) dX5_start_193 (by decide) (fun h193_7t => ?_) (fun h193_7f => ?_)
            · refine z_lv (lv' := [(0, .ref (a 0)), (1, .int (nI b)), (3, .int (nI q))]) [0, 1, 2] rfl ?_
              exact join245 q op va ho he (by omega) (by omega) (by rw [← hT3]; first | (simp only [ruL, if_pos h95_4, if_neg h184_6, if_pos h193_7t, ↓reduceIte]; done) | (simp only [ruL, if_pos h95_4, if_neg h184_6, if_pos h193_7t, ↓reduceIte]; rfl))
            · refine z_aload_n C 0 rfl rfl dX5_start_196 ?_
              refine z_iload C 3 rfl dX5_start_197 ?_
              refine z_rVI C (c_X5_serialAt E N hN a (msHe (msHo (msVa (msOp (msCm (msEn (msWa M 0) 0) 0) op) va) ho) he) ((b + q) % N) (by omega)) gX5_start_X5_serialAt (ci := 5) (q0 := 0) rfl rfl hyX5_serialAt rfl ⟨rfl, rfl⟩ ⟨by decide, by decide⟩ ⟨by decide, by decide⟩ [0, 1, 2, 3, 4, 5, 6, 7, 8, 9, 10, 11] rfl (by decide) (st := []) (Nat.le_of_ble_eq_true rfl) dX5_start_199 ?_ rfl
              refine z_aload_n C 0 rfl rfl dX5_start_202 ?_
              refine z_iload_n C 1 rfl rfl dX5_start_203 ?_
              refine z_rVI C (c_X5_serialAt E N hN a (msHe (msHo (msVa (msOp (msCm (msEn (msWa M 0) 0) 0) op) va) ho) he) b (by omega)) gX5_start_X5_serialAt (ci := 5) (q0 := 0) rfl rfl hyX5_serialAt rfl ⟨rfl, rfl⟩ ⟨by decide, by decide⟩ ⟨by decide, by decide⟩ [0, 1, 2, 3, 4, 5, 6, 7, 8, 9, 10, 11] rfl (by decide) (st := [.int (nA (mDk (msHe (msHo (msVa (msOp (msCm (msEn (msWa M 0) 0) 0) op) va) ho) he)) ((b + q) % N) 1 4)]) (Nat.le_of_ble_eq_true rfl) dX5_start_204 ?_ rfl
              refine z_iload_n C 2 rfl rfl dX5_start_207 ?_
              refine z_iadd C dX5_start_208 ?_
              refine z_icmp_ne C (tgt := 245) dX5_start_209 (by decide) (fun h209_8t => ?_) (fun h209_8f => ?_)
              · refine z_lv (lv' := [(0, .ref (a 0)), (1, .int (nI b)), (3, .int (nI q))]) [0, 1, 2] rfl ?_
                exact join245 q op va ho he (by omega) (by omega) (by rw [← hT3]; first | (simp only [ruL, if_pos h95_4, if_neg h184_6, if_neg h193_7f, if_neg h209_8t, ↓reduceIte]; done) | (simp only [ruL, if_pos h95_4, if_neg h184_6, if_neg h193_7f, if_neg h209_8t, ↓reduceIte]; rfl))
              · refine z_aload_n C 0 rfl rfl dX5_start_212 ?_
                refine z_iload C 3 rfl dX5_start_213 ?_
                refine z_iconst C (v := 0) (by decide) dX5_start_215 ?_
                refine z_rVI C (c_X5_byteAt E N hN a (msHe (msHo (msVa (msOp (msCm (msEn (msWa M 0) 0) 0) op) va) ho) he) ((b + q) % N) 0 (by omega)) gX5_start_X5_byteAt (ci := 5) (q0 := 0) rfl rfl hyX5_byteAt rfl ⟨rfl, rfl⟩ ⟨by decide, by decide⟩ ⟨by decide, by decide⟩ [0, 1, 2, 3, 4, 5, 6, 7, 8, 9, 10, 11] rfl (by decide) (st := []) (Nat.le_of_ble_eq_true rfl) dX5_start_216 ?_ rfl
                refine z_iconst C (v := 1) (by decide) dX5_start_219 ?_
                refine z_icmp_ne C (tgt := 229) dX5_start_220 (by decide) (fun h220_9t => ?_) (fun h220_9f => ?_)
                · refine z_iinc C 2 rfl (v := (nI (q + 1))) (zinc _) (lv' := [(3, .int (nI (q + 1))), (0, .ref (a 0)), (1, .int (nI b)), (4, .int (nI ((b + q) % N)))]) rfl (by decide) dX5_start_229 ?_
                  refine z_iload_n C 2 rfl rfl dX5_start_232 ?_
                  refine z_iload_n C 0 rfl rfl dX5_start_233 ?_
                  refine z_iadd C dX5_start_234 ?_
                  refine z_top (y := (nI (b + (q + 1)))) (nI_add _ _) ?_
                  refine z_aload_n C 1 rfl rfl dX5_start_235 ?_
                  refine z_get C (Cn := RX5) (T := TX5) (Nf := 20) (ci := 5) in5 0 0 l45 (v := .int (nI N)) rfl rfl (by decide) rfl dX5_start_236 ?_
                  refine z_irem C (nI_ne0 (by omega) (by omega)) dX5_start_239 ?_
                  refine z_top (y := (nI ((b + (q + 1)) % N))) (zrem (by omega) (by omega) (by omega)) ?_
                  refine z_istore C (lv' := [(4, .int (nI ((b + (q + 1)) % N))), (3, .int (nI (q + 1))), (0, .ref (a 0)), (1, .int (nI b))]) rfl (by decide) dX5_start_240 ?_
                  refine z_goto C (tgt := 179) dX5_start_242 (by decide) ?_
                  refine z_lv (lv' := [(0, .ref (a 0)), (1, .int (nI b)), (3, .int (nI (q + 1))), (4, .int (nI ((b + (q + 1)) % N)))]) [2, 3, 1, 0] rfl ?_
                  exact ih179 (q + 1) _ _ _ _ (by omega) (by omega) (by rw [← hT3]; first | (simp only [ruL, if_pos h95_4, if_neg h184_6, if_neg h193_7f, if_pos h209_8f, if_neg h220_9t, ↓reduceIte]; done) | (simp only [ruL, if_pos h95_4, if_neg h184_6, if_neg h193_7f, if_pos h209_8f, if_neg h220_9t, ↓reduceIte]; rfl))
                · refine z_aload_n C 0 rfl rfl dX5_start_223 ?_
                  refine z_iload C 3 rfl dX5_start_224 ?_
                  obtain ⟨yq15, hq226_15⟩ : ∃ z : QS, (mRedo (mDk (msHe (msHo (msVa (msOp (msCm (msEn (msWa M 0) 0) 0) op) va) ho) he)) ((b + q) % N) ((mOp (msHe (msHo (msVa (msOp (msCm (msEn (msWa M 0) 0) 0) op) va) ho) he)), (mVa (msHe (msHo (msVa (msOp (msCm (msEn (msWa M 0) 0) 0) op) va) ho) he)), (mHo (msHe (msHo (msVa (msOp (msCm (msEn (msWa M 0) 0) 0) op) va) ho) he)), (mHe (msHe (msHo (msVa (msOp (msCm (msEn (msWa M 0) 0) 0) op) va) ho) he)))) = z := ⟨_, rfl⟩
                  have ct14 : zV E yX5_redo wsX5_redo rmX5_redo [.ref (a 0), .int (nI ((b + q) % N))] (wM E a N (msHe (msHo (msVa (msOp (msCm (msEn (msWa M 0) 0) 0) op) va) ho) he)) (wM E a N (msHe (msHo (msVa (msOp (msCm (msEn (msWa M 0) 0) 0) yq15.1) yq15.2.1) yq15.2.2.1) yq15.2.2.2)) := by subst hq226_15; exact c_X5_redo E N hN a (msHe (msHo (msVa (msOp (msCm (msEn (msWa M 0) 0) 0) op) va) ho) he) ((b + q) % N) (by omega) ((mTell_log h193_7f h220_9f).1) ((mTell_log h193_7f h220_9f).2)
                  refine z_callVV C ct14 gX5_start_X5_redo (ci := 5) (q0 := 0) rfl rfl hyX5_redo rfl ⟨rfl, rfl⟩ ⟨by decide, by decide⟩ ⟨by decide, by decide⟩ [0, 1, 2, 3, 4, 5, 6, 7, 8, 9, 10, 11] [] [0, 1, 2, 3, 4, 5, 6, 7, 8, 9, 10, 11] (wr := []) (V' := (wM E a N (msHe (msHo (msVa (msOp (msCm (msEn (msWa M 0) 0) 0) yq15.1) yq15.2.1) yq15.2.2.1) yq15.2.2.2))) rfl rfl (by decide) (by decide) (by decide) rfl (by decide) (st := []) (Nat.le_of_ble_eq_true rfl) dX5_start_226 ?_ rfl
                  refine z_iinc C 2 rfl (v := (nI (q + 1))) (zinc _) (lv' := [(3, .int (nI (q + 1))), (0, .ref (a 0)), (1, .int (nI b)), (4, .int (nI ((b + q) % N)))]) rfl (by decide) dX5_start_229 ?_
                  refine z_iload_n C 2 rfl rfl dX5_start_232 ?_
                  refine z_iload_n C 0 rfl rfl dX5_start_233 ?_
                  refine z_iadd C dX5_start_234 ?_
                  refine z_top (y := (nI (b + (q + 1)))) (nI_add _ _) ?_
                  refine z_aload_n C 1 rfl rfl dX5_start_235 ?_
                  refine z_get C (Cn := RX5) (T := TX5) (Nf := 20) (ci := 5) in5 0 0 l45 (v := .int (nI N)) rfl rfl (by decide) rfl dX5_start_236 ?_
                  refine z_irem C (nI_ne0 (by omega) (by omega)) dX5_start_239 ?_
                  refine z_top (y := (nI ((b + (q + 1)) % N))) (zrem (by omega) (by omega) (by omega)) ?_
                  refine z_istore C (lv' := [(4, .int (nI ((b + (q + 1)) % N))), (3, .int (nI (q + 1))), (0, .ref (a 0)), (1, .int (nI b))]) rfl (by decide) dX5_start_240 ?_
                  refine z_goto C (tgt := 179) dX5_start_242 (by decide) ?_
                  subst hq226_15
                  refine z_lv (lv' := [(0, .ref (a 0)), (1, .int (nI b)), (3, .int (nI (q + 1))), (4, .int (nI ((b + (q + 1)) % N)))]) [2, 3, 1, 0] rfl ?_
                  exact ih179 (q + 1) _ _ _ _ (by omega) (by omega) (by rw [← hT3]; first | (simp only [ruL, if_pos h95_4, if_neg h184_6, if_neg h193_7f, if_pos h209_8f, if_pos h220_9f, ↓reduceIte]; done) | (simp only [ruL, if_pos h95_4, if_neg h184_6, if_neg h193_7f, if_pos h209_8f, if_pos h220_9f, ↓reduceIte]; rfl))
        refine z_lv (lv' := [(0, .ref (a 0)), (1, .int (nI b)), (3, .int (nI (mPgs N (mDk M) b).toNatClampNeg)), (4, .int (nI ((b + (mPgs N (mDk M) b).toNatClampNeg) % N)))]) [2, 3, 1, 0] rfl ?_
        exact loop179 (N - (mPgs N (mDk M) b).toNatClampNeg) (mPgs N (mDk M) b).toNatClampNeg _ _ _ _ (by omega) (by omega) (by unfold mRun; rw [← hT1] <;> rfl)
      | succ n ih93 => 
        intro j va hj hT1
        have hsq : (b + j) % N < N := Nat.mod_lt _ (by omega)
        obtain ⟨hp5, hpk⟩ := hpv j (by omega)
        refine z_iload_n C 3 rfl rfl dX5_start_93 ?_
        refine z_iload_n C 2 rfl rfl dX5_start_94 ?_
        refine z_icmp_ge C (tgt := 167) dX5_start_95 (by decide) (fun h95_10 => absurd h95_10 (zclN hj)) (fun h95_10 => ?_)
        refine z_iload_n C 1 rfl rfl dX5_start_98 ?_
        refine z_iload_n C 3 rfl rfl dX5_start_99 ?_
        refine z_iadd C dX5_start_100 ?_
        refine z_top (y := (nI (b + j))) (nI_add _ _) ?_
        refine z_aload_n C 0 rfl rfl dX5_start_101 ?_
        refine z_get C (Cn := RX5) (T := TX5) (Nf := 20) (ci := 5) in5 0 0 l45 (v := .int (nI N)) rfl rfl (by decide) rfl dX5_start_102 ?_
        refine z_irem C (nI_ne0 (by omega) (by omega)) dX5_start_105 ?_
        refine z_top (y := (nI ((b + j) % N))) (zrem (by omega) (by omega) (by omega)) ?_
        refine z_istore C (lv' := [(4, .int (nI ((b + j) % N))), (0, .ref (a 0)), (1, .int (nI b)), (2, .int (mPgs N (mDk M) b)), (3, .int (nI j))]) rfl (by decide) dX5_start_106 ?_
        refine z_iconst C (v := 0) (by decide) dX5_start_108 ?_
        refine z_istore C (lv' := [(5, .int 0), (4, .int (nI ((b + j) % N))), (0, .ref (a 0)), (1, .int (nI b)), (2, .int (mPgs N (mDk M) b)), (3, .int (nI j))]) rfl (by decide) dX5_start_109 ?_
        have loop111 : ∀ (n1 ee : Nat) (va1 : Nat → Int32), ee + n1 = (bA (mDk M) ((b + j) % N) 5).toNatClampNeg → pvS (mDk M) ((b + j) % N) n1 ee va1 = pvS (mDk M) ((b + j) % N) (bA (mDk M) ((b + j) % N) 5).toNatClampNeg 0 va → Z E K 0 0 (wM E a N (msVa (msHo (msOp (msCm (msEn (msWa M 0) 0) 0) (fgO (mOp M) 3)) (fgV (mHo M) 32)) va1)) 111 [(0, .ref (a 0)), (1, .int (nI b)), (2, .int (mPgs N (mDk M) b)), (3, .int (nI j)), (4, .int (nI ((b + j) % N))), (5, .int (nI ee))] [] := by
          intro n1
          induction n1 with
          | zero => 
            intro ee va1 hee hT2
            have hjB : ee = (bA (mDk M) ((b + j) % N) 5).toNatClampNeg := by omega
            subst hjB
            obtain ⟨fz16, hz16⟩ : ∃ z : Nat → Int32, (fgO (mOp M) 3) = z := ⟨_, rfl⟩
            rw [hz16]
            obtain ⟨fz17, hz17⟩ : ∃ z : Nat → Int32, (fgV (mHo M) 32) = z := ⟨_, rfl⟩
            rw [hz17]
            refine z_iload C 5 rfl dX5_start_111 ?_
            refine z_aload_n C 0 rfl rfl dX5_start_113 ?_
            refine z_iload C 4 rfl dX5_start_114 ?_
            refine z_iconst C (v := 5) (by decide) dX5_start_116 ?_
            refine z_rVI C (c_X5_byteAt E N hN a (msHo (msOp (msVa (msCm (msEn (msWa M 0) 0) 0) va1) fz16) fz17) ((b + j) % N) 5 (by omega)) gX5_start_X5_byteAt (ci := 5) (q0 := 0) rfl rfl hyX5_byteAt rfl ⟨rfl, rfl⟩ ⟨by decide, by decide⟩ ⟨by decide, by decide⟩ [0, 1, 2, 3, 4, 5, 6, 7, 8, 9, 10, 11] rfl (by decide) (st := [.int (nI ((bA (mDk M) ((b + j) % N) 5).toNatClampNeg))]) (Nat.le_of_ble_eq_true rfl) dX5_start_117 ?_ rfl
            refine z_icmp_ge C (tgt := 161) dX5_start_120 (by decide) (fun h120_11 => ?_) (fun h120_11 => absurd zclY h120_11)
            refine z_iinc C 3 rfl (v := (nI (j + 1))) (zinc _) (lv' := [(3, .int (nI (j + 1))), (0, .ref (a 0)), (1, .int (nI b)), (2, .int (mPgs N (mDk M) b)), (4, .int (nI ((b + j) % N))), (5, .int (nI ((bA (mDk M) ((b + j) % N) 5).toNatClampNeg)))]) rfl (by decide) dX5_start_161 ?_
            refine z_goto C (tgt := 93) dX5_start_164 (by decide) ?_
            subst hz17
            subst hz16
            refine z_lv (lv' := [(0, .ref (a 0)), (1, .int (nI b)), (2, .int (mPgs N (mDk M) b)), (3, .int (nI (j + 1)))]) [1, 2, 3, 0] rfl ?_
            exact ih93 (j + 1) _ (by omega) (by rw [← hT1]; simp only [pvL]; rw [← hT2]; rfl)
          | succ n1 ih111 => 
            intro ee va1 hee hT2
            refine z_iload C 5 rfl dX5_start_111 ?_
            refine z_aload_n C 0 rfl rfl dX5_start_113 ?_
            refine z_iload C 4 rfl dX5_start_114 ?_
            refine z_iconst C (v := 5) (by decide) dX5_start_116 ?_
            refine z_rVI C (c_X5_byteAt E N hN a (msVa (msHo (msOp (msCm (msEn (msWa M 0) 0) 0) (fgO (mOp M) 3)) (fgV (mHo M) 32)) va1) ((b + j) % N) 5 (by omega)) gX5_start_X5_byteAt (ci := 5) (q0 := 0) rfl rfl hyX5_byteAt rfl ⟨rfl, rfl⟩ ⟨by decide, by decide⟩ ⟨by decide, by decide⟩ [0, 1, 2, 3, 4, 5, 6, 7, 8, 9, 10, 11] rfl (by decide) (st := [.int (nI ee)]) (Nat.le_of_ble_eq_true rfl) dX5_start_117 ?_ rfl
            refine z_icmp_ge C (tgt := 161) dX5_start_120 (by decide) (fun h120_12 => absurd h120_12 (zclN hee)) (fun h120_12 => ?_)
            have hpk1 := hpk ee (by omega)
            refine z_aload_n C 0 rfl rfl dX5_start_123 ?_
            refine z_get C (Cn := RX5) (T := TX5) (Nf := 20) (ci := 5) in5 0 14 l29 (v := .ref (a 7)) rfl rfl (by decide) rfl dX5_start_124 ?_
            refine z_aload_n C 0 rfl rfl dX5_start_127 ?_
            refine z_iload C 4 rfl dX5_start_128 ?_
            refine z_bipush C (v := 6) (by decide) dX5_start_130 ?_
            refine z_iconst C (v := 4) (by decide) dX5_start_132 ?_
            refine z_iload C 5 rfl dX5_start_133 ?_
            refine z_imul C dX5_start_135 ?_
            refine z_top (y := (nI (4 * ee))) (zmul 4 ee) ?_
            refine z_iadd C dX5_start_136 ?_
            refine z_top (y := (nI (6 + 4 * ee))) (nI_add 6 _) ?_
            refine z_rVI C (c_X5_byteAt E N hN a (msVa (msHo (msOp (msCm (msEn (msWa M 0) 0) 0) (fgO (mOp M) 3)) (fgV (mHo M) 32)) va1) ((b + j) % N) (6 + 4 * ee) (by omega)) gX5_start_X5_byteAt (ci := 5) (q0 := 0) rfl rfl hyX5_byteAt rfl ⟨rfl, rfl⟩ ⟨by decide, by decide⟩ ⟨by decide, by decide⟩ [0, 1, 2, 3, 4, 5, 6, 7, 8, 9, 10, 11] rfl (by decide) (st := [.ref (a 7)]) (Nat.le_of_ble_eq_true rfl) dX5_start_137 ?_ rfl
            refine z_top (y := (nI (bA (mDk M) ((b + j) % N) (6 + 4 * ee)).toNatClampNeg)) (bA_nI _ _ _) ?_
            refine z_aload_n C 0 rfl rfl dX5_start_140 ?_
            refine z_iload C 4 rfl dX5_start_141 ?_
            refine z_bipush C (v := 7) (by decide) dX5_start_143 ?_
            refine z_iconst C (v := 4) (by decide) dX5_start_145 ?_
            refine z_iload C 5 rfl dX5_start_146 ?_
            refine z_imul C dX5_start_148 ?_
            refine z_top (y := (nI (4 * ee))) (zmul 4 ee) ?_
            refine z_iadd C dX5_start_149 ?_
            refine z_top (y := (nI (7 + 4 * ee))) (nI_add 7 _) ?_
            refine z_iconst C (v := 3) (by decide) dX5_start_150 ?_
            refine z_rVI C (c_X5_numberAt E N hN a (msVa (msHo (msOp (msCm (msEn (msWa M 0) 0) 0) (fgO (mOp M) 3)) (fgV (mHo M) 32)) va1) ((b + j) % N) (7 + 4 * ee) 3 (by omega)) gX5_start_X5_numberAt (ci := 5) (q0 := 0) rfl rfl hyX5_numberAt rfl ⟨rfl, rfl⟩ ⟨by decide, by decide⟩ ⟨by decide, by decide⟩ [0, 1, 2, 3, 4, 5, 6, 7, 8, 9, 10, 11] rfl (by decide) (st := [.int (nI (bA (mDk M) ((b + j) % N) (6 + 4 * ee)).toNatClampNeg), .ref (a 7)]) (Nat.le_of_ble_eq_true rfl) dX5_start_151 ?_ rfl
            obtain ⟨fz18, hz18⟩ : ∃ z : Nat → Int32, (upd va1 ((bA (mDk M) ((b + j) % N) (6 + 4 * ee)).toNatClampNeg) (nA (mDk (msVa (msHo (msOp (msCm (msEn (msWa M 0) 0) 0) (fgO (mOp M) 3)) (fgV (mHo M) 32)) va1)) ((b + j) % N) (7 + 4 * ee) 3)) = z := ⟨_, rfl⟩
            refine z_iast C 7 rfl (vp_in_nI (by omega) (by omega)) (g := fz18) (Eq.trans (by rw [nI_clamp (by omega)]) hz18) (V' := (wM E a N (msVa (msHo (msOp (msCm (msEn (msWa M 0) 0) 0) (fgO (mOp M) 3)) (fgV (mHo M) 32)) fz18))) rfl dX5_start_154 ?_
            refine z_iinc C 5 rfl (v := (nI (ee + 1))) (zinc _) (lv' := [(5, .int (nI (ee + 1))), (0, .ref (a 0)), (1, .int (nI b)), (2, .int (mPgs N (mDk M) b)), (3, .int (nI j)), (4, .int (nI ((b + j) % N)))]) rfl (by decide) dX5_start_155 ?_
            refine z_goto C (tgt := 111) dX5_start_158 (by decide) ?_
            subst hz18
            refine z_lv (lv' := [(0, .ref (a 0)), (1, .int (nI b)), (2, .int (mPgs N (mDk M) b)), (3, .int (nI j)), (4, .int (nI ((b + j) % N))), (5, .int (nI (ee + 1)))]) [1, 2, 3, 4, 5, 0] rfl ?_
            exact ih111 (ee + 1) _ (by omega) hT2
        refine z_lv (lv' := [(0, .ref (a 0)), (1, .int (nI b)), (2, .int (mPgs N (mDk M) b)), (3, .int (nI j)), (4, .int (nI ((b + j) % N))), (5, .int 0)]) [2, 3, 4, 5, 1, 0] rfl ?_
        exact loop111 (bA (mDk M) ((b + j) % N) 5).toNatClampNeg 0 _ (by omega) rfl
    refine z_lv (lv' := [(0, .ref (a 0)), (1, .int (nI b)), (2, .int (mPgs N (mDk (msHo (msVa (msOp (msCm (msEn (msWa M 0) 0) 0) (fgO (mOp M) 3)) (fgV (mVa M) 32)) (fgV (mHo M) 32))) b)), (3, .int 0)]) [2, 3, 1, 0] rfl ?_
    exact loop93 (mPgs N (mDk M) b).toNatClampNeg 0 _ (by omega) rfl
  refine z_aload_n C 0 rfl rfl dX5_start_0 ?_
  refine z_get C (Cn := RX5) (T := TX5) (Nf := 20) (ci := 5) in5 0 2 l64 (v := .int (mDn M)) rfl rfl (by decide) rfl dX5_start_1 ?_
  refine z_if_ne C (tgt := 9) dX5_start_4 (by decide) (fun h4_13t => ?_) (fun h4_13f => ?_)
  · refine z_iconst C (v := (-1)) (by decide) dX5_start_9 ?_
    refine z_istore_n C (lv' := [(1, .int (-1)), (0, .ref (a 0))]) rfl rfl (by decide) dX5_start_10 ?_
    refine z_iconst C (v := 0) (by decide) dX5_start_11 ?_
    refine z_istore_n C (lv' := [(2, .int 0), (1, .int (-1)), (0, .ref (a 0))]) rfl rfl (by decide) dX5_start_12 ?_
    have loop13 : ∀ (n j : Nat) (bb : Int32), j + n = N → (bb = -1 ∨ ∃ k, k < N ∧ bb = nI k ∧ 1 ≤ (mPgs N (mDk M) k).toNatClampNeg) → bsL N (mDk M) n j bb = bsL N (mDk M) N 0 (-1) → Z E K 0 0 (wM E a N M) 13 [(0, .ref (a 0)), (1, .int bb), (2, .int (nI j))] [] := by
      intro n
      induction n with
      | zero => 
        intro j bb hj hbb hT
        obtain rfl : N = j := by omega
        refine z_iload_n C 2 rfl rfl dX5_start_13 ?_
        refine z_aload_n C 0 rfl rfl dX5_start_14 ?_
        refine z_get C (Cn := RX5) (T := TX5) (Nf := 20) (ci := 5) in5 0 0 l45 (v := .int (nI N)) rfl rfl (by decide) rfl dX5_start_15 ?_
        refine z_icmp_ge C (tgt := 74) dX5_start_18 (by decide) (fun h18_14 => ?_) (fun h18_14 => absurd (nI_le (a := N) (b := N) (Nat.le_refl _) (by omega)) h18_14)
        refine z_iload_n C 1 rfl rfl dX5_start_74 ?_
        refine z_if_ge C (tgt := 81) dX5_start_75 (by decide) (fun h75_15t => ?_) (fun h75_15f => ?_)
        · obtain ⟨b, hbN, hpb, rfl⟩ := zbb2 hbb h75_15t
          refine z_lv (lv' := [(0, .ref (a 0)), (1, .int (nI b))]) [0, 1] rfl ?_
          exact join81 b hbN hpb (by rw [show mStart N M = mStF N M b from by simp only [mStart, h4_13t, ↓reduceIte, mBest, ← hT, bsL, h75_15t, nI_clamp (show b < 2 ^ 31 by omega)]])
        · refine z_bipush C (v := (-4)) (by decide) dX5_start_78 ?_
          exact ret _ _ _ _ (by simp only [mStart, h4_13t, ↓reduceIte, mBest, ← hT, bsL, h75_15f]) (by simp only [mStart, h4_13t, ↓reduceIte, mBest, ← hT, bsL, h75_15f]) dX5_start_80
      | succ n ih13 => 
        intro j bb hj hbb hT
        refine z_iload_n C 2 rfl rfl dX5_start_13 ?_
        refine z_aload_n C 0 rfl rfl dX5_start_14 ?_
        refine z_get C (Cn := RX5) (T := TX5) (Nf := 20) (ci := 5) in5 0 0 l45 (v := .int (nI N)) rfl rfl (by decide) rfl dX5_start_15 ?_
        refine z_icmp_ge C (tgt := 74) dX5_start_18 (by decide) (fun h18_16 => absurd h18_16 (nI_ge (a := j) (b := N) (by omega) (by omega))) (fun h18_16 => ?_)
        refine z_iload_n C 1 rfl rfl dX5_start_21 ?_
        refine z_if_lt C (tgt := 44) dX5_start_22 (by decide) (fun h22_17t => ?_) (fun h22_17f => ?_)
        · refine z_iconst C (v := 1) (by decide) dX5_start_44 ?_
          refine z_goto C (tgt := 49) dX5_start_45 (by decide) ?_
          refine z_istore_n C (lv' := [(3, .int 1), (0, .ref (a 0)), (1, .int bb), (2, .int (nI j))]) rfl rfl (by decide) dX5_start_49 ?_
          refine z_iload_n C 0 rfl rfl dX5_start_50 ?_
          refine z_if_eq C (tgt := 66) dX5_start_51 (by decide) (fun h51_18 => absurd h51_18 (by decide)) (fun h51_18 => ?_)
          refine z_aload_n C 1 rfl rfl dX5_start_54 ?_
          refine z_iload_n C 3 rfl rfl dX5_start_55 ?_
          refine z_rVI C (c_X5_pagesFrom E N hN a M j (by omega)) gX5_start_X5_pagesFrom (ci := 5) (q0 := 0) rfl rfl hyX5_pagesFrom rfl ⟨rfl, rfl⟩ ⟨by decide, by decide⟩ ⟨by decide, by decide⟩ [0, 1, 2, 3, 4, 5, 6, 7, 8, 9, 10, 11] rfl (by decide) (st := []) (Nat.le_of_ble_eq_true rfl) dX5_start_56 ?_ rfl
          refine z_if_le C (tgt := 66) dX5_start_59 (by decide) (fun h59_19t => ?_) (fun h59_19f => ?_)
          · refine z_iload_n C 2 rfl rfl dX5_start_66 ?_
            refine z_istore_n C (lv' := [(1, .int bb), (3, .int 1), (0, .ref (a 0)), (2, .int (nI j))]) rfl rfl (by decide) dX5_start_67 ?_
            refine z_iinc C 3 rfl (v := (nI (j + 1))) (zinc _) (lv' := [(2, .int (nI (j + 1))), (1, .int bb), (3, .int 1), (0, .ref (a 0))]) rfl (by decide) dX5_start_68 ?_
            refine z_goto C (tgt := 13) dX5_start_71 (by decide) ?_
            refine z_lv (lv' := [(0, .ref (a 0)), (1, .int bb), (2, .int (nI (j + 1)))]) [3, 1, 0] rfl ?_
            exact ih13 (j + 1) _ (by omega) (hbb) (by rw [← hT]; simp only [bsL, bsS, h4_13t, h18_16, h22_17t, h59_19t, ↓reduceIte])
          · refine z_iload_n C 3 rfl rfl dX5_start_62 ?_
            refine z_goto C (tgt := 67) dX5_start_63 (by decide) ?_
            refine z_istore_n C (lv' := [(1, .int (nI j)), (3, .int 1), (0, .ref (a 0)), (2, .int (nI j))]) rfl rfl (by decide) dX5_start_67 ?_
            refine z_iinc C 3 rfl (v := (nI (j + 1))) (zinc _) (lv' := [(2, .int (nI (j + 1))), (1, .int (nI j)), (3, .int 1), (0, .ref (a 0))]) rfl (by decide) dX5_start_68 ?_
            refine z_goto C (tgt := 13) dX5_start_71 (by decide) ?_
            refine z_lv (lv' := [(0, .ref (a 0)), (1, .int (nI j)), (2, .int (nI (j + 1)))]) [3, 1, 0] rfl ?_
            exact ih13 (j + 1) _ (by omega) (Or.inr ⟨j, by omega, rfl, zpos h59_19f⟩) (by rw [← hT]; simp only [bsL, bsS, h4_13t, h18_16, h22_17t, h59_19f, ↓reduceIte])
        · obtain ⟨b, hbN, hpb, rfl⟩ := zbb hbb h22_17f
          refine z_aload_n C 0 rfl rfl dX5_start_25 ?_
          refine z_iload_n C 2 rfl rfl dX5_start_26 ?_
          refine z_rVI C (c_X5_serialAt E N hN a M j (by omega)) gX5_start_X5_serialAt (ci := 5) (q0 := 0) rfl rfl hyX5_serialAt rfl ⟨rfl, rfl⟩ ⟨by decide, by decide⟩ ⟨by decide, by decide⟩ [0, 1, 2, 3, 4, 5, 6, 7, 8, 9, 10, 11] rfl (by decide) (st := []) (Nat.le_of_ble_eq_true rfl) dX5_start_27 ?_ rfl
          refine z_ldc C l156 dX5_start_30 ?_
          refine z_iadd C dX5_start_32 ?_
          refine z_aload_n C 0 rfl rfl dX5_start_33 ?_
          refine z_iload_n C 1 rfl rfl dX5_start_34 ?_
          refine z_rVI C (c_X5_serialAt E N hN a M b (by omega)) gX5_start_X5_serialAt (ci := 5) (q0 := 0) rfl rfl hyX5_serialAt rfl ⟨rfl, rfl⟩ ⟨by decide, by decide⟩ ⟨by decide, by decide⟩ [0, 1, 2, 3, 4, 5, 6, 7, 8, 9, 10, 11] rfl (by decide) (st := [.int ((nA (mDk M) j 1 4) + (-2147483648))]) (Nat.le_of_ble_eq_true rfl) dX5_start_35 ?_ rfl
          refine z_ldc C l156 dX5_start_38 ?_
          refine z_iadd C dX5_start_40 ?_
          refine z_icmp_le C (tgt := 48) dX5_start_41 (by decide) (fun h41_20t => ?_) (fun h41_20f => ?_)
          · refine z_iconst C (v := 0) (by decide) dX5_start_48 ?_
            refine z_istore_n C (lv' := [(3, .int 0), (0, .ref (a 0)), (1, .int (nI b)), (2, .int (nI j))]) rfl rfl (by decide) dX5_start_49 ?_
            refine z_iload_n C 0 rfl rfl dX5_start_50 ?_
            refine z_if_eq C (tgt := 66) dX5_start_51 (by decide) (fun h51_21 => ?_) (fun h51_21 => absurd rfl h51_21)
            refine z_iload_n C 2 rfl rfl dX5_start_66 ?_
            refine z_istore_n C (lv' := [(1, .int (nI b)), (3, .int 0), (0, .ref (a 0)), (2, .int (nI j))]) rfl rfl (by decide) dX5_start_67 ?_
            refine z_iinc C 3 rfl (v := (nI (j + 1))) (zinc _) (lv' := [(2, .int (nI (j + 1))), (1, .int (nI b)), (3, .int 0), (0, .ref (a 0))]) rfl (by decide) dX5_start_68 ?_
            refine z_goto C (tgt := 13) dX5_start_71 (by decide) ?_
            refine z_lv (lv' := [(0, .ref (a 0)), (1, .int (nI b)), (2, .int (nI (j + 1)))]) [3, 1, 0] rfl ?_
            exact ih13 (j + 1) _ (by omega) (Or.inr ⟨b, hbN, rfl, hpb⟩) (by rw [← hT]; simp only [bsL, bsS, nI_clamp (show b < 2 ^ 31 by omega), h4_13t, h18_16, h22_17f, h41_20t, ↓reduceIte])
          · refine z_iconst C (v := 1) (by decide) dX5_start_44 ?_
            refine z_goto C (tgt := 49) dX5_start_45 (by decide) ?_
            refine z_istore_n C (lv' := [(3, .int 1), (0, .ref (a 0)), (1, .int (nI b)), (2, .int (nI j))]) rfl rfl (by decide) dX5_start_49 ?_
            refine z_iload_n C 0 rfl rfl dX5_start_50 ?_
            refine z_if_eq C (tgt := 66) dX5_start_51 (by decide) (fun h51_22 => absurd h51_22 (by decide)) (fun h51_22 => ?_)
            refine z_aload_n C 1 rfl rfl dX5_start_54 ?_
            refine z_iload_n C 3 rfl rfl dX5_start_55 ?_
            refine z_rVI C (c_X5_pagesFrom E N hN a M j (by omega)) gX5_start_X5_pagesFrom (ci := 5) (q0 := 0) rfl rfl hyX5_pagesFrom rfl ⟨rfl, rfl⟩ ⟨by decide, by decide⟩ ⟨by decide, by decide⟩ [0, 1, 2, 3, 4, 5, 6, 7, 8, 9, 10, 11] rfl (by decide) (st := []) (Nat.le_of_ble_eq_true rfl) dX5_start_56 ?_ rfl
            refine z_if_le C (tgt := 66) dX5_start_59 (by decide) (fun h59_23t => ?_) (fun h59_23f => ?_)
            · refine z_iload_n C 2 rfl rfl dX5_start_66 ?_
              refine z_istore_n C (lv' := [(1, .int (nI b)), (3, .int 1), (0, .ref (a 0)), (2, .int (nI j))]) rfl rfl (by decide) dX5_start_67 ?_
              refine z_iinc C 3 rfl (v := (nI (j + 1))) (zinc _) (lv' := [(2, .int (nI (j + 1))), (1, .int (nI b)), (3, .int 1), (0, .ref (a 0))]) rfl (by decide) dX5_start_68 ?_
              refine z_goto C (tgt := 13) dX5_start_71 (by decide) ?_
              refine z_lv (lv' := [(0, .ref (a 0)), (1, .int (nI b)), (2, .int (nI (j + 1)))]) [3, 1, 0] rfl ?_
              exact ih13 (j + 1) _ (by omega) (Or.inr ⟨b, hbN, rfl, hpb⟩) (by rw [← hT]; simp only [bsL, bsS, nI_clamp (show b < 2 ^ 31 by omega), h4_13t, h18_16, h22_17f, h41_20f, h59_23t, ↓reduceIte])
            · refine z_iload_n C 3 rfl rfl dX5_start_62 ?_
              refine z_goto C (tgt := 67) dX5_start_63 (by decide) ?_
              refine z_istore_n C (lv' := [(1, .int (nI j)), (3, .int 1), (0, .ref (a 0)), (2, .int (nI j))]) rfl rfl (by decide) dX5_start_67 ?_
              refine z_iinc C 3 rfl (v := (nI (j + 1))) (zinc _) (lv' := [(2, .int (nI (j + 1))), (1, .int (nI j)), (3, .int 1), (0, .ref (a 0))]) rfl (by decide) dX5_start_68 ?_
              refine z_goto C (tgt := 13) dX5_start_71 (by decide) ?_
              refine z_lv (lv' := [(0, .ref (a 0)), (1, .int (nI j)), (2, .int (nI (j + 1)))]) [3, 1, 0] rfl ?_
              exact ih13 (j + 1) _ (by omega) (Or.inr ⟨j, by omega, rfl, zpos h59_23f⟩) (by rw [← hT]; simp only [bsL, bsS, nI_clamp (show b < 2 ^ 31 by omega), h4_13t, h18_16, h22_17f, h41_20f, h59_23f, ↓reduceIte])
    refine z_lv (lv' := [(0, .ref (a 0)), (1, .int (-1)), (2, .int 0)]) [2, 1, 0] rfl ?_
    exact loop13 N 0 (-1) (by omega) (Or.inl rfl) rfl
  · refine z_iconst C (v := (-1)) (by decide) dX5_start_7 ?_
    exact ret _ _ _ _ (by first | rfl | (simp only [mStart, if_pos h4_13f, ↓reduceIte]; done) | (simp only [mStart, if_pos h4_13f, ↓reduceIte]; rfl) | (simp [mStart, if_pos h4_13f, ↓reduceIte]; done)) (by first | rfl | (simp only [mStart, if_pos h4_13f, ↓reduceIte]; done) | (simp only [mStart, if_pos h4_13f, ↓reduceIte]; rfl) | (simp [mStart, if_pos h4_13f, ↓reduceIte]; done)) dX5_start_8

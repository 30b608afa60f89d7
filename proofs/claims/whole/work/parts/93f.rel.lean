/-! Part 93f: the relation, and the methods that need no search -/
abbrev Dn (N : Nat) (X : XS) (M : MS) : Prop := (jDk (xJ X) = mDk M) ∧ (jEh (xJ X) = mEh M) ∧ (jEk (xJ X) = mEk M) ∧ (jEv (xJ X) = mEv M) ∧ (jEn (xJ X) = 0) ∧ (mEn M = 0) ∧ (jWa (xJ X) = 0) ∧ (mWa M = 0) ∧ (jFp (xJ X) = -1) ∧ (∃ c, c < N ∧ mSc M = nI c) ∧ (∀ k, k < 32 → mVa M k = -1) ∧ (∀ k, k < 32 → mHo M k = -1) ∧ (∀ j, j < 3 → mOp M j = 0)
theorem Dn.dk {N : Nat} {X : XS} {M : MS} (h : Dn N X M) : jDk (xJ X) = mDk M := h.1
theorem Dn.eh {N : Nat} {X : XS} {M : MS} (h : Dn N X M) : jEh (xJ X) = mEh M := h.2.1
theorem Dn.ek {N : Nat} {X : XS} {M : MS} (h : Dn N X M) : jEk (xJ X) = mEk M := h.2.2.1
theorem Dn.ev {N : Nat} {X : XS} {M : MS} (h : Dn N X M) : jEv (xJ X) = mEv M := h.2.2.2.1
theorem Dn.ej {N : Nat} {X : XS} {M : MS} (h : Dn N X M) : jEn (xJ X) = 0 := h.2.2.2.2.1
theorem Dn.em {N : Nat} {X : XS} {M : MS} (h : Dn N X M) : mEn M = 0 := h.2.2.2.2.2.1
theorem Dn.wa {N : Nat} {X : XS} {M : MS} (h : Dn N X M) : jWa (xJ X) = 0 := h.2.2.2.2.2.2.1
theorem Dn.wm {N : Nat} {X : XS} {M : MS} (h : Dn N X M) : mWa M = 0 := h.2.2.2.2.2.2.2.1
theorem Dn.fp {N : Nat} {X : XS} {M : MS} (h : Dn N X M) : jFp (xJ X) = -1 := h.2.2.2.2.2.2.2.2.1
theorem Dn.sc {N : Nat} {X : XS} {M : MS} (h : Dn N X M) : ∃ c, c < N ∧ mSc M = nI c := h.2.2.2.2.2.2.2.2.2.1
theorem Dn.va {N : Nat} {X : XS} {M : MS} (h : Dn N X M) : ∀ k, k < 32 → mVa M k = -1 := h.2.2.2.2.2.2.2.2.2.2.1
theorem Dn.ho {N : Nat} {X : XS} {M : MS} (h : Dn N X M) : ∀ k, k < 32 → mHo M k = -1 := h.2.2.2.2.2.2.2.2.2.2.2.1
theorem Dn.op {N : Nat} {X : XS} {M : MS} (h : Dn N X M) : ∀ j, j < 3 → mOp M j = 0 := h.2.2.2.2.2.2.2.2.2.2.2.2
abbrev Rel (N : Nat) (X : XS) (M : MS) : Prop := (xDn X = mDn M) ∧ (DR (xD X) (mOp M, mVa M, mHo M, mHe M)) ∧ ((xDn X = 0 ∧ xCm X = mCm M ∧ ∃ e w c d fw, e ≤ 3 ∧ KR N (xJ X) M e w c d fw) ∨ (xDn X = 1 ∧ Dn N X M))
theorem Rel.dn {N : Nat} {X : XS} {M : MS} (h : Rel N X M) : xDn X = mDn M := h.1
theorem Rel.dr {N : Nat} {X : XS} {M : MS} (h : Rel N X M) : DR (xD X) (mOp M, mVa M, mHo M, mHe M) := h.2.1
theorem Rel.st {N : Nat} {X : XS} {M : MS} (h : Rel N X M) : (xDn X = 0 ∧ xCm X = mCm M ∧ ∃ e w c d fw, e ≤ 3 ∧ KR N (xJ X) M e w c d fw) ∨ (xDn X = 1 ∧ Dn N X M) := h.2.2
/-- what the contracts ask of the two states -/
abbrev Hy (N : Nat) (X : XS) (M : MS) (e w c : Nat) : Prop := (jEn (xJ X) = nI e) ∧ (e ≤ 3) ∧ (mEn M = nI e) ∧ (jWa (xJ X) = nI w) ∧ (mWa M = nI w) ∧ (w < 64) ∧ (mSc M = nI c) ∧ (c < N) ∧ (wtOk N (mWt M) w)
theorem Hy.ej {N : Nat} {X : XS} {M : MS} {e w c : Nat} (h : Hy N X M e w c) : jEn (xJ X) = nI e := h.1
theorem Hy.e3 {N : Nat} {X : XS} {M : MS} {e w c : Nat} (h : Hy N X M e w c) : e ≤ 3 := h.2.1
theorem Hy.em {N : Nat} {X : XS} {M : MS} {e w c : Nat} (h : Hy N X M e w c) : mEn M = nI e := h.2.2.1
theorem Hy.wa {N : Nat} {X : XS} {M : MS} {e w c : Nat} (h : Hy N X M e w c) : jWa (xJ X) = nI w := h.2.2.2.1
theorem Hy.wm {N : Nat} {X : XS} {M : MS} {e w c : Nat} (h : Hy N X M e w c) : mWa M = nI w := h.2.2.2.2.1
theorem Hy.w2 {N : Nat} {X : XS} {M : MS} {e w c : Nat} (h : Hy N X M e w c) : w < 64 := h.2.2.2.2.2.1
theorem Hy.sc {N : Nat} {X : XS} {M : MS} {e w c : Nat} (h : Hy N X M e w c) : mSc M = nI c := h.2.2.2.2.2.2.1
theorem Hy.c2 {N : Nat} {X : XS} {M : MS} {e w c : Nat} (h : Hy N X M e w c) : c < N := h.2.2.2.2.2.2.2.1
theorem Hy.wt {N : Nat} {X : XS} {M : MS} {e w c : Nat} (h : Hy N X M e w c) : wtOk N (mWt M) w := h.2.2.2.2.2.2.2.2
theorem Rel_dk {N : Nat} {X : XS} {M : MS} (R : Rel N X M) : jDk (xJ X) = mDk M := by
  rcases R.st with ⟨_, _, e, w, c, d, fw, _, k⟩ | ⟨_, k⟩
  · exact k.dk
  · exact k.dk
theorem KR_Hy {N : Nat} (hN : 16 ≤ N ∧ N ≤ 64) {X : XS} {M : MS} {e w c d fw : Nat} (he : e ≤ 3) (h : KR N (xJ X) M e w c d fw) : Hy N X M e w c :=
  ⟨h.ej, he, h.em, h.jr.wa, h.jr.wm, by have := h.jr.wd; have := h.jr.d2; omega, h.jr.sm, h.jr.c2, JR_wtOk hN h.jr⟩
theorem Dn_Hy {N : Nat} {X : XS} {M : MS} (h : Dn N X M) : ∃ c, Hy N X M 0 0 c := by
  obtain ⟨c, h1, h2⟩ := h.sc
  exact ⟨c, h.ej, by omega, h.em, h.wa, h.wm, by omega, h2, h1, fun i hi => by omega⟩
theorem i_lt3 (t : Int32) : ((3 : Int32) ≤ t) = ((2 : Int32) < t) := by
  apply propext
  rw [Int32.le_iff_toInt_le, Int32.lt_iff_toInt_lt]
  have : (3 : Int32).toInt = 3 := rfl
  have : (2 : Int32).toInt = 2 := rfl
  omega
theorem i_lt32 (t : Int32) : ((32 : Int32) ≤ t) = ((31 : Int32) < t) := by
  apply propext
  rw [Int32.le_iff_toInt_le, Int32.lt_iff_toInt_lt]
  have : (32 : Int32).toInt = 32 := rfl
  have : (31 : Int32).toInt = 31 := rfl
  omega
theorem isT_mIn (t : Int32) : isT t = mIn t 0 2 := by
  unfold isT mIn; simp only [i_lt3]
theorem isK_mIn (t : Int32) : isK t = mIn t 0 31 := by
  unfold isK mIn; simp only [i_lt32]
theorem mInT3 {t : Int32} (h : ¬ mIn t 0 2 = 0) : ∃ j : Nat, j < 3 ∧ t = nI j := by
  have h1 := mIn_of h
  have e0 : (0 : Int32).toInt = 0 := rfl
  have e2 : (2 : Int32).toInt = 2 := rfl
  have e3 : t.toNatClampNeg = t.toInt.toNat := rfl
  exact ⟨t.toNatClampNeg, by omega, ztoNI (by omega)⟩
theorem dIsO_m {D : DS} {M : MS} (h : OpR (dOp D) (mOp M)) (t : Int32) : dIsO D t = mIsO M t := by
  unfold mIsO
  by_cases e : mIn t 0 2 = 0
  · rw [if_pos e]; unfold dIsO; rw [isT_mIn, if_pos e]
  · rw [if_neg e]
    obtain ⟨j, hj, rfl⟩ := mInT3 e
    rw [dIsO_op h hj, nI_clamp (by omega)]
    rcases OpR_01 h hj with a | a <;> rw [a] <;> rfl
theorem mIsO_in {M : MS} {t : Int32} (h : ¬ mIsO M t = 0) : ∃ j, j < 3 ∧ t = nI j ∧ ¬ mOp M j = 0 := by
  unfold mIsO at h
  by_cases e : mIn t 0 2 = 0
  · rw [if_pos e] at h; exact absurd rfl h
  · obtain ⟨j, hj, rfl⟩ := mInT3 e
    rw [if_neg e, nI_clamp (by omega)] at h
    exact ⟨j, hj, rfl, fun q => by rw [if_pos q] at h; exact h rfl⟩
/-- begin -/
theorem op_mb {D : DS} {M : MS} (h : OpR (dOp D) (mOp M)) : ∀ n j, j + n = 3 → (opL D n j = (-1, D) ∧ mbL M n j = (-1, M)) ∨ ∃ t, t < 3 ∧ opL D n j = (nI t, dsOp D (dOp D ||| (1 <<< (nI t &&& 31)))) ∧ mbL M n j = (nI t, msOp M (upd (mOp M) t 1))
  | 0, j, _ => .inl ⟨rfl, rfl⟩
  | n + 1, j, hj => by
    unfold opL mbL
    rw [dIsO_op h (show j < 3 by omega)]
    by_cases e : mOp M j = 0
    · rw [if_pos e, if_pos e]
      exact .inr ⟨j, by omega, rfl, rfl⟩
    · rw [if_neg e, if_neg e]
      exact op_mb h n (j + 1) (by omega)
theorem DR_set {D : DS} {op va ho he : Nat → Int32} (h : DR D (op, va, ho, he)) {t : Nat} (ht : t < 3) : DR (dsOp D (dOp D ||| (1 <<< (nI t &&& 31)))) (upd op t 1, va, ho, he) := by
  refine ⟨h.va, h.ho, h.he, OpR_set h.op ht, fun k hk => ?_⟩
  rcases h.hl k hk with a | ⟨j, hj, a, b⟩
  · exact .inl a
  · refine .inr ⟨j, hj, a, ?_⟩
    show upd op t 1 j = 1
    by_cases e : j = t
    · rw [e, pk_us]
    · rw [pk_un e]; exact b
theorem up01 {N : Nat} {X : XS} {M : MS} (R : Rel N X M) (h : ¬ xDn X = 0) : xDn X = 1 ∧ Dn N X M := by
  rcases R.st with ⟨a, _⟩ | a
  · exact absurd a h
  · exact a
theorem r_begin {N : Nat} {X : XS} {M : MS} (R : Rel N X M) : (xBegin X).1 = (mBegin M).1 ∧ Rel N (xBegin X).2 (mBegin M).2 := by
  unfold xBegin mBegin
  rcases R.st with ⟨u, uc, e, w, c, d, fw, he, k⟩ | ⟨u, k⟩
  · rw [← R.dn, if_pos u, if_pos u]
    rcases op_mb (D := xD X) (M := M) R.dr.op 3 0 rfl with ⟨a, b⟩ | ⟨t, ht, a, b⟩
    · rw [a, b]; exact ⟨rfl, R.dn, R.dr, R.st⟩
    · rw [a, b]
      exact ⟨rfl, R.dn, DR_set R.dr ht, .inl ⟨u, uc, e, w, c, d, fw, he, KR_M k rfl rfl rfl rfl rfl rfl rfl rfl rfl rfl rfl rfl⟩⟩
  · rw [← R.dn, u, if_neg (by decide), if_neg (by decide)]
    exact ⟨rfl, R⟩
/-- get, holder, seen -/
theorem r_get {N : Nat} {X : XS} {M : MS} (R : Rel N X M) (k : Int32) : xGet X k = mGet M k := by
  have h : dCo (xD X) = mVa M := R.dr.va
  unfold xGet mGet dValue
  rw [← R.dn, isK_mIn, h]
theorem r_holder {N : Nat} {X : XS} {M : MS} (R : Rel N X M) (k : Int32) : xHolder X k = mHold M k := by
  have h : dHo (xD X) = mHo M := R.dr.ho
  unfold xHolder mHold dHolder
  rw [← R.dn, isK_mIn, h]
theorem r_seen {N : Nat} {X : XS} {M : MS} (R : Rel N X M) (t k : Int32) : xSeen X t k = mSeen M t k := by
  have h : dHo (xD X) = mHo M := R.dr.ho
  have h2 : dCo (xD X) = mVa M := R.dr.va
  unfold xSeen mSeen dFor
  rw [← R.dn, dIsO_m (M := M) R.dr.op, isK_mIn, h, h2]
  by_cases e : xDn X = 0
  · rw [if_pos e, if_pos e]
    by_cases e1 : mIsO M t = 0
    · rw [if_pos e1, if_pos e1]
    · rw [if_neg e1, if_neg e1]
      by_cases e2 : mIn k 0 31 = 0
      · rw [if_pos e2, if_pos e2]
      · rw [if_neg e2, if_neg e2]
        obtain ⟨i, hi, rfl⟩ := mIn31N e2
        obtain ⟨j, hj, rfl, _⟩ := mIsO_in e1
        rw [nI_clamp (by omega)]
        by_cases e3 : mHo M i = nI j
        · rw [if_pos e3, if_pos e3]
          exact R.dr.he i hi (by rw [h, e3]; exact nI_nm1 (by omega))
        · rw [if_neg e3, if_neg e3]
  · rw [if_neg e, if_neg e]
/-- count -/
theorem r_count {N : Nat} (hN : 16 ≤ N ∧ N ≤ 64) {X : XS} {M : MS} (R : Rel N X M) (q : Int32) : xCount N X q = mCount M q := by
  unfold xCount mCount
  rw [← R.dn]
  rcases R.st with ⟨u, uc, e, w, c, d, fw, he, k⟩ | ⟨u, k⟩
  · obtain ⟨n1, n2⟩ := JR_need hN k.jr
    obtain ⟨x, y, z, o0, o1, o2, o3⟩ := R.dr.op
    have o1' : mOp M 0 = bi x := o1
    have o2' : mOp M 1 = bi y := o2
    have o3' : mOp M 2 = bi z := o3
    rw [if_pos u, if_pos u, k.jr.se, k.jr.sc, k.jr.sm, k.jr.wa, k.jr.wm, k.ej, k.em, n1, n2, uc, o0, o1', o2', o3', ← bo_cnt]
  · rw [u, if_neg (by decide), if_neg (by decide)]
/-- poke -/
theorem i_mask (v : Int32) : (mIn v 1 255 = 0) ↔ (v < 1 ∨ ¬ v ≤ 255) := by
  unfold mIn
  have e : ((255 : Int32) < v) = ¬ v ≤ 255 := by
    apply propext
    rw [Int32.le_iff_toInt_le, Int32.lt_iff_toInt_lt]; omega
  by_cases a : v < 1
  · rw [if_pos a]; exact ⟨fun _ => .inl a, fun _ => rfl⟩
  · rw [if_neg a]
    by_cases b : v ≤ 255
    · rw [if_neg (by rw [e]; exact fun q => q b)]
      exact ⟨fun q => absurd q (by decide), fun q => q.elim (fun x => absurd x a) (fun x => absurd b x)⟩
    · rw [if_pos (by rw [e]; exact b)]
      exact ⟨fun _ => .inr b, fun _ => rfl⟩
theorem Rel_dk2 {N : Nat} {X : XS} {M : MS} (R : Rel N X M) {f g : Nat → Int32} (h : f = g) : Rel N (xsJ X (jsDk (xJ X) f)) (msDk M g) := by
  refine ⟨R.dn, R.dr, ?_⟩
  rcases R.st with ⟨u, uc, e, w, c, d, fw, he, k⟩ | ⟨u, k⟩
  · have j := k.jr
    exact .inl ⟨u, uc, e, w, c, d, fw, he, ⟨⟨j.wa, j.wm, j.sc, j.sm, j.c2, j.se, j.ds, j.d2, j.wd, j.fn, j.f2, j.fj, j.nx, j.wt, j.ws⟩, k.fp, k.ej, k.em, k.eh, k.ek, k.ev, h⟩⟩
  · exact .inr ⟨u, ⟨h, k.eh, k.ek, k.ev, k.ej, k.em, k.wa, k.wm, k.fp, k.sc, k.va, k.ho, k.op⟩⟩
theorem r_poke {N : Nat} (hN : 16 ≤ N ∧ N ≤ 64) {X : XS} {M : MS} (R : Rel N X M) (s i v : Int32) : (xPoke N X s i v).1 = (mPoke N M s i v).1 ∧ Rel N (xPoke N X s i v).2 (mPoke N M s i v).2 := by
  have hd := Rel_dk R
  unfold xPoke mPoke
  by_cases h1 : mIn s 0 (nI N - 1) = 0
  · rw [bOf_out hN _ (.inl h1), if_pos rfl, if_pos h1]; exact ⟨rfl, R⟩
  by_cases h2 : mIn i 0 31 = 0
  · rw [bOf_out hN _ (.inr h2), if_pos rfl, if_neg h1, if_pos h2]; exact ⟨rfl, R⟩
  rw [if_neg h1, if_neg h2]
  obtain ⟨c, hc, rfl⟩ := mInSec hN h1
  obtain ⟨k, hk, rfl⟩ := mIn31N h2
  rw [bOf_in hN hc hk, if_neg (bA_ne _ c k), sB_in hN hc hk, nI_clamp (by omega), nI_clamp (by omega)]
  by_cases h3 : mIn v 1 255 = 0
  · rw [if_pos h3]
    rcases (i_mask v).mp h3 with a | a
    · rw [if_pos a]; exact ⟨rfl, R⟩
    · by_cases b : v < 1
      · rw [if_pos b]; exact ⟨rfl, R⟩
      · rw [if_neg b, if_neg a]; exact ⟨rfl, R⟩
  · rw [if_neg h3]
    have a : ¬ v < 1 := fun q => h3 ((i_mask v).mpr (.inl q))
    have b : v ≤ 255 := Classical.not_not.mp (fun q => h3 ((i_mask v).mpr (.inr q)))
    rw [if_neg a, if_pos b]
    refine ⟨rfl, Rel_dk2 R ?_⟩
    unfold bA
    rw [b8_xor, hd]

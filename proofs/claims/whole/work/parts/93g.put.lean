/-! Part 93g: put, commit, undo, sync, cut, format, and the beginning -/
theorem mAdd_dict (N : Nat) (M : MS) (h k v : Int32) (e w c : Nat) : mOp (mAdd N M h k v e w c) = mOp M ∧ mVa (mAdd N M h k v e w c) = mVa M ∧ mHo (mAdd N M h k v e w c) = mHo M ∧ mHe (mAdd N M h k v e w c) = mHe M ∧ mDn (mAdd N M h k v e w c) = mDn M ∧ mCm (mAdd N M h k v e w c) = mCm M := by
  unfold mAdd
  by_cases x : nI (e + 1) = 4
  · rw [if_pos x]; exact ⟨rfl, rfl, rfl, rfl, rfl, rfl⟩
  · rw [if_neg x]; exact ⟨rfl, rfl, rfl, rfl, rfl, rfl⟩
theorem i_val (v : Int32) : (mIn v (-1) 16777215 = 0) ↔ (isV v = 0 ∧ ¬ v = -1) := by
  have e1 : (-1 : Int32).toInt = -1 := rfl
  have e2 : (16777215 : Int32).toInt = 16777215 := rfl
  have e0 : (0 : Int32).toInt = 0 := rfl
  have e3 : (v = -1) ↔ v.toInt = -1 := by rw [← Int32.toInt_inj, e1]
  unfold mIn isV
  by_cases a : v < -1
  · have a' := Int32.lt_iff_toInt_lt.mp a
    rw [if_pos a, if_pos (Int32.lt_iff_toInt_lt.mpr (by omega)), e3]
    exact ⟨fun _ => ⟨rfl, by omega⟩, fun _ => rfl⟩
  · have a' : ¬ v.toInt < -1 := fun q => a (Int32.lt_iff_toInt_lt.mpr (by omega))
    rw [if_neg a]
    by_cases b : (16777215 : Int32) < v
    · have b' := Int32.lt_iff_toInt_lt.mp b
      rw [if_pos b, if_neg (fun q => by have := Int32.lt_iff_toInt_lt.mp q; omega), e3]
      exact ⟨fun _ => ⟨rfl, by omega⟩, fun _ => rfl⟩
    · rw [if_neg b]
      by_cases f : v < 0
      · have f' := Int32.lt_iff_toInt_lt.mp f
        rw [if_pos f, e3]
        exact ⟨fun q => absurd q (by decide), fun q => by omega⟩
      · rw [if_neg f]
        exact ⟨fun q => absurd q (by decide), fun q => absurd q.1 (by decide)⟩
theorem Rel_refuse {N : Nat} {X : XS} {M : MS} (R : Rel N X M) (r : Int32) : ((r, X) : Int32 × XS).1 = ((r, M) : Int32 × MS).1 ∧ Rel N ((r, X) : Int32 × XS).2 ((r, M) : Int32 × MS).2 := ⟨rfl, R⟩
theorem r_putE {N : Nat} (hN : 16 ≤ N ∧ N ≤ 64) {X : XS} {M : MS} (R : Rel N X M) (u : xDn X = 0) (uc : xCm X = mCm M) {e w c d fw : Nat} (he : e ≤ 3) (k : KR N (xJ X) M e w c d fw) {t i : Nat} (ht : t < 3) (ho : ¬ mOp M t = 0) (hi : i < 32) (v : Int32) : (xPutE N X (nI t) (nI i) v e).1 = (mPutE N M (nI t) (nI i) v e w c).1 ∧ Rel N (xPutE N X (nI t) (nI i) v e).2 (mPutE N M (nI t) (nI i) v e w c).2 := by
  obtain ⟨a, b⟩ := KR_can hN k he
  unfold xPutE mPutE
  rw [a]
  by_cases x : mCan N M = 0
  · rw [if_pos x, if_pos x]; exact ⟨rfl, R⟩
  rw [if_neg x, if_neg x, nI_clamp (by omega)]
  have ho1 : mOp M t = 1 := (OpR_01 R.dr.op ht).resolve_left ho
  have hD := DR_op (op' := mOp M) (DR_chg R.dr ht hi v) (fun j hj => by
    by_cases q : j = t
    · rw [q, pk_us, ho1]
    · rw [pk_un q])
  have hK : KR N (xJ X) (msHe (msHo M (upd (mHo M) i (nI t))) (upd (mHe M) i v)) e w c d fw := KR_M k rfl rfl rfl rfl rfl rfl rfl rfl rfl rfl rfl rfl
  have key : ∀ (wh kk vv : Int32), Rel N (xsJ (xsD X (dChg (xD X) (nI t) (nI i) v)) (jTake N (xJ X) (nI t) wh kk vv e)) (mAdd N (msHe (msHo M (upd (mHo M) i (nI t))) (upd (mHe M) i v)) (4 * nI t + wh) kk vv e w c) := fun wh kk vv => by
    obtain ⟨e', w', c', d', h3, h4⟩ := KR_take hN hK he (fun q => b x q) (nI t) wh kk vv
    obtain ⟨m1, m2, m3, m4, m5, m6⟩ := mAdd_dict N (msHe (msHo M (upd (mHo M) i (nI t))) (upd (mHe M) i v)) (4 * nI t + wh) kk vv e w c
    refine ⟨?_, ?_, .inl ⟨u, ?_, e', w', c', d', fw, h3, h4⟩⟩
    · rw [m5]; exact R.dn
    · rw [m1, m2, m3, m4]; exact hD
    · rw [m6]; exact uc
  by_cases y : v = -1
  · rw [if_pos y, if_pos y]; exact ⟨rfl, key 1 (nI i) 0⟩
  · rw [if_neg y, if_neg y]; exact ⟨rfl, key 0 (nI i) v⟩
theorem r_put {N : Nat} (hN : 16 ≤ N ∧ N ≤ 64) {X : XS} {M : MS} (R : Rel N X M) (t k v : Int32) : ∃ e w c, Hy N X M e w c ∧ (xPut N X t k v e).1 = (mPut N M t k v e w c).1 ∧ Rel N (xPut N X t k v e).2 (mPut N M t k v e w c).2 := by
  rcases R.st with ⟨u, uc, e, w, c, d, fw, he, kr⟩ | ⟨u, dd⟩
  · refine ⟨e, w, c, KR_Hy hN he kr, ?_⟩
    have hho : dHo (xD X) = mHo M := R.dr.ho
    unfold xPut mPut
    rw [← R.dn, if_pos u, if_pos u, dIsO_m (M := M) R.dr.op, isK_mIn]
    by_cases h1 : mIsO M t = 0
    · rw [if_pos h1, if_pos h1]; exact ⟨rfl, R⟩
    rw [if_neg h1, if_neg h1]
    by_cases h2 : mIn k 0 31 = 0
    · rw [if_pos h2, if_pos h2]; exact ⟨rfl, R⟩
    rw [if_neg h2, if_neg h2]
    obtain ⟨i, hi, rfl⟩ := mIn31N h2
    obtain ⟨j, hj, rfl, hj2⟩ := mIsO_in h1
    have hE := r_putE hN R u uc he kr hj hj2 hi v
    have hH : (xPutH N X (nI j) (nI i) v e).1 = (if mHo M (nI i).toNatClampNeg = -1 then mPutE N M (nI j) (nI i) v e w c else if mHo M (nI i).toNatClampNeg = nI j then mPutE N M (nI j) (nI i) v e w c else (0, M)).1 ∧ Rel N (xPutH N X (nI j) (nI i) v e).2 (if mHo M (nI i).toNatClampNeg = -1 then mPutE N M (nI j) (nI i) v e w c else if mHo M (nI i).toNatClampNeg = nI j then mPutE N M (nI j) (nI i) v e w c else (0, M)).2 := by
      have hq : dHolder (xD X) (nI i) = mHo M (nI i).toNatClampNeg := by
        unfold dHolder
        rw [isK_n hi, hho]; rfl
      unfold xPutH
      rw [hq]
      by_cases q1 : mHo M (nI i).toNatClampNeg = -1
      · rw [if_pos q1, if_pos q1]; exact hE
      · rw [if_neg q1, if_neg q1]
        by_cases q2 : mHo M (nI i).toNatClampNeg = nI j
        · rw [if_pos q2, if_pos q2]; exact hE
        · rw [if_neg q2, if_neg q2]; exact ⟨rfl, R⟩
    by_cases h3 : mIn v (-1) 16777215 = 0
    · obtain ⟨a, b⟩ := (i_val v).mp h3
      rw [if_pos a, if_neg b, if_pos h3]; exact ⟨rfl, R⟩
    · rw [if_neg h3]
      by_cases h4 : isV v = 0
      · have h5 : v = -1 := Classical.not_not.mp (fun q => h3 ((i_val v).mpr ⟨h4, q⟩))
        rw [if_pos h4, if_pos h5]; exact hH
      · rw [if_neg h4]; exact hH
  · obtain ⟨c, hy⟩ := Dn_Hy dd
    refine ⟨0, 0, c, hy, ?_⟩
    unfold xPut mPut
    rw [← R.dn, u, if_neg (by decide), if_neg (by decide)]
    exact ⟨rfl, R⟩
/-! the ends of a transaction -/
theorem rl_cnt (t kp : Int32) (he : Nat → Int32) : ∀ (n j a : Nat) (va ho : Nat → Int32), ∃ b, a ≤ b ∧ b ≤ a + n ∧ (rlL t kp he n j (nI a, va, ho)).1 = nI b
  | 0, j, a, va, ho => ⟨a, by omega, by omega, rfl⟩
  | n + 1, j, a, va, ho => by
    unfold rlL
    by_cases e : ho j = t
    · rw [show rlS t kp he j (nI a, va, ho) = (nI a + 1, upd va j (if kp = 0 then va j else he j), upd ho j (-1)) from if_pos e, nI_1]
      obtain ⟨b, h1, h2, h3⟩ := rl_cnt t kp he n (j + 1) (a + 1) (upd va j (if kp = 0 then va j else he j)) (upd ho j (-1))
      exact ⟨b, by omega, by omega, h3⟩
    · rw [show rlS t kp he j (nI a, va, ho) = (nI a, va, ho) from if_neg e]
      obtain ⟨b, h1, h2, h3⟩ := rl_cnt t kp he n (j + 1) a va ho
      exact ⟨b, by omega, by omega, h3⟩
theorem mRl_pos (t kp : Int32) (he va ho : Nat → Int32) : ¬ (mRl t kp he va ho).1 < 0 := by
  unfold mRl
  rw [hide_eq]
  obtain ⟨b, h1, h2, h3⟩ := rl_cnt t kp he 32 0 0 va ho
  rw [show ((0 : Int32), va, ho) = (nI 0, va, ho) from rfl, h3]
  exact p_n0 (by omega)
theorem r_end {N : Nat} (hN : 16 ≤ N ∧ N ≤ 64) {X : XS} {M : MS} (R : Rel N X M) (u : xDn X = 0) {e w c d fw : Nat} (he : e ≤ 3) (k : KR N (xJ X) M e w c d fw) (x : ¬ mCan N M = 0) {t : Nat} (ht : t < 3) (wh kp cm : Int32) (X' : XS) (hX : X' = xsD (xsJ X (jTake N (xJ X) (nI t) wh 0 0 e)) (dClose (xD X) (nI t) kp).2) : (dClose (xD X) (nI t) kp).1 = (mRel (msCm (mAdd N M (4 * nI t + wh) 0 0 e w c) cm) t kp).1 ∧ ∀ X'', (xDn X'' = xDn X' ∧ xJ X'' = xJ X' ∧ xD X'' = xD X' ∧ xCm X'' = cm) → Rel N X'' (mRel (msCm (mAdd N M (4 * nI t + wh) 0 0 e w c) cm) t kp).2 := by
  obtain ⟨a, b⟩ := KR_can hN k he
  obtain ⟨e', w', c', d', h3, h4⟩ := KR_take hN k he (fun q => b x q) (nI t) wh 0 0
  obtain ⟨m1, m2, m3, m4, m5, m6⟩ := mAdd_dict N M (4 * nI t + wh) 0 0 e w c
  obtain ⟨z1, z2⟩ := DR_close R.dr ht kp
  generalize mAdd N M (4 * nI t + wh) 0 0 e w c = A at *
  have q1 : mHe (msCm A cm) = mHe M := m4
  have q2 : mVa (msCm A cm) = mVa M := m2
  have q3 : mHo (msCm A cm) = mHo M := m3
  have q4 : mOp (msCm A cm) = mOp M := m1
  unfold mRel
  rw [q1, q2, q3, q4]
  refine ⟨z1, fun X'' hh => ⟨?_, ?_, .inl ⟨?_, hh.2.2.2, e', w', c', d', fw, h3, ?_⟩⟩⟩
  · rw [hh.1, hX]; exact R.dn.trans m5.symm
  · rw [hh.2.2.1, hX]
    have q5 : mHe (msOp (msHo (msVa (msCm A cm) (mRl (nI t) kp (mHe M) (mVa M) (mHo M)).2.1) (mRl (nI t) kp (mHe M) (mVa M) (mHo M)).2.2) (upd (mOp M) t 0)) = mHe M := m4
    rw [q5]
    exact z2
  · rw [hh.1, hX]; exact u
  · rw [hh.2.1, hX]
    exact KR_M h4 rfl rfl rfl rfl rfl rfl rfl rfl rfl rfl rfl rfl
theorem xCommit_neg {N : Nat} {X Y : XS} {t r : Int32} {e : Nat} (h : xEnd N X t 2 e = (r, Y)) (hr : r < 0) : xCommit N X t e = (r, Y) := by
  unfold xCommit
  rw [h]; exact if_pos hr
theorem xCommit_pos {N : Nat} {X Y : XS} {t r : Int32} {e : Nat} (h : xEnd N X t 2 e = (r, Y)) (hr : ¬ r < 0) : xCommit N X t e = (r, xsCm Y (xCm Y + 1)) := by
  unfold xCommit
  rw [h]; exact if_neg hr
theorem r_commit {N : Nat} (hN : 16 ≤ N ∧ N ≤ 64) {X : XS} {M : MS} (R : Rel N X M) (t : Int32) : ∃ e w c, Hy N X M e w c ∧ (xCommit N X t e).1 = (mFin N M t 1 e w c).1 ∧ Rel N (xCommit N X t e).2 (mFin N M t 1 e w c).2 := by
  rcases R.st with ⟨u, uc, e, w, c, d, fw, he, kr⟩ | ⟨u, dd⟩
  · refine ⟨e, w, c, KR_Hy hN he kr, ?_⟩
    unfold mFin
    rw [← R.dn, if_pos u]
    by_cases h1 : mIsO M t = 0
    · have hx : xEnd N X t 2 e = (-1, X) := by
        unfold xEnd; rw [if_pos u, dIsO_m (M := M) R.dr.op, if_pos h1]
      rw [xCommit_neg hx (by decide), if_pos h1]; exact ⟨rfl, R⟩
    rw [if_neg h1]
    by_cases h2 : mCan N M = 0
    · have hx : xEnd N X t 2 e = (-2, X) := by
        unfold xEnd; rw [if_pos u, dIsO_m (M := M) R.dr.op, if_neg h1, (KR_can hN kr he).1, if_pos h2]
      rw [xCommit_neg hx (by decide), if_pos h2]; exact ⟨rfl, R⟩
    rw [if_neg h2, if_neg (show ¬ (1 : Int32) = 0 by decide)]
    have hx : xEnd N X t 2 e = ((dClose (xD X) t 1).1, xsD (xsJ X (jTake N (xJ X) t 2 0 0 e)) (dClose (xD X) t 1).2) := by
      unfold xEnd; rw [if_pos u, dIsO_m (M := M) R.dr.op, if_neg h1, (KR_can hN kr he).1, if_neg h2, if_pos rfl]
    obtain ⟨j, hj, rfl, hj2⟩ := mIsO_in h1
    have hE := r_end hN R u he kr h2 hj 2 1 (mCm (mAdd N M (4 * nI j + 2) 0 0 e w c) + 1) _ rfl
    have hp : ¬ (dClose (xD X) (nI j) 1).1 < 0 := by rw [(DR_close R.dr hj 1).1]; exact mRl_pos _ _ _ _ _
    rw [xCommit_pos hx hp, nI_clamp (by omega)]
    refine ⟨hE.1, hE.2 _ ⟨rfl, rfl, rfl, ?_⟩⟩
    rw [(mAdd_dict N M (4 * nI j + 2) 0 0 e w c).2.2.2.2.2, ← uc]
  · obtain ⟨c, hy⟩ := Dn_Hy dd
    refine ⟨0, 0, c, hy, ?_⟩
    have hx : xEnd N X t 2 0 = (-3, X) := by
      unfold xEnd; rw [u, if_neg (show ¬ (1 : Int32) = 0 by decide)]
    rw [xCommit_neg hx (by decide)]
    unfold mFin
    rw [← R.dn, u, if_neg (show ¬ (1 : Int32) = 0 by decide)]
    exact ⟨rfl, R⟩
theorem r_undo {N : Nat} (hN : 16 ≤ N ∧ N ≤ 64) {X : XS} {M : MS} (R : Rel N X M) (t : Int32) : ∃ e w c, Hy N X M e w c ∧ (xEnd N X t 3 e).1 = (mFin N M t 0 e w c).1 ∧ Rel N (xEnd N X t 3 e).2 (mFin N M t 0 e w c).2 := by
  rcases R.st with ⟨u, uc, e, w, c, d, fw, he, kr⟩ | ⟨u, dd⟩
  · refine ⟨e, w, c, KR_Hy hN he kr, ?_⟩
    unfold xEnd mFin
    rw [← R.dn, if_pos u, if_pos u, dIsO_m (M := M) R.dr.op]
    by_cases h1 : mIsO M t = 0
    · rw [if_pos h1, if_pos h1]; exact ⟨rfl, R⟩
    rw [if_neg h1, if_neg h1, (KR_can hN kr he).1]
    by_cases h2 : mCan N M = 0
    · rw [if_pos h2, if_pos h2]; exact ⟨rfl, R⟩
    rw [if_neg h2, if_neg h2, if_neg (show ¬ (3 : Int32) = 2 by decide), if_pos rfl]
    obtain ⟨j, hj, rfl, hj2⟩ := mIsO_in h1
    rw [nI_clamp (by omega)]
    have hE := r_end hN R u he kr h2 hj 3 0 (mCm (mAdd N M (4 * nI j + 3) 0 0 e w c) + 0) _ rfl
    refine ⟨hE.1, hE.2 _ ⟨rfl, rfl, rfl, ?_⟩⟩
    rw [(mAdd_dict N M (4 * nI j + 3) 0 0 e w c).2.2.2.2.2, Int32.add_zero]; exact uc
  · obtain ⟨c, hy⟩ := Dn_Hy dd
    refine ⟨0, 0, c, hy, ?_⟩
    unfold xEnd mFin
    rw [← R.dn, u, if_neg (by decide), if_neg (by decide)]
    exact ⟨rfl, R⟩

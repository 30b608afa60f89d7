/-! Part 93h: sync, cut, format, and the beginning -/
theorem due0 {J : JS} (h : jEn J = nI 0) : jDue J = nI 0 := by
  unfold jDue; rw [h]; decide +kernel
theorem due1 {J : JS} {e : Nat} (h : jEn J = nI e) (he : 1 ≤ e) (he3 : e ≤ 3) : jDue J = nI 1 := by
  unfold jDue
  rw [h, if_neg (show ¬ nI e ≤ 0 from p_nN (c := 0) (n := e) (by omega) (by omega))]; rfl
theorem r_sync {N : Nat} (hN : 16 ≤ N ∧ N ≤ 64) {X : XS} {M : MS} (R : Rel N X M) : ∃ e w c v, Hy N X M e w c ∧ (xDn X = 0 → ¬ jRoom N (xJ X) (jDue (xJ X)) = 0 → jWa (jWL N (xJ X) e) = nI v ∧ v ≤ 64) ∧ (xSync N X e v).1 = (mSync N M e w c).1 ∧ Rel N (xSync N X e v).2 (mSync N M e w c).2 := by
  rcases R.st with ⟨u, uc, e, w, c, d, fw, he, kr⟩ | ⟨u, dd⟩
  · have hd2 := kr.jr.d2
    have hwd := kr.jr.wd
    by_cases e0 : e = 0
    · subst e0
      have hj := due0 kr.ej
      obtain ⟨r1, r2⟩ := JR_room hN kr.jr (q := 0) (by omega)
      rw [if_pos (by omega)] at r1
      have hl : jWL N (xJ X) 0 = xJ X := jWL_0 N (xJ X) 0 kr.ej
      refine ⟨0, w, c, w, KR_Hy hN he kr, fun _ _ => ⟨by rw [hl]; exact kr.jr.wa, by omega⟩, ?_⟩
      obtain ⟨d', fw', ka⟩ := KR_all hN kr
      have hx : xSync N X 0 w = (nI w, xsJ X (jAll N (xJ X) w)) := by
        unfold xSync
        rw [if_pos u, hj, r1, if_neg (show ¬ (1 : Int32) = 0 by decide), hl]
      have hm : mSync N M 0 w c = mSyF M w := by
        unfold mSync
        rw [← R.dn, if_pos u, kr.em, if_pos (show nI 0 ≤ 0 by decide +kernel)]
      rw [hx, hm]
      exact ⟨rfl, R.dn, R.dr, .inl ⟨u, uc, 0, 0, c, d', fw', by omega, ka⟩⟩
    · have hj := due1 kr.ej (by omega) he
      obtain ⟨r1, r2⟩ := JR_room hN kr.jr (q := 1) (by omega)
      have r2' : mMay N M 1 = (if d + 1 < N then 1 else 0) := r2
      by_cases hr : d + 1 < N
      · rw [if_pos hr] at r1 r2'
        have kl := KR_log hN kr (by omega) (by omega) hr
        refine ⟨e, w, c, w + 1, KR_Hy hN he kr, fun _ _ => ⟨kl.jr.wa, by omega⟩, ?_⟩
        obtain ⟨d', fw', ka⟩ := KR_all hN kl
        have hx : xSync N X e (w + 1) = (nI (w + 1), xsJ X (jAll N (jWL N (xJ X) e) (w + 1))) := by
          unfold xSync
          rw [if_pos u, hj, r1, if_neg (show ¬ (1 : Int32) = 0 by decide)]
        have hm : mSync N M e w c = mSyF (mWE N M e w c) (w + 1) := by
          unfold mSync
          rw [← R.dn, if_pos u, kr.em, if_neg (show ¬ nI e ≤ 0 from p_nN (c := 0) (n := e) (by omega) (by omega)), r2', if_neg (show ¬ (1 : Int32) = 0 by decide)]
        rw [hx, hm]
        exact ⟨rfl, R.dn, R.dr, .inl ⟨u, uc, 0, 0, (c + 1) % N, d', fw', by omega, ka⟩⟩
      · rw [if_neg hr] at r1 r2'
        refine ⟨e, w, c, w, KR_Hy hN he kr, fun _ q => absurd (by rw [hj, r1]) q, ?_⟩
        have hx : xSync N X e w = (-2, X) := by
          unfold xSync
          rw [if_pos u, hj, r1, if_pos rfl]
        have hm : mSync N M e w c = (-2, M) := by
          unfold mSync
          rw [← R.dn, if_pos u, kr.em, if_neg (show ¬ nI e ≤ 0 from p_nN (c := 0) (n := e) (by omega) (by omega)), r2', if_pos rfl]
        rw [hx, hm]; exact ⟨rfl, R⟩
  · obtain ⟨c, hy⟩ := Dn_Hy dd
    refine ⟨0, 0, c, 0, hy, fun q => absurd (u.symm.trans q) (by decide), ?_⟩
    have hx : xSync N X 0 0 = (-3, X) := by
      unfold xSync; rw [u, if_neg (show ¬ (1 : Int32) = 0 by decide)]
    have hm : mSync N M 0 0 c = (-3, M) := by
      unfold mSync; rw [← R.dn, u, if_neg (show ¬ (1 : Int32) = 0 by decide)]
    rw [hx, hm]; exact ⟨rfl, R⟩
/-! cleared -/
theorem dcl_at (D : DS) (k : Nat) : ∀ n, dCo (dcl D n) k = (if k < n then -1 else dCo D k) ∧ dHo (dcl D n) k = (if k < n then -1 else dHo D k)
  | 0 => ⟨by rw [if_neg (by omega)]; rfl, by rw [if_neg (by omega)]; rfl⟩
  | n + 1 => by
    have ih := dcl_at D k n
    have h1 : dCo (dcl D (n + 1)) k = upd (dCo (dcl D n)) n (-1) k := rfl
    have h2 : dHo (dcl D (n + 1)) k = upd (dHo (dcl D n)) n (-1) k := rfl
    rw [h1, h2]
    by_cases e : k = n
    · rw [e, pk_us, pk_us, if_pos (by omega), if_pos (by omega)]; exact ⟨rfl, rfl⟩
    · rw [pk_un e, pk_un e, ih.1, ih.2]
      by_cases e2 : k < n
      · rw [if_pos e2, if_pos e2, if_pos (by omega), if_pos (by omega)]; exact ⟨rfl, rfl⟩
      · rw [if_neg e2, if_neg e2, if_neg (by omega), if_neg (by omega)]; exact ⟨rfl, rfl⟩
theorem fgV_at (f : Nat → Int32) (k : Nat) : ∀ n, fgV f n k = if k < n then -1 else f k
  | 0 => by rw [if_neg (by omega)]; rfl
  | n + 1 => by
    show upd (fgV f n) n (-1) k = _
    by_cases e : k = n
    · rw [e, pk_us, if_pos (by omega)]
    · rw [pk_un e, fgV_at f k n]
      by_cases e2 : k < n
      · rw [if_pos e2, if_pos (by omega)]
      · rw [if_neg e2, if_neg (by omega)]
theorem fgO_at (f : Nat → Int32) (k : Nat) : ∀ n, fgO f n k = if k < n then 0 else f k
  | 0 => by rw [if_neg (by omega)]; rfl
  | n + 1 => by
    show upd (fgO f n) n 0 k = _
    by_cases e : k = n
    · rw [e, pk_us, if_pos (by omega)]
    · rw [pk_un e, fgO_at f k n]
      by_cases e2 : k < n
      · rw [if_pos e2, if_pos (by omega)]
      · rw [if_neg e2, if_neg (by omega)]
theorem DR_clear {D : DS} {op va ho : Nat → Int32} (h1 : dCo D = va) (h2 : dHo D = ho) (he : Nat → Int32) : DR (dClear D) (fgO op 3, fgV va 32, fgV ho 32, he) := by
  have hh : ∀ k, k < 32 → dHo (dClear D) k = -1 := fun k hk => by
    show dHo (dcl D 32) k = -1
    rw [(dcl_at D k 32).2, if_pos hk]
  refine ⟨?_, ?_, fun k hk q => absurd (hh k hk) q, ⟨false, false, false, rfl, ?_, ?_, ?_⟩, fun k hk => .inl (hh k hk)⟩
  · funext k
    show dCo (dcl D 32) k = fgV va 32 k
    rw [(dcl_at D k 32).1, fgV_at, h1]
  · funext k
    show dHo (dcl D 32) k = fgV ho 32 k
    rw [(dcl_at D k 32).2, fgV_at, h2]
  · show fgO op 3 0 = _
    rw [fgO_at]; rfl
  · show fgO op 3 1 = _
    rw [fgO_at]; rfl
  · show fgO op 3 2 = _
    rw [fgO_at]; rfl
theorem r_cut {N : Nat} (hN : 16 ≤ N ∧ N ≤ 64) {X : XS} {M : MS} (R : Rel N X M) (p q : Int32) : ∃ e w c, Hy N X M e w c ∧ (xCut N X p q w).1 = (mCut N M p q w).1 ∧ Rel N (xCut N X p q w).2 (mCut N M p q w).2 := by
  rcases R.st with ⟨u, uc, e, w, c, d, fw, he, kr⟩ | ⟨u, dd⟩
  · have hd2 := kr.jr.d2
    have hwd := kr.jr.wd
    refine ⟨e, w, c, KR_Hy hN he kr, ?_⟩
    unfold xCut mCut
    rw [← R.dn, if_pos u, if_pos u]
    by_cases h1 : mIn p 0 (nI w) = 0
    · rw [if_pos h1]
      unfold mIn at h1
      by_cases a : p < 0
      · rw [if_pos a]; exact ⟨rfl, R⟩
      · rw [if_neg a] at h1 ⊢
        by_cases b : nI w < p
        · rw [if_pos b]; exact ⟨rfl, R⟩
        · rw [if_neg b] at h1; exact absurd h1 (by decide)
    rw [if_neg h1]
    obtain ⟨kp, hkp, rfl⟩ := mInN (w := w) (by omega) h1
    rw [if_neg (p_n0 (by omega)), if_neg (show ¬ nI w < nI kp by rw [nI_ltI (by omega) (by omega)]; omega)]
    by_cases h2 : mIn q 0 32 = 0
    · rw [if_pos h2]
      unfold mIn at h2
      by_cases a : q < 0
      · rw [if_pos a]; exact ⟨rfl, R⟩
      · rw [if_neg a] at h2 ⊢
        by_cases b : q ≤ 32
        · rw [if_neg (fun x => by rw [Int32.lt_iff_toInt_lt] at x; rw [Int32.le_iff_toInt_le] at b; omega)] at h2; exact absurd h2 (by decide)
        · rw [if_neg b]; exact ⟨rfl, R⟩
    rw [if_neg h2]
    obtain ⟨tr, htr, rfl⟩ := mInN (w := 32) (by omega) h2
    rw [if_neg (p_n0 (by omega)), if_pos (show nI tr ≤ 32 from nI_le (b := 32) htr (by omega)), nI_clamp (by omega), nI_clamp (by omega)]
    obtain ⟨l1, l2, l3, l4, l5, l6, l7⟩ := KR_lose hN kr hkp htr
    refine ⟨rfl, rfl, DR_clear R.dr.va R.dr.ho (mHe M), .inr ⟨rfl, ⟨l1, l5.trans kr.eh, l6.trans kr.ek, l7.trans kr.ev, l2, rfl, l3, rfl, l4, ⟨c, kr.jr.c2, kr.jr.sm⟩, fun k hk => ?_, fun k hk => ?_, fun j hj => ?_⟩⟩⟩
    · show fgV (mVa M) 32 k = -1
      rw [fgV_at, if_pos hk]
    · show fgV (mHo M) 32 k = -1
      rw [fgV_at, if_pos hk]
    · show fgO (mOp M) 3 j = 0
      rw [fgO_at, if_pos hj]
  · obtain ⟨c, hy⟩ := Dn_Hy dd
    refine ⟨0, 0, c, hy, ?_⟩
    have hx : xCut N X p q 0 = (-3, X) := by
      unfold xCut; rw [u, if_neg (show ¬ (1 : Int32) = 0 by decide)]
    have hm : mCut N M p q 0 = (-3, M) := by
      unfold mCut; rw [← R.dn, u, if_neg (show ¬ (1 : Int32) = 0 by decide)]
    rw [hx, hm]; exact ⟨rfl, R⟩
/-! the beginning -/
def RB (r : Nat → Int32) : Prop := ∀ k, k < 32 → b8 (r k) = r k
theorem RB_upd {r : Nat → Int32} (h : RB r) (k : Nat) (v : Int32) : RB (upd r k (b8 v)) := fun j hj => by
  by_cases e : j = k
  · rw [e, pk_us, b8_b8]
  · rw [pk_un e, h j hj]
theorem RB_nm4 {r : Nat → Int32} (h : RB r) (x : Int32) (u : Nat) : RB (nmL x 4 u r 4) := by
  rw [nm4_at]; exact RB_upd (RB_upd (RB_upd (RB_upd h _ _) _ _) _ _) _ _
theorem RB_cl (r : Nat → Int32) (q se : Int32) : RB (clRow r q se) := by
  unfold clRow
  refine RB_nm4 (RB_upd (fun k hk => ?_) _ _) _ _
  rw [clA_at, if_pos hk]; rfl
theorem RB_sl {r : Nat → Int32} (h : RB r) (s : Int32) : RB (slRow r s) := RB_nm4 h _ _
theorem cpR_at (r d : Nat → Int32) (k : Nat) : ∀ n, cpR r d n k = if k < n then b8 (r k) else d k
  | 0 => by rw [if_neg (by omega)]; rfl
  | n + 1 => by
    show upd (cpR r d n) n (b8 (r n)) k = _
    by_cases e : k = n
    · rw [e, pk_us, if_pos (by omega)]
    · rw [pk_un e, cpR_at r d k n]
      by_cases e2 : k < n
      · rw [if_pos e2, if_pos (by omega)]
      · rw [if_neg e2, if_neg (by omega)]
theorem beg_dk {N : Nat} (hN : 16 ≤ N ∧ N ≤ 64) (f r : Nat → Int32) : sealS N (sB N (prep N (clA f (32 * N)) 0 2 1 0) 0 27 1) 0 = cpR (slRow (upd (clRow r 2 1) 27 1) 0) (clA f (32 * N)) 32 := by
  have h : RE 0 (clA f (32 * N)) (sealS N (sB N (prep N (clA f (32 * N)) (nI 0) 2 1 0) (nI 0) (nI 27) 1) (nI 0)) (slRow (upd (clRow r 2 1) 27 (b8 1)) (nI 0)) := RE_seal hN (by omega) (RE_sB hN (by omega) (RE_prep0 hN (by omega) _ r 2 1) (by omega) 1)
  have hb : RB (slRow (upd (clRow r 2 1) 27 (b8 1)) (nI 0)) := RB_sl (RB_upd (RB_cl _ _ _) _ _) _
  funext k
  rw [cpR_at]
  by_cases e : k < 32
  · rw [if_pos e]
    have a := h.1 k e
    rw [Nat.mul_zero, Nat.zero_add] at a
    exact a.trans (hb k e).symm
  · rw [if_neg e]
    exact h.2 k (.inr (by omega))
theorem Rel_beg {N : Nat} (hN : 16 ≤ N ∧ N ≤ 64) (X : XS) (M : MS) (h1 : jDk (xJ X) = mDk M) (h2 : jEh (xJ X) = mEh M) (h3 : jEk (xJ X) = mEk M) (h4 : jEv (xJ X) = mEv M) (h5 : dCo (xD X) = mVa M) (h6 : dHo (xD X) = mHo M) : Rel N (xsDn (xsCm (xsD (xsJ X (jBegin N (xJ X))) (dClear (xD X))) 0) 0) (mBeg0 N M) := by
  refine ⟨rfl, DR_clear h5 h6 (mHe M), .inl ⟨rfl, rfl, 0, 0, 0, 0, (0 + 1) % N, by omega, ⟨⟨rfl, rfl, rfl, rfl, by omega, rfl, (show (1 : Int32) - 1 = nI 0 by decide +kernel), by omega, by omega, ?_, Nat.mod_lt _ (by omega), fun q => by omega, ?_, fun i hi => by omega, fun i hi => by omega⟩, .inl ⟨rfl, rfl⟩, rfl, rfl, h2, h3, h4, ?_⟩⟩⟩
  · show (0 : Int32) = nI ((0 + N - 0) % N)
    rw [show 0 + N - 0 = N by omega, Nat.mod_self]; rfl
  · rw [show (0 + 1) % N + 0 = (0 + 1) % N from rfl, Nat.mod_mod]
  · show sealS N (sB N (prep N (clA (jDk (xJ X)) (32 * N)) 0 2 1 0) 0 27 1) 0 = cpR (mR0 M) (clA (mDk M) (32 * N)) 32
    rw [h1]; exact beg_dk hN _ _
theorem r_format {N : Nat} (hN : 16 ≤ N ∧ N ≤ 64) {X : XS} {M : MS} (R : Rel N X M) : (xForm N X).1 = (mForm N M).1 ∧ Rel N (xForm N X).2 (mForm N M).2 := by
  unfold xForm mForm
  rw [← R.dn]
  rcases R.st with ⟨u, uc, e, w, c, d, fw, he, kr⟩ | ⟨u, dd⟩
  · refine ⟨?_, Rel_beg hN X M kr.dk kr.eh kr.ek kr.ev R.dr.va R.dr.ho⟩
    show (if xDn X = 0 then xCm X else 0) = (if xDn X = 0 then mCm M else 0)
    rw [uc]
  · refine ⟨?_, Rel_beg hN X M dd.dk dd.eh dd.ek dd.ev R.dr.va R.dr.ho⟩
    show (if xDn X = 0 then xCm X else 0) = (if xDn X = 0 then mCm M else 0)
    rw [u, if_neg (show ¬ (1 : Int32) = 0 by decide), if_neg (show ¬ (1 : Int32) = 0 by decide)]
theorem r_new {N : Nat} (hN : 16 ≤ N ∧ N ≤ 64) : Rel N ((0, 0, jBegin N j0, dClear ((0, fun _ => 0, fun _ => 0, fun _ => 0) : DS), (0, 0, 0, fun _ => 0)) : XS) (mBeg0 N m0) :=
  Rel_beg hN ((0, 0, j0, ((0, fun _ => 0, fun _ => 0, fun _ => 0) : DS), (0, 0, 0, fun _ => 0)) : XS) m0 rfl rfl rfl rfl rfl rfl

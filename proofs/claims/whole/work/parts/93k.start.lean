/-! Part 93k: start -/
theorem rp_pv {N s : Nat} (hN : 16 ≤ N ∧ N ≤ 64) (hs : s < N) (f : Nat → Int32) : ∀ (n j : Nat) (D : DS), j + n ≤ 5 → (∀ i, i < j + n → (bA f s (6 + 4 * i)).toNatClampNeg < 32) → rpL N f (nI s) n j D = dsCo D (pvS f s n j (dCo D))
  | 0, j, D, _, _ => rfl
  | n + 1, j, D, hj, hk => by
    unfold rpL pvS
    rw [show (6 : Int32) + nI j * 4 = nI (6 + 4 * j) by rw [show (4 : Int32) = nI 4 from rfl, zmul, show (6 : Int32) = nI 6 from rfl, nI_add, Nat.mul_comm], nI_1, bOf_in hN hs (by omega), nOf_in hN hs f 3 (by omega), show 6 + 4 * j + 1 = 7 + 4 * j by omega]
    have hkj := hk j (by omega)
    have e : dSetC D (bA f s (6 + 4 * j)) (nA f s (7 + 4 * j) 3) = dsCo D (upd (dCo D) (bA f s (6 + 4 * j)).toNatClampNeg (nA f s (7 + 4 * j) 3)) := by
      unfold dSetC
      rw [if_neg (by
        rw [bA_nI f s (6 + 4 * j), isK_n hkj]; decide)]
    rw [e, rp_pv hN hs f n (j + 1) (dsCo D (upd (dCo D) (bA f s (6 + 4 * j)).toNatClampNeg (nA f s (7 + 4 * j) 3))) (by omega) (fun i hi => hk i (by omega))]
theorem rPage_pv {N s : Nat} (hN : 16 ≤ N ∧ N ≤ 64) (hs : s < N) (f : Nat → Int32) (D : DS) (h : (bA f s 5).toNatClampNeg ≤ 5) (hk : ∀ i, i < (bA f s 5).toNatClampNeg → (bA f s (6 + 4 * i)).toNatClampNeg < 32) : rPage N f (nI s) D = dsCo D (pvS f s (bA f s 5).toNatClampNeg 0 (dCo D)) := by
  unfold rPage
  rw [show (5 : Int32) = nI 5 from rfl, bOf_in hN hs (by omega)]
  exact rp_pv hN hs f _ 0 D (by omega) (fun i hi => hk i (by omega))
theorem rd_pv {N b : Nat} (hN : 16 ≤ N ∧ N ≤ 64) (f : Nat → Int32) : ∀ (n j : Nat) (x : Int32 × DS), (∀ p, p < j + n → (bA f ((b + p) % N) 5).toNatClampNeg ≤ 5 ∧ ∀ i, i < (bA f ((b + p) % N) 5).toNatClampNeg → (bA f ((b + p) % N) (6 + 4 * i)).toNatClampNeg < 32) → rdL N f n (nI ((b + j) % N)) x = (if n = 0 then x.1 else nI ((b + j + n - 1) % N), dsCo x.2 (pvL N f b n j (dCo x.2)))
  | 0, j, x, _ => rfl
  | n + 1, j, x, h => by
    have hm : (b + j) % N < N := Nat.mod_lt _ (by omega)
    unfold rdL pvL
    obtain ⟨h1, h2⟩ := h j (by omega)
    rw [bhd_in hN hm, Nat.mod_add_mod, rPage_pv hN hm f x.2 h1 h2, show b + j + 1 = b + (j + 1) by omega, rd_pv hN f n (j + 1) _ (fun p hp => h p (by omega)), if_neg (show ¬ n + 1 = 0 by omega)]
    by_cases e : n = 0
    · subst e
      rw [if_pos rfl, show b + j + (0 + 1) - 1 = b + j by omega]
    · rw [if_neg e, show b + (j + 1) + n - 1 = b + j + (n + 1) - 1 by omega]
/-! the run -/
theorem go_rd {N s : Nat} (hN : 16 ≤ N ∧ N ≤ 64) (hs : s < N) (f : Nat → Int32) : ∀ (n j : Nat) (D : DS) (x : QS), j + n ≤ 4 → (∀ i, i < j + n → rdH f s i < 12 ∧ rdK f s i < 32) → DR D x → DR (goL N f (nI s) n j D) (rdLp f s n j x)
  | 0, j, D, x, _, _, h => h
  | n + 1, j, D, x, hj, hk, h => by
    unfold goL rdLp
    refine go_rd hN hs f n (j + 1) _ _ (by omega) (fun i hi => hk i (by omega)) ?_
    obtain ⟨k1, k2⟩ := hk j (by omega)
    obtain ⟨op, va, ho, he⟩ := x
    unfold goS rdS
    rw [show (6 : Int32) + nI j * 5 = nI (6 + 5 * j) by rw [show (5 : Int32) = nI 5 from rfl, zmul, show (6 : Int32) = nI 6 from rfl, nI_add, Nat.mul_comm], nI_1, show nI (6 + 5 * j) + 2 = nI (8 + 5 * j) by rw [show (2 : Int32) = nI 2 from rfl, nI_add, show 6 + 5 * j + 2 = 8 + 5 * j by omega], bOf_in hN hs (by omega), bOf_in hN hs (by omega), nOf_in hN hs f 3 (by omega), show 6 + 5 * j + 1 = 7 + 5 * j by omega]
    have e1 : bA f s (6 + 5 * j) = nI (rdH f s j) := bA_nI f s (6 + 5 * j)
    have e2 : bA f s (7 + 5 * j) = nI (rdK f s j) := bA_nI f s (7 + 5 * j)
    rw [e1, e2]
    generalize rdH f s j = hd at *
    generalize rdK f s j = ky at *
    generalize nA f s (8 + 5 * j) 3 = vv
    obtain ⟨-, s1, s2⟩ := i_h (h := hd) (by omega)
    rw [s1, s2]
    have ht : hd / 4 < 3 := by omega
    have h4 : hd % 4 < 4 := Nat.mod_lt _ (by omega)
    generalize hd / 4 = t at *
    generalize hd % 4 = wh at *
    have h5 : wh = 0 ∨ wh = 1 ∨ wh = 2 ∨ wh = 3 := by omega
    rcases h5 with rfl | rfl | rfl | rfl
    · rw [if_pos (show nI 0 = 0 from rfl), if_neg (show ¬ (2 : Int32) ≤ nI 0 by decide +kernel), if_neg (show ¬ nI 0 = 1 by decide +kernel)]
      exact DR_chg h ht k2 vv
    · rw [if_neg (show ¬ nI 1 = 0 by decide +kernel), if_pos (show nI 1 = 1 from rfl), if_neg (show ¬ (2 : Int32) ≤ nI 1 by decide +kernel), if_pos (show nI 1 = 1 from rfl)]
      exact DR_chg h ht k2 (-1)
    · rw [if_neg (show ¬ nI 2 = 0 by decide +kernel), if_neg (show ¬ nI 2 = 1 by decide +kernel), if_pos (show nI 2 = 2 from rfl), if_pos (show (2 : Int32) ≤ nI 2 by decide +kernel), if_pos (show nI 2 = 2 from rfl)]
      exact (DR_close h ht 1).2
    · rw [if_neg (show ¬ nI 3 = 0 by decide +kernel), if_neg (show ¬ nI 3 = 1 by decide +kernel), if_neg (show ¬ nI 3 = 2 by decide +kernel), if_pos (show (2 : Int32) ≤ nI 3 by decide +kernel), if_neg (show ¬ nI 3 = 2 by decide +kernel)]
      exact (DR_close h ht 0).2
theorem gLog_rd {N s : Nat} (hN : 16 ≤ N ∧ N ≤ 64) (hs : s < N) (f : Nat → Int32) {D : DS} {x : QS} (h : DR D x) (h1 : ¬ mTell f s = 0) (h2 : bA f s 0 = 1) : DR (gLog N f (nI s) D) (mRedo f s x) := by
  obtain ⟨a, b⟩ := mTell_log h1 h2
  unfold gLog mRedo
  rw [hide_eq, show (5 : Int32) = nI 5 from rfl, bOf_in hN hs (by omega)]
  exact go_rd hN hs f _ 0 D x (by omega) (fun i hi => b i (by omega)) h
theorem i_next (b : Int32) {q : Nat} (hq : 1 ≤ q) : b + nI (q - 1) + 1 = b + nI q := by
  rw [Int32.add_assoc, nI_1, show q - 1 + 1 = q by omega]
theorem gr_ru {N b : Nat} (hN : 16 ≤ N ∧ N ≤ 64) (hb : b < N) (f : Nat → Int32) : ∀ (n q m : Nat) (F : FS) (D : DS) (x : QS), n ≤ m → q + n = N → 1 ≤ q → Tls N f (fTe F) → fRe F = nI ((b + q - 1) % N) → nA f ((b + q - 1) % N) 1 4 = nA f b 1 4 + nI (q - 1) → DR D x →
    ∃ q', q ≤ q' ∧ q' ≤ N ∧ (ruL N f b n q x).1 = q' ∧ DR (grL N f m (F, D)).2 (ruL N f b n q x).2 ∧ fRe (grL N f m (F, D)).1 = nI ((b + q' - 1) % N) ∧ fFp (grL N f m (F, D)).1 = fFp F ∧ nA f ((b + q' - 1) % N) 1 4 = nA f b 1 4 + nI (q' - 1)
  | 0, q, m, F, D, x, _, hq, hq1, ht, hr, hse, h => by
    refine ⟨q, by omega, by omega, rfl, ?_⟩
    have hm : (b + q - 1) % N < N := Nat.mod_lt _ (by omega)
    have e : grL N f m (F, D) = (F, D) := by
      cases m with
      | zero => rfl
      | succ m =>
        unfold grL
        show (if fIs F (bhd N (fRe F)) = 0 then (F, D) else if nOf N f (bhd N (fRe F)) 1 4 = nOf N f (fRe F) 1 4 + 1 then _ else (F, D)) = (F, D)
        split
        · rfl
        · rw [if_neg]
          rw [hr, bhd_in hN hm, Nat.mod_add_mod, show b + q - 1 + 1 = b + N by omega, Nat.add_mod_right, Nat.mod_eq_of_lt hb]
          rw [show nOf N f (nI b) 1 4 = nA f b 1 4 from nOf_in hN hb (u := 1) f 4 (by omega), show nOf N f (nI ((b + q - 1) % N)) 1 4 = nA f ((b + q - 1) % N) 1 4 from nOf_in hN hm (u := 1) f 4 (by omega), hse, i_next _ hq1]
          intro z
          have z2 : nI q = 0 := by
            have := congrArg (fun y => y - nA f b 1 4) z
            have e1 : nA f b 1 4 - nA f b 1 4 = 0 := Int32.sub_self _
            have e2 : nA f b 1 4 + nI q - nA f b 1 4 = nI q := by rw [Int32.add_comm, Int32.add_sub_cancel]
            rw [e1, e2] at this
            exact this.symm
          exact nI_ne0 (by omega) (by omega) z2
    rw [e]
    exact ⟨h, hr, rfl, hse⟩
  | n + 1, q, m, F, D, x, hm, hq, hq1, ht, hr, hse, h => by
    obtain ⟨m, rfl⟩ : ∃ k, m = k + 1 := ⟨m - 1, by omega⟩
    have h1 : (b + q - 1) % N < N := Nat.mod_lt _ (by omega)
    have h2 : (b + q) % N < N := Nat.mod_lt _ (by omega)
    have hn : bhd N (fRe F) = nI ((b + q) % N) := by rw [hr, bhd_in hN h1, Nat.mod_add_mod, show b + q - 1 + 1 = b + q by omega]
    have s1 : nOf N f (bhd N (fRe F)) 1 4 = nA f ((b + q) % N) 1 4 := by rw [hn]; exact nOf_in hN h2 (u := 1) f 4 (by omega)
    have s2 : nOf N f (fRe F) 1 4 + 1 = nA f b 1 4 + nI q := by
      rw [hr, show nOf N f (nI ((b + q - 1) % N)) 1 4 = nA f ((b + q - 1) % N) 1 4 from nOf_in hN h1 (u := 1) f 4 (by omega), hse, i_next _ hq1]
    have s3 : bOf N f (bhd N (fRe F)) 0 = bA f ((b + q) % N) 0 := by rw [hn]; exact bOf_in hN h2 (k := 0) (by omega) f
    have s4 : fIs F (bhd N (fRe F)) = mTell f ((b + q) % N) := by rw [hn]; exact fIs_in hN ht h2
    have eg : grL N f (m + 1) (F, D) = (if fIs F (bhd N (fRe F)) = 0 then (F, D) else if nOf N f (bhd N (fRe F)) 1 4 = nOf N f (fRe F) 1 4 + 1 then (if bOf N f (bhd N (fRe F)) 0 = 1 then grL N f m (fsRe F (bhd N (fRe F)), gLog N f (bhd N (fRe F)) D) else grL N f m (fsRe F (bhd N (fRe F)), D)) else (F, D)) := rfl
    rw [eg, s1, s2, s3, s4, hn]
    unfold ruL
    by_cases a : mTell f ((b + q) % N) = 0
    · rw [if_pos a, if_pos a]
      exact ⟨q, by omega, by omega, rfl, h, hr, rfl, hse⟩
    rw [if_neg a, if_neg a]
    by_cases c : nA f ((b + q) % N) 1 4 = nA f b 1 4 + nI q
    · rw [if_pos c, if_pos c]
      by_cases l : bA f ((b + q) % N) 0 = 1
      · rw [if_pos l, if_pos l]
        obtain ⟨q', z1, z2, z3, z4, z5, z6, z7⟩ := gr_ru hN hb f n (q + 1) m (fsRe F (nI ((b + q) % N))) (gLog N f (nI ((b + q) % N)) D) (mRedo f ((b + q) % N) x) (by omega) (by omega) (by omega) ht (by show nI ((b + q) % N) = _; rw [show b + (q + 1) - 1 = b + q by omega]) (by rw [show b + (q + 1) - 1 = b + q by omega, show q + 1 - 1 = q by omega]; exact c) (gLog_rd hN h2 f h a l)
        exact ⟨q', by omega, z2, z3, z4, z5, z6, z7⟩
      · rw [if_neg l, if_neg l]
        obtain ⟨q', z1, z2, z3, z4, z5, z6, z7⟩ := gr_ru hN hb f n (q + 1) m (fsRe F (nI ((b + q) % N))) D x (by omega) (by omega) (by omega) ht (by show nI ((b + q) % N) = _; rw [show b + (q + 1) - 1 = b + q by omega]) (by rw [show b + (q + 1) - 1 = b + q by omega, show q + 1 - 1 = q by omega]; exact c) h
        exact ⟨q', by omega, z2, z3, z4, z5, z6, z7⟩
    · rw [if_neg c, if_neg c]
      exact ⟨q, by omega, by omega, rfl, h, hr, rfl, hse⟩
/-! the undoing of what stands unfinished -/
theorem jTake_small (N : Nat) (J : JS) (t w k v : Int32) {e : Nat} (he : e ≤ 2) : jTake N J t w k v e = jPut1 J t w k v e := by
  unfold jTake
  rw [if_neg (fun q => by
    rw [show (4 : Int32) = nI 4 from rfl, nI_eq (by omega) (by omega)] at q
    omega)]
theorem un_mu {N : Nat} (hN : 16 ≤ N ∧ N ≤ 64) (c d fw : Nat) : ∀ (n j e : Nat) (r : Int32) (X : XS) (M : MS), j + n = 3 → e ≤ j → xDn X = 0 → mDn M = 0 → xCm X = mCm M → KR N (xJ X) M e 0 c d fw → DR (xD X) (mOp M, mVa M, mHo M, mHe M) →
    (unL N n j e (r, X)).1 = (muL N n j e c (r, M)).1 ∧ Rel N (unL N n j e (r, X)).2 (muL N n j e c (r, M)).2
  | 0, j, e, r, X, M, hj, he, u, um, uc, k, h => ⟨rfl, u.trans um.symm, h, .inl ⟨u, uc, e, 0, c, d, fw, by omega, k⟩⟩
  | n + 1, j, e, r, X, M, hj, he, u, um, uc, k, h => by
    have e1 : unL N (n + 1) j e (r, X) = (if dIsO (xD X) (nI j) = 0 then unL N n (j + 1) e (r, X) else unL N n (j + 1) (e + 1) (r + 1, xsD (xsJ X (jTake N (xJ X) (nI j) 3 0 0 e)) (dClose (xD X) (nI j) 0).2)) := rfl
    have e2 : muL N (n + 1) j e c (r, M) = (if mOp M j = 0 then muL N n (j + 1) e c (r, M) else muL N n (j + 1) (e + 1) c (r + 1, mAdd N (mRel M j 0).2 (4 * nI j + 3) 0 0 e 0 c)) := rfl
    rw [e1, e2, show dIsO (xD X) (nI j) = mOp M j from dIsO_op h.op (show j < 3 by omega)]
    by_cases q : mOp M j = 0
    · rw [if_pos q, if_pos q]
      exact un_mu hN c d fw n (j + 1) e r X M (by omega) (by omega) u um uc k h
    · rw [if_neg q, if_neg q, jTake_small N (xJ X) _ _ _ _ (by omega), mAdd_small N _ _ _ _ _ _ _ (by omega)]
      have kM : KR N (xJ X) (mRel M j 0).2 e 0 c d fw := KR_M k rfl rfl rfl rfl rfl rfl rfl rfl rfl rfl rfl rfl
      have k1 := KR_put1 kM (nI j) 3 0 0
      have hD := (DR_close h (show j < 3 by omega) 0).2
      exact un_mu hN c d fw n (j + 1) (e + 1) (r + 1) (xsD (xsJ X (jPut1 (xJ X) (nI j) 3 0 0 e)) (dClose (xD X) (nI j) 0).2) (mPut1 (mRel M j 0).2 (4 * nI j + 3) 0 0 e) (by omega) (by omega) u um uc k1 hD
theorem Rel_F {N : Nat} {X : XS} {M : MS} (R : Rel N X M) (F : FS) : Rel N (xsF X F) M := by
  refine ⟨R.dn, R.dr, ?_⟩
  rcases R.st with a | ⟨u, k⟩
  · exact .inl a
  · exact .inr ⟨u, ⟨k.dk, k.eh, k.ek, k.ev, k.ej, k.em, k.wa, k.wm, k.fp, k.sc, k.va, k.ho, k.op⟩⟩
theorem fg_same {f : Nat → Int32} (h : ∀ k, k < 32 → f k = -1) : fgV f 32 = f := by
  funext k
  rw [fgV_at]
  by_cases e : k < 32
  · rw [if_pos e, h k e]
  · rw [if_neg e]
theorem i_ring2 (a b : Int32) : a + b - 1 - a = b - 1 := by grind
theorem mPgs_ser {N : Nat} (hN : 16 ≤ N ∧ N ≤ 64) {d : Nat → Int32} {b : Nat} (h : 1 ≤ (mPgs N d b).toNatClampNeg) : nA d ((b + (mPgs N d b).toNatClampNeg - 1) % N) 1 4 = nA d b 1 4 + nI ((mPgs N d b).toNatClampNeg - 1) := by
  by_cases z : mpL N d b (bA d b 27).toNatClampNeg 0 (mp0 N d b) = 0
  · exfalso
    have e : mPgs N d b = 0 := by unfold mPgs; rw [if_pos z]
    rw [e] at h
    exact absurd h (by decide)
  · have e : mPgs N d b = bA d b 27 := by unfold mPgs; rw [if_neg z]
    rw [e] at h ⊢
    have a := (mpL_all _ _ _ z).2 ((bA d b 27).toNatClampNeg - 1) (by omega) (by omega)
    rw [show b + (bA d b 27).toNatClampNeg - 1 = b + ((bA d b 27).toNatClampNeg - 1) by omega]
    generalize (bA d b 27).toNatClampNeg - 1 = p at *
    unfold mpG at a
    by_cases y1 : mTell d ((b + p) % N) = 0
    · rw [if_pos y1] at a; exact absurd rfl a
    rw [if_neg y1] at a
    by_cases y2 : bA d ((b + p) % N) 0 = 2
    · rw [if_pos y2] at a
      by_cases y3 : bA d ((b + p) % N) 26 = nI p
      · rw [if_pos y3] at a
        by_cases y4 : bA d ((b + p) % N) 27 = bA d b 27
        · rw [if_pos y4] at a
          by_cases y5 : nA d ((b + p) % N) 1 4 = nA d b 1 4 + nI p
          · exact y5
          · rw [if_neg y5] at a; exact absurd rfl a
        · rw [if_neg y4] at a; exact absurd rfl a
      · rw [if_neg y3] at a; exact absurd rfl a
    · rw [if_neg y2] at a; exact absurd rfl a
theorem r_start {N : Nat} (hN : 16 ≤ N ∧ N ≤ 64) {X : XS} {M : MS} (R : Rel N X M) : (xStart N X).1 = (mStart N M).1 ∧ Rel N (xStart N X).2 (mStart N M).2 := by
  rcases R.st with ⟨u, uc, _⟩ | ⟨u, dd⟩
  · unfold xStart mStart
    rw [← R.dn, if_pos u, if_pos u]; exact ⟨rfl, R⟩
  have hdk := dd.dk
  obtain ⟨hB, hT⟩ := find_best hN (mDk M) (xF X)
  have u0 : ¬ xDn X = 0 := by rw [u]; decide
  unfold xStart mStart
  rw [← R.dn, if_neg u0, if_neg u0]
  unfold fFound
  rw [hdk]
  rcases hB with ⟨b1, b2⟩ | ⟨b, hb, b1, b2, b3, b4⟩
  · rw [b1, b2, if_pos (show (0 : Int32) ≤ 0 by decide), if_pos rfl, if_neg (show ¬ (0 : Int32) ≤ -1 by decide)]
    refine ⟨rfl, ?_⟩
    exact Rel_F R _
  · rw [b3, b1, if_neg b4, if_neg (show ¬ (1 : Int32) = 0 by decide), if_pos (show (0 : Int32) ≤ nI b from nI_le (a := 0) (by omega) (by omega)), nI_clamp (by omega)]
    obtain ⟨p1, p2, p3⟩ := mPgs_ok (N := N) hN (d := mDk M) (b := b)
    have p0 : 1 ≤ (mPgs N (mDk M) b).toNatClampNeg := zpos b4
    have p4 := mPgs_ser hN p0
    obtain ⟨F1, hF1⟩ : ∃ z, fFind N (mDk M) (xF X) = z := ⟨_, rfl⟩
    rw [hF1] at b2 b3 hT
    have e1 : xFnd N X = xsF X F1 := by unfold xFnd; rw [hdk, hF1]
    obtain ⟨P, hP⟩ : ∃ z, (mPgs N (mDk M) b).toNatClampNeg = z := ⟨_, rfl⟩
    have hrd : rdAll N (mDk M) F1 (xD X) = (nI ((b + P - 1) % N), dsCo (xD X) (pvL N (mDk M) b P 0 (dCo (xD X)))) := by
      unfold rdAll
      rw [b3, b2, hP]
      have a := rd_pv (b := b) hN (mDk M) P 0 (fRe F1, xD X) (fun p hp => p3 p (by omega))
      rw [Nat.add_zero, Nat.mod_eq_of_lt hb, if_neg (by omega)] at a
      exact a
    obtain ⟨D2, hD2⟩ : ∃ z, dsCo (xD X) (pvL N (mDk M) b P 0 (dCo (xD X))) = z := ⟨_, rfl⟩
    rw [hD2] at hrd
    have e2 : xRd N (xsF X F1) = xsD (xsF X (fsRe F1 (nI ((b + P - 1) % N)))) D2 := by
      show xsD (xsF (xsF X F1) (fsRe F1 (rdAll N (jDk (xJ X)) F1 (xD X)).1)) (rdAll N (jDk (xJ X)) F1 (xD X)).2 = _
      rw [hdk, hrd]
    have hva : dCo (xD X) = mVa M := R.dr.va
    have hDR : DR D2 (fgO (mOp M) 3, pvL N (mDk M) b P 0 (fgV (mVa M) 32), fgV (mHo M) 32, mHe M) := by
      have h0 := DR_op (op' := fgO (mOp M) 3) R.dr (fun j hj => by rw [fgO_at, if_pos hj, dd.op j hj])
      rw [fg_same dd.va, fg_same dd.ho, ← hD2]
      refine ⟨?_, h0.ho, h0.he, h0.op, h0.hl⟩
      show pvL N (mDk M) b P 0 (dCo (xD X)) = pvL N (mDk M) b P 0 (mVa M)
      rw [hva]
    obtain ⟨q, z1, z2, z3, z4, z5, z6, z7⟩ := gr_ru hN hb (mDk M) (N - P) P N (fsRe F1 (nI ((b + P - 1) % N))) D2 (fgO (mOp M) 3, pvL N (mDk M) b P 0 (fgV (mVa M) 32), fgV (mHo M) 32, mHe M) (by omega) (by omega) (by omega) hT rfl (by rw [← hP]; exact p4) hDR
    have hmr : mRun N M b = ruL N (mDk M) b (N - P) P (fgO (mOp M) 3, pvL N (mDk M) b P 0 (fgV (mVa M) 32), fgV (mHo M) 32, mHe M) := by
      unfold mRun; rw [hP]
    rw [← hmr] at z3 z4
    have hgr : gRun N (mDk M) (fsRe F1 (nI ((b + P - 1) % N))) D2 = grL N (mDk M) N (fsRe F1 (nI ((b + P - 1) % N)), D2) := rfl
    rw [← hgr] at z4 z5 z6
    obtain ⟨G, hG⟩ : ∃ z, gRun N (mDk M) (fsRe F1 (nI ((b + P - 1) % N))) D2 = z := ⟨_, rfl⟩
    rw [hG] at z4 z5 z6
    have e3 : xGo N (xsD (xsF X (fsRe F1 (nI ((b + P - 1) % N)))) D2) = xsD (xsF X G.1) G.2 := by
      show xsD (xsF (xsD (xsF X (fsRe F1 (nI ((b + P - 1) % N)))) D2) (gRun N (jDk (xJ X)) (fsRe F1 (nI ((b + P - 1) % N))) D2).1) (gRun N (jDk (xJ X)) (fsRe F1 (nI ((b + P - 1) % N))) D2).2 = _
      rw [hdk, hG]
    rw [e1, e2, e3]
    unfold mStF
    rw [z3]
    obtain ⟨Q, hQ⟩ : ∃ z, (mRun N M b).2 = z := ⟨_, rfl⟩
    rw [hQ] at z4 ⊢
    have hc : (b + q - 1) % N < N := Nat.mod_lt _ (by omega)
    have hfn : ((b + q - 1) % N + N - (q - 1)) % N = b := by
      rcases md (show b + q - 1 < 2 * N by omega) with ⟨x1, x2⟩ | ⟨x1, x2⟩ <;> rw [x2]
      · rw [show b + q - 1 + N - (q - 1) = b + N by omega, Nat.add_mod_right, Nat.mod_eq_of_lt hb]
      · rw [show b + q - 1 - N + N - (q - 1) = b by omega, Nat.mod_eq_of_lt hb]
    have hse : nOf N (jDk (xJ X)) (fRe G.1) 1 4 = nA (mDk M) b 1 4 + nI q - 1 := by
      rw [hdk, z5, show nOf N (mDk M) (nI ((b + q - 1) % N)) 1 4 = nA (mDk M) ((b + q - 1) % N) 1 4 from nOf_in hN hc (u := 1) _ 4 (by omega), z7]
      rw [← zpred (show 1 ≤ q by omega), Int32.sub_eq_add_neg, Int32.sub_eq_add_neg, Int32.add_assoc]
    have hK : KR N (xJ (xOn N (xsD (xsF X G.1) G.2))) (mM3 N M b q Q) 0 0 ((b + q - 1) % N) (q - 1) (((b + q - 1) % N + 1) % N) := by
      refine ⟨⟨dd.wa, rfl, z5, rfl, hc, hse, ?_, by omega, by omega, ?_, Nat.mod_lt _ (by omega), fun x => by omega, ?_, fun i hi => by omega, fun i hi => by omega⟩, .inl ⟨dd.fp, rfl⟩, dd.ej, rfl, dd.eh, dd.ek, dd.ev, dd.dk⟩
      · show nA (mDk M) b 1 4 + nI q - 1 - nA (mDk M) b 1 4 = nI (q - 1)
        rw [← zpred (show 1 ≤ q by omega)]
        generalize nA (mDk M) b 1 4 = s0
        generalize nI q = s1
        exact i_ring2 s0 s1
      · show fFp G.1 = nI (((b + q - 1) % N + N - (q - 1)) % N)
        rw [hfn, z6]; exact b2
      · rw [show ((b + q - 1) % N + 1) % N + 0 = ((b + q - 1) % N + 1) % N from rfl, Nat.mod_mod]
    exact un_mu hN _ _ _ 3 0 0 0 (xOn N (xsD (xsF X G.1) G.2)) (mM3 N M b q Q) rfl (by omega) rfl rfl rfl hK z4

/-! Part 93i: checkpoint -/
def pgN (t : Nat) : Nat := if t = 0 then 1 else (t + 4) / 5
theorem pg_cnt {D : DS} {M : MS} (h : dCo D = mVa M) : ∀ n, n ≤ 32 → ∃ t, t ≤ n ∧ pgF D n = (nI t, nI (pgN t)) ∧ mcI M n = nI t
  | 0, _ => ⟨0, by omega, rfl, rfl⟩
  | n + 1, hn => by
    obtain ⟨t, h1, h2, h3⟩ := pg_cnt h n (by omega)
    have hp : pgN t ≤ 8 := by unfold pgN; split <;> omega
    unfold pgF mcI
    rw [h2, h3, h]
    by_cases e : mVa M n = -1
    · rw [if_pos e, if_pos e]
      exact ⟨t, by omega, rfl, Int32.add_zero _⟩
    · rw [if_neg e, if_neg e]
      show ∃ t', t' ≤ n + 1 ∧ (if nI t + 1 ≤ nI (pgN t) * 5 then (nI t + 1, nI (pgN t)) else (nI t + 1, nI (pgN t) + 1)) = (nI t', nI (pgN t')) ∧ nI t + 1 = nI t'
      rw [nI_1, show (5 : Int32) = nI 5 from rfl, zmul, nI_1]
      refine ⟨t + 1, by omega, ?_, rfl⟩
      by_cases q : t + 1 ≤ pgN t * 5
      · rw [if_pos (nI_le q (by omega))]
        congr 2
        unfold pgN at q ⊢
        split at q <;> split <;> (try split) <;> omega
      · rw [if_neg (p_nN (by omega) (by omega))]
        congr 2
        unfold pgN at q ⊢
        split at q <;> split <;> (try split) <;> omega
theorem pg_both {D : DS} {M : MS} (h : dCo D = mVa M) : ∃ P, 1 ≤ P ∧ P ≤ 7 ∧ (pgF D 32).2 = nI P ∧ mPg M = nI P := by
  obtain ⟨t, h1, h2, h3⟩ := pg_cnt h 32 (by omega)
  refine ⟨pgN t, ?_, ?_, by rw [h2], ?_⟩
  · unfold pgN; split <;> omega
  · unfold pgN; split <;> omega
  · unfold mPg pgN
    rw [h3]
    by_cases e : t = 0
    · rw [if_pos (by rw [e]; rfl), if_pos e]; rfl
    · rw [if_neg (nI_ne0 (by omega) (by omega)), if_neg e, show (4 : Int32) = nI 4 from rfl, nI_add, show (5 : Int32) = nI 5 from rfl, pk_div (by omega) (by omega) (by omega)]
theorem wp_ck {N c : Nat} (hN : 16 ≤ N ∧ N ≤ 64) (hc : c < N) {D : DS} {va : Nat → Int32} (hv : dCo D = va) (g0 : Nat → Int32) : ∀ (n k m : Nat) (g r : Nat → Int32), k + n = 32 → m ≤ 5 → RE c g0 g r →
    (wpL N D (nI c) (5 - m) m (nxN D n k) g).1 = (ckL va n k m r).2.1 ∧ RE c g0 (wpL N D (nI c) (5 - m) m (nxN D n k) g).2.2 (ckL va n k m r).2.2 ∧ (wpL N D (nI c) (5 - m) m (nxN D n k) g).2.1 = nxN D (32 - (ckL va n k m r).1) (ckL va n k m r).1 ∧ (ckL va n k m r).1 ≤ 32
  | 0, k, m, g, r, hk, hm, h => by
    have hk2 : k = 32 := by omega
    subst hk2
    have e1 : wpL N D (nI c) (5 - m) m (nxN D 0 32) g = (m, 32, g) := by
      show wpL N D (nI c) (5 - m) m 32 g = (m, 32, g)
      cases hq : 5 - m with
      | zero => rfl
      | succ q =>
        unfold wpL
        rw [if_pos (show (32 : Int32) ≤ nI 32 by decide +kernel)]
    rw [e1]
    exact ⟨rfl, h, rfl, Nat.le_refl _⟩
  | n + 1, k, m, g, r, hk, hm, h => by
    by_cases e5 : m = 5
    · subst e5
      have e2 : ckL va (n + 1) k 5 r = (k, 5, r) := by
        unfold ckL
        rw [if_pos (show (5 : Int32) ≤ nI 5 by decide +kernel)]
      rw [e2]
      refine ⟨rfl, h, ?_, by show k ≤ 32; omega⟩
      show nxN D (n + 1) k = nxN D (32 - k) k
      rw [show 32 - k = n + 1 by omega]
    · have e6 : ¬ (5 : Int32) ≤ nI m := p_nN (n := 5) (by omega) (by omega)
      by_cases ev : va k = -1
      · have e2 : ckL va (n + 1) k m r = ckL va n (k + 1) m r := by
          show (if (5 : Int32) ≤ nI m then (k, m, r) else if va k = -1 then ckL va n (k + 1) m r else ckL va n (k + 1) (m + 1) (nmL (va k) 3 (7 + 4 * m) (upd r (6 + 4 * m) (b8 (nI k))) 3)) = _
          rw [if_neg e6, if_pos ev]
        have e3 : nxN D (n + 1) k = nxN D n (k + 1) := by
          show (if dCo D k = -1 then nxN D n (k + 1) else k) = _
          rw [hv, if_pos ev]
        rw [e2, e3]
        exact wp_ck hN hc hv g0 n (k + 1) m g r (by omega) hm h
      · have e2 : ckL va (n + 1) k m r = ckL va n (k + 1) (m + 1) (nmL (va k) 3 (7 + 4 * m) (upd r (6 + 4 * m) (b8 (nI k))) 3) := by
          show (if (5 : Int32) ≤ nI m then (k, m, r) else if va k = -1 then ckL va n (k + 1) m r else ckL va n (k + 1) (m + 1) (nmL (va k) 3 (7 + 4 * m) (upd r (6 + 4 * m) (b8 (nI k))) 3)) = _
          rw [if_neg e6, if_neg ev]
        have e3 : nxN D (n + 1) k = k := by
          show (if dCo D k = -1 then nxN D n (k + 1) else k) = _
          rw [hv, if_neg ev]
        have e4 : dValue D (nI k) = va k := by
          unfold dValue
          rw [isK_n (by omega), if_neg (show ¬ (1 : Int32) = 0 by decide), nI_clamp (by omega), hv]
        have e7 : wpL N D (nI c) (5 - m) m (nxN D (n + 1) k) g = wpL N D (nI c) (5 - (m + 1)) (m + 1) (nxN D n (k + 1)) (sN N (nI c) (nI (7 + 4 * m)) 3 (sB N g (nI c) (nI (6 + 4 * m)) (nI k)) (va k)) := by
          rw [e3, show 5 - m = (5 - (m + 1)) + 1 by omega]
          show (if (32 : Int32) ≤ nI k then (m, k, g) else wpL N D (nI c) (5 - (m + 1)) (m + 1) (nxN D (32 - (k + 1)) (k + 1)) (sN N (nI c) (6 + nI m * 4 + 1) 3 (sB N g (nI c) (6 + nI m * 4) (nI k)) (dValue D (nI k)))) = _
          rw [if_neg (show ¬ (32 : Int32) ≤ nI k from p_nN (n := 32) (by omega) (by omega)), e4, show 32 - (k + 1) = n by omega, show (6 : Int32) + nI m * 4 = nI (6 + 4 * m) by rw [show (4 : Int32) = nI 4 from rfl, zmul, show (6 : Int32) = nI 6 from rfl, nI_add, Nat.mul_comm], nI_1, show 6 + 4 * m + 1 = 7 + 4 * m by omega]
        rw [e2, e7]
        exact wp_ck hN hc hv g0 n (k + 1) (m + 1) _ _ (by omega) (by omega) (RE_sN3 hN hc (RE_sB hN hc h (by omega) _) (by omega) _)
theorem wp1_all (N j : Nat) (hj : j < 1000) (J : JS) : jWa (wp1 N j J) = jWa (jNext N J) ∧ jSc (wp1 N j J) = jSc (jNext N J) ∧ jSe (wp1 N j J) = jSe (jNext N J) ∧ jFn (wp1 N j J) = jFn (jNext N J) ∧ jFw (wp1 N j J) = jFw (jNext N J) ∧ jMm (wp1 N j J) = jMm (jNext N J) ∧ jDk (wp1 N j J) = jDk (jNext N J) ∧ jEn (wp1 N j J) = jEn (jNext N J) ∧ jEh (wp1 N j J) = jEh (jNext N J) ∧ jEk (wp1 N j J) = jEk (jNext N J) ∧ jEv (wp1 N j J) = jEv (jNext N J) ∧ jFp (wp1 N j J) = (if j = 0 then jSc (jNext N J) else jFp (jNext N J)) := by
  unfold wp1
  by_cases e : j = 0
  · rw [if_pos (show nI j = 0 by rw [e]; rfl), if_pos e]; exact ⟨rfl, rfl, rfl, rfl, rfl, rfl, rfl, rfl, rfl, rfl, rfl, rfl⟩
  · rw [if_neg (show ¬ nI j = 0 from nI_ne0 (by omega) (by omega)), if_neg e]; exact ⟨rfl, rfl, rfl, rfl, rfl, rfl, rfl, rfl, rfl, rfl, rfl, rfl⟩
theorem page1 {N : Nat} (hN : 16 ≤ N ∧ N ≤ 64) {J : JS} {M : MS} {w c d fw : Nat} (h : JR N J M w c d fw) (hd : d + 1 < N) {D : DS} (hv : dCo D = mVa M) (P j k : Nat) (hj : j < 1000) (hk : k ≤ 32) :
    JR N (wp2 N D P j (nxN D (32 - k) k) J) (mWr N (msRw M (ckR M P j k)) w c) (w + 1) ((c + 1) % N) (d + 1) fw ∧ jWPk N (wp1 N j J) D (nxN D (32 - k) k) = nxN D (32 - (ckX M k).1) (ckX M k).1 ∧ (ckX M k).1 ≤ 32 := by
  obtain ⟨n1, n2, n3, n4, n5, n6, n7, n8, n9, m1, m2, m3⟩ := jNext_all N J
  obtain ⟨p1, p2, p3, p4, p5, p6, p7, p8, p9, q1, q2, q3⟩ := wp1_all N j hj J
  have hb : jSc (wp1 N j J) = nI ((c + 1) % N) := by rw [p2, n2, h.sc, bhd_in hN h.c2]
  have hm : jMm (wp1 N j J) = jMm J := by rw [p6, n6]
  have hs : jSe (wp1 N j J) = mSe M + 1 := by rw [p3, n3, h.se]
  have hc' : (c + 1) % N < N := Nat.mod_lt _ (by omega)
  obtain ⟨w1, w2, w3, w4⟩ := wp_ck hN hc' hv (jMm J) (32 - k) k 0 _ _ (by omega) (by omega) (RE_prep0 hN hc' (jMm J) (mRw M) 2 (mSe M + 1))
  have hx : jWPx N (wp1 N j J) D (nxN D (32 - k) k) = wpL N D (nI ((c + 1) % N)) (5 - 0) 0 (nxN D (32 - k) k) (prep N (jMm J) (nI ((c + 1) % N)) 2 (mSe M + 1) 0) := by
    unfold jWPx
    rw [hb, hm, hs]
  have hy : ckX M k = ckL (mVa M) (32 - k) k 0 (clRow (mRw M) 2 (mSe M + 1)) := rfl
  rw [← hx, ← hy] at w1 w2 w3
  rw [← hy] at w4
  have hW : jMm (jWPr N (wp1 N j J) D (nxN D (32 - k) k)) = sB N (jWPx N (wp1 N j J) D (nxN D (32 - k) k)).2.2 (jSc (wp1 N j J)) 5 (nI (jWPx N (wp1 N j J) D (nxN D (32 - k) k)).1) := rfl
  have hW2 : jSc (jWPr N (wp1 N j J) D (nxN D (32 - k) k)) = jSc (wp1 N j J) := rfl
  refine ⟨?_, w3, w4⟩
  have hG : RE ((c + 1) % N) (jMm J) (sealS N (sB N (sB N (jMm (jWPr N (wp1 N j J) D (nxN D (32 - k) k))) (jSc (jWPr N (wp1 N j J) D (nxN D (32 - k) k))) 26 (nI j)) (jSc (jWPr N (wp1 N j J) D (nxN D (32 - k) k))) 27 (nI P)) (jSc (jWPr N (wp1 N j J) D (nxN D (32 - k) k)))) (slRow (ckR M P j k) (nI ((c + 1) % N))) := by
    rw [hW, hW2, hb, w1]
    exact RE_seal hN hc' (RE_sB hN hc' (k := 27) (RE_sB hN hc' (k := 26) (RE_sB hN hc' (k := 5) w2 (by omega) _) (by omega) _) (by omega) _)
  generalize hGG : sealS N (sB N (sB N (jMm (jWPr N (wp1 N j J) D (nxN D (32 - k) k))) (jSc (jWPr N (wp1 N j J) D (nxN D (32 - k) k))) 26 (nI j)) (jSc (jWPr N (wp1 N j J) D (nxN D (32 - k) k))) 27 (nI P)) (jSc (jWPr N (wp1 N j J) D (nxN D (32 - k) k))) = G at hG
  have hJ : wp2 N D P j (nxN D (32 - k) k) J = jsMm (jWPr N (wp1 N j J) D (nxN D (32 - k) k)) G := by unfold wp2; rw [hGG]
  rw [hJ]
  have h' : JR N J (msRw M (ckR M P j k)) w c d fw := ⟨h.wa, h.wm, h.sc, h.sm, h.c2, h.se, h.ds, h.d2, h.wd, h.fn, h.f2, h.fj, h.nx, h.wt, h.ws⟩
  exact JR_write hN h' hd G p1 p2 p3 p4 p5 rfl hG
theorem wp2_rest (N : Nat) (D : DS) (P j k : Nat) (hj : j < 1000) (J : JS) : jFp (wp2 N D P j k J) = (if j = 0 then bhd N (jSc J) else jFp J) ∧ jEn (wp2 N D P j k J) = jEn J ∧ jEh (wp2 N D P j k J) = jEh J ∧ jEk (wp2 N D P j k J) = jEk J ∧ jEv (wp2 N D P j k J) = jEv J ∧ jDk (wp2 N D P j k J) = jDk J := by
  obtain ⟨n1, n2, n3, n4, n5, n6, n7, n8, n9, m1, m2, m3⟩ := jNext_all N J
  obtain ⟨p1, p2, p3, p4, p5, p6, p7, p8, p9, q1, q2, q3⟩ := wp1_all N j hj J
  refine ⟨?_, ?_, ?_, ?_, ?_, ?_⟩
  · show jFp (wp1 N j J) = _
    rw [q3, n2, n5]
  · show jEn (wp1 N j J) = _
    rw [p8, n8]
  · show jEh (wp1 N j J) = _
    rw [p9, n9]
  · show jEk (wp1 N j J) = _
    rw [q1, m1]
  · show jEv (wp1 N j J) = _
    rw [q2, m2]
  · show jDk (wp1 N j J) = _
    rw [p7, n7]
theorem KR_page {N : Nat} (hN : 16 ≤ N ∧ N ≤ 64) {J : JS} {M : MS} {e w c d fw : Nat} (h : KR N J M e w c d fw) (hd : d + 1 < N) {D : DS} (hv : dCo D = mVa M) (P j k : Nat) (hj : j < 1000) (hk : k ≤ 32) (hj1 : 1 ≤ j) :
    KR N (wp2 N D P j (nxN D (32 - k) k) J) (mWr N (msRw M (ckR M P j k)) w c) e (w + 1) ((c + 1) % N) (d + 1) fw := by
  obtain ⟨a1, a2, a3⟩ := page1 hN h.jr hd hv P j k hj hk
  obtain ⟨b1, b2, b3, b4, b5, b6⟩ := wp2_rest N D P j (nxN D (32 - k) k) hj J
  rw [if_neg (by omega)] at b1
  have hf : FP N J (msRw M (ckR M P j k)) c d := h.fp
  exact ⟨a1, FP_write hN h.jr.c2 hd hf b1, b2.trans h.ej, h.em, b3.trans h.eh, b4.trans h.ek, b5.trans h.ev, b6.trans h.dk⟩
/-- the first page: the needed part will begin there -/
theorem KR_page0 {N : Nat} (hN : 16 ≤ N ∧ N ≤ 64) {J : JS} {M : MS} {e w c d fw : Nat} (h : KR N J M e w c d fw) (hd : d + 1 < N) {D : DS} (hv : dCo D = mVa M) (P k : Nat) (hk : k ≤ 32) :
    KR N (wp2 N D P 0 (nxN D (32 - k) k) J) (mWr N (msRw (msNf M (mSe M + 1)) (ckR (msNf M (mSe M + 1)) P 0 k)) w c) e (w + 1) ((c + 1) % N) (d + 1) fw := by
  have j := h.jr
  have j' : JR N J (msNf M (mSe M + 1)) w c d fw := ⟨j.wa, j.wm, j.sc, j.sm, j.c2, j.se, j.ds, j.d2, j.wd, j.fn, j.f2, j.fj, j.nx, j.wt, j.ws⟩
  obtain ⟨a1, a2, a3⟩ := page1 hN j' hd (D := D) hv P 0 k (by omega) hk
  obtain ⟨b1, b2, b3, b4, b5, b6⟩ := wp2_rest N D P 0 (nxN D (32 - k) k) (by omega) J
  rw [if_pos rfl, j.sc, bhd_in hN j.c2] at b1
  refine ⟨a1, .inr ⟨0, by omega, ?_, ?_⟩, b2.trans h.ej, h.em, b3.trans h.eh, b4.trans h.ek, b5.trans h.ev, b6.trans h.dk⟩
  · show mSe M + 1 - (mSe M + 1) = nI 0
    rw [Int32.sub_self]; rfl
  · rw [b1, show (c + 1) % N + N - 0 = (c + 1) % N + N by omega, Nat.add_mod_right, Nat.mod_mod]
theorem KR_pages {N : Nat} (hN : 16 ≤ N ∧ N ≤ 64) {D : DS} (P : Nat) (e fw : Nat) : ∀ (n j k w c d : Nat) (J : JS) (M : MS), KR N J M e w c d fw → dCo D = mVa M → d + n < N → 1 ≤ j → j + n < 1000 → k ≤ 32 →
    ∃ w' c' d', KR N (wpg N D P n j (nxN D (32 - k) k) J) (cpL N P n j k w c M) e w' c' d' fw
  | 0, j, k, w, c, d, J, M, h, _, _, _, _, _ => ⟨w, c, d, h⟩
  | n + 1, j, k, w, c, d, J, M, h, hv, hd, hj, hj2, hk => by
    have hp := KR_page hN h (by omega) hv P j k (by omega) hk hj
    obtain ⟨-, a2, a3⟩ := page1 hN h.jr (by omega) hv P j k (by omega) hk
    show ∃ w' c' d', KR N (wpg N D P n (j + 1) (jWPk N (wp1 N j J) D (nxN D (32 - k) k)) (wp2 N D P j (nxN D (32 - k) k) J)) (cpL N P n (j + 1) (ckX M k).1 (w + 1) ((c + 1) % N) (mWr N (msRw M (ckR M P j k)) w c)) e w' c' d' fw
    rw [a2]
    exact KR_pages hN P e fw n (j + 1) (ckX M k).1 (w + 1) ((c + 1) % N) (d + 1) _ _ hp hv (by omega) (by omega) (by omega) a3
theorem cpL_dict (N P : Nat) : ∀ (n j k w c : Nat) (M : MS), mOp (cpL N P n j k w c M) = mOp M ∧ mVa (cpL N P n j k w c M) = mVa M ∧ mHo (cpL N P n j k w c M) = mHo M ∧ mHe (cpL N P n j k w c M) = mHe M ∧ mDn (cpL N P n j k w c M) = mDn M ∧ mCm (cpL N P n j k w c M) = mCm M
  | 0, j, k, w, c, M => ⟨rfl, rfl, rfl, rfl, rfl, rfl⟩
  | n + 1, j, k, w, c, M => by
    unfold cpL
    exact cpL_dict N P n (j + 1) (ckX M k).1 (w + 1) ((c + 1) % N) (mWr N (msRw M (ckR M P j k)) w c)
theorem KR_ckp {N : Nat} (hN : 16 ≤ N ∧ N ≤ 64) {J : JS} {M : MS} {e w c d fw : Nat} (h : KR N J M e w c d fw) {D : DS} (hv : dCo D = mVa M) {P : Nat} (hP : 1 ≤ P) (hP2 : P ≤ 7) (hd : d + P < N) :
    ∃ w' c' d', KR N (jWPg N J D P) (mCkF N P M w c).2 e w' c' d' fw := by
  obtain ⟨n, rfl⟩ : ∃ n, P = n + 1 := ⟨P - 1, by omega⟩
  have j := h.jr
  have hp := KR_page0 hN h (by omega) hv (n + 1) 0 (by omega)
  have j' : JR N J (msNf M (mSe M + 1)) w c d fw := ⟨j.wa, j.wm, j.sc, j.sm, j.c2, j.se, j.ds, j.d2, j.wd, j.fn, j.f2, j.fj, j.nx, j.wt, j.ws⟩
  obtain ⟨-, a2, a3⟩ := page1 hN j' (by omega) (D := D) hv (n + 1) 0 0 (by omega) (by omega)
  show ∃ w' c' d', KR N (wpg N D (n + 1) n (0 + 1) (jWPk N (wp1 N 0 J) D (nxN D (32 - 0) 0)) (wp2 N D (n + 1) 0 (nxN D (32 - 0) 0) J)) (cpL N (n + 1) n (0 + 1) (ckX (msNf M (mSe M + 1)) 0).1 (w + 1) ((c + 1) % N) (mWr N (msRw (msNf M (mSe M + 1)) (ckR (msNf M (mSe M + 1)) (n + 1) 0 0)) w c)) e w' c' d' fw
  rw [a2]
  exact KR_pages hN (n + 1) e fw n (0 + 1) _ (w + 1) ((c + 1) % N) (d + 1) _ _ hp hv (by omega) (by omega) (by omega) a3
theorem bo_no {o : Int32} {op : Nat → Int32} (h : OpR o op) : (o = 0) ↔ (op 0 = 0 ∧ op 1 = 0 ∧ op 2 = 0) := by
  obtain ⟨x, y, z, h0, h1, h2, h3⟩ := h
  rw [h0, h1, h2, h3]; exact bo_zero x y z
theorem mWE_dict (N : Nat) (M : MS) (e w c : Nat) : mOp (mWE N M e w c) = mOp M ∧ mVa (mWE N M e w c) = mVa M ∧ mHo (mWE N M e w c) = mHo M ∧ mHe (mWE N M e w c) = mHe M ∧ mDn (mWE N M e w c) = mDn M ∧ mCm (mWE N M e w c) = mCm M := ⟨rfl, rfl, rfl, rfl, rfl, rfl⟩
theorem Rel_ckp {N : Nat} {X : XS} {M M' : MS} (R : Rel N X M) (u : xDn X = 0) (uc : xCm X = mCm M) {J : JS} {e w c d fw : Nat} (he : e ≤ 3) (m1 : mOp M' = mOp M) (m2 : mVa M' = mVa M) (m3 : mHo M' = mHo M) (m4 : mHe M' = mHe M) (m5 : mDn M' = mDn M) (m6 : mCm M' = mCm M) (k : KR N J M' e w c d fw) : Rel N (xsJ X J) M' := by
  refine ⟨?_, ?_, .inl ⟨u, ?_, e, w, c, d, fw, he, k⟩⟩
  · rw [m5]; exact R.dn
  · rw [m1, m2, m3, m4]; exact R.dr
  · rw [m6]; exact uc
theorem r_chk {N : Nat} (hN : 16 ≤ N ∧ N ≤ 64) {X : XS} {M : MS} (R : Rel N X M) : ∃ e w c P, Hy N X M e w c ∧ (pgF (xD X) 32).2 = nI P ∧ P ≤ 64 ∧ mPg M = nI P ∧ (mEn M ≤ 0 → ¬ mMay N M (nI P + 0) = 0 → w + P ≤ 64) ∧ (¬ mEn M ≤ 0 → ¬ mMay N M (nI P + 1) = 0 → w + 1 + P ≤ 64) ∧ (xChk N X e P).1 = (mChk N M e w c P).1 ∧ Rel N (xChk N X e P).2 (mChk N M e w c P).2 := by
  have hv : dCo (xD X) = mVa M := R.dr.va
  obtain ⟨P, hP, hP7, hp1, hp2⟩ := pg_both hv
  rcases R.st with ⟨u, uc, e, w, c, d, fw, he, kr⟩ | ⟨u, dd⟩
  · have hd2 := kr.jr.d2
    have hwd := kr.jr.wd
    obtain ⟨r1, r2⟩ := JR_room hN kr.jr (q := P) (by omega)
    obtain ⟨s1, s2⟩ := JR_room hN kr.jr (q := P + 1) (by omega)
    have r2' : mMay N M (nI P + 0) = if d + P < N then 1 else 0 := by rw [Int32.add_zero]; exact r2
    have s2' : mMay N M (nI P + 1) = if d + (P + 1) < N then 1 else 0 := by rw [nI_1]; exact s2
    refine ⟨e, w, c, P, KR_Hy hN he kr, hp1, by omega, hp2, fun _ q => ?_, fun _ q => ?_, ?_⟩
    · rw [r2'] at q
      by_cases x : d + P < N
      · omega
      · rw [if_neg x] at q; exact absurd rfl q
    · rw [s2'] at q
      by_cases x : d + (P + 1) < N
      · omega
      · rw [if_neg x] at q; exact absurd rfl q
    unfold xChk mChk
    rw [← R.dn, if_pos u, if_pos u, r2', s2', kr.em]
    have hb := bo_no R.dr.op
    by_cases o : dOp (xD X) = 0
    · obtain ⟨o0, o1, o2⟩ := hb.mp o
      have o0' : mOp M 0 = 0 := o0
      have o1' : mOp M 1 = 0 := o1
      have o2' : mOp M 2 = 0 := o2
      rw [if_pos o, if_pos o0', if_pos o1', if_pos o2']
      by_cases e0 : e = 0
      · subst e0
        have hj := due0 kr.ej
        rw [if_pos (show nI 0 ≤ 0 by decide +kernel), hj, nI_add, Nat.zero_add, r1]
        by_cases x : d + P < N
        · rw [if_pos x, if_neg (show ¬ (1 : Int32) = 0 by decide), if_neg (show ¬ (1 : Int32) = 0 by decide), jWL_0 N (xJ X) 0 kr.ej]
          obtain ⟨w', c', d', k'⟩ := KR_ckp hN kr hv hP hP7 x
          obtain ⟨m1, m2, m3, m4, m5, m6⟩ := cpL_dict N P P 0 0 w c (msNf M (mSe M + 1))
          exact ⟨rfl, Rel_ckp R u uc he m1 m2 m3 m4 m5 m6 k'⟩
        · rw [if_neg x, if_pos rfl, if_pos rfl]; exact ⟨rfl, R⟩
      · have hj := due1 kr.ej (by omega) he
        rw [if_neg (show ¬ nI e ≤ 0 from p_nN (c := 0) (n := e) (by omega) (by omega)), hj, nI_add, Nat.add_comm 1 P, s1]
        by_cases x : d + (P + 1) < N
        · rw [if_pos x, if_neg (show ¬ (1 : Int32) = 0 by decide), if_neg (show ¬ (1 : Int32) = 0 by decide)]
          have kl := KR_log hN kr (by omega) (by omega) (by omega)
          obtain ⟨w', c', d', k'⟩ := KR_ckp hN kl (D := xD X) hv hP hP7 (by omega)
          obtain ⟨m1, m2, m3, m4, m5, m6⟩ := cpL_dict N P P 0 0 (w + 1) ((c + 1) % N) (msNf (mWE N M e w c) (mSe (mWE N M e w c) + 1))
          exact ⟨rfl, Rel_ckp R u uc (by omega) m1 m2 m3 m4 m5 m6 k'⟩
        · rw [if_neg x, if_pos rfl, if_pos rfl]; exact ⟨rfl, R⟩
    · rw [if_neg o]
      by_cases o0 : mOp M 0 = 0
      · rw [if_pos o0]
        by_cases o1 : mOp M 1 = 0
        · rw [if_pos o1]
          by_cases o2 : mOp M 2 = 0
          · exact absurd (hb.mpr ⟨o0, o1, o2⟩) o
          · rw [if_neg o2]; exact ⟨rfl, R⟩
        · rw [if_neg o1]; exact ⟨rfl, R⟩
      · rw [if_neg o0]; exact ⟨rfl, R⟩
  · obtain ⟨c, hy⟩ := Dn_Hy dd
    refine ⟨0, 0, c, P, hy, hp1, by omega, hp2, fun _ _ => by omega, fun _ _ => by omega, ?_⟩
    unfold xChk mChk
    rw [← R.dn, u, if_neg (show ¬ (1 : Int32) = 0 by decide), if_neg (show ¬ (1 : Int32) = 0 by decide)]
    exact ⟨rfl, R⟩

/-! Part 93d: the journal -/
theorem md {a N : Nat} (h : a < 2 * N) : (a < N ∧ a % N = a) ∨ (N ≤ a ∧ a % N = a - N) := by
  by_cases e : a < N
  · exact .inl ⟨e, Nat.mod_eq_of_lt e⟩
  · exact .inr ⟨by omega, by rw [Nat.mod_eq_sub_mod (by omega), Nat.mod_eq_of_lt (by omega)]⟩
theorem bhd_in {N c : Nat} (hN : 16 ≤ N ∧ N ≤ 64) (hc : c < N) : bhd N (nI c) = nI ((c + 1) % N) := by
  unfold bhd
  rw [if_neg (p_n0 (by omega)), zpred (by omega), nI_1]
  rcases md (show c + 1 < 2 * N by omega) with ⟨a, b⟩ | ⟨a, b⟩
  · rw [if_neg (p_nN (by omega) (by omega)), b]
  · rw [if_pos (nI_le (by omega) (by omega)), b, show c + 1 - N = 0 by omega]; rfl
theorem i_ring (c d x : Int32) : c - (c + x) + (d + x) = d := by grind
theorem stp_in {N c d : Nat} (hN : 16 ≤ N ∧ N ≤ 64) (hc : c < N) (hd : d < N) : stp N (nI ((c + N - d) % N)) (nI c) = nI d := by
  unfold stp
  rcases md (show c + N - d < 2 * N by omega) with ⟨a, b⟩ | ⟨a, b⟩
  · have e : nI N = nI d + nI (N - d) := by rw [nI_add, show d + (N - d) = N by omega]
    rw [b, if_pos (p_lt (by omega) (by omega)), show c + N - d = c + (N - d) by omega, ← nI_add, e]
    exact i_ring _ _ _
  · rw [b, if_neg (by rw [nI_ltI (by omega) (by omega)]; omega), pk_sub (by omega), show c - (c + N - d - N) = d by omega]
theorem sub1 (a b : Int32) : a + 1 - b = a - b + 1 := by
  rw [Int32.sub_eq_add_neg, Int32.sub_eq_add_neg, Int32.add_assoc, Int32.add_comm 1, ← Int32.add_assoc]
abbrev JR (N : Nat) (J : JS) (M : MS) (w c d fw : Nat) : Prop := (jWa J = nI w) ∧ (mWa M = nI w) ∧ (jSc J = nI c) ∧ (mSc M = nI c) ∧ (c < N) ∧ (jSe J = mSe M) ∧ (mSe M - mWf M = nI d) ∧ (d < N) ∧ (w ≤ d) ∧ (jFn J = nI ((c + N - d) % N)) ∧ (fw < N) ∧ (0 < w → jFw J = nI fw) ∧ ((c + 1) % N = (fw + w) % N) ∧ (∀ i, i < w → mWt M i = nI ((fw + i) % N)) ∧ (∀ i, i < w → ∀ k, k < 32 → b8 (jMm J (32 * ((fw + i) % N) + k)) = b8 (mWs M (32 * i + k)))
theorem JR.wa {N : Nat} {J : JS} {M : MS} {w c d fw : Nat} (h : JR N J M w c d fw) : jWa J = nI w := h.1
theorem JR.wm {N : Nat} {J : JS} {M : MS} {w c d fw : Nat} (h : JR N J M w c d fw) : mWa M = nI w := h.2.1
theorem JR.sc {N : Nat} {J : JS} {M : MS} {w c d fw : Nat} (h : JR N J M w c d fw) : jSc J = nI c := h.2.2.1
theorem JR.sm {N : Nat} {J : JS} {M : MS} {w c d fw : Nat} (h : JR N J M w c d fw) : mSc M = nI c := h.2.2.2.1
theorem JR.c2 {N : Nat} {J : JS} {M : MS} {w c d fw : Nat} (h : JR N J M w c d fw) : c < N := h.2.2.2.2.1
theorem JR.se {N : Nat} {J : JS} {M : MS} {w c d fw : Nat} (h : JR N J M w c d fw) : jSe J = mSe M := h.2.2.2.2.2.1
theorem JR.ds {N : Nat} {J : JS} {M : MS} {w c d fw : Nat} (h : JR N J M w c d fw) : mSe M - mWf M = nI d := h.2.2.2.2.2.2.1
theorem JR.d2 {N : Nat} {J : JS} {M : MS} {w c d fw : Nat} (h : JR N J M w c d fw) : d < N := h.2.2.2.2.2.2.2.1
theorem JR.wd {N : Nat} {J : JS} {M : MS} {w c d fw : Nat} (h : JR N J M w c d fw) : w ≤ d := h.2.2.2.2.2.2.2.2.1
theorem JR.fn {N : Nat} {J : JS} {M : MS} {w c d fw : Nat} (h : JR N J M w c d fw) : jFn J = nI ((c + N - d) % N) := h.2.2.2.2.2.2.2.2.2.1
theorem JR.f2 {N : Nat} {J : JS} {M : MS} {w c d fw : Nat} (h : JR N J M w c d fw) : fw < N := h.2.2.2.2.2.2.2.2.2.2.1
theorem JR.fj {N : Nat} {J : JS} {M : MS} {w c d fw : Nat} (h : JR N J M w c d fw) : 0 < w → jFw J = nI fw := h.2.2.2.2.2.2.2.2.2.2.2.1
theorem JR.nx {N : Nat} {J : JS} {M : MS} {w c d fw : Nat} (h : JR N J M w c d fw) : (c + 1) % N = (fw + w) % N := h.2.2.2.2.2.2.2.2.2.2.2.2.1
theorem JR.wt {N : Nat} {J : JS} {M : MS} {w c d fw : Nat} (h : JR N J M w c d fw) : ∀ i, i < w → mWt M i = nI ((fw + i) % N) := h.2.2.2.2.2.2.2.2.2.2.2.2.2.1
theorem JR.ws {N : Nat} {J : JS} {M : MS} {w c d fw : Nat} (h : JR N J M w c d fw) : ∀ i, i < w → ∀ k, k < 32 → b8 (jMm J (32 * ((fw + i) % N) + k)) = b8 (mWs M (32 * i + k)) := h.2.2.2.2.2.2.2.2.2.2.2.2.2.2
def FP (N : Nat) (J : JS) (M : MS) (c d : Nat) : Prop := (jFp J = -1 ∧ mNf M = mWf M) ∨ ∃ q, q ≤ d ∧ mSe M - mNf M = nI q ∧ jFp J = nI ((c + N - q) % N)
theorem mwS_at (w : Nat) (r g : Nat → Int32) (j : Nat) : ∀ n, mwS w r g n j = if 32 * w ≤ j ∧ j < 32 * w + n then b8 (r (j - 32 * w)) else g j
  | 0 => by rw [if_neg (by omega)]; rfl
  | n + 1 => by
    show upd (mwS w r g n) (32 * w + n) (b8 (r n)) j = _
    by_cases e : j = 32 * w + n
    · rw [e, pk_us, if_pos (by omega), show 32 * w + n - 32 * w = n by omega]
    · rw [pk_un e, mwS_at w r g j n]
      by_cases e2 : 32 * w ≤ j ∧ j < 32 * w + n
      · rw [if_pos e2, if_pos (by omega)]
      · rw [if_neg e2, if_neg (by omega)]
theorem JR_need {N : Nat} (hN : 16 ≤ N ∧ N ≤ 64) {J : JS} {M : MS} {w c d fw : Nat} (h : JR N J M w c d fw) : jNeed N J = nI (d + 1) ∧ mNeed M = nI (d + 1) := by
  unfold jNeed mNeed
  rw [h.fn, h.sc, stp_in hN h.c2 h.d2, h.ds, nI_1]
  exact ⟨rfl, rfl⟩
theorem JR_room {N : Nat} (hN : 16 ≤ N ∧ N ≤ 64) {J : JS} {M : MS} {w c d fw : Nat} (h : JR N J M w c d fw) {q : Nat} (hq : q < 1000) : jRoom N J (nI q) = (if d + q < N then 1 else 0) ∧ mMay N M (nI q) = (if d + q < N then 1 else 0) := by
  obtain ⟨a, b⟩ := JR_need hN h
  have h2 := h.d2
  unfold jRoom mMay
  rw [a, b, nI_add]
  by_cases e : d + q < N
  · rw [if_neg (by rw [nI_ltI (by omega) (by omega)]; omega), if_pos e]; exact ⟨rfl, rfl⟩
  · rw [if_pos (by rw [nI_ltI (by omega) (by omega)]; omega), if_neg e]; exact ⟨rfl, rfl⟩
theorem jNext_0 (N : Nat) (J : JS) (h : jWa J = 0) : jNext N J = jsWa (jsFw (jsSc (jsSe J (jSe J + 1)) (bhd N (jSc J))) (bhd N (jSc J))) (jWa J + 1) := if_pos h
theorem jNext_1 (N : Nat) (J : JS) (h : ¬ jWa J = 0) : jNext N J = jsWa (jsSc (jsSe J (jSe J + 1)) (bhd N (jSc J))) (jWa J + 1) := if_neg h
theorem jNext_all (N : Nat) (J : JS) : jWa (jNext N J) = jWa J + 1 ∧ jSc (jNext N J) = bhd N (jSc J) ∧ jSe (jNext N J) = jSe J + 1 ∧ jFn (jNext N J) = jFn J ∧ jFp (jNext N J) = jFp J ∧ jMm (jNext N J) = jMm J ∧ jDk (jNext N J) = jDk J ∧ jEn (jNext N J) = jEn J ∧ jEh (jNext N J) = jEh J ∧ jEk (jNext N J) = jEk J ∧ jEv (jNext N J) = jEv J ∧ (jFw (jNext N J) = if jWa J = 0 then bhd N (jSc J) else jFw J) := by
  by_cases e : jWa J = 0
  · rw [jNext_0 N J e, if_pos e]; exact ⟨rfl, rfl, rfl, rfl, rfl, rfl, rfl, rfl, rfl, rfl, rfl, rfl⟩
  · rw [jNext_1 N J e, if_neg e]; exact ⟨rfl, rfl, rfl, rfl, rfl, rfl, rfl, rfl, rfl, rfl, rfl, rfl⟩
theorem JR_write {N : Nat} (hN : 16 ≤ N ∧ N ≤ 64) {J : JS} {M : MS} {w c d fw : Nat} (h : JR N J M w c d fw) (hd : d + 1 < N) {J' : JS} (g : Nat → Int32)
    (j1 : jWa J' = jWa (jNext N J)) (j2 : jSc J' = jSc (jNext N J)) (j3 : jSe J' = jSe (jNext N J)) (j4 : jFn J' = jFn (jNext N J)) (j5 : jFw J' = jFw (jNext N J)) (j6 : jMm J' = g)
    (hg : RE ((c + 1) % N) (jMm J) g (slRow (mRw M) (nI ((c + 1) % N)))) : JR N J' (mWr N M w c) (w + 1) ((c + 1) % N) (d + 1) fw := by
  obtain ⟨n1, n2, n3, n4, -, -, -, -, -, -, -, n5⟩ := jNext_all N J
  have hc := h.c2
  have hw := h.wd
  have hf := h.f2
  have hnx := h.nx
  have hb : bhd N (jSc J) = nI ((c + 1) % N) := by rw [h.sc, bhd_in hN hc]
  refine ⟨?_, rfl, ?_, rfl, Nat.mod_lt _ (by omega), ?_, ?_, hd, by omega, ?_, hf, fun _ => ?_, ?_, fun i hi => ?_, fun i hi k hk => ?_⟩
  · rw [j1, n1, h.wa, nI_1]
  · rw [j2, n2, hb]
  · rw [j3, n3, h.se]; rfl
  · show mSe M + 1 - mWf M = nI (d + 1)
    rw [sub1, h.ds, nI_1]
  · rw [j4, n4, h.fn]
    congr 1
    have hd2 := h.d2
    rcases md (show c + 1 < 2 * N by omega) with ⟨a, b⟩ | ⟨a, b⟩ <;> rw [b] <;> rcases md (show c + N - d < 2 * N by omega) with ⟨a2, b2⟩ | ⟨a2, b2⟩ <;> rw [b2]
    · rcases md (show c + 1 + N - (d + 1) < 2 * N by omega) with ⟨a3, b3⟩ | ⟨a3, b3⟩ <;> rw [b3] <;> omega
    · rcases md (show c + 1 + N - (d + 1) < 2 * N by omega) with ⟨a3, b3⟩ | ⟨a3, b3⟩ <;> rw [b3] <;> omega
    · rcases md (show c + 1 - N + N - (d + 1) < 2 * N by omega) with ⟨a3, b3⟩ | ⟨a3, b3⟩ <;> rw [b3] <;> omega
    · rcases md (show c + 1 - N + N - (d + 1) < 2 * N by omega) with ⟨a3, b3⟩ | ⟨a3, b3⟩ <;> rw [b3] <;> omega
  · rw [j5, n5, hb]
    by_cases e : w = 0
    · rw [if_pos (by rw [h.wa, e]; rfl), hnx, e, Nat.add_zero, Nat.mod_eq_of_lt hf]
    · rw [if_neg (by rw [h.wa]; exact nI_ne0 (by omega) (by omega)), h.fj (by omega)]
  · rw [hnx, ← Nat.add_assoc, Nat.mod_add_mod]
  · show upd (mWt M) w (nI ((c + 1) % N)) i = _
    by_cases e : i = w
    · rw [e, pk_us, hnx]
    · rw [pk_un e, h.wt i (by omega)]
  · show b8 (jMm J' (32 * ((fw + i) % N) + k)) = b8 (mwS w (slRow (mRw M) (nI ((c + 1) % N))) (mWs M) 32 (32 * i + k))
    rw [j6, mwS_at]
    by_cases e : i = w
    · rw [e, if_pos (by omega), ← hnx, hg.1 k hk, b8_b8, show 32 * w + k - 32 * w = k by omega]
    · rw [if_neg (by omega), ← h.ws i (by omega) k hk, hg.2]
      have : (fw + i) % N ≠ (c + 1) % N := by
        rw [hnx]
        rcases md (show fw + i < 2 * N by omega) with ⟨a, b⟩ | ⟨a, b⟩ <;> rw [b] <;> rcases md (show fw + w < 2 * N by omega) with ⟨a2, b2⟩ | ⟨a2, b2⟩ <;> rw [b2] <;> omega
      omega
theorem FP_write {N : Nat} (hN : 16 ≤ N ∧ N ≤ 64) {J J' : JS} {M : MS} {w c d : Nat} (hc : c < N) (hd : d + 1 < N) (h : FP N J M c d) (hj : jFp J' = jFp J) : FP N J' (mWr N M w c) ((c + 1) % N) (d + 1) := by
  rcases h with ⟨a, b⟩ | ⟨q, h1, h2, h3⟩
  · exact .inl ⟨by rw [hj, a], b⟩
  · refine .inr ⟨q + 1, by omega, ?_, ?_⟩
    · show mSe M + 1 - mNf M = nI (q + 1)
      rw [sub1, h2, nI_1]
    · rw [hj, h3]
      congr 1
      rcases md (show c + 1 < 2 * N by omega) with ⟨a, b⟩ | ⟨a, b⟩ <;> rw [b] <;> rcases md (show c + N - q < 2 * N by omega) with ⟨a2, b2⟩ | ⟨a2, b2⟩ <;> rw [b2]
      · rcases md (show c + 1 + N - (q + 1) < 2 * N by omega) with ⟨a3, b3⟩ | ⟨a3, b3⟩ <;> rw [b3] <;> omega
      · rcases md (show c + 1 + N - (q + 1) < 2 * N by omega) with ⟨a3, b3⟩ | ⟨a3, b3⟩ <;> rw [b3] <;> omega
      · rcases md (show c + 1 - N + N - (q + 1) < 2 * N by omega) with ⟨a3, b3⟩ | ⟨a3, b3⟩ <;> rw [b3] <;> omega
      · rcases md (show c + 1 - N + N - (q + 1) < 2 * N by omega) with ⟨a3, b3⟩ | ⟨a3, b3⟩ <;> rw [b3] <;> omega

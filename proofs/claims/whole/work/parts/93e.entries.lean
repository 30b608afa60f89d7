/-! Part 93e: entries, logs, sync and cut -/
abbrev KR (N : Nat) (J : JS) (M : MS) (e w c d fw : Nat) : Prop := (JR N J M w c d fw) ∧ (FP N J M c d) ∧ (jEn J = nI e) ∧ (mEn M = nI e) ∧ (jEh J = mEh M) ∧ (jEk J = mEk M) ∧ (jEv J = mEv M) ∧ (jDk J = mDk M)
theorem KR.jr {N : Nat} {J : JS} {M : MS} {e w c d fw : Nat} (h : KR N J M e w c d fw) : JR N J M w c d fw := h.1
theorem KR.fp {N : Nat} {J : JS} {M : MS} {e w c d fw : Nat} (h : KR N J M e w c d fw) : FP N J M c d := h.2.1
theorem KR.ej {N : Nat} {J : JS} {M : MS} {e w c d fw : Nat} (h : KR N J M e w c d fw) : jEn J = nI e := h.2.2.1
theorem KR.em {N : Nat} {J : JS} {M : MS} {e w c d fw : Nat} (h : KR N J M e w c d fw) : mEn M = nI e := h.2.2.2.1
theorem KR.eh {N : Nat} {J : JS} {M : MS} {e w c d fw : Nat} (h : KR N J M e w c d fw) : jEh J = mEh M := h.2.2.2.2.1
theorem KR.ek {N : Nat} {J : JS} {M : MS} {e w c d fw : Nat} (h : KR N J M e w c d fw) : jEk J = mEk M := h.2.2.2.2.2.1
theorem KR.ev {N : Nat} {J : JS} {M : MS} {e w c d fw : Nat} (h : KR N J M e w c d fw) : jEv J = mEv M := h.2.2.2.2.2.2.1
theorem KR.dk {N : Nat} {J : JS} {M : MS} {e w c d fw : Nat} (h : KR N J M e w c d fw) : jDk J = mDk M := h.2.2.2.2.2.2.2
theorem KR_M {N : Nat} {J : JS} {M M' : MS} {e w c d fw : Nat} (h : KR N J M e w c d fw) (a1 : mWa M' = mWa M) (a2 : mSc M' = mSc M) (a3 : mSe M' = mSe M) (a4 : mWf M' = mWf M) (a5 : mWt M' = mWt M) (a6 : mWs M' = mWs M) (a7 : mNf M' = mNf M) (a8 : mEn M' = mEn M) (a9 : mEh M' = mEh M) (b1 : mEk M' = mEk M) (b2 : mEv M' = mEv M) (b3 : mDk M' = mDk M) : KR N J M' e w c d fw := by
  have j := h.jr
  refine ⟨⟨j.wa, by rw [a1]; exact j.wm, j.sc, by rw [a2]; exact j.sm, j.c2, by rw [a3]; exact j.se, by rw [a3, a4]; exact j.ds, j.d2, j.wd, j.fn, j.f2, j.fj, j.nx, by rw [a5]; exact j.wt, by rw [a6]; exact j.ws⟩, ?_, h.ej, by rw [a8]; exact h.em, by rw [a9]; exact h.eh, by rw [b1]; exact h.ek, by rw [b2]; exact h.ev, by rw [b3]; exact h.dk⟩
  have f := h.fp
  unfold FP at f ⊢
  rw [a3, a4, a7]; exact f
theorem jWL_1 (N : Nat) (J : JS) (e : Nat) (h : ¬ jEn J = 0) : jWL N J e = jsEn (jsMm (jNext N J) (sealS N (wlL N (jSc (jNext N J)) (jEh (jNext N J)) (jEk (jNext N J)) (jEv (jNext N J)) (prep N (jMm (jNext N J)) (jSc (jNext N J)) 1 (jSe (jNext N J)) (nI e)) e) (jSc (jNext N J)))) 0 := if_neg h
theorem jWL_0 (N : Nat) (J : JS) (e : Nat) (h : jEn J = 0) : jWL N J e = J := if_pos h
theorem KR_log {N : Nat} (hN : 16 ≤ N ∧ N ≤ 64) {J : JS} {M : MS} {e w c d fw : Nat} (h : KR N J M e w c d fw) (he : 1 ≤ e) (he4 : e ≤ 4) (hd : d + 1 < N) : KR N (jWL N J e) (mWE N M e w c) 0 (w + 1) ((c + 1) % N) (d + 1) fw := by
  have j := h.jr
  obtain ⟨n1, n2, n3, n4, n5, n6, n7, n8, n9, m1, m2, m3⟩ := jNext_all N J
  have hb : jSc (jNext N J) = nI ((c + 1) % N) := by rw [n2, j.sc, bhd_in hN j.c2]
  have hc' : (c + 1) % N < N := Nat.mod_lt _ (by omega)
  rw [jWL_1 N J e (by rw [h.ej]; exact nI_ne0 (by omega) (by omega))]
  rw [hb, n9, m1, m2, n6, n3, h.eh, h.ek, h.ev, j.se]
  generalize hG : sealS N (wlL N (nI ((c + 1) % N)) (mEh M) (mEk M) (mEv M) (prep N (jMm J) (nI ((c + 1) % N)) 1 (mSe M + 1) (nI e)) e) (nI ((c + 1) % N)) = G
  have hg : RE ((c + 1) % N) (jMm J) G (slRow (weL (mEh M) (mEk M) (mEv M) (upd (clRow (mRw M) 1 (mSe M + 1)) 5 (b8 (nI e))) e) (nI ((c + 1) % N))) := by
    rw [← hG]
    exact RE_seal hN hc' (RE_wl hN hc' (RE_prep hN hc' (jMm J) (mRw M) 1 (mSe M + 1) (nI e)) _ _ _ e he4)
  generalize hR : weL (mEh M) (mEk M) (mEv M) (upd (clRow (mRw M) 1 (mSe M + 1)) 5 (b8 (nI e))) e = R at hg
  have hM : KR N J (msRw M R) e w c d fw := KR_M h rfl rfl rfl rfl rfl rfl rfl rfl rfl rfl rfl rfl
  have hw : JR N (jsEn (jsMm (jNext N J) G) 0) (mWr N (msRw M R) w c) (w + 1) ((c + 1) % N) (d + 1) fw := JR_write hN hM.jr hd G rfl rfl rfl rfl rfl rfl hg
  have hf : FP N (jsEn (jsMm (jNext N J) G) 0) (mWr N (msRw M R) w c) ((c + 1) % N) (d + 1) := FP_write hN j.c2 hd hM.fp n5
  have e1 : mWE N M e w c = msEn (mWr N (msRw M R) w c) 0 := by unfold mWE; rw [hR]
  rw [e1]
  exact ⟨⟨hw.wa, hw.wm, hw.sc, hw.sm, hw.c2, hw.se, hw.ds, hw.d2, hw.wd, hw.fn, hw.f2, hw.fj, hw.nx, hw.wt, hw.ws⟩, hf, rfl, rfl, n9.trans h.eh, m1.trans h.ek, m2.trans h.ev, n7.trans h.dk⟩
theorem KR_put1 {N : Nat} {J : JS} {M : MS} {e w c d fw : Nat} (h : KR N J M e w c d fw) (t wh k v : Int32) : KR N (jPut1 J t wh k v e) (mPut1 M (4 * t + wh) k v e) (e + 1) w c d fw := by
  have j := h.jr
  refine ⟨⟨j.wa, j.wm, j.sc, j.sm, j.c2, j.se, j.ds, j.d2, j.wd, j.fn, j.f2, j.fj, j.nx, j.wt, j.ws⟩, h.fp, rfl, rfl, ?_, ?_, ?_, h.dk⟩
  · show upd (jEh J) e (4 * t + wh) = upd (mEh M) e (4 * t + wh)
    rw [h.eh]
  · show upd (jEk J) e k = upd (mEk M) e k
    rw [h.ek]
  · show upd (jEv J) e v = upd (mEv M) e v
    rw [h.ev]
theorem KR_take {N : Nat} (hN : 16 ≤ N ∧ N ≤ 64) {J : JS} {M : MS} {e w c d fw : Nat} (h : KR N J M e w c d fw) (he : e ≤ 3) (hd : e = 3 → d + 1 < N) (t wh k v : Int32) : ∃ e' w' c' d', e' ≤ 3 ∧ KR N (jTake N J t wh k v e) (mAdd N M (4 * t + wh) k v e w c) e' w' c' d' fw := by
  have h1 := KR_put1 h t wh k v
  unfold jTake mAdd
  by_cases e3 : e = 3
  · rw [if_pos (by rw [e3]; rfl), if_pos (by rw [e3]; rfl)]
    rw [e3] at h1
    exact ⟨0, w + 1, (c + 1) % N, d + 1, by omega, by rw [e3]; exact KR_log hN h1 (by omega) (by omega) (hd e3)⟩
  · have : ¬ nI (e + 1) = 4 := fun q => by
      rw [show (4 : Int32) = nI 4 from rfl, nI_eq (by omega) (by omega)] at q
      omega
    rw [if_neg this, if_neg this]
    exact ⟨e + 1, w, c, d, by omega, h1⟩
/-- canTakeEntry and mayAdd -/
theorem KR_can {N : Nat} (hN : 16 ≤ N ∧ N ≤ 64) {J : JS} {M : MS} {e w c d fw : Nat} (h : KR N J M e w c d fw) (he : e ≤ 3) : jCan N J = mCan N M ∧ (¬ mCan N M = 0 → e = 3 → d + 1 < N) := by
  obtain ⟨a, b⟩ := JR_room hN h.jr (q := 1) (by omega)
  have a' : jRoom N J 1 = _ := a
  have b' : mMay N M 1 = _ := b
  unfold jCan mCan
  rw [h.ej, h.em, a', b']
  refine ⟨rfl, fun q e3 => ?_⟩
  rw [e3, if_neg (by decide +kernel)] at q
  by_cases x : d + 1 < N
  · exact x
  · rw [if_neg x] at q; exact absurd rfl q
/-! sync -/
theorem cp_ly {N s i : Nat} (hN : 16 ≤ N ∧ N ≤ 64) (hs : s < N) (f mm ws : Nat → Int32) (h : ∀ k, k < 32 → b8 (mm (32 * s + k)) = b8 (ws (32 * i + k))) : ∀ n, n ≤ 32 → cpS N f mm (nI s) n = lyL s i ws f n
  | 0, _ => rfl
  | n + 1, hn => by
    show sB N (cpS N f mm (nI s) n) (nI s) (nI n) (bOf N mm (nI s) (nI n)) = upd (lyL s i ws f n) (32 * s + n) (b8 (ws (32 * i + n)))
    rw [cp_ly hN hs f mm ws h n (by omega), bOf_in hN hs (by omega), sB_in hN hs (by omega), ← h n (by omega)]
    unfold bA
    rw [b8_and]
theorem pod_snoc (N : Nat) (mm : Nat → Int32) : ∀ (n : Nat) (s : Int32) (f : Nat → Int32), pod N mm (n + 1) s f = (bhd N (pod N mm n s f).1, cpS N (pod N mm n s f).2 mm (pod N mm n s f).1 32)
  | 0, s, f => rfl
  | n + 1, s, f => by
    show pod N mm (n + 1) (bhd N s) (cpS N f mm s 32) = _
    rw [pod_snoc N mm n]
    rfl
theorem pod_ly {N : Nat} (hN : 16 ≤ N ∧ N ≤ 64) {J : JS} {M : MS} {w c d fw : Nat} (h : JR N J M w c d fw) (f : Nat → Int32) : ∀ n, n ≤ w → pod N (jMm J) n (nI fw) f = (nI ((fw + n) % N), lyA (mWt M) (mWs M) f n)
  | 0, _ => by
    show (nI fw, f) = (nI ((fw + 0) % N), f)
    rw [Nat.add_zero, Nat.mod_eq_of_lt h.f2]
  | n + 1, hn => by
    have hm : (fw + n) % N < N := Nat.mod_lt _ (by omega)
    rw [pod_snoc, pod_ly hN h f n (by omega)]
    show (bhd N (nI ((fw + n) % N)), cpS N (lyA (mWt M) (mWs M) f n) (jMm J) (nI ((fw + n) % N)) 32) = (_, lyL (mWt M n).toNatClampNeg n (mWs M) (lyA (mWt M) (mWs M) f n) 32)
    rw [bhd_in hN hm, Nat.mod_add_mod, cp_ly hN hm _ _ (mWs M) (fun k hk => h.ws n (by omega) k hk) 32 (by omega), h.wt n (by omega), nI_clamp (by omega)]
    rfl
theorem jPod_ly {N : Nat} (hN : 16 ≤ N ∧ N ≤ 64) {J : JS} {M : MS} {w c d fw : Nat} (h : JR N J M w c d fw) (hk : jDk J = mDk M) {n : Nat} (hn : n ≤ w) : (jPod N J n).2 = lyA (mWt M) (mWs M) (mDk M) n ∧ (n < w → (jPod N J n).1 = nI ((fw + n) % N)) := by
  unfold jPod
  rw [hk]
  by_cases e : w = 0
  · rw [show n = 0 by omega]; exact ⟨rfl, fun q => by omega⟩
  · rw [h.fj (by omega), pod_ly hN h _ n hn]; exact ⟨rfl, fun _ => rfl⟩
theorem JR_wtOk {N : Nat} (hN : 16 ≤ N ∧ N ≤ 64) {J : JS} {M : MS} {w c d fw : Nat} (h : JR N J M w c d fw) : wtOk N (mWt M) w := fun i hi => by
  have hm : (fw + i) % N < N := Nat.mod_lt _ (by omega)
  rw [h.wt i hi, nI_clamp (by omega)]
  exact ⟨rfl, hm⟩
theorem KR_all {N : Nat} (hN : 16 ≤ N ∧ N ≤ 64) {J : JS} {M : MS} {e w c d fw : Nat} (h : KR N J M e w c d fw) : ∃ d' fw', KR N (jAll N J w) (mSyF M w).2 e 0 c d' fw' := by
  have j := h.jr
  have hc := j.c2
  have hk := (jPod_ly hN j h.dk (Nat.le_refl w)).1
  unfold jAll
  rcases h.fp with ⟨a, b⟩ | ⟨q, h1, h2, h3⟩
  · rw [if_pos a]
    refine ⟨d, (c + 1) % N, ⟨⟨rfl, rfl, j.sc, j.sm, j.c2, j.se, ?_, j.d2, by omega, j.fn, Nat.mod_lt _ (by omega), fun q => by omega, ?_, fun i hi => by omega, fun i hi => by omega⟩, .inl ⟨a, rfl⟩, h.ej, h.em, h.eh, h.ek, h.ev, hk⟩⟩
    · show mSe M - mNf M = nI d
      rw [b]; exact j.ds
    · rw [show (c + 1) % N + 0 = (c + 1) % N from rfl, Nat.mod_mod]
  · have hd := j.d2
    rw [if_neg (by rw [h3]; exact nI_nm1 (by have := Nat.mod_lt (c + N - q) (show N > 0 by omega); omega))]
    refine ⟨q, (c + 1) % N, ⟨⟨rfl, rfl, j.sc, j.sm, j.c2, j.se, h2, by omega, by omega, h3, Nat.mod_lt _ (by omega), fun q => by omega, ?_, fun i hi => by omega, fun i hi => by omega⟩, .inl ⟨rfl, rfl⟩, h.ej, h.em, h.eh, h.ek, h.ev, hk⟩⟩
    rw [show (c + 1) % N + 0 = (c + 1) % N from rfl, Nat.mod_mod]
/-- what a cut leaves on the disk -/
theorem KR_lose {N : Nat} (hN : 16 ≤ N ∧ N ≤ 64) {J : JS} {M : MS} {e w c d fw : Nat} (h : KR N J M e w c d fw) {kp tr : Nat} (hkp : kp ≤ w) (htr : tr ≤ 32) : jDk (jLose N J kp tr w) = mCutD M kp tr w ∧ jEn (jLose N J kp tr w) = 0 ∧ jWa (jLose N J kp tr w) = 0 ∧ jFp (jLose N J kp tr w) = -1 ∧ jEh (jLose N J kp tr w) = jEh J ∧ jEk (jLose N J kp tr w) = jEk J ∧ jEv (jLose N J kp tr w) = jEv J := by
  have j := h.jr
  have hw := j.wd
  have hd := j.d2
  obtain ⟨a, b⟩ := jPod_ly hN j h.dk hkp
  unfold jLose mCutD
  by_cases x : w ≤ kp
  · rw [if_pos (nI_le x (by omega)), if_pos (nI_le x (by omega))]
    exact ⟨a, rfl, rfl, rfl, rfl, rfl, rfl⟩
  · rw [if_neg (p_nN (by omega) (by omega)), if_neg (p_nN (by omega) (by omega))]
    refine ⟨?_, rfl, rfl, rfl, rfl, rfl, rfl⟩
    have hm : (fw + kp) % N < N := Nat.mod_lt _ (by omega)
    show cpS N (jPod N J kp).2 (jMm J) (jPod N J kp).1 tr = _
    rw [a, b (by omega), cp_ly hN hm _ _ (mWs M) (fun k hk => j.ws kp (by omega) k hk) tr htr, j.wt kp (by omega), nI_clamp (by omega)]

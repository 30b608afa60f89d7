/-! Part 93a: sectors read, in the reference's words -/
theorem p_ix {c k : Nat} (hc : c < 64) (hk : k < 32) : (nI c * 32 + nI k).toNatClampNeg = 32 * c + k := by
  rw [show (32 : Int32) = nI 32 from rfl, zmul, nI_add, nI_clamp (by omega)]; omega
theorem p_n0 {c : Nat} (hc : c < 2 ^ 31) : ¬ nI c < 0 := by
  rw [show (0 : Int32) = nI 0 from rfl, nI_ltI (by omega) (by omega)]; omega
theorem p_nN {c n : Nat} (hc : c < n) (hn : n < 2 ^ 31) : ¬ nI n ≤ nI c := by
  rw [nI_leI (by omega) (by omega)]; omega
theorem p_lt {c n : Nat} (hc : c < n) (hn : n < 2 ^ 31) : nI c < nI n := by
  rw [nI_ltI (by omega) (by omega)]; exact hc
theorem bOf_in {N : Nat} (hN : 16 ≤ N ∧ N ≤ 64) {c k : Nat} (hc : c < N) (hk : k < 32) (f : Nat → Int32) : bOf N f (nI c) (nI k) = bA f c k := by
  unfold bOf bA
  rw [if_neg (p_n0 (by omega)), if_neg (p_nN hc (by omega)), if_neg (p_n0 (by omega)), if_pos (show nI k < 32 from p_lt (n := 32) hk (by omega)), p_ix (by omega) hk]
theorem sB_in {N : Nat} (hN : 16 ≤ N ∧ N ≤ 64) {c k : Nat} (hc : c < N) (hk : k < 32) (f : Nat → Int32) (v : Int32) : sB N f (nI c) (nI k) v = upd f (32 * c + k) (b8 v) := by
  unfold sB
  rw [if_neg (p_n0 (by omega)), if_neg (p_nN hc (by omega)), if_neg (p_n0 (by omega)), if_pos (show nI k < 32 from p_lt (n := 32) hk (by omega)), p_ix (by omega) hk]
theorem nOf_in {N : Nat} (hN : 16 ≤ N ∧ N ≤ 64) {c u : Nat} (hc : c < N) (f : Nat → Int32) : ∀ n, u + n ≤ 32 → nOf N f (nI c) (nI u) n = nA f c u n
  | 0, _ => rfl
  | n + 1, h => by
    show (nOf N f (nI c) (nI u) n <<< (8 &&& 31)) ||| bOf N f (nI c) (nI u + nI n) = (nA f c u n <<< (8 &&& 31)) ||| bA f c (u + n)
    rw [nOf_in hN hc f n (by omega), nI_add, bOf_in hN hc (by omega)]
theorem smL_in {c : Nat} (hc : c < 64) (f : Nat → Int32) : ∀ n, n ≤ 28 → smL f (nI c) n = smA f c n
  | 0, _ => rfl
  | n + 1, h => by
    show _ = stpM (smA f c n) (f (32 * c + n) &&& 255)
    unfold smL stpM
    rw [smL_in hc f n (by omega), p_ix hc (by omega)]
theorem smOf_in {N : Nat} (hN : 16 ≤ N ∧ N ≤ 64) {c : Nat} (hc : c < N) (f : Nat → Int32) : smOf N f (nI c) = smA f c 28 := by
  unfold smOf
  rw [if_neg (p_n0 (by omega)), if_pos (p_lt hc (by omega)), smL_in (by omega) f 28 (by omega)]
theorem bA_ne (f : Nat → Int32) (c k : Nat) : ¬ bA f c k = -1 := fun h => by
  have h1 := (bA_rng f c k).1
  rw [h] at h1
  exact absurd h1 (by decide)
theorem isS_in {N : Nat} (hN : 16 ≤ N ∧ N ≤ 64) {c : Nat} (hc : c < N) (f : Nat → Int32) : isS N f (nI c) = mSnd f c := by
  unfold isS mSnd
  rw [show (28 : Int32) = nI 28 from rfl, bOf_in hN hc (by omega), if_neg (bA_ne f c 28), nOf_in hN hc f 4 (by omega), smOf_in hN hc]
/-- no such sector, or no such byte -/
theorem bOf_out {N : Nat} (hN : 16 ≤ N ∧ N ≤ 64) (f : Nat → Int32) {s i : Int32} (h : mIn s 0 (nI N - 1) = 0 ∨ mIn i 0 31 = 0) : bOf N f s i = -1 := by
  unfold bOf
  unfold mIn at h
  by_cases h1 : s < 0
  · rw [if_pos h1]
  by_cases h2 : nI N ≤ s
  · rw [if_neg h1, if_pos h2]
  by_cases h3 : i < 0
  · rw [if_neg h1, if_neg h2, if_pos h3]
  by_cases h4 : i < 32
  · exfalso
    rw [if_neg h1, if_neg h3] at h
    have h5 : ¬ nI N - 1 < s := by
      rw [zpred (by omega), Int32.lt_iff_toInt_lt, nI_toInt (by omega)]
      rw [Int32.le_iff_toInt_le, nI_toInt (by omega)] at h2
      omega
    have h6 : ¬ (31 : Int32) < i := by
      rw [Int32.lt_iff_toInt_lt] at h4 ⊢
      have : (31 : Int32).toInt = 31 := rfl
      have : (32 : Int32).toInt = 32 := rfl
      omega
    rw [if_neg h5, if_neg h6] at h
    rcases h with h | h <;> exact absurd h (by decide)
  · rw [if_neg h1, if_neg h2, if_neg h3, if_neg h4]
theorem isS_out {N : Nat} (hN : 16 ≤ N ∧ N ≤ 64) (f : Nat → Int32) {s : Int32} (h : mIn s 0 (nI N - 1) = 0) : isS N f s = 0 := by
  unfold isS
  rw [bOf_out hN f (.inl h), if_pos rfl]
theorem mSnd_01 (f : Nat → Int32) (c : Nat) : mSnd f c = 0 ∨ mSnd f c = 1 := by
  unfold mSnd; split
  · exact .inr rfl
  · exact .inl rfl
/-- at -/
theorem r_at {N : Nat} (hN : 16 ≤ N ∧ N ≤ 64) (d : Nat → Int32) (M : MS) (hd : d = mDk M) (s i : Int32) : bOf N d s i = mAt N M s i := by
  unfold mAt
  by_cases h1 : mIn s 0 (nI N - 1) = 0
  · rw [if_pos h1, bOf_out hN d (.inl h1)]
  by_cases h2 : mIn i 0 31 = 0
  · rw [if_neg h1, if_pos h2, bOf_out hN d (.inr h2)]
  rw [if_neg h1, if_neg h2]
  obtain ⟨c, hc, rfl⟩ := mInSec hN h1
  obtain ⟨k, hk, rfl⟩ := mIn31N h2
  rw [bOf_in hN hc hk, nI_clamp (by omega), nI_clamp (by omega), hd]
/-- sound -/
theorem r_sound {N : Nat} (hN : 16 ≤ N ∧ N ≤ 64) (d : Nat → Int32) (M : MS) (hd : d = mDk M) (s : Int32) : isS N d s = mSound N M s := by
  unfold mSound
  by_cases h1 : mIn s 0 (nI N - 1) = 0
  · rw [if_pos h1, isS_out hN d h1]
  rw [if_neg h1]
  obtain ⟨c, hc, rfl⟩ := mInSec hN h1
  rw [isS_in hN hc, nI_clamp (by omega), hd]
  rcases mSnd_01 (mDk M) c with h | h <;> rw [h] <;> rfl
/-! bytes -/
theorem b8_bits (x y : Int32) (h : x.toBitVec.setWidth 8 = y.toBitVec.setWidth 8) : b8 x = b8 y := by
  unfold b8
  have : x.toInt8 = y.toInt8 := by
    apply Int8.toBitVec_inj.mp
    show x.toBitVec.signExtend 8 = y.toBitVec.signExtend 8
    rw [BitVec.signExtend_eq_setWidth_of_le _ (by omega), BitVec.signExtend_eq_setWidth_of_le _ (by omega), h]
  rw [this]
theorem b8_and (x : Int32) : b8 (x &&& 255) = b8 x := by
  apply b8_bits
  rw [Int32.toBitVec_and]
  apply BitVec.eq_of_getLsbD_eq
  intro i hi
  simp only [BitVec.getLsbD_setWidth, BitVec.getLsbD_and]
  have : ∀ i, i < 8 → (Int32.toBitVec 255).getLsbD i = true := by decide
  rw [this i hi, Bool.and_true]
theorem b8_b8 (x : Int32) : b8 (b8 x) = b8 x := by
  simp [b8]
theorem b8_w (x : Int32) : (b8 x).toBitVec.setWidth 8 = x.toBitVec.setWidth 8 := by
  have h : (b8 x).toBitVec = (x.toBitVec.signExtend 8).signExtend 32 := rfl
  rw [h]
  apply BitVec.eq_of_getLsbD_eq
  intro i hi
  simp only [BitVec.getLsbD_setWidth, BitVec.getLsbD_signExtend, hi, show i < 32 by omega, decide_true, Bool.true_and, if_true]
theorem b8_xor (x v : Int32) : b8 ((x &&& 255) ^^^ v) = b8 (x ^^^ b8 v) := by
  apply b8_bits
  rw [Int32.toBitVec_xor, Int32.toBitVec_xor, Int32.toBitVec_and]
  have h := b8_w v
  apply BitVec.eq_of_getLsbD_eq
  intro i hi
  have h2 : (BitVec.setWidth 8 (b8 v).toBitVec).getLsbD i = (BitVec.setWidth 8 v.toBitVec).getLsbD i := by rw [h]
  have h3 : ∀ i, i < 8 → (Int32.toBitVec 255).getLsbD i = true := by decide
  simp only [BitVec.getLsbD_setWidth, BitVec.getLsbD_and, BitVec.getLsbD_xor, hi, decide_true, Bool.true_and, h3 i hi, Bool.and_true] at h2 ⊢
  rw [h2]
theorem b8_0' : b8 0 = 0 := rfl
theorem ush_bv (x : Int32) : (ush x 8).toBitVec = x.toBitVec >>> 8 := rfl
theorem b8_u1 (x : Int32) : b8 (ush x 8) = b8 (x >>> (8 : Int32)) := by
  apply b8_bits
  rw [ush_bv]
  have h : (x >>> (8 : Int32)).toBitVec = x.toBitVec.sshiftRight 8 := rfl
  rw [h]
  apply BitVec.eq_of_getLsbD_eq
  intro i hi
  simp only [BitVec.getLsbD_setWidth, BitVec.getLsbD_sshiftRight, BitVec.getLsbD_ushiftRight, hi, decide_true, Bool.true_and, show 8 + i < 32 by omega, if_true, show ¬ 32 ≤ i by omega, decide_false, Bool.not_false]
theorem b8_u2 (x : Int32) : b8 (ush (ush x 8) 8) = b8 (x >>> (16 : Int32)) := by
  apply b8_bits
  rw [ush_bv, ush_bv]
  have h : (x >>> (16 : Int32)).toBitVec = x.toBitVec.sshiftRight 16 := rfl
  rw [h]
  apply BitVec.eq_of_getLsbD_eq
  intro i hi
  simp only [BitVec.getLsbD_setWidth, BitVec.getLsbD_sshiftRight, BitVec.getLsbD_ushiftRight, hi, ← Nat.add_assoc, decide_true, Bool.true_and, show 16 + i < 32 by omega, show 24 + i < 32 by omega, if_true, show ¬ 32 ≤ i by omega, decide_false, Bool.not_false, Nat.reduceAdd]
theorem b8_u3 (x : Int32) : b8 (ush (ush (ush x 8) 8) 8) = b8 (x >>> (24 : Int32)) := by
  apply b8_bits
  rw [ush_bv, ush_bv, ush_bv]
  have h : (x >>> (24 : Int32)).toBitVec = x.toBitVec.sshiftRight 24 := rfl
  rw [h]
  apply BitVec.eq_of_getLsbD_eq
  intro i hi
  simp only [BitVec.getLsbD_setWidth, BitVec.getLsbD_sshiftRight, BitVec.getLsbD_ushiftRight, hi, ← Nat.add_assoc, decide_true, Bool.true_and, show 16 + i < 32 by omega, show 24 + i < 32 by omega, if_true, show ¬ 32 ≤ i by omega, decide_false, Bool.not_false, Nat.reduceAdd]

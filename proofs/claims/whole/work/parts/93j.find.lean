/-! Part 93j: which sectors tell, where a checkpoint begins, and which is the last -/
theorem i_h256 : ∀ h : Fin 256, (isT (nI h.val >>> (2 &&& 31)) = 0 ↔ 12 ≤ h.val) ∧ (nI h.val >>> (2 &&& 31) = nI (h.val / 4)) ∧ (nI h.val &&& 3 = nI (h.val % 4)) := by decide +kernel
theorem i_h {h : Nat} (hh : h ≤ 255) : (isT (nI h >>> (2 &&& 31)) = 0 ↔ 12 ≤ h) ∧ (nI h >>> (2 &&& 31) = nI (h / 4)) ∧ (nI h &&& 3 = nI (h % 4)) := i_h256 ⟨h, by omega⟩
theorem isK_0 {k : Nat} (hk : k < 2 ^ 31) : (isK (nI k) = 0) ↔ 32 ≤ k := by
  unfold isK
  rw [if_neg (p_n0 hk)]
  by_cases e : 32 ≤ k
  · rw [if_pos (show (32 : Int32) ≤ nI k from nI_le (a := 32) e hk)]; exact ⟨fun _ => e, fun _ => rfl⟩
  · rw [if_neg (show ¬ (32 : Int32) ≤ nI k from p_nN (n := 32) (by omega) (by omega))]
    exact ⟨fun q => absurd q (by decide), fun q => absurd q e⟩
theorem teL_0 (d : Nat → Int32) (s : Nat) : ∀ n j, teL d s n j 0 = 0
  | 0, _ => rfl
  | n + 1, j => if_pos rfl
theorem teL_1 (d : Nat → Int32) (s n j : Nat) : teL d s (n + 1) j 1 = teL d s n (j + 1) (teG d s j) := if_neg (by decide)
theorem il_te {N s : Nat} (hN : 16 ≤ N ∧ N ≤ 64) (hs : s < N) (f : Nat → Int32) (h0 : bA f s 0 = 1) : ∀ n j, j + n ≤ 4 → ilL N f (nI s) n j = teL f s n j 1
  | 0, j, _ => rfl
  | n + 1, j, hj => by
    rw [teL_1]
    unfold ilL
    rw [show (6 : Int32) + nI j * 5 = nI (6 + 5 * j) by rw [show (5 : Int32) = nI 5 from rfl, zmul, show (6 : Int32) = nI 6 from rfl, nI_add, Nat.mul_comm], nI_1, bOf_in hN hs (by omega), bOf_in hN hs (by omega), show 6 + 5 * j + 1 = 7 + 5 * j by omega]
    have ih := il_te hN hs f h0 n (j + 1) (by omega)
    unfold teG
    rw [if_pos h0]
    have a1 := bA_lt f s (6 + 5 * j)
    have a2 := bA_lt f s (7 + 5 * j)
    have b1 := bA_nI f s (6 + 5 * j)
    have b2 := bA_nI f s (7 + 5 * j)
    generalize (bA f s (6 + 5 * j)).toNatClampNeg = x at *
    generalize (bA f s (7 + 5 * j)).toNatClampNeg = y at *
    rw [b1, b2]
    by_cases q1 : 12 ≤ x
    · rw [if_pos ((i_h a1).1.mpr q1), if_pos (show (12 : Int32) ≤ nI x from nI_le (a := 12) q1 (by omega)), teL_0]
    · rw [if_neg (fun q => q1 ((i_h a1).1.mp q)), if_neg (show ¬ (12 : Int32) ≤ nI x from p_nN (n := 12) (by omega) (by omega))]
      by_cases q2 : 32 ≤ y
      · rw [if_pos ((isK_0 (by omega)).mpr q2), if_pos (show (32 : Int32) ≤ nI y from nI_le (a := 32) q2 (by omega)), teL_0]
      · rw [if_neg (fun q => q2 ((isK_0 (by omega)).mp q)), if_neg (show ¬ (32 : Int32) ≤ nI y from p_nN (n := 32) (by omega) (by omega))]
        exact ih
theorem ip_te {N s : Nat} (hN : 16 ≤ N ∧ N ≤ 64) (hs : s < N) (f : Nat → Int32) (h0 : ¬ bA f s 0 = 1) (h1 : ¬ bA f s 27 ≤ bA f s 26) : ∀ n j, j + n ≤ 5 → ipL N f (nI s) n j = teL f s n j 1
  | 0, j, _ => by
    unfold ipL
    rw [show (27 : Int32) = nI 27 from rfl, show (26 : Int32) = nI 26 from rfl, bOf_in hN hs (by omega), bOf_in hN hs (by omega), if_neg h1]; rfl
  | n + 1, j, hj => by
    rw [teL_1]
    unfold ipL
    rw [show (6 : Int32) + nI j * 4 = nI (6 + 4 * j) by rw [show (4 : Int32) = nI 4 from rfl, zmul, show (6 : Int32) = nI 6 from rfl, nI_add, Nat.mul_comm], bOf_in hN hs (by omega)]
    have ih := ip_te hN hs f h0 h1 n (j + 1) (by omega)
    unfold teG
    rw [if_neg h0]
    have a1 := bA_lt f s (6 + 4 * j)
    have b1 := bA_nI f s (6 + 4 * j)
    generalize (bA f s (6 + 4 * j)).toNatClampNeg = y at *
    rw [b1]
    by_cases q2 : 32 ≤ y
    · rw [if_pos ((isK_0 (by omega)).mpr q2), if_pos (show (32 : Int32) ≤ nI y from nI_le (a := 32) q2 (by omega)), teL_0]
    · rw [if_neg (fun q => q2 ((isK_0 (by omega)).mp q)), if_neg (show ¬ (32 : Int32) ≤ nI y from p_nN (n := 32) (by omega) (by omega))]
      exact ih
theorem ip_0 {N s : Nat} (hN : 16 ≤ N ∧ N ≤ 64) (hs : s < N) (f : Nat → Int32) (h1 : bA f s 27 ≤ bA f s 26) : ∀ n j, ipL N f (nI s) n j = 0
  | 0, j => by
    unfold ipL
    rw [show (27 : Int32) = nI 27 from rfl, show (26 : Int32) = nI 26 from rfl, bOf_in hN hs (by omega), bOf_in hN hs (by omega), if_pos h1]
  | n + 1, j => by
    unfold ipL
    split
    · rfl
    · exact ip_0 hN hs f h1 n (j + 1)
theorem i_nle (x y : Int32) : (¬ x ≤ y) ↔ y < x := by
  rw [Int32.le_iff_toInt_le, Int32.lt_iff_toInt_lt]; omega
theorem bA_cle {f : Nat → Int32} {s i n : Nat} (hn : n < 2 ^ 31) (h : bA f s i ≤ nI n) : (bA f s i).toNatClampNeg ≤ n := by
  have a := bA_lt f s i
  rw [bA_nI f s i, nI_leI (by omega) hn] at h
  exact h
theorem tl_tell {N s : Nat} (hN : 16 ≤ N ∧ N ≤ 64) (hs : s < N) (f : Nat → Int32) : tlS N f (nI s) = mTell f s := by
  have hS := isS_in hN hs f
  have g0 : bOf N f (nI s) 0 = bA f s 0 := bOf_in hN hs (k := 0) (by omega) f
  have g5 : bOf N f (nI s) 5 = bA f s 5 := bOf_in hN hs (k := 5) (by omega) f
  unfold tlS mTell
  rw [hS]
  have key : ∀ (x y z : Int32), (z = 0 ∨ z = 1) → ((x = z ∧ y = 0) ∨ (x = 0 ∧ y = z)) → (if x = 0 then (if y = 0 then (0 : Int32) else if (1 : Int32) = 0 then 0 else 1) else if (1 : Int32) = 0 then 0 else 1) = z := by
    intro x y z hz h
    rcases h with ⟨rfl, rfl⟩ | ⟨rfl, rfl⟩
    · rcases hz with rfl | rfl <;> rfl
    · rcases hz with rfl | rfl <;> rfl
  rcases mSnd_01 f s with hm | hm
  · have ht : tg0 f s = 0 := by unfold tg0; rw [hm, if_pos rfl]
    rw [ht, teL_0, hm]
    split
    · split
      · rfl
      · rfl
    · rfl
  · rw [hm]
    refine key _ _ _ (teL_01 f s _ _ _ (tg0_01 f s)) ?_
    by_cases h1 : bA f s 0 = 1
    · refine .inl ⟨?_, ?_⟩
      · unfold isLg tg0
        rw [g0, g5, if_pos h1, hm, if_neg (show ¬ (1 : Int32) = 0 by decide), if_pos h1]
        by_cases q1 : bA f s 5 < 1
        · rw [if_pos q1, if_pos q1, teL_0]
        · rw [if_neg q1, if_neg q1]
          by_cases q2 : bA f s 5 ≤ 4
          · rw [if_pos q2, if_neg (show ¬ (4 : Int32) < bA f s 5 from fun q => (i_nle _ _).mpr q q2)]
            exact il_te hN hs f h1 _ 0 (by have := bA_cle (n := 4) (by omega) q2; omega)
          · rw [if_neg q2, if_pos ((i_nle _ _).mp q2), teL_0]
      · unfold isPg
        rw [g0, if_neg (by rw [h1]; decide)]
    · by_cases h2 : bA f s 0 = 2
      · refine .inr ⟨?_, ?_⟩
        · unfold isLg
          rw [g0, if_neg h1]
        · unfold isPg tg0
          rw [g0, g5, if_pos h2, hm, if_neg (show ¬ (1 : Int32) = 0 by decide), if_neg h1, if_pos h2]
          by_cases q2 : bA f s 5 ≤ 5
          · rw [if_pos q2, if_neg (show ¬ (5 : Int32) < bA f s 5 from fun q => (i_nle _ _).mpr q q2)]
            by_cases q3 : bA f s 27 ≤ bA f s 26
            · rw [if_pos q3, teL_0, ip_0 hN hs f q3]
            · rw [if_neg q3]
              exact ip_te hN hs f h1 q3 _ 0 (by have := bA_cle (n := 5) (by omega) q2; omega)
          · rw [if_neg q2, if_pos ((i_nle _ _).mp q2), teL_0]
      · refine .inl ⟨?_, ?_⟩
        · unfold isLg tg0
          rw [g0, if_neg h1, hm, if_neg (show ¬ (1 : Int32) = 0 by decide), if_neg h1, if_neg h2, teL_0]
        · unfold isPg
          rw [g0, if_neg h2]
/-! the finder's notes -/
theorem la_at (N : Nat) (f te : Nat → Int32) (k : Nat) : ∀ n, laL N f te n k = if k < n then tlS N f (nI k) else te k
  | 0 => by rw [if_neg (by omega)]; rfl
  | n + 1 => by
    show upd (laL N f te n) n (tlS N f (nI n)) k = _
    by_cases e : k = n
    · rw [e, pk_us, if_pos (by omega)]
    · rw [pk_un e, la_at N f te k n]
      by_cases e2 : k < n
      · rw [if_pos e2, if_pos (by omega)]
      · rw [if_neg e2, if_neg (by omega)]
def Tls (N : Nat) (f : Nat → Int32) (te : Nat → Int32) : Prop := ∀ s, s < N → te s = mTell f s
theorem fIs_in {N : Nat} (hN : 16 ≤ N ∧ N ≤ 64) {f : Nat → Int32} {F : FS} (h : Tls N f (fTe F)) {s : Nat} (hs : s < N) : fIs F (nI s) = mTell f s := by
  unfold fIs
  rw [if_neg (p_n0 (by omega)), if_neg (show ¬ (64 : Int32) ≤ nI s from p_nN (n := 64) (by omega) (by omega)), nI_clamp (by omega), h s hs]
  rcases mTell_01 f s with a | a <;> rw [a] <;> rfl
theorem mpL_0 (N : Nat) (d : Nat → Int32) (s : Nat) : ∀ n j, mpL N d s n j 0 = 0
  | 0, _ => rfl
  | n + 1, j => if_pos rfl
theorem mpL_1 (N : Nat) (d : Nat → Int32) (s n j : Nat) : mpL N d s (n + 1) j 1 = mpL N d s n (j + 1) (mpG N d s j) := if_neg (by decide)
theorem pp_mp {N s : Nat} (hN : 16 ≤ N ∧ N ≤ 64) (hs : s < N) {f : Nat → Int32} {F : FS} (h : Tls N f (fTe F)) : ∀ n j, ppL N f F (nI s) n j (nI ((s + j) % N)) = if mpL N f s n j 1 = 0 then 0 else bA f s 27
  | 0, j => by
    show bOf N f (nI s) 27 = _
    rw [show (27 : Int32) = nI 27 from rfl, bOf_in hN hs (by omega)]
    exact (if_neg (show ¬ (1 : Int32) = 0 by decide)).symm
  | n + 1, j => by
    have hm : (s + j) % N < N := Nat.mod_lt _ (by omega)
    have ih := pp_mp hN hs h n (j + 1)
    rw [mpL_1]
    unfold ppL mpG
    rw [fIs_in hN h hm, show (0 : Int32) = nI 0 from rfl, show (26 : Int32) = nI 26 from rfl, show (27 : Int32) = nI 27 from rfl, bOf_in hN hm (by omega), bOf_in hN hm (by omega), bOf_in hN hm (by omega), bOf_in hN hs (by omega), show (1 : Int32) = nI 1 from rfl, nOf_in hN hm f 4 (by omega), nOf_in hN hs f 4 (by omega), bhd_in hN hm, Nat.mod_add_mod]
    show (if mTell f ((s + j) % N) = 0 then 0 else _) = _
    by_cases q1 : mTell f ((s + j) % N) = 0
    · rw [if_pos q1, if_pos (show mTell f ((s + j) % N) = nI 0 from q1)]
      rw [show mpL N f s n (j + 1) (nI 0) = 0 from mpL_0 N f s n (j + 1)]; rfl
    rw [if_neg q1, if_neg (show ¬ mTell f ((s + j) % N) = nI 0 from q1)]
    by_cases q2 : bA f ((s + j) % N) 0 = 2
    · rw [if_pos q2, if_pos q2]
      by_cases q3 : bA f ((s + j) % N) 26 = nI j
      · rw [if_pos q3, if_pos q3]
        by_cases q4 : bA f ((s + j) % N) 27 = bA f s 27
        · rw [if_pos q4, if_pos q4]
          by_cases q5 : nA f ((s + j) % N) 1 4 = nA f s 1 4 + nI j
          · rw [if_pos q5, if_pos q5]; exact ih
          · rw [if_neg q5, if_neg q5]
            rw [show mpL N f s n (j + 1) (nI 0) = 0 from mpL_0 N f s n (j + 1)]; rfl
        · rw [if_neg q4, if_neg q4]
          rw [show mpL N f s n (j + 1) (nI 0) = 0 from mpL_0 N f s n (j + 1)]; rfl
      · rw [if_neg q3, if_neg q3]
        rw [show mpL N f s n (j + 1) (nI 0) = 0 from mpL_0 N f s n (j + 1)]; rfl
    · rw [if_neg q2, if_neg q2]
      rw [show mpL N f s n (j + 1) (nI 0) = 0 from mpL_0 N f s n (j + 1)]; rfl
theorem pgs_same {N s : Nat} (hN : 16 ≤ N ∧ N ≤ 64) (hs : s < N) {f : Nat → Int32} {F : FS} (h : Tls N f (fTe F)) : pgsF N f F (nI s) = mPgs N f s := by
  unfold pgsF mPgs
  rw [show (27 : Int32) = nI 27 from rfl, bOf_in hN hs (by omega)]
  have a := pp_mp hN hs h (bA f s 27).toNatClampNeg 0
  rw [Nat.add_zero, Nat.mod_eq_of_lt hs] at a
  rw [a]
  unfold mp0
  have h255 := bA_lt f s 27
  by_cases q : nI N < bA f s 27
  · rw [if_pos q, mpL_0, if_pos rfl]
    have q' : N < (bA f s 27).toNatClampNeg := by
      rw [bA_nI f s 27, nI_ltI (by omega) (by omega)] at q; exact q
    by_cases z : mpL N f s (bA f s 27).toNatClampNeg 0 1 = 0
    · rw [if_pos z]
    · exfalso
      have b := (mpL_all _ _ _ z).2
      have b0 := b 0 (by omega) (by omega)
      have bN := b N (by omega) (by omega)
      have x0 : bA f s 26 = nI 0 := by
        unfold mpG at b0
        rw [Nat.add_zero, Nat.mod_eq_of_lt hs] at b0
        by_cases y1 : mTell f s = 0
        · rw [if_pos y1] at b0; exact absurd rfl b0
        rw [if_neg y1] at b0
        by_cases y2 : bA f s 0 = 2
        · rw [if_pos y2] at b0
          by_cases y3 : bA f s 26 = nI 0
          · exact y3
          · rw [if_neg y3] at b0; exact absurd rfl b0
        · rw [if_neg y2] at b0; exact absurd rfl b0
      have xN : bA f s 26 = nI N := by
        unfold mpG at bN
        rw [Nat.add_mod_right, Nat.mod_eq_of_lt hs] at bN
        by_cases y1 : mTell f s = 0
        · rw [if_pos y1] at bN; exact absurd rfl bN
        rw [if_neg y1] at bN
        by_cases y2 : bA f s 0 = 2
        · rw [if_pos y2] at bN
          by_cases y3 : bA f s 26 = nI N
          · exact y3
          · rw [if_neg y3] at bN; exact absurd rfl bN
        · rw [if_neg y2] at bN; exact absurd rfl bN
      rw [x0, nI_eq (by omega) (by omega)] at xN
      omega
  · rw [if_neg q]
/-! which serial is later -/
theorem i_u64 (u : Int32) : (Int32.toInt64 u &&& 4294967295).toInt = (u.toBitVec.toNat : Int) := by
  have e : (Int32.toInt64 u &&& 4294967295).toBitVec = BitVec.setWidth 64 u.toBitVec := by
    show BitVec.signExtend 64 u.toBitVec &&& (4294967295#64) = BitVec.setWidth 64 u.toBitVec
    apply BitVec.eq_of_getLsbD_eq
    intro i hi
    have m1 : ∀ i, i < 32 → (4294967295#64).getLsbD i = true := by decide +kernel
    have m2 : ∀ i : Nat, 32 ≤ i → (4294967295#64).getLsbD i = false := by
      intro i h
      have : (4294967295#64).toNat < 2 ^ i := Nat.lt_of_lt_of_le (show (4294967295#64).toNat < 2 ^ 32 by decide) (Nat.pow_le_pow_right (by omega) h)
      exact Nat.testBit_lt_two_pow this
    by_cases q : i < 32
    · simp only [BitVec.getLsbD_and, BitVec.getLsbD_signExtend, BitVec.getLsbD_setWidth, m1 i q, q, hi, decide_true, Bool.true_and, Bool.and_true, if_true]
    · simp only [BitVec.getLsbD_and, m2 i (by omega), Bool.and_false, BitVec.getLsbD_setWidth, hi, decide_true, Bool.true_and]
      rw [BitVec.getLsbD_of_ge _ _ (by omega)]
  show (Int32.toInt64 u &&& 4294967295).toBitVec.toInt = _
  rw [e, BitVec.toInt_eq_toNat_cond, BitVec.toNat_setWidth]
  have := u.toBitVec.isLt
  rw [Nat.mod_eq_of_lt (by omega), if_pos (by omega)]
theorem i_off (u : Int32) : (u + (-2147483648)).toInt = (u.toBitVec.toNat : Int) - 2147483648 := by
  show (u + (-2147483648)).toBitVec.toInt = _
  have e : (u + (-2147483648)).toBitVec.toNat = (u.toBitVec.toNat + 2147483648) % 2 ^ 32 := by
    rw [Int32.toBitVec_add, BitVec.toNat_add]; rfl
  rw [BitVec.toInt_eq_toNat_cond, e]
  have := u.toBitVec.isLt
  split <;> omega
theorem isLt_0 (u v : Int32) : (isLt u v = 0) ↔ (u + (-2147483648) ≤ v + (-2147483648)) := by
  unfold isLt
  have a : (lg_cmp (Int32.toInt64 u &&& 4294967295) (Int32.toInt64 v &&& 4294967295) ≤ 0) ↔ (u + (-2147483648) ≤ v + (-2147483648)) := by
    rw [lg_cmp_le, Int64.le_iff_toInt_le, Int32.le_iff_toInt_le, i_u64, i_u64, i_off, i_off]; omega
  by_cases q : lg_cmp (Int32.toInt64 u &&& 4294967295) (Int32.toInt64 v &&& 4294967295) ≤ 0
  · rw [if_pos q]; exact ⟨fun _ => a.mp q, fun _ => rfl⟩
  · rw [if_neg q]; exact ⟨fun x => absurd x (by decide), fun x => absurd (a.mpr x) q⟩
/-- the finder's two numbers and the reference's best -/
def Bst (N : Nat) (f : Nat → Int32) (F : FS) (b : Int32) : Prop := (fPg F = 0 ∧ b = -1) ∨ ∃ s, s < N ∧ b = nI s ∧ fFp F = nI s ∧ fPg F = mPgs N f s ∧ ¬ mPgs N f s ≤ 0
theorem Bst_step {N : Nat} (hN : 16 ≤ N ∧ N ≤ 64) {f : Nat → Int32} {F : FS} {b : Int32} (ht : Tls N f (fTe F)) (h : Bst N f F b) {j : Nat} (hj : j < N) : Bst N f (fcS N f j F) (bsS N f j b) ∧ fTe (fcS N f j F) = fTe F := by
  unfold fcS bsS
  rw [pgs_same hN hj ht]
  rcases h with ⟨h1, h2⟩ | ⟨s, hs, h1, h2, h3, h4⟩
  · rw [h2, if_pos (show (-1 : Int32) < 0 by decide), h1, if_pos rfl]
    by_cases q : mPgs N f j ≤ 0
    · rw [if_pos q, if_pos q]; exact ⟨.inl ⟨h1, rfl⟩, rfl⟩
    · rw [if_neg q, if_neg q]; exact ⟨.inr ⟨j, hj, rfl, rfl, rfl, q⟩, rfl⟩
  · have hp : ¬ fPg F = 0 := by rw [h3]; intro q; rw [q] at h4; exact h4 (by decide)
    have hb : ¬ b < 0 := by rw [h1]; exact p_n0 (by omega)
    rw [if_neg hb, h2, if_neg hp, h1, nI_clamp (by omega), show (1 : Int32) = nI 1 from rfl, nOf_in hN hj f 4 (by omega), nOf_in hN hs f 4 (by omega)]
    by_cases q : mPgs N f j ≤ 0
    · rw [if_pos q, if_pos q]
      refine ⟨?_, rfl⟩
      split
      · exact .inr ⟨s, hs, rfl, h2, h3, h4⟩
      · exact .inr ⟨s, hs, rfl, h2, h3, h4⟩
    · rw [if_neg q, if_neg q]
      by_cases z : isLt (nA f j 1 4) (nA f s 1 4) = 0
      · rw [if_pos z, if_pos ((isLt_0 _ _).mp z)]
        exact ⟨.inr ⟨s, hs, rfl, h2, h3, h4⟩, rfl⟩
      · rw [if_neg z, if_neg (fun x => z ((isLt_0 _ _).mpr x))]
        exact ⟨.inr ⟨j, hj, rfl, rfl, rfl, q⟩, rfl⟩
theorem Bst_all {N : Nat} (hN : 16 ≤ N ∧ N ≤ 64) {f : Nat → Int32} : ∀ (n j : Nat) (F : FS) (b : Int32), j + n = N → Tls N f (fTe F) → Bst N f F b → Bst N f (fcL N f n j F) (bsL N f n j b) ∧ fTe (fcL N f n j F) = fTe F
  | 0, j, F, b, _, _, h => ⟨h, rfl⟩
  | n + 1, j, F, b, hj, ht, h => by
    obtain ⟨a1, a2⟩ := Bst_step hN ht h (show j < N by omega)
    unfold fcL bsL
    obtain ⟨b1, b2⟩ := Bst_all hN n (j + 1) (fcS N f j F) (bsS N f j b) (by omega) (by rw [a2]; exact ht) a1
    exact ⟨b1, b2.trans a2⟩
theorem find_best {N : Nat} (hN : 16 ≤ N ∧ N ≤ 64) (f : Nat → Int32) (F : FS) : Bst N f (fFind N f F) (mBest N f) ∧ Tls N f (fTe (fFind N f F)) := by
  have ht : Tls N f (fTe (fsPg (fsTe F (laL N f (fTe F) 64)) 0)) := fun s hs => by
    show laL N f (fTe F) 64 s = mTell f s
    rw [la_at, if_pos (by omega), tl_tell hN hs]
  obtain ⟨a, b⟩ := Bst_all hN N 0 (fsPg (fsTe F (laL N f (fTe F) 64)) 0) (-1) (by omega) ht (.inl ⟨rfl, rfl⟩)
  exact ⟨a, by show Tls N f (fTe (fcL N f N 0 (fsPg (fsTe F (laL N f (fTe F) 64)) 0))); rw [b]; exact ht⟩

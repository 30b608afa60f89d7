abbrev DS : Type := Int32 × (Nat → Int32) × (Nat → Int32) × (Nat → Int32)
abbrev dOp (x : DS) : Int32 := x.1
abbrev dCo (x : DS) : (Nat → Int32) := x.2.1
abbrev dCh (x : DS) : (Nat → Int32) := x.2.2.1
abbrev dHo (x : DS) : (Nat → Int32) := x.2.2.2
abbrev dsOp (x : DS) (v : Int32) : DS := (v, x.2)
abbrev dsCo (x : DS) (v : (Nat → Int32)) : DS := (x.1, v, x.2.2)
abbrev dsCh (x : DS) (v : (Nat → Int32)) : DS := (x.1, x.2.1, v, x.2.2.2)
abbrev dsHo (x : DS) (v : (Nat → Int32)) : DS := (x.1, x.2.1, x.2.2.1, v)
abbrev JS : Type := ((((Int32 × Int32) × Int32) × ((Int32 × Int32) × Int32)) × (((Int32 × (Nat → Int32)) × (Nat → Int32)) × (((Nat → Int32) × (Nat → Int32)) × (Nat → Int32))))
abbrev jEn (x : JS) : Int32 := x.1.1.1.1
abbrev jWa (x : JS) : Int32 := x.1.1.1.2
abbrev jFw (x : JS) : Int32 := x.1.1.2
abbrev jSe (x : JS) : Int32 := x.1.2.1.1
abbrev jSc (x : JS) : Int32 := x.1.2.1.2
abbrev jFn (x : JS) : Int32 := x.1.2.2
abbrev jFp (x : JS) : Int32 := x.2.1.1.1
abbrev jDk (x : JS) : (Nat → Int32) := x.2.1.1.2
abbrev jMm (x : JS) : (Nat → Int32) := x.2.1.2
abbrev jEh (x : JS) : (Nat → Int32) := x.2.2.1.1
abbrev jEk (x : JS) : (Nat → Int32) := x.2.2.1.2
abbrev jEv (x : JS) : (Nat → Int32) := x.2.2.2
abbrev jsEn (x : JS) (v : Int32) : JS := ((((v, x.1.1.1.2), x.1.1.2), x.1.2), x.2)
abbrev jsWa (x : JS) (v : Int32) : JS := ((((x.1.1.1.1, v), x.1.1.2), x.1.2), x.2)
abbrev jsFw (x : JS) (v : Int32) : JS := (((x.1.1.1, v), x.1.2), x.2)
abbrev jsSe (x : JS) (v : Int32) : JS := ((x.1.1, ((v, x.1.2.1.2), x.1.2.2)), x.2)
abbrev jsSc (x : JS) (v : Int32) : JS := ((x.1.1, ((x.1.2.1.1, v), x.1.2.2)), x.2)
abbrev jsFn (x : JS) (v : Int32) : JS := ((x.1.1, (x.1.2.1, v)), x.2)
abbrev jsFp (x : JS) (v : Int32) : JS := (x.1, (((v, x.2.1.1.2), x.2.1.2), x.2.2))
abbrev jsDk (x : JS) (v : (Nat → Int32)) : JS := (x.1, (((x.2.1.1.1, v), x.2.1.2), x.2.2))
abbrev jsMm (x : JS) (v : (Nat → Int32)) : JS := (x.1, ((x.2.1.1, v), x.2.2))
abbrev jsEh (x : JS) (v : (Nat → Int32)) : JS := (x.1, (x.2.1, ((v, x.2.2.1.2), x.2.2.2)))
abbrev jsEk (x : JS) (v : (Nat → Int32)) : JS := (x.1, (x.2.1, ((x.2.2.1.1, v), x.2.2.2)))
abbrev jsEv (x : JS) (v : (Nat → Int32)) : JS := (x.1, (x.2.1, (x.2.2.1, v)))
abbrev FS : Type := Int32 × Int32 × Int32 × (Nat → Int32)
abbrev fFp (x : FS) : Int32 := x.1
abbrev fPg (x : FS) : Int32 := x.2.1
abbrev fRe (x : FS) : Int32 := x.2.2.1
abbrev fTe (x : FS) : (Nat → Int32) := x.2.2.2
abbrev fsFp (x : FS) (v : Int32) : FS := (v, x.2)
abbrev fsPg (x : FS) (v : Int32) : FS := (x.1, v, x.2.2)
abbrev fsRe (x : FS) (v : Int32) : FS := (x.1, x.2.1, v, x.2.2.2)
abbrev fsTe (x : FS) (v : (Nat → Int32)) : FS := (x.1, x.2.1, x.2.2.1, v)
abbrev XS : Type := Int32 × Int32 × JS × DS × FS
abbrev xDn (x : XS) : Int32 := x.1
abbrev xCm (x : XS) : Int32 := x.2.1
abbrev xJ (x : XS) : JS := x.2.2.1
abbrev xD (x : XS) : DS := x.2.2.2.1
abbrev xF (x : XS) : FS := x.2.2.2.2
abbrev xsDn (x : XS) (v : Int32) : XS := (v, x.2)
abbrev xsCm (x : XS) (v : Int32) : XS := (x.1, v, x.2.2)
abbrev xsJ (x : XS) (v : JS) : XS := (x.1, x.2.1, v, x.2.2.2)
abbrev xsD (x : XS) (v : DS) : XS := (x.1, x.2.1, x.2.2.1, v, x.2.2.2.2)
abbrev xsF (x : XS) (v : FS) : XS := (x.1, x.2.1, x.2.2.1, x.2.2.2.1, v)
abbrev MS : Type := (((((Int32 × Int32) × Int32) × (Int32 × Int32)) × (((Int32 × Int32) × Int32) × ((Nat → Int32) × (Nat → Int32)))) × (((((Nat → Int32) × (Nat → Int32)) × (Nat → Int32)) × ((Nat → Int32) × (Nat → Int32))) × (((Nat → Int32) × (Nat → Int32)) × ((Nat → Int32) × (Nat → Int32)))))
abbrev mDn (x : MS) : Int32 := x.1.1.1.1.1
abbrev mWa (x : MS) : Int32 := x.1.1.1.1.2
abbrev mSc (x : MS) : Int32 := x.1.1.1.2
abbrev mSe (x : MS) : Int32 := x.1.1.2.1
abbrev mNf (x : MS) : Int32 := x.1.1.2.2
abbrev mWf (x : MS) : Int32 := x.1.2.1.1.1
abbrev mEn (x : MS) : Int32 := x.1.2.1.1.2
abbrev mCm (x : MS) : Int32 := x.1.2.1.2
abbrev mDk (x : MS) : (Nat → Int32) := x.1.2.2.1
abbrev mWt (x : MS) : (Nat → Int32) := x.1.2.2.2
abbrev mWs (x : MS) : (Nat → Int32) := x.2.1.1.1.1
abbrev mEh (x : MS) : (Nat → Int32) := x.2.1.1.1.2
abbrev mEk (x : MS) : (Nat → Int32) := x.2.1.1.2
abbrev mEv (x : MS) : (Nat → Int32) := x.2.1.2.1
abbrev mVa (x : MS) : (Nat → Int32) := x.2.1.2.2
abbrev mOp (x : MS) : (Nat → Int32) := x.2.2.1.1
abbrev mHo (x : MS) : (Nat → Int32) := x.2.2.1.2
abbrev mHe (x : MS) : (Nat → Int32) := x.2.2.2.1
abbrev mRw (x : MS) : (Nat → Int32) := x.2.2.2.2
abbrev msDn (x : MS) (v : Int32) : MS := (((((v, x.1.1.1.1.2), x.1.1.1.2), x.1.1.2), x.1.2), x.2)
abbrev msWa (x : MS) (v : Int32) : MS := (((((x.1.1.1.1.1, v), x.1.1.1.2), x.1.1.2), x.1.2), x.2)
abbrev msSc (x : MS) (v : Int32) : MS := ((((x.1.1.1.1, v), x.1.1.2), x.1.2), x.2)
abbrev msSe (x : MS) (v : Int32) : MS := (((x.1.1.1, (v, x.1.1.2.2)), x.1.2), x.2)
abbrev msNf (x : MS) (v : Int32) : MS := (((x.1.1.1, (x.1.1.2.1, v)), x.1.2), x.2)
abbrev msWf (x : MS) (v : Int32) : MS := ((x.1.1, (((v, x.1.2.1.1.2), x.1.2.1.2), x.1.2.2)), x.2)
abbrev msEn (x : MS) (v : Int32) : MS := ((x.1.1, (((x.1.2.1.1.1, v), x.1.2.1.2), x.1.2.2)), x.2)
abbrev msCm (x : MS) (v : Int32) : MS := ((x.1.1, ((x.1.2.1.1, v), x.1.2.2)), x.2)
abbrev msDk (x : MS) (v : (Nat → Int32)) : MS := ((x.1.1, (x.1.2.1, (v, x.1.2.2.2))), x.2)
abbrev msWt (x : MS) (v : (Nat → Int32)) : MS := ((x.1.1, (x.1.2.1, (x.1.2.2.1, v))), x.2)
abbrev msWs (x : MS) (v : (Nat → Int32)) : MS := (x.1, ((((v, x.2.1.1.1.2), x.2.1.1.2), x.2.1.2), x.2.2))
abbrev msEh (x : MS) (v : (Nat → Int32)) : MS := (x.1, ((((x.2.1.1.1.1, v), x.2.1.1.2), x.2.1.2), x.2.2))
abbrev msEk (x : MS) (v : (Nat → Int32)) : MS := (x.1, (((x.2.1.1.1, v), x.2.1.2), x.2.2))
abbrev msEv (x : MS) (v : (Nat → Int32)) : MS := (x.1, ((x.2.1.1, (v, x.2.1.2.2)), x.2.2))
abbrev msVa (x : MS) (v : (Nat → Int32)) : MS := (x.1, ((x.2.1.1, (x.2.1.2.1, v)), x.2.2))
abbrev msOp (x : MS) (v : (Nat → Int32)) : MS := (x.1, (x.2.1, ((v, x.2.2.1.2), x.2.2.2)))
abbrev msHo (x : MS) (v : (Nat → Int32)) : MS := (x.1, (x.2.1, ((x.2.2.1.1, v), x.2.2.2)))
abbrev msHe (x : MS) (v : (Nat → Int32)) : MS := (x.1, (x.2.1, (x.2.2.1, (v, x.2.2.2.2))))
abbrev msRw (x : MS) (v : (Nat → Int32)) : MS := (x.1, (x.2.1, (x.2.2.1, (x.2.2.2.1, v))))
abbrev wS (E : GE) (a b N : Nat) (f : Nat → Int32) : va_W := [(a, .inr (3, [.int (nI N), .ref b])), (b, .inl (gB E, 32 * N, .inl f))]
abbrev wD (E : GE) (a : Nat → Nat) (D : DS) : va_W := [(a 0, .inr (0, [.ref (a 1), .ref (a 2), .ref (a 3), .int (dOp D)])), (a 1, .inl (gI E, 32, .inl (dCo D))), (a 2, .inl (gI E, 32, .inl (dCh D))), (a 3, .inl (gI E, 32, .inl (dHo D)))]
abbrev wJ (E : GE) (a : Nat → Nat) (N : Nat) (J : JS) : va_W := [(a 0, .inr (2, [.ref (a 1), .ref (a 3), .ref (a 5), .ref (a 6), .ref (a 7), .int (jEn J), .int (jWa J), .int (jFw J), .int (jSe J), .int (jSc J), .int (jFn J), .int (jFp J)])), (a 1, .inr (3, [.int (nI N), .ref (a 2)])), (a 2, .inl (gB E, 32 * N, .inl (jDk J))), (a 3, .inr (3, [.int (nI N), .ref (a 4)])), (a 4, .inl (gB E, 32 * N, .inl (jMm J))), (a 5, .inl (gI E, 4, .inl (jEh J))), (a 6, .inl (gI E, 4, .inl (jEk J))), (a 7, .inl (gI E, 4, .inl (jEv J)))]
abbrev wF (E : GE) (a : Nat → Nat) (F : FS) : va_W := [(a 0, .inr (1, [.ref (a 1), .int (fFp F), .int (fPg F), .int (fRe F)])), (a 1, .inl (gZ E, 64, .inl (fTe F)))]
abbrev wX (E : GE) (a : Nat → Nat) (N : Nat) (X : XS) : va_W := (a 0, .inr (4, [.ref (a 1), .ref (a 9), .ref (a 13), .int (xDn X), .int (xCm X)])) :: (wJ E (fun i => a (i + 1)) N (xJ X) ++ (wD E (fun i => a (i + 9)) (xD X) ++ wF E (fun i => a (i + 13)) (xF X)))
abbrev wM (E : GE) (a : Nat → Nat) (N : Nat) (M : MS) : va_W := [(a 0, .inr (5, [.int (nI N), .ref (a 1), .int (mDn M), .int (mWa M), .ref (a 2), .ref (a 3), .int (mSc M), .int (mSe M), .int (mNf M), .int (mWf M), .int (mEn M), .ref (a 4), .ref (a 5), .ref (a 6), .ref (a 7), .ref (a 8), .ref (a 9), .ref (a 10), .int (mCm M), .ref (a 11)])), (a 1, .inl (gB E, 2048, .inl (mDk M))), (a 2, .inl (gI E, 64, .inl (mWt M))), (a 3, .inl (gB E, 2048, .inl (mWs M))), (a 4, .inl (gI E, 4, .inl (mEh M))), (a 5, .inl (gI E, 4, .inl (mEk M))), (a 6, .inl (gI E, 4, .inl (mEv M))), (a 7, .inl (gI E, 32, .inl (mVa M))), (a 8, .inl (gZ E, 3, .inl (mOp M))), (a 9, .inl (gI E, 32, .inl (mHo M))), (a 10, .inl (gI E, 32, .inl (mHe M))), (a 11, .inl (gB E, 32, .inl (mRw M)))]
-- numbers
theorem zvin {i : Int32} {n : Nat} (h0 : 0 ≤ i.toInt) (h1 : i.toInt < n) : vp_in i n := vp_in_iff.mpr ⟨h0, h1⟩
theorem zinc (n : Nat) : nI n + Int32.ofInt 1 = nI (n + 1) := nI_1 n
theorem znlt {x : Int32} {c : Int32} (h : ¬ x < c) : c.toInt ≤ x.toInt := by
  rw [Int32.lt_iff_toInt_lt] at h; omega
theorem znle {x : Int32} {c : Int32} (h : ¬ c ≤ x) : x.toInt < c.toInt := by
  rw [Int32.le_iff_toInt_le] at h; omega
theorem ztoNI {x : Int32} (h : 0 ≤ x.toInt) : x = nI x.toNatClampNeg := by
  apply Int32.toInt_inj.mp
  have h1 : x.toInt < 2 ^ 31 := Int32.toInt_lt x
  have h2 : x.toNatClampNeg = x.toInt.toNat := rfl
  rw [nI_toInt (by omega)]
  omega
theorem zmul (a b : Nat) : nI a * nI b = nI (a * b) := by
  show Int32.ofNat a * Int32.ofNat b = Int32.ofNat (a * b)
  rw [Int32.ofNat_mul]
def b8 (v : Int32) : Int32 := v.toInt8.toInt32
theorem b8_nar (v : Int32) : vp_nar .byte (b8 v) = b8 v := by
  rw [vp_nar_byte]; simp [b8]
theorem b8_st (v : Int32) : vp_nar .byte v = b8 v := vp_nar_byte v
theorem b8_0 : vp_nar .byte 0 = 0 := rfl
theorem vz_0 : vp_nar .boolean 0 = 0 := rfl
theorem vz_1 : vp_nar .boolean 1 = 1 := rfl
def ush (x y : Int32) : Int32 := (x.toUInt32 >>> (y.toUInt32 &&& Int32.toUInt32 31)).toInt32
/-- s * 32 + i of a sector and a place in it -/
theorem zidx {N : Nat} (hN : 16 ≤ N ∧ N ≤ 64) {s i : Int32} (h1 : ¬ s < 0) (h2 : ¬ nI N ≤ s) (h3 : ¬ i < 0) (h4 : i < (32 : Int32)) : vp_in (s * 32 + i) (32 * N) := by
  have a1 := znlt h1
  have a2 := znle h2
  have a3 := znlt h3
  have a4 := Int32.lt_iff_toInt_lt.mp h4
  rw [nI_toInt (by omega)] at a2
  have e0 : (0 : Int32).toInt = 0 := rfl
  have e1 : (32 : Int32).toInt = 32 := rfl
  rw [ztoNI (x := s) (by omega), ztoNI (x := i) (by omega), show (32 : Int32) = nI 32 from rfl, zmul, nI_add]
  have h5 : s.toNatClampNeg = s.toInt.toNat := rfl
  have h6 : i.toNatClampNeg = i.toInt.toNat := rfl
  exact vp_in_nI (by omega) (by omega)

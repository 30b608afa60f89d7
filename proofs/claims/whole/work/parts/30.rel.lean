/-! Part 30: the relation between the class's state and the reference's; first the number of sectors -/
theorem sz_same (w : Int32) : sz0 w = sz1 w := by
  unfold sz0 sz1
  by_cases h1 : (16 : Int32) ≤ w
  · by_cases h2 : w ≤ 64
    · rw [if_pos h1, if_pos h2]
      by_cases h3 : w < 64
      · rw [if_pos h3]
        by_cases h4 : (16 : Int32) < w
        · rw [if_pos h4]
        · rw [if_neg h4]
          apply Int32.toInt_inj.mp
          rw [Int32.le_iff_toInt_le] at h1
          rw [Int32.lt_iff_toInt_lt] at h4
          omega
      · rw [if_neg h3, if_pos (by decide)]
        apply Int32.toInt_inj.mp
        rw [Int32.le_iff_toInt_le] at h2
        rw [Int32.lt_iff_toInt_lt] at h3
        omega
    · rw [if_pos h1, if_neg h2]
      have h3 : ¬ w < 64 := by
        rw [Int32.le_iff_toInt_le] at h2
        rw [Int32.lt_iff_toInt_lt]
        omega
      rw [if_neg h3, if_pos (by decide)]
  · rw [if_neg h1]
    have h3 : w < 64 := by
      rw [Int32.le_iff_toInt_le] at h1
      rw [Int32.lt_iff_toInt_lt]
      have e1 : (16 : Int32).toInt = 16 := rfl
      have e2 : (64 : Int32).toInt = 64 := rfl
      omega
    have h4 : ¬ (16 : Int32) < w := by
      rw [Int32.le_iff_toInt_le] at h1
      rw [Int32.lt_iff_toInt_lt]
      omega
    rw [if_pos h3, if_neg h4]
theorem sz_N (w : Int32) : ∃ N : Nat, (16 ≤ N ∧ N ≤ 64) ∧ sz1 w = nI N := by
  have e1 : (16 : Int32).toInt = 16 := rfl
  have e2 : (64 : Int32).toInt = 64 := rfl
  unfold sz1
  by_cases h1 : (16 : Int32) ≤ w
  · by_cases h2 : w ≤ 64
    · rw [if_pos h1, if_pos h2]
      rw [Int32.le_iff_toInt_le] at h1 h2
      have e3 : w.toNatClampNeg = w.toInt.toNat := rfl
      exact ⟨w.toNatClampNeg, ⟨by omega, by omega⟩, ztoNI (by omega)⟩
    · rw [if_pos h1, if_neg h2]
      exact ⟨64, ⟨by omega, by omega⟩, rfl⟩
  · rw [if_neg h1]
    exact ⟨16, ⟨by omega, by omega⟩, rfl⟩

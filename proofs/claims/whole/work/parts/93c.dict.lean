/-! Part 93c: the dictionary -/
def bi (b : Bool) : Int32 := if b then 1 else 0
def b3 (x y z : Bool) : Int32 := (if x then 1 else 0) + (if y then 2 else 0) + (if z then 4 else 0)
def OpR (o : Int32) (op : Nat → Int32) : Prop := ∃ x y z : Bool, o = b3 x y z ∧ op 0 = bi x ∧ op 1 = bi y ∧ op 2 = bi z
theorem t3 {t : Nat} (h : t < 3) : t = 0 ∨ t = 1 ∨ t = 2 := by omega
theorem isT_in {t : Nat} (h : t < 3) : isT (nI t) = 1 := by
  rcases t3 h with rfl | rfl | rfl <;> decide +kernel
theorem isK_n {k : Nat} (h : k < 32) : isK (nI k) = 1 := by
  unfold isK
  rw [if_neg (p_n0 (by omega)), if_neg (show ¬ (32 : Int32) ≤ nI k from p_nN (n := 32) h (by omega))]
theorem bo_is : ∀ x y z : Bool, ((if (b3 x y z >>> (nI 0 &&& 31)) &&& 1 = 1 then (1 : Int32) else 0) = bi x) ∧ ((if (b3 x y z >>> (nI 1 &&& 31)) &&& 1 = 1 then (1 : Int32) else 0) = bi y) ∧ ((if (b3 x y z >>> (nI 2 &&& 31)) &&& 1 = 1 then (1 : Int32) else 0) = bi z) := by decide +kernel
theorem bo_set : ∀ x y z : Bool, (b3 x y z ||| (1 <<< (nI 0 &&& 31)) = b3 true y z) ∧ (b3 x y z ||| (1 <<< (nI 1 &&& 31)) = b3 x true z) ∧ (b3 x y z ||| (1 <<< (nI 2 &&& 31)) = b3 x y true) := by decide +kernel
theorem bo_clr : ∀ x y z : Bool, (b3 x y z &&& ((1 <<< (nI 0 &&& 31)) ^^^ (-1)) = b3 false y z) ∧ (b3 x y z &&& ((1 <<< (nI 1 &&& 31)) ^^^ (-1)) = b3 x false z) ∧ (b3 x y z &&& ((1 <<< (nI 2 &&& 31)) ^^^ (-1)) = b3 x y false) := by decide +kernel
theorem bo_zero : ∀ x y z : Bool, (b3 x y z = 0) ↔ (bi x = 0 ∧ bi y = 0 ∧ bi z = 0) := by decide +kernel
theorem bo_cnt : ∀ x y z : Bool, b3 x y z = ((if bi x = 0 then (0 : Int32) else 1) + (if bi y = 0 then (0 : Int32) else 2)) + (if bi z = 0 then (0 : Int32) else 4) := by decide +kernel
theorem bi_01 (x : Bool) : bi x = 0 ∨ bi x = 1 := by cases x <;> decide
theorem dIsO_op {D : DS} {op : Nat → Int32} (h : OpR (dOp D) op) {t : Nat} (ht : t < 3) : dIsO D (nI t) = op t := by
  obtain ⟨x, y, z, h0, h1, h2, h3⟩ := h
  unfold dIsO
  rw [isT_in ht, if_neg (by decide), h0]
  have a := bo_is x y z
  rcases t3 ht with rfl | rfl | rfl
  · rw [h1, a.1]
  · rw [h2, a.2.1]
  · rw [h3, a.2.2]
theorem OpR_01 {o : Int32} {op : Nat → Int32} (h : OpR o op) {t : Nat} (ht : t < 3) : op t = 0 ∨ op t = 1 := by
  obtain ⟨x, y, z, h0, h1, h2, h3⟩ := h
  rcases t3 ht with rfl | rfl | rfl
  · rw [h1]; exact bi_01 x
  · rw [h2]; exact bi_01 y
  · rw [h3]; exact bi_01 z
theorem OpR_set {o : Int32} {op : Nat → Int32} (h : OpR o op) {t : Nat} (ht : t < 3) : OpR (o ||| (1 <<< (nI t &&& 31))) (upd op t 1) := by
  obtain ⟨x, y, z, h0, h1, h2, h3⟩ := h
  have a := bo_set x y z
  rw [h0]
  rcases t3 ht with rfl | rfl | rfl
  · exact ⟨true, y, z, a.1, pk_us, by rw [pk_un (by omega), h2], by rw [pk_un (by omega), h3]⟩
  · exact ⟨x, true, z, a.2.1, by rw [pk_un (by omega), h1], pk_us, by rw [pk_un (by omega), h3]⟩
  · exact ⟨x, y, true, a.2.2, by rw [pk_un (by omega), h1], by rw [pk_un (by omega), h2], pk_us⟩
theorem OpR_clr {o : Int32} {op : Nat → Int32} (h : OpR o op) {t : Nat} (ht : t < 3) : OpR (o &&& ((1 <<< (nI t &&& 31)) ^^^ (-1))) (upd op t 0) := by
  obtain ⟨x, y, z, h0, h1, h2, h3⟩ := h
  have a := bo_clr x y z
  rw [h0]
  rcases t3 ht with rfl | rfl | rfl
  · exact ⟨false, y, z, a.1, pk_us, by rw [pk_un (by omega), h2], by rw [pk_un (by omega), h3]⟩
  · exact ⟨x, false, z, a.2.1, by rw [pk_un (by omega), h1], pk_us, by rw [pk_un (by omega), h3]⟩
  · exact ⟨x, y, false, a.2.2, by rw [pk_un (by omega), h1], by rw [pk_un (by omega), h2], pk_us⟩
theorem OpR_same {o : Int32} {op op' : Nat → Int32} (h : OpR o op) (e : ∀ j, j < 3 → op' j = op j) : OpR o op' := by
  obtain ⟨x, y, z, h0, h1, h2, h3⟩ := h
  exact ⟨x, y, z, h0, by rw [e 0 (by omega), h1], by rw [e 1 (by omega), h2], by rw [e 2 (by omega), h3]⟩
abbrev DR (D : DS) (q : QS) : Prop := (dCo D = q.2.1) ∧ (dHo D = q.2.2.1) ∧ (∀ k, k < 32 → dHo D k ≠ -1 → dCh D k = q.2.2.2 k) ∧ (OpR (dOp D) q.1) ∧ (∀ k, k < 32 → dHo D k = -1 ∨ ∃ j, j < 3 ∧ dHo D k = nI j ∧ q.1 j = 1)
theorem DR.va {D : DS} {q : QS} (h : DR D q) : dCo D = q.2.1 := h.1
theorem DR.ho {D : DS} {q : QS} (h : DR D q) : dHo D = q.2.2.1 := h.2.1
theorem DR.he {D : DS} {q : QS} (h : DR D q) : ∀ k, k < 32 → dHo D k ≠ -1 → dCh D k = q.2.2.2 k := h.2.2.1
theorem DR.op {D : DS} {q : QS} (h : DR D q) : OpR (dOp D) q.1 := h.2.2.2.1
theorem DR.hl {D : DS} {q : QS} (h : DR D q) : ∀ k, k < 32 → dHo D k = -1 ∨ ∃ j, j < 3 ∧ dHo D k = nI j ∧ q.1 j = 1 := h.2.2.2.2
theorem DR_op {D : DS} {op op' va ho he : Nat → Int32} (h : DR D (op, va, ho, he)) (e : ∀ j, j < 3 → op' j = op j) : DR D (op', va, ho, he) := by
  refine ⟨h.va, h.ho, h.he, OpR_same h.op e, fun k hk => ?_⟩
  rcases h.hl k hk with a | ⟨j, hj, a, b⟩
  · exact .inl a
  · exact .inr ⟨j, hj, a, by show op' j = 1; rw [e j hj]; exact b⟩
theorem nI_nm1 {t : Nat} (h : t < 2 ^ 31) : ¬ nI t = -1 := fun e => by
  have a := nI_toInt h
  rw [e] at a
  have b : (-1 : Int32).toInt = -1 := rfl
  omega
theorem DR_chg {D : DS} {op va ho he : Nat → Int32} (h : DR D (op, va, ho, he)) {t k : Nat} (ht : t < 3) (hk : k < 32) (v : Int32) : DR (dChg D (nI t) (nI k) v) (upd op t 1, va, upd ho k (nI t), upd he k v) := by
  have e : dChg D (nI t) (nI k) v = dsCh (dsHo (dsOp D (dOp D ||| (1 <<< (nI t &&& 31)))) (upd (dHo D) k (nI t))) (upd (dCh D) k v) := by
    unfold dChg
    rw [isT_in ht, isK_n hk, if_neg (by decide), if_neg (by decide), nI_clamp (by omega)]
  rw [e]
  refine ⟨h.va, ?_, fun i hi hh => ?_, OpR_set h.op ht, fun i hi => ?_⟩
  · show upd (dHo D) k (nI t) = upd ho k (nI t)
    rw [h.ho]
  · show upd (dCh D) k v i = upd he k v i
    have hh' : upd (dHo D) k (nI t) i ≠ -1 := hh
    by_cases e1 : i = k
    · rw [e1, pk_us, pk_us]
    · rw [pk_un e1] at hh'
      rw [pk_un e1, pk_un e1]; exact h.he i hi hh'
  · show upd (dHo D) k (nI t) i = -1 ∨ ∃ j, j < 3 ∧ upd (dHo D) k (nI t) i = nI j ∧ upd op t 1 j = 1
    by_cases e1 : i = k
    · exact .inr ⟨t, ht, by rw [e1, pk_us], pk_us⟩
    · rw [pk_un e1]
      rcases h.hl i hi with a | ⟨j, hj, a, b⟩
      · exact .inl a
      · refine .inr ⟨j, hj, a, ?_⟩
        by_cases e2 : j = t
        · rw [e2, pk_us]
        · rw [pk_un e2]; exact b
theorem cl_rl (t kp : Int32) (ht : t ≠ -1) (he : Nat → Int32) : ∀ (n j : Nat) (cnt : Int32) (D : DS), j + n = 32 → (∀ k, j ≤ k → k < 32 → dHo D k = t → dCh D k = he k) → (clL t kp n j (cnt, D)).1 = (rlL t kp he n j (cnt, dCo D, dHo D)).1 ∧ dCo (clL t kp n j (cnt, D)).2 = (rlL t kp he n j (cnt, dCo D, dHo D)).2.1 ∧ dHo (clL t kp n j (cnt, D)).2 = (rlL t kp he n j (cnt, dCo D, dHo D)).2.2 ∧ dCh (clL t kp n j (cnt, D)).2 = dCh D ∧ dOp (clL t kp n j (cnt, D)).2 = dOp D
  | 0, j, cnt, D, _, _ => ⟨rfl, rfl, rfl, rfl, rfl⟩
  | n + 1, j, cnt, D, hj, hh => by
    unfold clL rlL
    by_cases e : dHo D j = t
    · have e1 : clS t kp j (cnt, D) = (cnt + 1, dsCo (dsHo D (upd (dHo D) j (-1))) (upd (dCo D) j (if kp = 0 then dCo D j else dCh D j))) := if_pos e
      have e2 : rlS t kp he j (cnt, dCo D, dHo D) = (cnt + 1, upd (dCo D) j (if kp = 0 then dCo D j else he j), upd (dHo D) j (-1)) := if_pos e
      rw [e1, e2, ← hh j (by omega) (by omega) e]
      exact cl_rl t kp ht he n (j + 1) (cnt + 1) (dsCo (dsHo D (upd (dHo D) j (-1))) (upd (dCo D) j (if kp = 0 then dCo D j else dCh D j))) (by omega) (fun k h1 h2 h3 => hh k (by omega) h2 (by
        have h3' : upd (dHo D) j (-1) k = t := h3
        rw [pk_un (by omega)] at h3'; exact h3'))
    · have e1 : clS t kp j (cnt, D) = (cnt, D) := if_neg e
      have e2 : rlS t kp he j (cnt, dCo D, dHo D) = (cnt, dCo D, dHo D) := if_neg e
      rw [e1, e2]
      exact cl_rl t kp ht he n (j + 1) cnt D (by omega) (fun k h1 h2 h3 => hh k (by omega) h2 h3)
theorem rl_ho (t kp : Int32) (ht : t ≠ -1) (he : Nat → Int32) : ∀ (n j : Nat) (x : Int32 × (Nat → Int32) × (Nat → Int32)) (k : Nat), (rlL t kp he n j x).2.2 k = if j ≤ k ∧ k < j + n ∧ x.2.2 k = t then -1 else x.2.2 k
  | 0, j, x, k => by rw [if_neg (by omega)]; rfl
  | n + 1, j, x, k => by
    unfold rlL
    rw [rl_ho t kp ht he n (j + 1)]
    by_cases e : x.2.2 j = t
    · have e2 : rlS t kp he j x = (x.1 + 1, upd x.2.1 j (if kp = 0 then x.2.1 j else he j), upd x.2.2 j (-1)) := if_pos e
      rw [e2]
      show (if j + 1 ≤ k ∧ k < j + 1 + n ∧ upd x.2.2 j (-1) k = t then -1 else upd x.2.2 j (-1) k) = _
      by_cases e3 : k = j
      · rw [e3, pk_us, if_neg (by omega), if_pos ⟨by omega, by omega, e⟩]
      · rw [pk_un e3]
        by_cases e4 : j + 1 ≤ k ∧ k < j + 1 + n ∧ x.2.2 k = t
        · rw [if_pos e4, if_pos ⟨by omega, by omega, e4.2.2⟩]
        · rw [if_neg e4, if_neg (fun h => e4 ⟨by omega, by omega, h.2.2⟩)]
    · have e2 : rlS t kp he j x = x := if_neg e
      rw [e2]
      by_cases e4 : j + 1 ≤ k ∧ k < j + 1 + n ∧ x.2.2 k = t
      · rw [if_pos e4, if_pos ⟨by omega, by omega, e4.2.2⟩]
      · rw [if_neg e4, if_neg (fun h => e4 ⟨by
          by_cases e5 : k = j
          · rw [e5] at h; exact absurd h.2.2 e
          · omega, by omega, h.2.2⟩)]
theorem rl_none (t kp : Int32) (he : Nat → Int32) : ∀ (n j : Nat) (x : Int32 × (Nat → Int32) × (Nat → Int32)), (∀ k, j ≤ k → k < j + n → x.2.2 k ≠ t) → rlL t kp he n j x = x
  | 0, j, x, _ => rfl
  | n + 1, j, x, h => by
    unfold rlL
    rw [show rlS t kp he j x = x from if_neg (h j (by omega) (by omega))]
    exact rl_none t kp he n (j + 1) x (fun k h1 h2 => h k (by omega) (by omega))
theorem DR_close {D : DS} {op va ho he : Nat → Int32} (h : DR D (op, va, ho, he)) {t : Nat} (ht : t < 3) (kp : Int32) : (dClose D (nI t) kp).1 = (mRl (nI t) kp he va ho).1 ∧ DR (dClose D (nI t) kp).2 (upd op t 0, (mRl (nI t) kp he va ho).2.1, (mRl (nI t) kp he va ho).2.2, he) := by
  have hva : dCo D = va := h.va
  have hho : dHo D = ho := h.ho
  have hm : mRl (nI t) kp he va ho = rlL (nI t) kp he 32 0 (0, va, ho) := hide_eq _
  rw [hm, ← hva, ← hho]
  have hO := dIsO_op h.op ht
  unfold dClose
  rcases OpR_01 h.op ht with a | a
  · rw [hO, a, if_pos rfl]
    have hn : ∀ k, 0 ≤ k → k < 0 + 32 → dHo D k ≠ nI t := fun k _ hk e => by
      rcases h.hl k (by omega) with b | ⟨j, hj, b, b2⟩
      · rw [e] at b; exact nI_nm1 (by omega) b
      · rw [e, nI_eq (by omega) (by omega)] at b
        have b3 : op j = 1 := b2
        have a' : op t = 0 := a
        rw [← b, a'] at b3
        exact absurd b3 (by decide)
    rw [rl_none (nI t) kp he 32 0 (0, dCo D, dHo D) hn]
    refine ⟨rfl, DR_op (op := op) (by rw [hva, hho]; exact h) (fun j hj => ?_)⟩
    by_cases e : j = t
    · rw [e, pk_us]; exact a.symm
    · rw [pk_un e]
  · rw [hO, a, if_neg (by decide)]
    obtain ⟨c1, c2, c3, c4, c5⟩ := cl_rl (nI t) kp (nI_nm1 (by omega)) he 32 0 0 D rfl (fun k _ hk e => h.he k hk (by rw [e]; exact nI_nm1 (by omega)))
    have c6 := rl_ho (nI t) kp (nI_nm1 (by omega)) he 32 0 (0, dCo D, dHo D)
    generalize clL (nI t) kp 32 0 (0, D) = y at c1 c2 c3 c4 c5 ⊢
    generalize rlL (nI t) kp he 32 0 (0, dCo D, dHo D) = z at c1 c2 c3 c6 ⊢
    have c7 : ∀ k, dHo y.2 k = if 0 ≤ k ∧ k < 0 + 32 ∧ dHo D k = nI t then -1 else dHo D k := fun k => by rw [c3, c6]
    refine ⟨c1, ⟨c2, c3, fun k hk hh => ?_, ?_, fun k hk => ?_⟩⟩
    · show dCh y.2 k = he k
      rw [c4]
      apply h.he k hk
      have hh' : dHo y.2 k ≠ -1 := hh
      rw [c7] at hh'
      intro e
      apply hh'
      rw [e]; split <;> rfl
    · show OpR (dOp y.2 &&& ((1 <<< (nI t &&& 31)) ^^^ (-1))) (upd op t 0)
      rw [c5]
      exact OpR_clr h.op ht
    · show dHo y.2 k = -1 ∨ ∃ j, j < 3 ∧ dHo y.2 k = nI j ∧ upd op t 0 j = 1
      rw [c7]
      by_cases e : dHo D k = nI t
      · rw [if_pos ⟨by omega, by omega, e⟩]; exact .inl rfl
      · rw [if_neg (fun x => e x.2.2)]
        rcases h.hl k hk with b | ⟨j, hj, b, b2⟩
        · exact .inl b
        · refine .inr ⟨j, hj, b, ?_⟩
          rw [pk_un (fun e2 => e (by rw [b, e2]))]; exact b2

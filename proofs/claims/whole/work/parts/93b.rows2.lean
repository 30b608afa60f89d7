/-! Part 93b: a sector in memory and the reference's row -/
def RE (c : Nat) (g0 g r : Nat → Int32) : Prop := (∀ k, k < 32 → g (32 * c + k) = r k) ∧ (∀ i, (i < 32 * c ∨ 32 * c + 32 ≤ i) → g i = g0 i)
theorem RE_upd {c k : Nat} {g0 g r : Nat → Int32} (h : RE c g0 g r) (hk : k < 32) (v : Int32) : RE c g0 (upd g (32 * c + k) v) (upd r k v) := by
  refine ⟨fun j hj => ?_, fun i hi => ?_⟩
  · by_cases e : j = k
    · rw [e, pk_us, pk_us]
    · rw [pk_un (by omega), pk_un e, h.1 j hj]
  · rw [pk_un (by omega), h.2 i hi]
theorem RE_sB {N c k : Nat} (hN : 16 ≤ N ∧ N ≤ 64) (hc : c < N) {g0 g r : Nat → Int32} (h : RE c g0 g r) (hk : k < 32) (v : Int32) : RE c g0 (sB N g (nI c) (nI k) v) (upd r k (b8 v)) := by
  rw [sB_in hN hc hk]; exact RE_upd h hk _
theorem clr_at {N c : Nat} (hN : 16 ≤ N ∧ N ≤ 64) (hc : c < N) (f : Nat → Int32) (i : Nat) : ∀ n, n ≤ 32 → clr N f (nI c) n i = if 32 * c ≤ i ∧ i < 32 * c + n then 0 else f i
  | 0, _ => by rw [if_neg (by omega)]; rfl
  | n + 1, h => by
    show sB N (clr N f (nI c) n) (nI c) (nI n) 0 i = _
    rw [sB_in hN hc (by omega)]
    by_cases e : i = 32 * c + n
    · rw [e, pk_us, if_pos (by omega)]; rfl
    · rw [pk_un e, clr_at hN hc f i n (by omega)]
      by_cases e2 : 32 * c ≤ i ∧ i < 32 * c + n
      · rw [if_pos e2, if_pos (by omega)]
      · rw [if_neg e2, if_neg (by omega)]
theorem clA_at (r : Nat → Int32) (i : Nat) : ∀ n, clA r n i = if i < n then 0 else r i
  | 0 => by rw [if_neg (by omega)]; rfl
  | n + 1 => by
    show upd (clA r n) n 0 i = _
    by_cases e : i = n
    · rw [e, pk_us, if_pos (by omega)]
    · rw [pk_un e, clA_at r i n]
      by_cases e2 : i < n
      · rw [if_pos e2, if_pos (by omega)]
      · rw [if_neg e2, if_neg (by omega)]
theorem RE_clr {N c : Nat} (hN : 16 ≤ N ∧ N ≤ 64) (hc : c < N) (g r : Nat → Int32) : RE c g (clr N g (nI c) 32) (clA r 32) := by
  refine ⟨fun k hk => ?_, fun i hi => ?_⟩
  · rw [clr_at hN hc g _ 32 (by omega), clA_at, if_pos (by omega), if_pos hk]
  · rw [clr_at hN hc g _ 32 (by omega), if_neg (by omega)]
theorem RE_swap {c : Nat} {g0 g r r' : Nat → Int32} (h : RE c g0 g r) (hr : ∀ k, k < 32 → r k = r' k) : RE c g0 g r' := ⟨fun k hk => by rw [h.1 k hk, hr k hk], h.2⟩
theorem nm3_at (x : Int32) (u : Nat) (r : Nat → Int32) : nmL x 3 u r 3 = upd (upd (upd r u (b8 (x >>> (16 : Int32)))) (u + 1) (b8 (x >>> (8 : Int32)))) (u + 2) (b8 x) := by
  show upd (upd (upd r (u + 0) (b8 (x >>> ((8 * (nI 3 - 1 - nI 0)) &&& 31)))) (u + 1) (b8 (x >>> ((8 * (nI 3 - 1 - nI 1)) &&& 31)))) (u + 2) (b8 (x >>> ((8 * (nI 3 - 1 - nI 2)) &&& 31))) = _
  rw [show ((8 * (nI 3 - 1 - nI 0)) &&& 31) = (16 : Int32) by decide +kernel, show ((8 * (nI 3 - 1 - nI 1)) &&& 31) = (8 : Int32) by decide +kernel, show ((8 * (nI 3 - 1 - nI 2)) &&& 31) = (0 : Int32) by decide +kernel, Int32.shiftRight_zero]
  rfl
theorem nm4_at (x : Int32) (u : Nat) (r : Nat → Int32) : nmL x 4 u r 4 = upd (upd (upd (upd r u (b8 (x >>> (24 : Int32)))) (u + 1) (b8 (x >>> (16 : Int32)))) (u + 2) (b8 (x >>> (8 : Int32)))) (u + 3) (b8 x) := by
  show upd (upd (upd (upd r (u + 0) (b8 (x >>> ((8 * (nI 4 - 1 - nI 0)) &&& 31)))) (u + 1) (b8 (x >>> ((8 * (nI 4 - 1 - nI 1)) &&& 31)))) (u + 2) (b8 (x >>> ((8 * (nI 4 - 1 - nI 2)) &&& 31)))) (u + 3) (b8 (x >>> ((8 * (nI 4 - 1 - nI 3)) &&& 31))) = _
  rw [show ((8 * (nI 4 - 1 - nI 0)) &&& 31) = (24 : Int32) by decide +kernel, show ((8 * (nI 4 - 1 - nI 1)) &&& 31) = (16 : Int32) by decide +kernel, show ((8 * (nI 4 - 1 - nI 2)) &&& 31) = (8 : Int32) by decide +kernel, show ((8 * (nI 4 - 1 - nI 3)) &&& 31) = (0 : Int32) by decide +kernel, Int32.shiftRight_zero]
  rfl
theorem upd_comm (f : Nat → Int32) {a b : Nat} (h : a ≠ b) (x y : Int32) : upd (upd f a x) b y = upd (upd f b y) a x := by
  funext i
  unfold upd
  by_cases e1 : i = a
  · by_cases e2 : i = b
    · omega
    · rw [if_neg e2, if_pos e1, if_pos e1]
  · by_cases e2 : i = b
    · rw [if_pos e2, if_neg e1, if_pos e2]
    · rw [if_neg e2, if_neg e1, if_neg e1, if_neg e2]
theorem RE_sN3 {N c u : Nat} (hN : 16 ≤ N ∧ N ≤ 64) (hc : c < N) {g0 g r : Nat → Int32} (h : RE c g0 g r) (hu : u + 3 ≤ 32) (x : Int32) : RE c g0 (sN N (nI c) (nI u) 3 g x) (nmL x 3 u r 3) := by
  rw [nm3_at]
  show RE c g0 (sB N (sB N (sB N g (nI c) (nI u + nI 2) x) (nI c) (nI u + nI 1) (ush x 8)) (nI c) (nI u + nI 0) (ush (ush x 8) 8)) _
  rw [nI_add, nI_add, nI_add, sB_in hN hc (by omega), sB_in hN hc (by omega), sB_in hN hc (by omega), b8_u1, b8_u2, Nat.add_zero]
  rw [upd_comm r (show u ≠ u + 1 by omega), upd_comm (upd r (u + 1) _) (show u ≠ u + 2 by omega), upd_comm r (show u + 1 ≠ u + 2 by omega)]
  exact RE_upd (RE_upd (RE_upd h (by omega) _) (by omega) _) (by omega) _
theorem RE_sN4 {N c u : Nat} (hN : 16 ≤ N ∧ N ≤ 64) (hc : c < N) {g0 g r : Nat → Int32} (h : RE c g0 g r) (hu : u + 4 ≤ 32) (x : Int32) : RE c g0 (sN N (nI c) (nI u) 4 g x) (nmL x 4 u r 4) := by
  rw [nm4_at]
  show RE c g0 (sB N (sB N (sB N (sB N g (nI c) (nI u + nI 3) x) (nI c) (nI u + nI 2) (ush x 8)) (nI c) (nI u + nI 1) (ush (ush x 8) 8)) (nI c) (nI u + nI 0) (ush (ush (ush x 8) 8) 8)) _
  rw [nI_add, nI_add, nI_add, nI_add, sB_in hN hc (by omega), sB_in hN hc (by omega), sB_in hN hc (by omega), sB_in hN hc (by omega), b8_u1, b8_u2, b8_u3, Nat.add_zero]
  have e : upd (upd (upd (upd r u (b8 (x >>> (24 : Int32)))) (u + 1) (b8 (x >>> (16 : Int32)))) (u + 2) (b8 (x >>> (8 : Int32)))) (u + 3) (b8 x) = upd (upd (upd (upd r (u + 3) (b8 x)) (u + 2) (b8 (x >>> (8 : Int32)))) (u + 1) (b8 (x >>> (16 : Int32)))) u (b8 (x >>> (24 : Int32))) := by
    funext i
    unfold upd
    by_cases e0 : i = u
    · rw [if_neg (by omega), if_neg (by omega), if_neg (by omega), if_pos e0, if_pos e0]
    by_cases e1 : i = u + 1
    · rw [if_neg (by omega), if_neg (by omega), if_pos e1, if_neg e0, if_pos e1]
    by_cases e2 : i = u + 2
    · rw [if_neg (by omega), if_pos e2, if_neg e0, if_neg e1, if_pos e2]
    by_cases e3 : i = u + 3
    · rw [if_pos e3, if_neg e0, if_neg e1, if_neg e2, if_pos e3]
    · rw [if_neg e3, if_neg e2, if_neg e1, if_neg e0, if_neg e0, if_neg e1, if_neg e2, if_neg e3]
  rw [e]
  exact RE_upd (RE_upd (RE_upd (RE_upd h (by omega) _) (by omega) _) (by omega) _) (by omega) _
theorem smA_R {c : Nat} {g0 g r : Nat → Int32} (h : RE c g0 g r) : ∀ n, n ≤ 28 → smA g c n = smR r (nI c) n
  | 0, _ => rfl
  | n + 1, hn => by
    show stpM (smA g c n) (bA g c n) = stpM (smR r (nI c) n) (r n &&& 255)
    rw [smA_R h n (by omega), show bA g c n = r n &&& 255 by unfold bA; rw [h.1 n (by omega)]]
theorem RE_seal {N c : Nat} (hN : 16 ≤ N ∧ N ≤ 64) (hc : c < N) {g0 g r : Nat → Int32} (h : RE c g0 g r) : RE c g0 (sealS N g (nI c)) (slRow r (nI c)) := by
  unfold sealS slRow
  rw [smOf_in hN hc, smA_R h 28 (by omega)]
  exact RE_sN4 hN hc (u := 28) h (by omega) _
/-- prepare and clearRow -/
theorem RE_prep {N c : Nat} (hN : 16 ≤ N ∧ N ≤ 64) (hc : c < N) (g r : Nat → Int32) (kd se it : Int32) : RE c g (prep N g (nI c) kd se it) (upd (clRow r kd se) 5 (b8 it)) := by
  unfold prep clRow
  exact RE_sB hN hc (k := 5) (RE_sN4 hN hc (u := 1) (RE_sB hN hc (k := 0) (RE_clr hN hc g r) (by omega) kd) (by omega) se) (by omega) it
theorem clRow_5 (r : Nat → Int32) (kd se : Int32) : clRow r kd se 5 = 0 := by
  unfold clRow
  rw [nm4_at, pk_un (by omega), pk_un (by omega), pk_un (by omega), pk_un (by omega), pk_un (by omega), clA_at, if_pos (by omega)]
theorem RE_prep0 {N c : Nat} (hN : 16 ≤ N ∧ N ≤ 64) (hc : c < N) (g r : Nat → Int32) (kd se : Int32) : RE c g (prep N g (nI c) kd se 0) (clRow r kd se) := by
  refine RE_swap (RE_prep hN hc g r kd se 0) (fun k hk => ?_)
  by_cases e : k = 5
  · rw [e, pk_us, clRow_5]; rfl
  · rw [pk_un e]
/-- the entries -/
theorem RE_wl {N c : Nat} (hN : 16 ≤ N ∧ N ≤ 64) (hc : c < N) {g0 g r : Nat → Int32} (h : RE c g0 g r) (eh ek ev : Nat → Int32) : ∀ n, n ≤ 4 → RE c g0 (wlL N (nI c) eh ek ev g n) (weL eh ek ev r n)
  | 0, _ => h
  | n + 1, hn => by
    have ih := RE_wl hN hc h eh ek ev n (by omega)
    show RE c g0 (sN N (nI c) (6 + nI n * 5 + 2) 3 (sB N (sB N (wlL N (nI c) eh ek ev g n) (nI c) (6 + nI n * 5) (eh n)) (nI c) (6 + nI n * 5 + 1) (ek n)) (ev n)) (nmL (ev n) 3 (8 + 5 * n) (upd (upd (weL eh ek ev r n) (6 + 5 * n) (b8 (eh n))) (7 + 5 * n) (b8 (ek n))) 3)
    rw [show (6 : Int32) + nI n * 5 = nI (6 + 5 * n) by rw [show (5 : Int32) = nI 5 from rfl, zmul, show (6 : Int32) = nI 6 from rfl, nI_add, Nat.mul_comm], nI_1, show (2 : Int32) = nI 2 from rfl, nI_add, show 6 + 5 * n + 2 = 8 + 5 * n by omega, show 6 + 5 * n + 1 = 7 + 5 * n by omega]
    exact RE_sN3 hN hc (RE_sB hN hc (RE_sB hN hc ih (by omega) _) (by omega) _) (by omega) _

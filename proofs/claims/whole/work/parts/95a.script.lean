/-! Part 95a: the script, its first number, and start in every state -/
def zX (K : KX) (b L : Nat) (xs : Nat → Int32) : Prop := match K with
  | (_, _, _, s, _, _, _, _, _, _, A, _) => va_X b L xs s s.heap ∧ b < s.heap.size ∧ ¬ A b
def cellPre (b L : Nat) (xs : Nat → Int32) (sz : Nat) (U : State) : Prop := U.heap.size = sz ∧ va_X b L xs U U.heap ∧ b < sz
def fst0 (L : Nat) (xs : Nat → Int32) : Int32 := if 0 < L then xs 0 else 0
abbrev rmL_cell : Room := { frames := 0, cells := 0, slots := 0, locals := 0 }
theorem cellPre_blind (av : List Value) (b L : Nat) (xs : Nat → Int32) (sz : Nat) : FrameBlind (va_Pc av (cellPre b L xs sz)) := fun a U g mk q => by
  obtain ⟨q0, q1, qX, qb⟩ := q
  exact ⟨q0, q1, va_X.moved (u := U) (U := U.calling g mk a) (Vm.Alike.refl U.vm) qX, qb⟩
theorem hyL_cell : yL_cell.cls ≠ "java/lang/invoke/MethodHandle" ∧ yL_cell.cls ≠ "java/lang/invoke/VarHandle" ∧ (parseMethodDescriptor yL_cell.desc).map (fun d => d.parameters.length) = some 2 := by decide +kernel
set_option maxHeartbeats 4000000 in
set_option maxRecDepth 3000 in
theorem c_L_cell (l : Launch) (b L : Nat) (hL : L ≤ 257) (xs : Nat → Int32) (sz : Nat) : Met l yL_cell wsL_cell rmL_cell (va_Pc [.ref b, .int 0] (cellPre b L xs sz)) (va_Qi (fun x (_ : Unit) => x = fst0 L xs) (fun _ _ => True) (va_A [] sz)) 0 0 (va_A [] sz) := by
  refine Met.ofW (cc := cL_cell) (maxL := 2) (ret := some .int) (by decide) rfl ?_
  intro p e s m args below meth c s₁ B hml hv
  obtain ⟨rfl, hsz, hX, hbs⟩ := hv
  subst hsz
  have hx := B.exec
  have hb := B.bytes
  have hlocks : meth.locks = false := B.notSynchronized
  have hl := lv_entry ([.ref b, .int 0] : List Value) (n := 2) (Nat.le_of_ble_eq_true rfl)
  rw [lg_entry_eq]
  generalize (lg_sl ([.ref b, .int 0] : List Value) ++ List.replicate (2 - (lg_sl ([.ref b, .int 0] : List Value)).length) Slot.unset).toArray = ls at hl ⊢
  have hl : lv_has ls 2 [(0, .ref b), (1, .int 0)] := hl
  have hS : va_S (va_A [] s.heap.size) s.heap s.heap [] := va_S.rf
  have hbA : ¬ va_A [] s.heap.size b := fun h => by
    rcases h with ⟨k, e, h⟩ | h
    · simp at h
    · omega
  refine lv_iload_n hx hb dL_cell_0 rfl (lv_at hl 1 rfl) ?_
  refine lv_aload_n hx hb dL_cell_1 rfl (lv_at hl 0 rfl) ?_
  refine va_slen hx hb hX hbs hbA hS dL_cell_2 ?_
  refine lv_icmp_ge (tgt := 12) hx hb dL_cell_3 (by decide) (fun h => ?_) (fun h => ?_)
  · refine lv_iconst (v := 0) hx hb dL_cell_12 (by decide) ?_
    have h2 : L = 0 := by
      have h3 : nI L ≤ nI 0 := h
      rw [nI_leI (by omega) (by omega)] at h3
      omega
    exact W.zret (v := 0) hx hb B.returns (vp_nar_int _) (fun t ht _ => ⟨⟨0, (), rfl, by unfold fst0; rw [if_neg (by omega)], trivial⟩, hS.F ht⟩) hS.2.2 dL_cell_13 hlocks
  · have h2 : 0 < L := by
      rcases Nat.eq_zero_or_pos L with q | q
      · exact absurd (by rw [q]; decide) h
      · exact q
    refine lv_aload_n hx hb dL_cell_6 rfl (lv_at hl 0 rfl) ?_
    refine lv_iload_n hx hb dL_cell_7 rfl (lv_at hl 1 rfl) ?_
    refine va_sld hx hb hX hbs hbA hS (show vp_in 0 L from vp_in_nI (n := 0) h2 (by omega)) dL_cell_8 ?_
    refine lv_goto (tgt := 13) hx hb dL_cell_9 (by decide) ?_
    exact W.zret (v := xs 0) hx hb B.returns (vp_nar_int _) (fun t ht _ => ⟨⟨xs 0, (), rfl, by unfold fst0; rw [if_pos h2], trivial⟩, hS.F ht⟩) hS.2.2 dL_cell_13 hlocks
section ZS
variable {E : GE} {K : KX} {cc : ByteArray} {Ts : List Cond} {own : String} {rm : Room} {nL ce sl pc : Nat} {V V' : va_W} {lv lv' : List (Nat × Value)} {st : List Value}
theorem z_sld (C : zC E K cc Ts own rm nL) {b L : Nat} {xs : Nat → Int32} (hX : zX K b L xs) {i v : Int32} (hin : vp_in i L) (hv : xs i.toNatClampNeg = v) (hd : decode cc pc = .ok (.iaload, 1)) (k : Z E K ce sl V (pc + 1) lv (.int v :: st)) : Z E K ce sl V pc lv (.int i :: .ref b :: st) := by
  subst hv
  obtain ⟨p, e, R, s, m, args, below, meth, c, nL', A, Q⟩ := K
  obtain ⟨hx, hb, hml, hnl, hrm, hown, hts, hA, hK, hlk⟩ := C
  subst hnl
  intro H locs ls hP hD hS hl
  exact va_sld hx hb hX.1 hX.2.1 hX.2.2 hS hin hd (k H locs ls hP hD hS hl)
theorem z_slen (C : zC E K cc Ts own rm nL) {b L : Nat} {xs : Nat → Int32} (hX : zX K b L xs) (hd : decode cc pc = .ok (.arraylength, 1)) (k : Z E K ce sl V (pc + 1) lv (.int (nI L) :: st)) : Z E K ce sl V pc lv (.ref b :: st) := by
  obtain ⟨p, e, R, s, m, args, below, meth, c, nL', A, Q⟩ := K
  obtain ⟨hx, hb, hml, hnl, hrm, hown, hts, hA, hK, hlk⟩ := C
  subst hnl
  intro H locs ls hP hD hS hl
  exact va_slen hx hb hX.1 hX.2.1 hX.2.2 hS hd (k H locs ls hP hD hS hl)
theorem z_cell (C : zC E K cc Ts own rm nL) {b L : Nat} {xs : Nat → Int32} (hL : L ≤ 257) (hX : zX K b L xs) {index : Nat} (hG : GoodIn Ts (va_wsS own index yL_cell wsL_cell)) (hR : rmL_cell.frames + 1 ≤ rm.frames ∧ 8 + (2 + 11) + rmL_cell.locals ≤ rm.locals) (hcap : ce ≤ rm.cells ∧ sl ≤ rm.slots) (hst : (st.map fun v => v.category).sum ≤ 8) (hd : decode cc pc = .ok (.invokestatic index, 3)) (k : Z E K ce sl V (pc + 3) lv (.int (fst0 L xs) :: st)) : Z E K ce sl V pc lv (.int 0 :: .ref b :: st) := by
  obtain ⟨p, e, R, s, m, args, below, meth, c, nL', A, Q⟩ := K
  obtain ⟨hx, hb, hml, hnl, hrm, hown, hts, hA, hK, hlk⟩ := C
  subst hnl
  intro H locs ls hP hD hS hl
  subst hrm
  have hFc := va_free (wc := []) hD hS hA [] rfl
  have hXH : va_X b L xs s H := va_X.kept hX.1 (hS.2.1 b hX.2.1 hX.2.2)
  refine va_calli (va_runS (As := [.ref b, .int 0]) (rest := st) ⟨hx, hb, hml, hown, hts⟩ (c_L_cell (gL E) b L hL xs H.size) (va_cwS 2 hts hG rfl rfl rfl hyL_cell hR) ⟨cellPre_blind _ _ _ _ _, fun U hU hW => ⟨rfl, by rw [hU], by rw [hU]; exact va_X.moved hW.alike hXH, Nat.lt_of_lt_of_le hX.2.1 hS.1⟩⟩ rfl rfl hl.1 rfl (lv_room hst) hd ⟨hcap.1, hcap.2⟩) hS (fun q _ h => hFc q h) hFc (fun r1 u t H1 locs1 ht hvm hw2 hB hz1 hk1 hS1 => ?_)
  have hw3 : r1 = fst0 L xs := hw2
  subst hw3
  exact k H1 locs1 ls (z_ro (wc := []) hP hD [] rfl hk1 (fun k q h => by simp at h)) hD hS1 hl
end ZS

/-! Part 02: one judgement for all walks. E: what holds for the whole run (launch, class numbers); K: one activation; Z E K ce sl V pc lv st: from pc, with the cells V, the locals lv, the stack st, the activation comes to its end -/
abbrev GE : Type := Launch × va_G × ClassId × ClassId × ClassId
abbrev gL (E : GE) : Launch := E.1
abbrev gD (E : GE) : va_G := E.2.1
abbrev gB (E : GE) : ClassId := E.2.2.1
abbrev gI (E : GE) : ClassId := E.2.2.2.1
abbrev gZ (E : GE) : ClassId := E.2.2.2.2
abbrev gT (E : GE) : List (ClassId × FieldType) := [(gB E, .byte), (gI E, .int), (gZ E, .boolean)]
def zK (E : GE) (U : State) : Prop := va_K (gD E) vwCl (gT E) U ∧ va_Nw (.methodLinkNest RX4 27 yX1_init "StoreLog3") U ∧ va_Nw (.methodLinkNest RX0 32 yX4_isTransaction "StoreLog3") U ∧ va_Nw (.methodLinkNest RX0 35 yX4_isKey "StoreLog3") U ∧ va_Nw (.methodLinkNest RX1 77 yX4_isTransaction "StoreLog3") U ∧ va_Nw (.methodLinkNest RX1 80 yX4_isKey "StoreLog3") U
theorem zK.warm {E : GE} {s U : State} (hW : s.WarmedH U.vm) (h : zK E s) : zK E U := ⟨va_K.moved hW.alike h.1, va_Nw.warmM hW h.2.1, va_Nw.warmM hW h.2.2.1, va_Nw.warmM hW h.2.2.2.1, va_Nw.warmM hW h.2.2.2.2.1, va_Nw.warmM hW h.2.2.2.2.2⟩
theorem zK.same {E : GE} {s U : State} (hW : s.vm = U.vm) (h : zK E s) : zK E U := ⟨va_K.moved (by rw [hW]; exact Vm.Alike.refl U.vm) h.1, va_Nw.same rfl hW h.2.1, va_Nw.same rfl hW h.2.2.1, va_Nw.same rfl hW h.2.2.2.1, va_Nw.same rfl hW h.2.2.2.2.1, va_Nw.same rfl hW h.2.2.2.2.2⟩
abbrev KX : Type := Program × Env × Room × State × MethodId × Array Value × List Frame × Method × Code × Nat × (Nat → Prop) × (State → Prop)
def zC (E : GE) (K : KX) (cc : ByteArray) (Ts : List Cond) (own : String) (rm : Room) (nL : Nat) : Prop := match K with
  | (p, _, R, s, m, args, _, meth, c, nL', A, _) => p.tables.exec = Jvm.exec ∧ c.code = cc ∧ c.maxLocals = nL ∧ nL' = nL ∧ R = rm ∧ s.vm.findClass own = some m.cls ∧ (∀ w ∈ Ts, w.before args s = true) ∧ (∀ q, s.heap.size ≤ q → A q) ∧ zK E s ∧ meth.locks = false
def zw (K : KX) (w : Cond) : Prop := match K with
  | (_, _, _, s, _, args, _, _, _, _, _, _) => w.before args s = true
def zN (K : KX) (n : String) : Prop := match K with
  | (_, _, _, _, _, _, _, meth, _, _, _, _) => meth.name = n
def Z (E : GE) (K : KX) (ce sl : Nat) (V : va_W) (pc : Nat) (lv : List (Nat × Value)) (st : List Value) : Prop := match K with
  | (p, e, R, s, m, args, below, meth, c, nL, A, Q) => ∀ (H : Heap) (locs : List Loc) (ls : Array Slot), va_P (gD E) vwCl V H → va_D A V → va_S A s.heap H locs → lv_has ls nL lv → W p (gL E) e R s m args below meth c H locs ce sl Q (F0 m pc ls st)
def zPre (E : GE) (V : va_W) (sz : Nat) (U : State) : Prop := U.heap.size = sz ∧ va_P (gD E) vwCl V U.heap ∧ zK E U ∧ va_D (fun _ => True) V
def zQi (E : GE) (V : va_W) (r : Int32) (V' : va_W) (sz : Nat) : Array Value → State → Outcome → State → Prop := va_Qi (fun x (_ : Unit) => x = r) (fun _ t => va_P (gD E) vwCl V' t.heap ∧ va_D (va_A V sz) V') (va_A V sz)
def zQv (E : GE) (V V' : va_W) (sz : Nat) : Array Value → State → Outcome → State → Prop := va_Qv (fun (_ : Unit) => True) (fun _ t => va_P (gD E) vwCl V' t.heap ∧ va_D (va_A V sz) V') (va_A V sz)
/-- y's contract: with the arguments av and the cells V it answers r, and the cells are V' -/
def zI (E : GE) (y : MethodName) (ws : List Cond) (rm : Room) (av : List Value) (V : va_W) (r : Int32) (V' : va_W) : Prop := ∀ sz : Nat, Met (gL E) y ws rm (va_Pc av (zPre E V sz)) (zQi E V r V' sz) 0 0 (va_A V sz)
def zV (E : GE) (y : MethodName) (ws : List Cond) (rm : Room) (av : List Value) (V V' : va_W) : Prop := ∀ sz : Nat, Met (gL E) y ws rm (va_Pc av (zPre E V sz)) (zQv E V V' sz) 0 0 (va_A V sz)
theorem zPre_blind (E : GE) (av : List Value) (V : va_W) (sz : Nat) : FrameBlind (va_Pc av (zPre E V sz)) := fun a U g mk q => by
  obtain ⟨q0, q1, qP, qK, qD⟩ := q
  exact ⟨q0, q1, qP, zK.same rfl qK, qD⟩
section ZR
variable {E : GE} {K : KX} {cc : ByteArray} {Ts : List Cond} {own : String} {rm : Room} {nL ce sl pc : Nat} {V V' : va_W} {lv lv' : List (Nat × Value)} {st : List Value}
theorem zC.w (C : zC E K cc Ts own rm nL) {w : Cond} (h : w ∈ Ts) : zw K w := by
  obtain ⟨p, e, R, s, m, args, below, meth, c, nL, A, Q⟩ := K
  exact C.2.2.2.2.2.2.1 w h

theorem z_iconst (C : zC E K cc Ts own rm nL) {n : Int} {v : Int32} (hv : Int32.ofInt n = v) (hd : decode cc pc = .ok (.iconst n, 1)) (k : Z E K ce sl V (pc + 1) lv (.int v :: st)) : Z E K ce sl V pc lv st := by
  obtain ⟨p, e, R, s, m, args, below, meth, c, nL', A, Q⟩ := K
  obtain ⟨hx, hb, hml, hnl, hrm, hown, hts, hA, hK, hlk⟩ := C
  subst hnl
  intro H locs ls hP hD hS hl
  exact lv_iconst hx hb hd hv (k H locs ls hP hD hS hl)
theorem z_bipush (C : zC E K cc Ts own rm nL) {n : Int} {v : Int32} (hv : (Int8.ofInt n).toInt32 = v) (hd : decode cc pc = .ok (.bipush n, 2)) (k : Z E K ce sl V (pc + 2) lv (.int v :: st)) : Z E K ce sl V pc lv st := by
  obtain ⟨p, e, R, s, m, args, below, meth, c, nL', A, Q⟩ := K
  obtain ⟨hx, hb, hml, hnl, hrm, hown, hts, hA, hK, hlk⟩ := C
  subst hnl
  intro H locs ls hP hD hS hl
  exact lv_bipush hx hb hd hv (k H locs ls hP hD hS hl)
theorem z_sipush (C : zC E K cc Ts own rm nL) {n : Int} {v : Int32} (hv : (Int16.ofInt n).toInt32 = v) (hd : decode cc pc = .ok (.sipush n, 3)) (k : Z E K ce sl V (pc + 3) lv (.int v :: st)) : Z E K ce sl V pc lv st := by
  obtain ⟨p, e, R, s, m, args, below, meth, c, nL', A, Q⟩ := K
  obtain ⟨hx, hb, hml, hnl, hrm, hown, hts, hA, hK, hlk⟩ := C
  subst hnl
  intro H locs ls hP hD hS hl
  exact lv_sipush hx hb hd hv (k H locs ls hP hD hS hl)
theorem z_ldc (C : zC E K cc Ts own rm nL) {index : Nat} {v : Int32} (hc : zw K (.constant own index v)) (hd : decode cc pc = .ok (.ldc index, 2)) (k : Z E K ce sl V (pc + 2) lv (.int v :: st)) : Z E K ce sl V pc lv st := by
  obtain ⟨p, e, R, s, m, args, below, meth, c, nL', A, Q⟩ := K
  obtain ⟨hx, hb, hml, hnl, hrm, hown, hts, hA, hK, hlk⟩ := C
  subst hnl
  intro H locs ls hP hD hS hl
  exact lv_ldc hx hb hown hc hd (k H locs ls hP hD hS hl)
theorem z_ldc2 (C : zC E K cc Ts own rm nL) {index : Nat} {v : Int64} (hc : zw K (.constantLong own index v)) (hd : decode cc pc = .ok (.ldc2_w index, 3)) (k : Z E K ce sl V (pc + 3) lv (.long v :: st)) : Z E K ce sl V pc lv st := by
  obtain ⟨p, e, R, s, m, args, below, meth, c, nL', A, Q⟩ := K
  obtain ⟨hx, hb, hml, hnl, hrm, hown, hts, hA, hK, hlk⟩ := C
  subst hnl
  intro H locs ls hP hD hS hl
  exact lv_ldc2 hx hb hown hc hd (k H locs ls hP hD hS hl)
theorem z_iload_n (C : zC E K cc Ts own rm nL) {n : Fin 4} (q : Nat) {i : Nat} {x : Int32} (hq : lv[q]? = some (i, .int x)) (hi : (n : Nat) = i) (hd : decode cc pc = .ok (.iload_n n, 1)) (k : Z E K ce sl V (pc + 1) lv (.int x :: st)) : Z E K ce sl V pc lv st := by
  obtain ⟨p, e, R, s, m, args, below, meth, c, nL', A, Q⟩ := K
  obtain ⟨hx, hb, hml, hnl, hrm, hown, hts, hA, hK, hlk⟩ := C
  subst hnl
  intro H locs ls hP hD hS hl
  exact lv_iload_n hx hb hd hi (lv_at hl q hq) (k H locs ls hP hD hS hl)
theorem z_iload (C : zC E K cc Ts own rm nL) (q : Nat) {i : Nat} {x : Int32} (hq : lv[q]? = some (i, .int x)) (hd : decode cc pc = .ok (.iload i, 2)) (k : Z E K ce sl V (pc + 2) lv (.int x :: st)) : Z E K ce sl V pc lv st := by
  obtain ⟨p, e, R, s, m, args, below, meth, c, nL', A, Q⟩ := K
  obtain ⟨hx, hb, hml, hnl, hrm, hown, hts, hA, hK, hlk⟩ := C
  subst hnl
  intro H locs ls hP hD hS hl
  exact lv_iload hx hb hd (lv_at hl q hq) (k H locs ls hP hD hS hl)
theorem z_aload_n (C : zC E K cc Ts own rm nL) {n : Fin 4} (q : Nat) {i : Nat} {x : Nat} (hq : lv[q]? = some (i, .ref x)) (hi : (n : Nat) = i) (hd : decode cc pc = .ok (.aload_n n, 1)) (k : Z E K ce sl V (pc + 1) lv (.ref x :: st)) : Z E K ce sl V pc lv st := by
  obtain ⟨p, e, R, s, m, args, below, meth, c, nL', A, Q⟩ := K
  obtain ⟨hx, hb, hml, hnl, hrm, hown, hts, hA, hK, hlk⟩ := C
  subst hnl
  intro H locs ls hP hD hS hl
  exact lv_aload_n hx hb hd hi (lv_at hl q hq) (k H locs ls hP hD hS hl)
theorem z_aload (C : zC E K cc Ts own rm nL) (q : Nat) {i : Nat} {x : Nat} (hq : lv[q]? = some (i, .ref x)) (hd : decode cc pc = .ok (.aload i, 2)) (k : Z E K ce sl V (pc + 2) lv (.ref x :: st)) : Z E K ce sl V pc lv st := by
  obtain ⟨p, e, R, s, m, args, below, meth, c, nL', A, Q⟩ := K
  obtain ⟨hx, hb, hml, hnl, hrm, hown, hts, hA, hK, hlk⟩ := C
  subst hnl
  intro H locs ls hP hD hS hl
  exact lv_aload hx hb hd (lv_at hl q hq) (k H locs ls hP hD hS hl)
theorem z_istore_n (C : zC E K cc Ts own rm nL) {n : Fin 4} {i : Nat} {x : Int32} (hv : (i, Value.int x) :: lv.filter (fun q => !(q.1 == i) && !(q.1 + 1 == i && q.2.category == 2)) = lv') (hi : (n : Nat) = i) (hn : i < nL) (hd : decode cc pc = .ok (.istore_n n, 1)) (k : Z E K ce sl V (pc + 1) lv' st) : Z E K ce sl V pc lv (.int x :: st) := by
  obtain ⟨p, e, R, s, m, args, below, meth, c, nL', A, Q⟩ := K
  obtain ⟨hx, hb, hml, hnl, hrm, hown, hts, hA, hK, hlk⟩ := C
  subst hnl
  intro H locs ls hP hD hS hl
  exact lv_istore_n hx hb hd hi hl hn hv (fun ls2 hl2 => k H locs ls2 hP hD hS hl2)
theorem z_istore (C : zC E K cc Ts own rm nL) {i : Nat} {x : Int32} (hv : (i, Value.int x) :: lv.filter (fun q => !(q.1 == i) && !(q.1 + 1 == i && q.2.category == 2)) = lv') (hn : i < nL) (hd : decode cc pc = .ok (.istore i, 2)) (k : Z E K ce sl V (pc + 2) lv' st) : Z E K ce sl V pc lv (.int x :: st) := by
  obtain ⟨p, e, R, s, m, args, below, meth, c, nL', A, Q⟩ := K
  obtain ⟨hx, hb, hml, hnl, hrm, hown, hts, hA, hK, hlk⟩ := C
  subst hnl
  intro H locs ls hP hD hS hl
  exact lv_istore hx hb hd hl hn hv (fun ls2 hl2 => k H locs ls2 hP hD hS hl2)
theorem z_astore_n (C : zC E K cc Ts own rm nL) {n : Fin 4} {i : Nat} {x : Nat} (hv : (i, Value.ref x) :: lv.filter (fun q => !(q.1 == i) && !(q.1 + 1 == i && q.2.category == 2)) = lv') (hi : (n : Nat) = i) (hn : i < nL) (hd : decode cc pc = .ok (.astore_n n, 1)) (k : Z E K ce sl V (pc + 1) lv' st) : Z E K ce sl V pc lv (.ref x :: st) := by
  obtain ⟨p, e, R, s, m, args, below, meth, c, nL', A, Q⟩ := K
  obtain ⟨hx, hb, hml, hnl, hrm, hown, hts, hA, hK, hlk⟩ := C
  subst hnl
  intro H locs ls hP hD hS hl
  exact lv_astore_n hx hb hd hi hl hn hv (fun ls2 hl2 => k H locs ls2 hP hD hS hl2)
theorem z_astore (C : zC E K cc Ts own rm nL) {i : Nat} {x : Nat} (hv : (i, Value.ref x) :: lv.filter (fun q => !(q.1 == i) && !(q.1 + 1 == i && q.2.category == 2)) = lv') (hn : i < nL) (hd : decode cc pc = .ok (.astore i, 2)) (k : Z E K ce sl V (pc + 2) lv' st) : Z E K ce sl V pc lv (.ref x :: st) := by
  obtain ⟨p, e, R, s, m, args, below, meth, c, nL', A, Q⟩ := K
  obtain ⟨hx, hb, hml, hnl, hrm, hown, hts, hA, hK, hlk⟩ := C
  subst hnl
  intro H locs ls hP hD hS hl
  exact lv_astore hx hb hd hl hn hv (fun ls2 hl2 => k H locs ls2 hP hD hS hl2)
theorem z_iinc (C : zC E K cc Ts own rm nL) (q : Nat) {i : Nat} {n : Int} {x v : Int32} (hq : lv[q]? = some (i, .int x)) (hx1 : x + Int32.ofInt n = v) (hv : (i, Value.int v) :: lv.filter (fun q => !(q.1 == i) && !(q.1 + 1 == i && q.2.category == 2)) = lv') (hn : i < nL) (hd : decode cc pc = .ok (.iinc i n, 3)) (k : Z E K ce sl V (pc + 3) lv' st) : Z E K ce sl V pc lv st := by
  obtain ⟨p, e, R, s, m, args, below, meth, c, nL', A, Q⟩ := K
  obtain ⟨hx, hb, hml, hnl, hrm, hown, hts, hA, hK, hlk⟩ := C
  subst hnl
  intro H locs ls hP hD hS hl
  exact lv_iinc hx hb hd hl hq hx1 hn hv (fun ls2 hl2 => k H locs ls2 hP hD hS hl2)
theorem z_iadd (C : zC E K cc Ts own rm nL) {x y : Int32} (hd : decode cc pc = .ok (.iadd, 1)) (k : Z E K ce sl V (pc + 1) lv (.int (x + y) :: st)) : Z E K ce sl V pc lv (.int y :: .int x :: st) := by
  obtain ⟨p, e, R, s, m, args, below, meth, c, nL', A, Q⟩ := K
  obtain ⟨hx, hb, hml, hnl, hrm, hown, hts, hA, hK, hlk⟩ := C
  subst hnl
  intro H locs ls hP hD hS hl
  exact lv_iadd hx hb hd (k H locs ls hP hD hS hl)
theorem z_isub (C : zC E K cc Ts own rm nL) {x y : Int32} (hd : decode cc pc = .ok (.isub, 1)) (k : Z E K ce sl V (pc + 1) lv (.int (x - y) :: st)) : Z E K ce sl V pc lv (.int y :: .int x :: st) := by
  obtain ⟨p, e, R, s, m, args, below, meth, c, nL', A, Q⟩ := K
  obtain ⟨hx, hb, hml, hnl, hrm, hown, hts, hA, hK, hlk⟩ := C
  subst hnl
  intro H locs ls hP hD hS hl
  exact lv_isub hx hb hd (k H locs ls hP hD hS hl)
theorem z_imul (C : zC E K cc Ts own rm nL) {x y : Int32} (hd : decode cc pc = .ok (.imul, 1)) (k : Z E K ce sl V (pc + 1) lv (.int (x * y) :: st)) : Z E K ce sl V pc lv (.int y :: .int x :: st) := by
  obtain ⟨p, e, R, s, m, args, below, meth, c, nL', A, Q⟩ := K
  obtain ⟨hx, hb, hml, hnl, hrm, hown, hts, hA, hK, hlk⟩ := C
  subst hnl
  intro H locs ls hP hD hS hl
  exact lv_imul hx hb hd (k H locs ls hP hD hS hl)
theorem z_iand (C : zC E K cc Ts own rm nL) {x y : Int32} (hd : decode cc pc = .ok (.iand, 1)) (k : Z E K ce sl V (pc + 1) lv (.int (x &&& y) :: st)) : Z E K ce sl V pc lv (.int y :: .int x :: st) := by
  obtain ⟨p, e, R, s, m, args, below, meth, c, nL', A, Q⟩ := K
  obtain ⟨hx, hb, hml, hnl, hrm, hown, hts, hA, hK, hlk⟩ := C
  subst hnl
  intro H locs ls hP hD hS hl
  exact lv_iand hx hb hd (k H locs ls hP hD hS hl)
theorem z_ior (C : zC E K cc Ts own rm nL) {x y : Int32} (hd : decode cc pc = .ok (.ior, 1)) (k : Z E K ce sl V (pc + 1) lv (.int (x ||| y) :: st)) : Z E K ce sl V pc lv (.int y :: .int x :: st) := by
  obtain ⟨p, e, R, s, m, args, below, meth, c, nL', A, Q⟩ := K
  obtain ⟨hx, hb, hml, hnl, hrm, hown, hts, hA, hK, hlk⟩ := C
  subst hnl
  intro H locs ls hP hD hS hl
  exact lv_ior hx hb hd (k H locs ls hP hD hS hl)
theorem z_ixor (C : zC E K cc Ts own rm nL) {x y : Int32} (hd : decode cc pc = .ok (.ixor, 1)) (k : Z E K ce sl V (pc + 1) lv (.int (x ^^^ y) :: st)) : Z E K ce sl V pc lv (.int y :: .int x :: st) := by
  obtain ⟨p, e, R, s, m, args, below, meth, c, nL', A, Q⟩ := K
  obtain ⟨hx, hb, hml, hnl, hrm, hown, hts, hA, hK, hlk⟩ := C
  subst hnl
  intro H locs ls hP hD hS hl
  exact lv_ixor hx hb hd (k H locs ls hP hD hS hl)
theorem z_ishl (C : zC E K cc Ts own rm nL) {x y : Int32} (hd : decode cc pc = .ok (.ishl, 1)) (k : Z E K ce sl V (pc + 1) lv (.int (x <<< (y &&& 31)) :: st)) : Z E K ce sl V pc lv (.int y :: .int x :: st) := by
  obtain ⟨p, e, R, s, m, args, below, meth, c, nL', A, Q⟩ := K
  obtain ⟨hx, hb, hml, hnl, hrm, hown, hts, hA, hK, hlk⟩ := C
  subst hnl
  intro H locs ls hP hD hS hl
  exact lv_ishl hx hb hd (k H locs ls hP hD hS hl)
theorem z_ishr (C : zC E K cc Ts own rm nL) {x y : Int32} (hd : decode cc pc = .ok (.ishr, 1)) (k : Z E K ce sl V (pc + 1) lv (.int (x >>> (y &&& 31)) :: st)) : Z E K ce sl V pc lv (.int y :: .int x :: st) := by
  obtain ⟨p, e, R, s, m, args, below, meth, c, nL', A, Q⟩ := K
  obtain ⟨hx, hb, hml, hnl, hrm, hown, hts, hA, hK, hlk⟩ := C
  subst hnl
  intro H locs ls hP hD hS hl
  exact lv_ishr hx hb hd (k H locs ls hP hD hS hl)
theorem z_iushr (C : zC E K cc Ts own rm nL) {x y v : Int32} (hv : (x.toUInt32 >>> (y.toUInt32 &&& Int32.toUInt32 31)).toInt32 = v) (hd : decode cc pc = .ok (.iushr, 1)) (k : Z E K ce sl V (pc + 1) lv (.int v :: st)) : Z E K ce sl V pc lv (.int y :: .int x :: st) := by
  obtain ⟨p, e, R, s, m, args, below, meth, c, nL', A, Q⟩ := K
  obtain ⟨hx, hb, hml, hnl, hrm, hown, hts, hA, hK, hlk⟩ := C
  subst hnl
  intro H locs ls hP hD hS hl
  exact lv_iushr hx hb hd hv (k H locs ls hP hD hS hl)
theorem z_idiv (C : zC E K cc Ts own rm nL) {x y : Int32} (hne : ¬ y = 0) (hd : decode cc pc = .ok (.idiv, 1)) (k : Z E K ce sl V (pc + 1) lv (.int (x / y) :: st)) : Z E K ce sl V pc lv (.int y :: .int x :: st) := by
  obtain ⟨p, e, R, s, m, args, below, meth, c, nL', A, Q⟩ := K
  obtain ⟨hx, hb, hml, hnl, hrm, hown, hts, hA, hK, hlk⟩ := C
  subst hnl
  intro H locs ls hP hD hS hl
  exact lv_idiv hx hb hd hne (k H locs ls hP hD hS hl)
theorem z_irem (C : zC E K cc Ts own rm nL) {x y : Int32} (hne : ¬ y = 0) (hd : decode cc pc = .ok (.irem, 1)) (k : Z E K ce sl V (pc + 1) lv (.int (x - x / y * y) :: st)) : Z E K ce sl V pc lv (.int y :: .int x :: st) := by
  obtain ⟨p, e, R, s, m, args, below, meth, c, nL', A, Q⟩ := K
  obtain ⟨hx, hb, hml, hnl, hrm, hown, hts, hA, hK, hlk⟩ := C
  subst hnl
  intro H locs ls hP hD hS hl
  exact lv_irem hx hb hd hne (k H locs ls hP hD hS hl)
theorem z_i2b (C : zC E K cc Ts own rm nL) {x v : Int32} (hv : x.toInt8.toInt32 = v) (hd : decode cc pc = .ok (.i2b, 1)) (k : Z E K ce sl V (pc + 1) lv (.int v :: st)) : Z E K ce sl V pc lv (.int x :: st) := by
  obtain ⟨p, e, R, s, m, args, below, meth, c, nL', A, Q⟩ := K
  obtain ⟨hx, hb, hml, hnl, hrm, hown, hts, hA, hK, hlk⟩ := C
  subst hnl
  intro H locs ls hP hD hS hl
  exact lv_i2b hx hb hd hv (k H locs ls hP hD hS hl)
theorem z_i2l (C : zC E K cc Ts own rm nL) {x : Int32} {v : Int64} (hv : x.toInt64 = v) (hd : decode cc pc = .ok (.i2l, 1)) (k : Z E K ce sl V (pc + 1) lv (.long v :: st)) : Z E K ce sl V pc lv (.int x :: st) := by
  obtain ⟨p, e, R, s, m, args, below, meth, c, nL', A, Q⟩ := K
  obtain ⟨hx, hb, hml, hnl, hrm, hown, hts, hA, hK, hlk⟩ := C
  subst hnl
  intro H locs ls hP hD hS hl
  exact lv_i2l hx hb hd hv (k H locs ls hP hD hS hl)
theorem z_land (C : zC E K cc Ts own rm nL) {x y : Int64} (hd : decode cc pc = .ok (.land, 1)) (k : Z E K ce sl V (pc + 1) lv (.long (x &&& y) :: st)) : Z E K ce sl V pc lv (.long y :: .long x :: st) := by
  obtain ⟨p, e, R, s, m, args, below, meth, c, nL', A, Q⟩ := K
  obtain ⟨hx, hb, hml, hnl, hrm, hown, hts, hA, hK, hlk⟩ := C
  subst hnl
  intro H locs ls hP hD hS hl
  exact lv_land hx hb hd (k H locs ls hP hD hS hl)
theorem z_lcmp (C : zC E K cc Ts own rm nL) {x y : Int64} (hd : decode cc pc = .ok (.lcmp, 1)) (k : Z E K ce sl V (pc + 1) lv (.int (lg_cmp x y) :: st)) : Z E K ce sl V pc lv (.long y :: .long x :: st) := by
  obtain ⟨p, e, R, s, m, args, below, meth, c, nL', A, Q⟩ := K
  obtain ⟨hx, hb, hml, hnl, hrm, hown, hts, hA, hK, hlk⟩ := C
  subst hnl
  intro H locs ls hP hD hS hl
  exact W.lcmp hx hb hd (k H locs ls hP hD hS hl)
theorem z_dup (C : zC E K cc Ts own rm nL) {a : Value} (hc : a.category = 1) (hd : decode cc pc = .ok (.dup, 1)) (k : Z E K ce sl V (pc + 1) lv (a :: a :: st)) : Z E K ce sl V pc lv (a :: st) := by
  obtain ⟨p, e, R, s, m, args, below, meth, c, nL', A, Q⟩ := K
  obtain ⟨hx, hb, hml, hnl, hrm, hown, hts, hA, hK, hlk⟩ := C
  subst hnl
  intro H locs ls hP hD hS hl
  exact lv_dup hx hb hd hc (k H locs ls hP hD hS hl)
theorem z_pop (C : zC E K cc Ts own rm nL) {a : Value} (hc : a.category = 1) (hd : decode cc pc = .ok (.pop, 1)) (k : Z E K ce sl V (pc + 1) lv st) : Z E K ce sl V pc lv (a :: st) := by
  obtain ⟨p, e, R, s, m, args, below, meth, c, nL', A, Q⟩ := K
  obtain ⟨hx, hb, hml, hnl, hrm, hown, hts, hA, hK, hlk⟩ := C
  subst hnl
  intro H locs ls hP hD hS hl
  exact lv_pop hx hb hd hc (k H locs ls hP hD hS hl)
theorem z_dup_x1 (C : zC E K cc Ts own rm nL) {a b : Value} (hc : a.category = 1) (hc2 : b.category = 1) (hd : decode cc pc = .ok (.dup_x1, 1)) (k : Z E K ce sl V (pc + 1) lv (a :: b :: a :: st)) : Z E K ce sl V pc lv (a :: b :: st) := by
  obtain ⟨p, e, R, s, m, args, below, meth, c, nL', A, Q⟩ := K
  obtain ⟨hx, hb, hml, hnl, hrm, hown, hts, hA, hK, hlk⟩ := C
  subst hnl
  intro H locs ls hP hD hS hl
  exact lv_dup_x1 hx hb hd hc hc2 (k H locs ls hP hD hS hl)
theorem z_dup2 (C : zC E K cc Ts own rm nL) {a b : Value} (hc : a.category = 1) (hc2 : b.category = 1) (hd : decode cc pc = .ok (.dup2, 1)) (k : Z E K ce sl V (pc + 1) lv (a :: b :: a :: b :: st)) : Z E K ce sl V pc lv (a :: b :: st) := by
  obtain ⟨p, e, R, s, m, args, below, meth, c, nL', A, Q⟩ := K
  obtain ⟨hx, hb, hml, hnl, hrm, hown, hts, hA, hK, hlk⟩ := C
  subst hnl
  intro H locs ls hP hD hS hl
  exact lv_dup2_11 hx hb hd hc hc2 (k H locs ls hP hD hS hl)
theorem z_if_eq (C : zC E K cc Ts own rm nL) {x : Int32} {off : Int} {tgt : Nat} (hd : decode cc pc = .ok (.ifCond .eq off, 3)) (ht : (pc : Int) + off = (tgt : Int)) (kt : x = 0 → Z E K ce sl V tgt lv st) (kf : ¬ x = 0 → Z E K ce sl V (pc + 3) lv st) : Z E K ce sl V pc lv (.int x :: st) := by
  obtain ⟨p, e, R, s, m, args, below, meth, c, nL', A, Q⟩ := K
  obtain ⟨hx, hb, hml, hnl, hrm, hown, hts, hA, hK, hlk⟩ := C
  subst hnl
  intro H locs ls hP hD hS hl
  exact lv_if_eq hx hb hd ht (fun h => kt h H locs ls hP hD hS hl) (fun h => kf h H locs ls hP hD hS hl)
theorem z_icmp_eq (C : zC E K cc Ts own rm nL) {x y : Int32} {off : Int} {tgt : Nat} (hd : decode cc pc = .ok (.if_icmp .eq off, 3)) (ht : (pc : Int) + off = (tgt : Int)) (kt : x = y → Z E K ce sl V tgt lv st) (kf : ¬ x = y → Z E K ce sl V (pc + 3) lv st) : Z E K ce sl V pc lv (.int y :: .int x :: st) := by
  obtain ⟨p, e, R, s, m, args, below, meth, c, nL', A, Q⟩ := K
  obtain ⟨hx, hb, hml, hnl, hrm, hown, hts, hA, hK, hlk⟩ := C
  subst hnl
  intro H locs ls hP hD hS hl
  exact lv_icmp_eq hx hb hd ht (fun h => kt h H locs ls hP hD hS hl) (fun h => kf h H locs ls hP hD hS hl)
theorem z_if_ne (C : zC E K cc Ts own rm nL) {x : Int32} {off : Int} {tgt : Nat} (hd : decode cc pc = .ok (.ifCond .ne off, 3)) (ht : (pc : Int) + off = (tgt : Int)) (kt : ¬ x = 0 → Z E K ce sl V tgt lv st) (kf : x = 0 → Z E K ce sl V (pc + 3) lv st) : Z E K ce sl V pc lv (.int x :: st) := by
  obtain ⟨p, e, R, s, m, args, below, meth, c, nL', A, Q⟩ := K
  obtain ⟨hx, hb, hml, hnl, hrm, hown, hts, hA, hK, hlk⟩ := C
  subst hnl
  intro H locs ls hP hD hS hl
  exact lv_if_ne hx hb hd ht (fun h => kt h H locs ls hP hD hS hl) (fun h => kf h H locs ls hP hD hS hl)
theorem z_icmp_ne (C : zC E K cc Ts own rm nL) {x y : Int32} {off : Int} {tgt : Nat} (hd : decode cc pc = .ok (.if_icmp .ne off, 3)) (ht : (pc : Int) + off = (tgt : Int)) (kt : ¬ x = y → Z E K ce sl V tgt lv st) (kf : x = y → Z E K ce sl V (pc + 3) lv st) : Z E K ce sl V pc lv (.int y :: .int x :: st) := by
  obtain ⟨p, e, R, s, m, args, below, meth, c, nL', A, Q⟩ := K
  obtain ⟨hx, hb, hml, hnl, hrm, hown, hts, hA, hK, hlk⟩ := C
  subst hnl
  intro H locs ls hP hD hS hl
  exact lv_icmp_ne hx hb hd ht (fun h => kt h H locs ls hP hD hS hl) (fun h => kf h H locs ls hP hD hS hl)
theorem z_if_lt (C : zC E K cc Ts own rm nL) {x : Int32} {off : Int} {tgt : Nat} (hd : decode cc pc = .ok (.ifCond .lt off, 3)) (ht : (pc : Int) + off = (tgt : Int)) (kt : x < 0 → Z E K ce sl V tgt lv st) (kf : ¬ x < 0 → Z E K ce sl V (pc + 3) lv st) : Z E K ce sl V pc lv (.int x :: st) := by
  obtain ⟨p, e, R, s, m, args, below, meth, c, nL', A, Q⟩ := K
  obtain ⟨hx, hb, hml, hnl, hrm, hown, hts, hA, hK, hlk⟩ := C
  subst hnl
  intro H locs ls hP hD hS hl
  exact lv_if_lt hx hb hd ht (fun h => kt h H locs ls hP hD hS hl) (fun h => kf h H locs ls hP hD hS hl)
theorem z_icmp_lt (C : zC E K cc Ts own rm nL) {x y : Int32} {off : Int} {tgt : Nat} (hd : decode cc pc = .ok (.if_icmp .lt off, 3)) (ht : (pc : Int) + off = (tgt : Int)) (kt : x < y → Z E K ce sl V tgt lv st) (kf : ¬ x < y → Z E K ce sl V (pc + 3) lv st) : Z E K ce sl V pc lv (.int y :: .int x :: st) := by
  obtain ⟨p, e, R, s, m, args, below, meth, c, nL', A, Q⟩ := K
  obtain ⟨hx, hb, hml, hnl, hrm, hown, hts, hA, hK, hlk⟩ := C
  subst hnl
  intro H locs ls hP hD hS hl
  exact lv_icmp_lt hx hb hd ht (fun h => kt h H locs ls hP hD hS hl) (fun h => kf h H locs ls hP hD hS hl)
theorem z_if_ge (C : zC E K cc Ts own rm nL) {x : Int32} {off : Int} {tgt : Nat} (hd : decode cc pc = .ok (.ifCond .ge off, 3)) (ht : (pc : Int) + off = (tgt : Int)) (kt : 0 ≤ x → Z E K ce sl V tgt lv st) (kf : ¬ 0 ≤ x → Z E K ce sl V (pc + 3) lv st) : Z E K ce sl V pc lv (.int x :: st) := by
  obtain ⟨p, e, R, s, m, args, below, meth, c, nL', A, Q⟩ := K
  obtain ⟨hx, hb, hml, hnl, hrm, hown, hts, hA, hK, hlk⟩ := C
  subst hnl
  intro H locs ls hP hD hS hl
  exact lv_if_ge hx hb hd ht (fun h => kt h H locs ls hP hD hS hl) (fun h => kf h H locs ls hP hD hS hl)
theorem z_icmp_ge (C : zC E K cc Ts own rm nL) {x y : Int32} {off : Int} {tgt : Nat} (hd : decode cc pc = .ok (.if_icmp .ge off, 3)) (ht : (pc : Int) + off = (tgt : Int)) (kt : y ≤ x → Z E K ce sl V tgt lv st) (kf : ¬ y ≤ x → Z E K ce sl V (pc + 3) lv st) : Z E K ce sl V pc lv (.int y :: .int x :: st) := by
  obtain ⟨p, e, R, s, m, args, below, meth, c, nL', A, Q⟩ := K
  obtain ⟨hx, hb, hml, hnl, hrm, hown, hts, hA, hK, hlk⟩ := C
  subst hnl
  intro H locs ls hP hD hS hl
  exact lv_icmp_ge hx hb hd ht (fun h => kt h H locs ls hP hD hS hl) (fun h => kf h H locs ls hP hD hS hl)
theorem z_if_gt (C : zC E K cc Ts own rm nL) {x : Int32} {off : Int} {tgt : Nat} (hd : decode cc pc = .ok (.ifCond .gt off, 3)) (ht : (pc : Int) + off = (tgt : Int)) (kt : 0 < x → Z E K ce sl V tgt lv st) (kf : ¬ 0 < x → Z E K ce sl V (pc + 3) lv st) : Z E K ce sl V pc lv (.int x :: st) := by
  obtain ⟨p, e, R, s, m, args, below, meth, c, nL', A, Q⟩ := K
  obtain ⟨hx, hb, hml, hnl, hrm, hown, hts, hA, hK, hlk⟩ := C
  subst hnl
  intro H locs ls hP hD hS hl
  exact lv_if_gt hx hb hd ht (fun h => kt h H locs ls hP hD hS hl) (fun h => kf h H locs ls hP hD hS hl)
theorem z_icmp_gt (C : zC E K cc Ts own rm nL) {x y : Int32} {off : Int} {tgt : Nat} (hd : decode cc pc = .ok (.if_icmp .gt off, 3)) (ht : (pc : Int) + off = (tgt : Int)) (kt : y < x → Z E K ce sl V tgt lv st) (kf : ¬ y < x → Z E K ce sl V (pc + 3) lv st) : Z E K ce sl V pc lv (.int y :: .int x :: st) := by
  obtain ⟨p, e, R, s, m, args, below, meth, c, nL', A, Q⟩ := K
  obtain ⟨hx, hb, hml, hnl, hrm, hown, hts, hA, hK, hlk⟩ := C
  subst hnl
  intro H locs ls hP hD hS hl
  exact lv_icmp_gt hx hb hd ht (fun h => kt h H locs ls hP hD hS hl) (fun h => kf h H locs ls hP hD hS hl)
theorem z_if_le (C : zC E K cc Ts own rm nL) {x : Int32} {off : Int} {tgt : Nat} (hd : decode cc pc = .ok (.ifCond .le off, 3)) (ht : (pc : Int) + off = (tgt : Int)) (kt : x ≤ 0 → Z E K ce sl V tgt lv st) (kf : ¬ x ≤ 0 → Z E K ce sl V (pc + 3) lv st) : Z E K ce sl V pc lv (.int x :: st) := by
  obtain ⟨p, e, R, s, m, args, below, meth, c, nL', A, Q⟩ := K
  obtain ⟨hx, hb, hml, hnl, hrm, hown, hts, hA, hK, hlk⟩ := C
  subst hnl
  intro H locs ls hP hD hS hl
  exact lv_if_le hx hb hd ht (fun h => kt h H locs ls hP hD hS hl) (fun h => kf h H locs ls hP hD hS hl)
theorem z_icmp_le (C : zC E K cc Ts own rm nL) {x y : Int32} {off : Int} {tgt : Nat} (hd : decode cc pc = .ok (.if_icmp .le off, 3)) (ht : (pc : Int) + off = (tgt : Int)) (kt : x ≤ y → Z E K ce sl V tgt lv st) (kf : ¬ x ≤ y → Z E K ce sl V (pc + 3) lv st) : Z E K ce sl V pc lv (.int y :: .int x :: st) := by
  obtain ⟨p, e, R, s, m, args, below, meth, c, nL', A, Q⟩ := K
  obtain ⟨hx, hb, hml, hnl, hrm, hown, hts, hA, hK, hlk⟩ := C
  subst hnl
  intro H locs ls hP hD hS hl
  exact lv_icmp_le hx hb hd ht (fun h => kt h H locs ls hP hD hS hl) (fun h => kf h H locs ls hP hD hS hl)
theorem z_goto (C : zC E K cc Ts own rm nL) {off : Int} {tgt : Nat} (hd : decode cc pc = .ok (.goto off, 3)) (ht : (pc : Int) + off = (tgt : Int)) (k : Z E K ce sl V tgt lv st) : Z E K ce sl V pc lv st := by
  obtain ⟨p, e, R, s, m, args, below, meth, c, nL', A, Q⟩ := K
  obtain ⟨hx, hb, hml, hnl, hrm, hown, hts, hA, hK, hlk⟩ := C
  subst hnl
  intro H locs ls hP hD hS hl
  exact lv_goto hx hb hd ht (k H locs ls hP hD hS hl)
theorem z_swOut (C : zC E K cc Ts own rm nL) {dflt lo hi : Int} {offs : Array Int} {len : Nat} {x : Int32} {tgt : Nat} (h : x.toInt < lo ∨ hi < x.toInt) (hd : decode cc pc = .ok (.tableswitch dflt lo hi offs, len)) (ht : (pc : Int) + dflt = (tgt : Int)) (k : Z E K ce sl V tgt lv st) : Z E K ce sl V pc lv (.int x :: st) := by
  obtain ⟨p, e, R, s, m, args, below, meth, c, nL', A, Q⟩ := K
  obtain ⟨hx, hb, hml, hnl, hrm, hown, hts, hA, hK, hlk⟩ := C
  subst hnl
  intro H locs ls hP hD hS hl
  exact lv_tableOut hx hb hd h ht (k H locs ls hP hD hS hl)
theorem z_swIn (C : zC E K cc Ts own rm nL) {dflt lo hi : Int} {offs : Array Int} {len : Nat} {x : Int32} {off : Int} {tgt : Nat} (h1 : ¬ x.toInt < lo) (h2 : ¬ hi < x.toInt) (ho : offs[(x.toInt - lo).toNat]? = some off) (hd : decode cc pc = .ok (.tableswitch dflt lo hi offs, len)) (ht : (pc : Int) + off = (tgt : Int)) (k : Z E K ce sl V tgt lv st) : Z E K ce sl V pc lv (.int x :: st) := by
  obtain ⟨p, e, R, s, m, args, below, meth, c, nL', A, Q⟩ := K
  obtain ⟨hx, hb, hml, hnl, hrm, hown, hts, hA, hK, hlk⟩ := C
  subst hnl
  intro H locs ls hP hD hS hl
  exact lv_tableIn hx hb hd h1 h2 ho ht (k H locs ls hP hD hS hl)
theorem z_get (C : zC E K cc Ts own rm nL) {Cn : String} {T : u_T} {Nf ci : Nat} (hin : ∀ w ∈ u_ws Cn T Nf, w ∈ Ts) (q0 k : Nat) {index : Nat} (hl0 : zw K (.fieldLink own index (T k).1 (T k).2.1 (T k).2.2.1)) {fs : List Value} {a : Nat} {v : Value} (he : V[q0]? = some (a, .inr (ci, fs))) (hc : vwCl[ci]? = some (Cn, T, Nf)) (hk : k < Nf) (hv : fs[k]? = some v) (hd : decode cc pc = .ok (.getfield index, 3)) (kk : Z E K ce sl V (pc + 3) lv (v :: st)) : Z E K ce sl V pc lv (.ref a :: st) := by
  obtain ⟨p, e, R, s, m, args, below, meth, c, nL', A, Q⟩ := K
  obtain ⟨hx, hb, hml, hnl, hrm, hown, hts, hA, hK, hlk⟩ := C
  subst hnl
  intro H locs ls hP hD hS hl
  exact va_get hx hb hts hin hown hK.1 hP q0 he hc k hk hl0 (fun _ h => h) hv hd (kk H locs ls hP hD hS hl)
theorem z_put (C : zC E K cc Ts own rm nL) {Cn : String} {T : u_T} {Nf ci : Nat} (hin : ∀ w ∈ u_ws Cn T Nf, w ∈ Ts) (q0 k : Nat) {index : Nat} (hl0 : zw K (.fieldLink own index (T k).1 (T k).2.1 (T k).2.2.1)) {fs : List Value} {a : Nat} {v : Value} (he : V[q0]? = some (a, .inr (ci, fs))) (hc : vwCl[ci]? = some (Cn, T, Nf)) (hk : k < Nf) (ty0 : Nat → FieldType) (hty : ∀ k, k < Nf → parseFieldDescriptor (T k).2.2.1 = some (ty0 k)) (hnm : ∀ a, a < Nf → ∀ b, b < Nf → a ≠ b → (T a).2.1 ≠ (T b).2.1) (hf : (T k).2.2.2 = false) (hn : narrow (ty0 k) v = v) (hfit : fits (ty0 k) v = true) (hlen : k < fs.length) (hV : V.set q0 (a, .inr (ci, fs.set k v)) = V') (hd : decode cc pc = .ok (.putfield index, 3)) (kk : Z E K ce sl V' (pc + 3) lv st) : Z E K ce sl V pc lv (v :: .ref a :: st) := by
  obtain ⟨p, e, R, s, m, args, below, meth, c, nL', A, Q⟩ := K
  obtain ⟨hx, hb, hml, hnl, hrm, hown, hts, hA, hK, hlk⟩ := C
  subst hnl
  intro H locs ls hP hD hS hl
  subst hV
  exact va_put hx hb hts hin ty0 hty hnm hown hK.1 hP hD hS q0 he hc k hk hl0 (fun _ h => h) hf (hty k hk) hn hfit hlen hd (fun H1 locs1 hP1 hD1 hS1 => kk H1 locs1 ls hP1 hD1 hS1 hl)
theorem z_putF (C : zC E K cc Ts own rm nL) {Cn : String} {T : u_T} {Nf ci : Nat} (hin : ∀ w ∈ u_ws Cn T Nf, w ∈ Ts) (q0 k : Nat) {index : Nat} (hl0 : zw K (.fieldLink own index (T k).1 (T k).2.1 (T k).2.2.1)) {fs : List Value} {a : Nat} {v : Value} (he : V[q0]? = some (a, .inr (ci, fs))) (hc : vwCl[ci]? = some (Cn, T, Nf)) (hk : k < Nf) (ty0 : Nat → FieldType) (hty : ∀ k, k < Nf → parseFieldDescriptor (T k).2.2.1 = some (ty0 k)) (hnm : ∀ a, a < Nf → ∀ b, b < Nf → a ≠ b → (T a).2.1 ≠ (T b).2.1) (hf : (T k).2.2.2 = true) (hN : zN K "<init>") (hdc : (T k).1 = own) (hn : narrow (ty0 k) v = v) (hfit : fits (ty0 k) v = true) (hlen : k < fs.length) (hV : V.set q0 (a, .inr (ci, fs.set k v)) = V') (hd : decode cc pc = .ok (.putfield index, 3)) (kk : Z E K ce sl V' (pc + 3) lv st) : Z E K ce sl V pc lv (v :: .ref a :: st) := by
  obtain ⟨p, e, R, s, m, args, below, meth, c, nL', A, Q⟩ := K
  obtain ⟨hx, hb, hml, hnl, hrm, hown, hts, hA, hK, hlk⟩ := C
  subst hnl
  intro H locs ls hP hD hS hl
  subst hV
  exact va_putF hx hb hts hin ty0 hty hnm hown hK.1 hP hD hS q0 he hc k hk hl0 (fun _ h => h) hf hN hdc (hty k hk) hn hfit hlen hd (fun H1 locs1 hP1 hD1 hS1 => kk H1 locs1 ls hP1 hD1 hS1 hl)
theorem z_iald (C : zC E K cc Ts own rm nL) (q0 : Nat) {a n : Nat} {f : Nat → Int32} {i v : Int32} (he : V[q0]? = some (a, .inl (gI E, n, .inl f))) (hi : vp_in i n) (hv : f i.toNatClampNeg = v) (hd : decode cc pc = .ok (.iaload, 1)) (kk : Z E K ce sl V (pc + 1) lv (.int v :: st)) : Z E K ce sl V pc lv (.int i :: .ref a :: st) := by
  obtain ⟨p, e, R, s, m, args, below, meth, c, nL', A, Q⟩ := K
  obtain ⟨hx, hb, hml, hnl, hrm, hown, hts, hA, hK, hlk⟩ := C
  subst hnl
  intro H locs ls hP hD hS hl
  subst hv
  exact va_iald hx hb hK.1 hP q0 1 he rfl hi hd (kk H locs ls hP hD hS hl)
theorem z_iast (C : zC E K cc Ts own rm nL) (q0 : Nat) {a n : Nat} {f g : Nat → Int32} {i x : Int32} (he : V[q0]? = some (a, .inl (gI E, n, .inl f))) (hi : vp_in i n) (hg : upd f i.toNatClampNeg (x) = g) (hV : V.set q0 (a, .inl (gI E, n, .inl g)) = V') (hd : decode cc pc = .ok (.iastore, 1)) (kk : Z E K ce sl V' (pc + 1) lv st) : Z E K ce sl V pc lv (.int x :: .int i :: .ref a :: st) := by
  obtain ⟨p, e, R, s, m, args, below, meth, c, nL', A, Q⟩ := K
  obtain ⟨hx, hb, hml, hnl, hrm, hown, hts, hA, hK, hlk⟩ := C
  subst hnl
  intro H locs ls hP hD hS hl
  subst hV
  subst hg
  exact va_iast hx hb hK.1 hP hD hS q0 1 he rfl hi hd (fun H1 locs1 hP1 hD1 hS1 => kk H1 locs1 ls hP1 hD1 hS1 hl)
theorem z_ialen (C : zC E K cc Ts own rm nL) (q0 : Nat) {a n : Nat} {f : Nat → Int32} (he : V[q0]? = some (a, .inl (gI E, n, .inl f))) {v : Int32} (hv : Int32.ofNat n = v) (hd : decode cc pc = .ok (.arraylength, 1)) (kk : Z E K ce sl V (pc + 1) lv (.int v :: st)) : Z E K ce sl V pc lv (.ref a :: st) := by
  obtain ⟨p, e, R, s, m, args, below, meth, c, nL', A, Q⟩ := K
  obtain ⟨hx, hb, hml, hnl, hrm, hown, hts, hA, hK, hlk⟩ := C
  subst hnl
  intro H locs ls hP hD hS hl
  exact va_alen hx hb hK.1 hP q0 1 he rfl hv hd (kk H locs ls hP hD hS hl)
theorem z_bald (C : zC E K cc Ts own rm nL) (q0 : Nat) {a n : Nat} {f : Nat → Int32} {i v : Int32} (he : V[q0]? = some (a, .inl (gB E, n, .inl f))) (hi : vp_in i n) (hv : f i.toNatClampNeg = v) (hd : decode cc pc = .ok (.baload, 1)) (kk : Z E K ce sl V (pc + 1) lv (.int v :: st)) : Z E K ce sl V pc lv (.int i :: .ref a :: st) := by
  obtain ⟨p, e, R, s, m, args, below, meth, c, nL', A, Q⟩ := K
  obtain ⟨hx, hb, hml, hnl, hrm, hown, hts, hA, hK, hlk⟩ := C
  subst hnl
  intro H locs ls hP hD hS hl
  subst hv
  exact va_bald hx hb hK.1 hP q0 0 he rfl hi hd (kk H locs ls hP hD hS hl)
theorem z_bast (C : zC E K cc Ts own rm nL) (q0 : Nat) {a n : Nat} {f g : Nat → Int32} {i x : Int32} (he : V[q0]? = some (a, .inl (gB E, n, .inl f))) (hi : vp_in i n) (hg : upd f i.toNatClampNeg (vp_nar .byte x) = g) (hV : V.set q0 (a, .inl (gB E, n, .inl g)) = V') (hd : decode cc pc = .ok (.bastore, 1)) (kk : Z E K ce sl V' (pc + 1) lv st) : Z E K ce sl V pc lv (.int x :: .int i :: .ref a :: st) := by
  obtain ⟨p, e, R, s, m, args, below, meth, c, nL', A, Q⟩ := K
  obtain ⟨hx, hb, hml, hnl, hrm, hown, hts, hA, hK, hlk⟩ := C
  subst hnl
  intro H locs ls hP hD hS hl
  subst hV
  subst hg
  exact va_bast hx hb hK.1 hP hD hS q0 0 he rfl hi hd (fun H1 locs1 hP1 hD1 hS1 => kk H1 locs1 ls hP1 hD1 hS1 hl)
theorem z_balen (C : zC E K cc Ts own rm nL) (q0 : Nat) {a n : Nat} {f : Nat → Int32} (he : V[q0]? = some (a, .inl (gB E, n, .inl f))) {v : Int32} (hv : Int32.ofNat n = v) (hd : decode cc pc = .ok (.arraylength, 1)) (kk : Z E K ce sl V (pc + 1) lv (.int v :: st)) : Z E K ce sl V pc lv (.ref a :: st) := by
  obtain ⟨p, e, R, s, m, args, below, meth, c, nL', A, Q⟩ := K
  obtain ⟨hx, hb, hml, hnl, hrm, hown, hts, hA, hK, hlk⟩ := C
  subst hnl
  intro H locs ls hP hD hS hl
  exact va_alen hx hb hK.1 hP q0 0 he rfl hv hd (kk H locs ls hP hD hS hl)
theorem z_zald (C : zC E K cc Ts own rm nL) (q0 : Nat) {a n : Nat} {f : Nat → Int32} {i v : Int32} (he : V[q0]? = some (a, .inl (gZ E, n, .inl f))) (hi : vp_in i n) (hv : f i.toNatClampNeg = v) (hd : decode cc pc = .ok (.baload, 1)) (kk : Z E K ce sl V (pc + 1) lv (.int v :: st)) : Z E K ce sl V pc lv (.int i :: .ref a :: st) := by
  obtain ⟨p, e, R, s, m, args, below, meth, c, nL', A, Q⟩ := K
  obtain ⟨hx, hb, hml, hnl, hrm, hown, hts, hA, hK, hlk⟩ := C
  subst hnl
  intro H locs ls hP hD hS hl
  subst hv
  exact va_zald hx hb hK.1 hP q0 2 he rfl hi hd (kk H locs ls hP hD hS hl)
theorem z_zast (C : zC E K cc Ts own rm nL) (q0 : Nat) {a n : Nat} {f g : Nat → Int32} {i x : Int32} (he : V[q0]? = some (a, .inl (gZ E, n, .inl f))) (hi : vp_in i n) (hg : upd f i.toNatClampNeg (vp_nar .boolean x) = g) (hV : V.set q0 (a, .inl (gZ E, n, .inl g)) = V') (hd : decode cc pc = .ok (.bastore, 1)) (kk : Z E K ce sl V' (pc + 1) lv st) : Z E K ce sl V pc lv (.int x :: .int i :: .ref a :: st) := by
  obtain ⟨p, e, R, s, m, args, below, meth, c, nL', A, Q⟩ := K
  obtain ⟨hx, hb, hml, hnl, hrm, hown, hts, hA, hK, hlk⟩ := C
  subst hnl
  intro H locs ls hP hD hS hl
  subst hV
  subst hg
  exact va_zast hx hb hK.1 hP hD hS q0 2 he rfl hi hd (fun H1 locs1 hP1 hD1 hS1 => kk H1 locs1 ls hP1 hD1 hS1 hl)
theorem z_zalen (C : zC E K cc Ts own rm nL) (q0 : Nat) {a n : Nat} {f : Nat → Int32} (he : V[q0]? = some (a, .inl (gZ E, n, .inl f))) {v : Int32} (hv : Int32.ofNat n = v) (hd : decode cc pc = .ok (.arraylength, 1)) (kk : Z E K ce sl V (pc + 1) lv (.int v :: st)) : Z E K ce sl V pc lv (.ref a :: st) := by
  obtain ⟨p, e, R, s, m, args, below, meth, c, nL', A, Q⟩ := K
  obtain ⟨hx, hb, hml, hnl, hrm, hown, hts, hA, hK, hlk⟩ := C
  subst hnl
  intro H locs ls hP hD hS hl
  exact va_alen hx hb hK.1 hP q0 2 he rfl hv hd (kk H locs ls hP hD hS hl)
theorem z_lv (ks : List Nat) (hv : lv_pick lv ks = lv') (k : Z E K ce sl V pc lv' st) : Z E K ce sl V pc lv st := by
  obtain ⟨p, e, R, s, m, args, below, meth, c, nL, A, Q⟩ := K
  intro H locs ls hP hD hS hl
  exact k H locs ls hP hD hS (lv_sub hl ks hv)
theorem z_eq {lv2 : List (Nat × Value)} {st2 : List Value} {V2 : va_W} (h1 : V = V2) (h2 : lv = lv2) (h3 : st = st2) (k : Z E K ce sl V2 pc lv2 st2) : Z E K ce sl V pc lv st := by
  subst h1; subst h2; subst h3; exact k
theorem z_top {x y : Int32} (h : x = y) (k : Z E K ce sl V pc lv (.int y :: st)) : Z E K ce sl V pc lv (.int x :: st) := by
  subst h; exact k
theorem z_mmax (C : zC E K cc Ts own rm nL) {index : Nat} {x y v : Int32} (hv : (if x < y then y else x) = v) (h1 : zw K (.methodLink own index Lib.Math.max.name)) (h2 : zw K (.static Lib.Math.max.name)) (h3 : zw K (.initialized "java/lang/Math")) (h4 : zw K (.code Lib.Math.max.name Lib.Math.max.code 2 (some .int))) (hR : 1 ≤ rm.frames ∧ (st.map fun v => v.category).sum + 13 ≤ rm.locals ∧ ce ≤ rm.cells ∧ sl ≤ rm.slots) (hd : decode cc pc = .ok (.invokestatic index, 3)) (kk : Z E K ce sl V (pc + 3) lv (.int v :: st)) : Z E K ce sl V pc lv (.int y :: .int x :: st) := by
  obtain ⟨p, e, R, s, m, args, below, meth, c, nL', A, Q⟩ := K
  obtain ⟨hx, hb, hml, hnl, hrm, hown, hts, hA, hK, hlk⟩ := C
  subst hnl
  intro H locs ls hP hD hS hl
  subst hrm
  subst hv
  exact va_mmax hx hb (hml.trans hl.1.symm) hown h1 h2 h3 h4 hR.1 hR.2.1 hR.2.2.1 hR.2.2.2 hd (kk H locs ls hP hD hS hl)
theorem z_mmin (C : zC E K cc Ts own rm nL) {index : Nat} {x y v : Int32} (hv : (if y < x then y else x) = v) (h1 : zw K (.methodLink own index Lib.Math.min.name)) (h2 : zw K (.static Lib.Math.min.name)) (h3 : zw K (.initialized "java/lang/Math")) (h4 : zw K (.code Lib.Math.min.name Lib.Math.min.code 2 (some .int))) (hR : 1 ≤ rm.frames ∧ (st.map fun v => v.category).sum + 13 ≤ rm.locals ∧ ce ≤ rm.cells ∧ sl ≤ rm.slots) (hd : decode cc pc = .ok (.invokestatic index, 3)) (kk : Z E K ce sl V (pc + 3) lv (.int v :: st)) : Z E K ce sl V pc lv (.int y :: .int x :: st) := by
  obtain ⟨p, e, R, s, m, args, below, meth, c, nL', A, Q⟩ := K
  obtain ⟨hx, hb, hml, hnl, hrm, hown, hts, hA, hK, hlk⟩ := C
  subst hnl
  intro H locs ls hP hD hS hl
  subst hrm
  subst hv
  exact va_mmin hx hb (hml.trans hl.1.symm) hown h1 h2 h3 h4 hR.1 hR.2.1 hR.2.2.1 hR.2.2.2 hd (kk H locs ls hP hD hS hl)
theorem z_filterSome {α : Type} {V V' : List α} {ps : List Nat} (h : ps.map (fun i => V[i]?) = V'.map some) : ps.filterMap (fun i => V[i]?) = V' := by
  induction ps generalizing V' with
  | nil => cases V' with
    | nil => rfl
    | cons a t => simp at h
  | cons p ps ih => cases V' with
    | nil => simp at h
    | cons a t =>
      simp only [List.map_cons, List.cons.injEq] at h
      rw [List.filterMap_cons, h.1, ih h.2]
theorem z_ro {A0 : Nat → Prop} {D : va_G} {cl : List vw_C} {ws wc : va_W} {H H1 : Heap} (hP : va_P D cl ws H) (hD : va_D A0 ws) (isC : List Nat) (hC : isC.map (fun i => ws[i]?) = wc.map some) (hk : ∀ q : Nat, q < H.size → ¬ va_A wc H.size q → H1[q]? = H[q]?) (hP1 : va_P D cl wc H1) : va_P D cl ws H1 := by
  intro k q hq
  have hlt := (hP k q hq).lt
  by_cases h : va_A wc H.size q.1
  · rcases h with ⟨k2, e, h⟩ | h
    · have h1 : (isC.map (fun i => ws[i]?))[k2]? = some (some (q.1, e)) := by rw [hC, List.getElem?_map, h]; rfl
      rw [List.getElem?_map] at h1
      cases hi : isC[k2]? with
      | none => rw [hi] at h1; cases h1
      | some j =>
        rw [hi] at h1
        have h4 : ws[j]? = some (q.1, e) := Option.some.inj h1
        have hkj := hD.1 k j q (q.1, e) hq h4 rfl
        subst hkj
        have hqe : q = (q.1, e) := Option.some.inj (hq.symm.trans h4)
        rw [hqe]
        exact hP1 k2 _ h
    · omega
  · exact (hP k q hq).kept (hk q.1 hlt h)
theorem z_callVI (C : zC E K cc Ts own rm nL) {y : MethodName} {ws ws' : List Cond} {rc : Room} {bytes : ByteArray} {maxL index : Nat} {b : Nat} {As : List Value} {wc wr wd : va_W} {r : Int32} {rty : FieldType} (hM : zI E y ws rc (.ref b :: As) wc r wd) {Cn : String} {T : u_T} {Nf ci q0 : Nat} {fs : List Value} (hG : GoodIn Ts (wsV own index Cn y ws)) (hci : vwCl[ci]? = some (Cn, T, Nf)) (he : wc[q0]? = some (b, .inr (ci, fs))) (hy : y.cls = Cn ∧ y.cls ≠ "java/lang/invoke/MethodHandle" ∧ y.cls ≠ "java/lang/invoke/VarHandle" ∧ (parseMethodDescriptor y.desc).map (fun d => d.parameters.length) = some As.length) (hw : ws = Cond.code y bytes maxL (some rty) :: ws') (hz : rc.cells = 0 ∧ rc.slots = 0) (hR : rc.frames + 1 ≤ rm.frames ∧ 8 + (maxL + 11) + rc.locals ≤ rm.locals) (hcap : ce ≤ rm.cells ∧ sl ≤ rm.slots) (isC isR pm : List Nat) (hC : isC.map (fun i => V[i]?) = wc.map some) (hr : isR.map (fun i => V[i]?) = wr.map some) (hn : va_nd isR = true) (hdis : ∀ i ∈ isR, i ∉ isC) (hnp : va_nd pm = true) (hpm : pm.map (fun i => (wr ++ wd)[i]?) = V'.map some) (hnc : va_nd isC = true) (hst : (st.map fun v => v.category).sum ≤ 8) (hd : decode cc pc = .ok (.invokevirtual index, 3)) (k : Z E K ce sl V' (pc + 3) lv (.int r :: st)) {st0 : List Value} (h0 : st0 = As.reverse ++ .ref b :: st) : Z E K ce sl V pc lv st0 := by
  subst h0
  obtain ⟨p, e, R, s, m, args, below, meth, c, nL', A, Q⟩ := K
  obtain ⟨hx, hb, hml, hnl, hrm, hown, hts, hA, hK, hlk⟩ := C
  subst hnl
  intro H locs ls hP hD hS hl
  subst hrm
  have hPc := hP.sub (ws' := wc) isC (z_filterSome hC)
  have hFc := va_free (wc := wc) hD hS hA isC hC
  have hDc0 : va_D A wc := hD.sub isC hnc hC
  have hDc : va_D (fun _ => True) wc := ⟨fun i j x y hx1 hy1 hxy => hDc0.1 i j x y hx1 hy1 hxy, fun _ _ _ => trivial⟩
  refine va_calli (va_runV (As := As) (rest := st) ⟨hx, hb, hml, hown, hts⟩ (hM H.size) (cwV As.length hts hG hw hz.1 hz.2 hy hR) ⟨zPre_blind E _ _ _, va_recv hK.1 hPc hci he, fun U hU hW => ⟨rfl, by rw [hU], by rw [hU]; exact hPc, hK.warm hW, hDc.weaken (fun _ _ _ _ => trivial)⟩⟩ rfl rfl hl.1 rfl (lv_room hst) hd ⟨hcap.1, hcap.2⟩) hS (fun q _ h => hFc q h) hFc (fun r1 u t H1 locs1 ht hvm hw2 hB hz1 hk1 hS1 => ?_)
  have hw3 : r1 = r := hw2
  subst hw3
  obtain ⟨hP1, hD1⟩ := hB
  rw [ht] at hP1
  obtain ⟨hP2, hD2⟩ := va_join (wr := wr) (w1 := wd) hP hD isC isR hC hr hn hdis hk1 hFc hP1 hD1
  exact k H1 locs1 ls (hP2.sub pm (z_filterSome hpm)) (hD2.sub pm hnp hpm) hS1 hl
theorem z_rVI (C : zC E K cc Ts own rm nL) {y : MethodName} {ws ws' : List Cond} {rc : Room} {bytes : ByteArray} {maxL index : Nat} {b : Nat} {As : List Value} {wc : va_W} {r : Int32} {rty : FieldType} (hM : zI E y ws rc (.ref b :: As) wc r wc) {Cn : String} {T : u_T} {Nf ci q0 : Nat} {fs : List Value} (hG : GoodIn Ts (wsV own index Cn y ws)) (hci : vwCl[ci]? = some (Cn, T, Nf)) (he : wc[q0]? = some (b, .inr (ci, fs))) (hy : y.cls = Cn ∧ y.cls ≠ "java/lang/invoke/MethodHandle" ∧ y.cls ≠ "java/lang/invoke/VarHandle" ∧ (parseMethodDescriptor y.desc).map (fun d => d.parameters.length) = some As.length) (hw : ws = Cond.code y bytes maxL (some rty) :: ws') (hz : rc.cells = 0 ∧ rc.slots = 0) (hR : rc.frames + 1 ≤ rm.frames ∧ 8 + (maxL + 11) + rc.locals ≤ rm.locals) (hcap : ce ≤ rm.cells ∧ sl ≤ rm.slots) (isC : List Nat) (hC : isC.map (fun i => V[i]?) = wc.map some) (hnc : va_nd isC = true) (hst : (st.map fun v => v.category).sum ≤ 8) (hd : decode cc pc = .ok (.invokevirtual index, 3)) (k : Z E K ce sl V (pc + 3) lv (.int r :: st)) {st0 : List Value} (h0 : st0 = As.reverse ++ .ref b :: st) : Z E K ce sl V pc lv st0 := by
  subst h0
  obtain ⟨p, e, R, s, m, args, below, meth, c, nL', A, Q⟩ := K
  obtain ⟨hx, hb, hml, hnl, hrm, hown, hts, hA, hK, hlk⟩ := C
  subst hnl
  intro H locs ls hP hD hS hl
  subst hrm
  have hPc := hP.sub (ws' := wc) isC (z_filterSome hC)
  have hFc := va_free (wc := wc) hD hS hA isC hC
  have hDc0 : va_D A wc := hD.sub isC hnc hC
  have hDc : va_D (fun _ => True) wc := ⟨fun i j x y hx1 hy1 hxy => hDc0.1 i j x y hx1 hy1 hxy, fun _ _ _ => trivial⟩
  refine va_calli (va_runV (As := As) (rest := st) ⟨hx, hb, hml, hown, hts⟩ (hM H.size) (cwV As.length hts hG hw hz.1 hz.2 hy hR) ⟨zPre_blind E _ _ _, va_recv hK.1 hPc hci he, fun U hU hW => ⟨rfl, by rw [hU], by rw [hU]; exact hPc, hK.warm hW, hDc.weaken (fun _ _ _ _ => trivial)⟩⟩ rfl rfl hl.1 rfl (lv_room hst) hd ⟨hcap.1, hcap.2⟩) hS (fun q _ h => hFc q h) hFc (fun r1 u t H1 locs1 ht hvm hw2 hB hz1 hk1 hS1 => ?_)
  have hw3 : r1 = r := hw2
  subst hw3
  obtain ⟨hP1, hD1⟩ := hB
  rw [ht] at hP1
  exact k H1 locs1 ls (z_ro hP hD isC hC hk1 hP1) hD hS1 hl
theorem z_callVV (C : zC E K cc Ts own rm nL) {y : MethodName} {ws ws' : List Cond} {rc : Room} {bytes : ByteArray} {maxL index : Nat} {b : Nat} {As : List Value} {wc wr wd : va_W} (hM : zV E y ws rc (.ref b :: As) wc wd) {Cn : String} {T : u_T} {Nf ci q0 : Nat} {fs : List Value} (hG : GoodIn Ts (wsV own index Cn y ws)) (hci : vwCl[ci]? = some (Cn, T, Nf)) (he : wc[q0]? = some (b, .inr (ci, fs))) (hy : y.cls = Cn ∧ y.cls ≠ "java/lang/invoke/MethodHandle" ∧ y.cls ≠ "java/lang/invoke/VarHandle" ∧ (parseMethodDescriptor y.desc).map (fun d => d.parameters.length) = some As.length) (hw : ws = Cond.code y bytes maxL none :: ws') (hz : rc.cells = 0 ∧ rc.slots = 0) (hR : rc.frames + 1 ≤ rm.frames ∧ 8 + (maxL + 11) + rc.locals ≤ rm.locals) (hcap : ce ≤ rm.cells ∧ sl ≤ rm.slots) (isC isR pm : List Nat) (hC : isC.map (fun i => V[i]?) = wc.map some) (hr : isR.map (fun i => V[i]?) = wr.map some) (hn : va_nd isR = true) (hdis : ∀ i ∈ isR, i ∉ isC) (hnp : va_nd pm = true) (hpm : pm.map (fun i => (wr ++ wd)[i]?) = V'.map some) (hnc : va_nd isC = true) (hst : (st.map fun v => v.category).sum ≤ 8) (hd : decode cc pc = .ok (.invokevirtual index, 3)) (k : Z E K ce sl V' (pc + 3) lv st) {st0 : List Value} (h0 : st0 = As.reverse ++ .ref b :: st) : Z E K ce sl V pc lv st0 := by
  subst h0
  obtain ⟨p, e, R, s, m, args, below, meth, c, nL', A, Q⟩ := K
  obtain ⟨hx, hb, hml, hnl, hrm, hown, hts, hA, hK, hlk⟩ := C
  subst hnl
  intro H locs ls hP hD hS hl
  subst hrm
  have hPc := hP.sub (ws' := wc) isC (z_filterSome hC)
  have hFc := va_free (wc := wc) hD hS hA isC hC
  have hDc0 : va_D A wc := hD.sub isC hnc hC
  have hDc : va_D (fun _ => True) wc := ⟨fun i j x y hx1 hy1 hxy => hDc0.1 i j x y hx1 hy1 hxy, fun _ _ _ => trivial⟩
  refine va_callv (va_runV (As := As) (rest := st) ⟨hx, hb, hml, hown, hts⟩ (hM H.size) (cwV As.length hts hG hw hz.1 hz.2 hy hR) ⟨zPre_blind E _ _ _, va_recv hK.1 hPc hci he, fun U hU hW => ⟨rfl, by rw [hU], by rw [hU]; exact hPc, hK.warm hW, hDc.weaken (fun _ _ _ _ => trivial)⟩⟩ rfl rfl hl.1 rfl (lv_room hst) hd ⟨hcap.1, hcap.2⟩) hS (fun q _ h => hFc q h) hFc (fun u t H1 locs1 ht hvm hw2 hB hz1 hk1 hS1 => ?_)
  
  obtain ⟨hP1, hD1⟩ := hB
  rw [ht] at hP1
  obtain ⟨hP2, hD2⟩ := va_join (wr := wr) (w1 := wd) hP hD isC isR hC hr hn hdis hk1 hFc hP1 hD1
  exact k H1 locs1 ls (hP2.sub pm (z_filterSome hpm)) (hD2.sub pm hnp hpm) hS1 hl
theorem z_callSI (C : zC E K cc Ts own rm nL) {y : MethodName} {ws ws' : List Cond} {rc : Room} {bytes : ByteArray} {maxL index : Nat} {As : List Value} {wc wr wd : va_W} {r : Int32} {rty : FieldType} (hM : zI E y ws rc As wc r wd) (hG : GoodIn Ts (va_wsS own index y ws)) (hy : y.cls ≠ "java/lang/invoke/MethodHandle" ∧ y.cls ≠ "java/lang/invoke/VarHandle" ∧ (parseMethodDescriptor y.desc).map (fun d => d.parameters.length) = some As.length) (hw : ws = Cond.code y bytes maxL (some rty) :: ws') (hz : rc.cells = 0 ∧ rc.slots = 0) (hR : rc.frames + 1 ≤ rm.frames ∧ 8 + (maxL + 11) + rc.locals ≤ rm.locals) (hcap : ce ≤ rm.cells ∧ sl ≤ rm.slots) (isC isR pm : List Nat) (hC : isC.map (fun i => V[i]?) = wc.map some) (hr : isR.map (fun i => V[i]?) = wr.map some) (hn : va_nd isR = true) (hdis : ∀ i ∈ isR, i ∉ isC) (hnp : va_nd pm = true) (hpm : pm.map (fun i => (wr ++ wd)[i]?) = V'.map some) (hnc : va_nd isC = true) (hst : (st.map fun v => v.category).sum ≤ 8) (hd : decode cc pc = .ok (.invokestatic index, 3)) (k : Z E K ce sl V' (pc + 3) lv (.int r :: st)) {st0 : List Value} (h0 : st0 = As.reverse ++ st) : Z E K ce sl V pc lv st0 := by
  subst h0
  obtain ⟨p, e, R, s, m, args, below, meth, c, nL', A, Q⟩ := K
  obtain ⟨hx, hb, hml, hnl, hrm, hown, hts, hA, hK, hlk⟩ := C
  subst hnl
  intro H locs ls hP hD hS hl
  subst hrm
  have hPc := hP.sub (ws' := wc) isC (z_filterSome hC)
  have hFc := va_free (wc := wc) hD hS hA isC hC
  have hDc0 : va_D A wc := hD.sub isC hnc hC
  have hDc : va_D (fun _ => True) wc := ⟨fun i j x y hx1 hy1 hxy => hDc0.1 i j x y hx1 hy1 hxy, fun _ _ _ => trivial⟩
  refine va_calli (va_runS (As := As) (rest := st) ⟨hx, hb, hml, hown, hts⟩ (hM H.size) (va_cwS As.length hts hG hw hz.1 hz.2 hy hR) ⟨zPre_blind E _ _ _, fun U hU hW => ⟨rfl, by rw [hU], by rw [hU]; exact hPc, hK.warm hW, hDc.weaken (fun _ _ _ _ => trivial)⟩⟩ rfl rfl hl.1 rfl (lv_room hst) hd ⟨hcap.1, hcap.2⟩) hS (fun q _ h => hFc q h) hFc (fun r1 u t H1 locs1 ht hvm hw2 hB hz1 hk1 hS1 => ?_)
  have hw3 : r1 = r := hw2
  subst hw3
  obtain ⟨hP1, hD1⟩ := hB
  rw [ht] at hP1
  obtain ⟨hP2, hD2⟩ := va_join (wr := wr) (w1 := wd) hP hD isC isR hC hr hn hdis hk1 hFc hP1 hD1
  exact k H1 locs1 ls (hP2.sub pm (z_filterSome hpm)) (hD2.sub pm hnp hpm) hS1 hl
theorem z_rSI (C : zC E K cc Ts own rm nL) {y : MethodName} {ws ws' : List Cond} {rc : Room} {bytes : ByteArray} {maxL index : Nat} {As : List Value} {wc : va_W} {r : Int32} {rty : FieldType} (hM : zI E y ws rc As wc r wc) (hG : GoodIn Ts (va_wsS own index y ws)) (hy : y.cls ≠ "java/lang/invoke/MethodHandle" ∧ y.cls ≠ "java/lang/invoke/VarHandle" ∧ (parseMethodDescriptor y.desc).map (fun d => d.parameters.length) = some As.length) (hw : ws = Cond.code y bytes maxL (some rty) :: ws') (hz : rc.cells = 0 ∧ rc.slots = 0) (hR : rc.frames + 1 ≤ rm.frames ∧ 8 + (maxL + 11) + rc.locals ≤ rm.locals) (hcap : ce ≤ rm.cells ∧ sl ≤ rm.slots) (isC : List Nat) (hC : isC.map (fun i => V[i]?) = wc.map some) (hnc : va_nd isC = true) (hst : (st.map fun v => v.category).sum ≤ 8) (hd : decode cc pc = .ok (.invokestatic index, 3)) (k : Z E K ce sl V (pc + 3) lv (.int r :: st)) {st0 : List Value} (h0 : st0 = As.reverse ++ st) : Z E K ce sl V pc lv st0 := by
  subst h0
  obtain ⟨p, e, R, s, m, args, below, meth, c, nL', A, Q⟩ := K
  obtain ⟨hx, hb, hml, hnl, hrm, hown, hts, hA, hK, hlk⟩ := C
  subst hnl
  intro H locs ls hP hD hS hl
  subst hrm
  have hPc := hP.sub (ws' := wc) isC (z_filterSome hC)
  have hFc := va_free (wc := wc) hD hS hA isC hC
  have hDc0 : va_D A wc := hD.sub isC hnc hC
  have hDc : va_D (fun _ => True) wc := ⟨fun i j x y hx1 hy1 hxy => hDc0.1 i j x y hx1 hy1 hxy, fun _ _ _ => trivial⟩
  refine va_calli (va_runS (As := As) (rest := st) ⟨hx, hb, hml, hown, hts⟩ (hM H.size) (va_cwS As.length hts hG hw hz.1 hz.2 hy hR) ⟨zPre_blind E _ _ _, fun U hU hW => ⟨rfl, by rw [hU], by rw [hU]; exact hPc, hK.warm hW, hDc.weaken (fun _ _ _ _ => trivial)⟩⟩ rfl rfl hl.1 rfl (lv_room hst) hd ⟨hcap.1, hcap.2⟩) hS (fun q _ h => hFc q h) hFc (fun r1 u t H1 locs1 ht hvm hw2 hB hz1 hk1 hS1 => ?_)
  have hw3 : r1 = r := hw2
  subst hw3
  obtain ⟨hP1, hD1⟩ := hB
  rw [ht] at hP1
  exact k H1 locs1 ls (z_ro hP hD isC hC hk1 hP1) hD hS1 hl
theorem z_callSV (C : zC E K cc Ts own rm nL) {y : MethodName} {ws ws' : List Cond} {rc : Room} {bytes : ByteArray} {maxL index : Nat} {As : List Value} {wc wr wd : va_W} (hM : zV E y ws rc As wc wd) (hG : GoodIn Ts (va_wsS own index y ws)) (hy : y.cls ≠ "java/lang/invoke/MethodHandle" ∧ y.cls ≠ "java/lang/invoke/VarHandle" ∧ (parseMethodDescriptor y.desc).map (fun d => d.parameters.length) = some As.length) (hw : ws = Cond.code y bytes maxL none :: ws') (hz : rc.cells = 0 ∧ rc.slots = 0) (hR : rc.frames + 1 ≤ rm.frames ∧ 8 + (maxL + 11) + rc.locals ≤ rm.locals) (hcap : ce ≤ rm.cells ∧ sl ≤ rm.slots) (isC isR pm : List Nat) (hC : isC.map (fun i => V[i]?) = wc.map some) (hr : isR.map (fun i => V[i]?) = wr.map some) (hn : va_nd isR = true) (hdis : ∀ i ∈ isR, i ∉ isC) (hnp : va_nd pm = true) (hpm : pm.map (fun i => (wr ++ wd)[i]?) = V'.map some) (hnc : va_nd isC = true) (hst : (st.map fun v => v.category).sum ≤ 8) (hd : decode cc pc = .ok (.invokestatic index, 3)) (k : Z E K ce sl V' (pc + 3) lv st) {st0 : List Value} (h0 : st0 = As.reverse ++ st) : Z E K ce sl V pc lv st0 := by
  subst h0
  obtain ⟨p, e, R, s, m, args, below, meth, c, nL', A, Q⟩ := K
  obtain ⟨hx, hb, hml, hnl, hrm, hown, hts, hA, hK, hlk⟩ := C
  subst hnl
  intro H locs ls hP hD hS hl
  subst hrm
  have hPc := hP.sub (ws' := wc) isC (z_filterSome hC)
  have hFc := va_free (wc := wc) hD hS hA isC hC
  have hDc0 : va_D A wc := hD.sub isC hnc hC
  have hDc : va_D (fun _ => True) wc := ⟨fun i j x y hx1 hy1 hxy => hDc0.1 i j x y hx1 hy1 hxy, fun _ _ _ => trivial⟩
  refine va_callv (va_runS (As := As) (rest := st) ⟨hx, hb, hml, hown, hts⟩ (hM H.size) (va_cwS As.length hts hG hw hz.1 hz.2 hy hR) ⟨zPre_blind E _ _ _, fun U hU hW => ⟨rfl, by rw [hU], by rw [hU]; exact hPc, hK.warm hW, hDc.weaken (fun _ _ _ _ => trivial)⟩⟩ rfl rfl hl.1 rfl (lv_room hst) hd ⟨hcap.1, hcap.2⟩) hS (fun q _ h => hFc q h) hFc (fun u t H1 locs1 ht hvm hw2 hB hz1 hk1 hS1 => ?_)
  
  obtain ⟨hP1, hD1⟩ := hB
  rw [ht] at hP1
  obtain ⟨hP2, hD2⟩ := va_join (wr := wr) (w1 := wd) hP hD isC isR hC hr hn hdis hk1 hFc hP1 hD1
  exact k H1 locs1 ls (hP2.sub pm (z_filterSome hpm)) (hD2.sub pm hnp hpm) hS1 hl
theorem z_callNI (C : zC E K cc Ts own rm nL) {y : MethodName} {ws ws' : List Cond} {rc : Room} {bytes : ByteArray} {maxL index : Nat} {As : List Value} {wc wr wd : va_W} {r : Int32} {rty : FieldType} (hM : zI E y ws rc As wc r wd) {host : String} (hG : GoodIn Ts ws) (hNl : ∀ U : State, zK E U → va_Nw (.methodLinkNest own index y host) U) (hini : zw K (.initialized y.cls)) (hstt : zw K (.static y)) (hy : y.cls ≠ "java/lang/invoke/MethodHandle" ∧ y.cls ≠ "java/lang/invoke/VarHandle" ∧ (parseMethodDescriptor y.desc).map (fun d => d.parameters.length) = some As.length) (hw : ws = Cond.code y bytes maxL (some rty) :: ws') (hz : rc.cells = 0 ∧ rc.slots = 0) (hR : rc.frames + 1 ≤ rm.frames ∧ 8 + (maxL + 11) + rc.locals ≤ rm.locals) (hcap : ce ≤ rm.cells ∧ sl ≤ rm.slots) (isC isR pm : List Nat) (hC : isC.map (fun i => V[i]?) = wc.map some) (hr : isR.map (fun i => V[i]?) = wr.map some) (hn : va_nd isR = true) (hdis : ∀ i ∈ isR, i ∉ isC) (hnp : va_nd pm = true) (hpm : pm.map (fun i => (wr ++ wd)[i]?) = V'.map some) (hnc : va_nd isC = true) (hst : (st.map fun v => v.category).sum ≤ 8) (hd : decode cc pc = .ok (.invokestatic index, 3)) (k : Z E K ce sl V' (pc + 3) lv (.int r :: st)) {st0 : List Value} (h0 : st0 = As.reverse ++ st) : Z E K ce sl V pc lv st0 := by
  subst h0
  obtain ⟨p, e, R, s, m, args, below, meth, c, nL', A, Q⟩ := K
  obtain ⟨hx, hb, hml, hnl, hrm, hown, hts, hA, hK, hlk⟩ := C
  subst hnl
  intro H locs ls hP hD hS hl
  subst hrm
  have hPc := hP.sub (ws' := wc) isC (z_filterSome hC)
  have hFc := va_free (wc := wc) hD hS hA isC hC
  have hDc0 : va_D A wc := hD.sub isC hnc hC
  have hDc : va_D (fun _ => True) wc := ⟨fun i j x y hx1 hy1 hxy => hDc0.1 i j x y hx1 hy1 hxy, fun _ _ _ => trivial⟩
  refine va_calli (va_runSN (As := As) (rest := st) ⟨hx, hb, hml, hown, hts⟩ (hM H.size) ⟨va_cnB As.length hts hG hw hz.1 hz.2 (hNl s hK) hini hy hR, hstt, trivial⟩ ⟨zPre_blind E _ _ _, fun U hU hW => ⟨rfl, by rw [hU], by rw [hU]; exact hPc, hK.warm hW, hDc.weaken (fun _ _ _ _ => trivial)⟩⟩ rfl rfl hl.1 rfl (lv_room hst) hd ⟨hcap.1, hcap.2⟩) hS (fun q _ h => hFc q h) hFc (fun r1 u t H1 locs1 ht hvm hw2 hB hz1 hk1 hS1 => ?_)
  have hw3 : r1 = r := hw2
  subst hw3
  obtain ⟨hP1, hD1⟩ := hB
  rw [ht] at hP1
  obtain ⟨hP2, hD2⟩ := va_join (wr := wr) (w1 := wd) hP hD isC isR hC hr hn hdis hk1 hFc hP1 hD1
  exact k H1 locs1 ls (hP2.sub pm (z_filterSome hpm)) (hD2.sub pm hnp hpm) hS1 hl
theorem z_rNI (C : zC E K cc Ts own rm nL) {y : MethodName} {ws ws' : List Cond} {rc : Room} {bytes : ByteArray} {maxL index : Nat} {As : List Value} {wc : va_W} {r : Int32} {rty : FieldType} (hM : zI E y ws rc As wc r wc) {host : String} (hG : GoodIn Ts ws) (hNl : ∀ U : State, zK E U → va_Nw (.methodLinkNest own index y host) U) (hini : zw K (.initialized y.cls)) (hstt : zw K (.static y)) (hy : y.cls ≠ "java/lang/invoke/MethodHandle" ∧ y.cls ≠ "java/lang/invoke/VarHandle" ∧ (parseMethodDescriptor y.desc).map (fun d => d.parameters.length) = some As.length) (hw : ws = Cond.code y bytes maxL (some rty) :: ws') (hz : rc.cells = 0 ∧ rc.slots = 0) (hR : rc.frames + 1 ≤ rm.frames ∧ 8 + (maxL + 11) + rc.locals ≤ rm.locals) (hcap : ce ≤ rm.cells ∧ sl ≤ rm.slots) (isC : List Nat) (hC : isC.map (fun i => V[i]?) = wc.map some) (hnc : va_nd isC = true) (hst : (st.map fun v => v.category).sum ≤ 8) (hd : decode cc pc = .ok (.invokestatic index, 3)) (k : Z E K ce sl V (pc + 3) lv (.int r :: st)) {st0 : List Value} (h0 : st0 = As.reverse ++ st) : Z E K ce sl V pc lv st0 := by
  subst h0
  obtain ⟨p, e, R, s, m, args, below, meth, c, nL', A, Q⟩ := K
  obtain ⟨hx, hb, hml, hnl, hrm, hown, hts, hA, hK, hlk⟩ := C
  subst hnl
  intro H locs ls hP hD hS hl
  subst hrm
  have hPc := hP.sub (ws' := wc) isC (z_filterSome hC)
  have hFc := va_free (wc := wc) hD hS hA isC hC
  have hDc0 : va_D A wc := hD.sub isC hnc hC
  have hDc : va_D (fun _ => True) wc := ⟨fun i j x y hx1 hy1 hxy => hDc0.1 i j x y hx1 hy1 hxy, fun _ _ _ => trivial⟩
  refine va_calli (va_runSN (As := As) (rest := st) ⟨hx, hb, hml, hown, hts⟩ (hM H.size) ⟨va_cnB As.length hts hG hw hz.1 hz.2 (hNl s hK) hini hy hR, hstt, trivial⟩ ⟨zPre_blind E _ _ _, fun U hU hW => ⟨rfl, by rw [hU], by rw [hU]; exact hPc, hK.warm hW, hDc.weaken (fun _ _ _ _ => trivial)⟩⟩ rfl rfl hl.1 rfl (lv_room hst) hd ⟨hcap.1, hcap.2⟩) hS (fun q _ h => hFc q h) hFc (fun r1 u t H1 locs1 ht hvm hw2 hB hz1 hk1 hS1 => ?_)
  have hw3 : r1 = r := hw2
  subst hw3
  obtain ⟨hP1, hD1⟩ := hB
  rw [ht] at hP1
  exact k H1 locs1 ls (z_ro hP hD isC hC hk1 hP1) hD hS1 hl
end ZR
theorem zI_of {E : GE} {y : MethodName} {ws ws' : List Cond} {rm : Room} {av : List Value} {V V' : va_W} {r : Int32} {cc : ByteArray} {maxL : Nat} {ty : FieldType} (hy : plainName y.cls = true) (hw : ws = Cond.code y cc maxL (some ty) :: ws') (hn : narrow ty (.int r) = .int r) (hlen : (lg_sl av).length ≤ maxL)
    (body : ∀ K : KX, zC E K cc ws y.cls rm maxL → (∀ (pc : Nat) (lv : List (Nat × Value)) (v : Int32) (V0 : va_W), v = r → V0 = V' → decode cc pc = .ok (.ireturn, 1) → Z E K 0 0 V0 pc lv [.int v]) → Z E K 0 0 V 0 (lv_args 0 av) []) : zI E y ws rm av V r V' := by
  intro sz
  refine Met.ofW (cc := cc) (maxL := maxL) (ret := some ty) hy hw ?_
  intro p e s m args below meth c s₁ B hml hv
  obtain ⟨rfl, hsz, hP, hK, hD0⟩ := hv
  have hts := atoms_spec (ws := ws) B.pre
  have hown : s.vm.findClass y.cls = some m.cls := findClass_of_methodNamed B.named
  have hlocks : meth.locks = false := B.notSynchronized
  subst hsz
  have hD := hD0.self (sz := s.heap.size)
  have hl := lv_entry av (n := maxL) hlen
  rw [lg_entry_eq]
  generalize (lg_sl av ++ List.replicate (maxL - (lg_sl av).length) Slot.unset).toArray = ls at hl ⊢
  refine body (p, e, rm, s, m, av.toArray, below, meth, c, maxL, va_A V s.heap.size, MQ below (zQi E V r V' s.heap.size) av.toArray s 0 0 (va_A V s.heap.size)) ⟨B.exec, B.bytes, hml, rfl, rfl, hown, hts, fun q h => Or.inr h, hK, hlocks⟩ ?_ s.heap [] ls hP hD va_S.rf hl
  intro pc lv v V0 hvr hV0 hd H locs ls2 hP2 hD2 hS2 _
  subst hvr; subst hV0
  exact W.zret (v := v) B.exec B.bytes B.returns hn (fun t ht _ => ⟨⟨v, (), rfl, rfl, by rw [ht]; exact hP2, hD2⟩, hS2.F ht⟩) hS2.2.2 hd hlocks
theorem zV_of {E : GE} {y : MethodName} {ws ws' : List Cond} {rm : Room} {av : List Value} {V V' : va_W} {cc : ByteArray} {maxL : Nat} (hy : plainName y.cls = true) (hw : ws = Cond.code y cc maxL none :: ws') (hlen : (lg_sl av).length ≤ maxL)
    (body : ∀ K : KX, zC E K cc ws y.cls rm maxL → (∀ (pc : Nat) (lv : List (Nat × Value)) (V0 : va_W), V0 = V' → decode cc pc = .ok (.return_, 1) → Z E K 0 0 V0 pc lv []) → Z E K 0 0 V 0 (lv_args 0 av) []) : zV E y ws rm av V V' := by
  intro sz
  refine Met.ofW (cc := cc) (maxL := maxL) (ret := none) hy hw ?_
  intro p e s m args below meth c s₁ B hml hv
  obtain ⟨rfl, hsz, hP, hK, hD0⟩ := hv
  have hts := atoms_spec (ws := ws) B.pre
  have hown : s.vm.findClass y.cls = some m.cls := findClass_of_methodNamed B.named
  have hlocks : meth.locks = false := B.notSynchronized
  subst hsz
  have hD := hD0.self (sz := s.heap.size)
  have hl := lv_entry av (n := maxL) hlen
  rw [lg_entry_eq]
  generalize (lg_sl av ++ List.replicate (maxL - (lg_sl av).length) Slot.unset).toArray = ls at hl ⊢
  refine body (p, e, rm, s, m, av.toArray, below, meth, c, maxL, va_A V s.heap.size, MQ below (zQv E V V' s.heap.size) av.toArray s 0 0 (va_A V s.heap.size)) ⟨B.exec, B.bytes, hml, rfl, rfl, hown, hts, fun q h => Or.inr h, hK, hlocks⟩ ?_ s.heap [] ls hP hD va_S.rf hl
  intro pc lv V0 hV0 hd H locs ls2 hP2 hD2 hS2 _
  subst hV0
  exact W.vret B.exec B.bytes B.returns (fun t ht _ => ⟨⟨(), rfl, trivial, by rw [ht]; exact hP2, hD2⟩, hS2.F ht⟩) hS2.2.2 hd hlocks

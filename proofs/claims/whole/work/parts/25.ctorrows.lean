/-! Part 25: constructors: rows for new cells, and contracts whose end has new addresses -/
def zQw (E : GE) (V : va_W) (post : (Nat → Nat) → va_W) (sz : Nat) : Array Value → State → Outcome → State → Prop := va_Qv (fun (_ : Nat → Nat) => True) (fun q t => va_P (gD E) vwCl (post q) t.heap ∧ va_D (va_A V sz) (post q)) (va_A V sz)
/-- a constructor's contract: the cells behind are post q for some new addresses q; mc cells of ms slots are new -/
def zW (E : GE) (y : MethodName) (ws : List Cond) (rm : Room) (mc ms : Nat) (av : List Value) (V : va_W) (post : (Nat → Nat) → va_W) : Prop := ∀ sz : Nat, Met (gL E) y ws rm (va_Pc av (zPre E V sz)) (zQw E V post sz) mc ms (va_A V sz)
theorem zW_of {E : GE} {y : MethodName} {ws ws' : List Cond} {rm : Room} {mc ms : Nat} {av : List Value} {V : va_W} {post : (Nat → Nat) → va_W} {cc : ByteArray} {maxL : Nat} (hy : plainName y.cls = true) (hw : ws = Cond.code y cc maxL none :: ws') (hnm : y.name = "<init>") (hlen : (lg_sl av).length ≤ maxL)
    (body : ∀ K : KX, zC E K cc ws y.cls rm maxL → zN K "<init>" → (∀ (pc : Nat) (lv : List (Nat × Value)) (V0 : va_W) (q : Nat → Nat), V0 = post q → decode cc pc = .ok (.return_, 1) → Z E K mc ms V0 pc lv []) → Z E K 0 0 V 0 (lv_args 0 av) []) : zW E y ws rm mc ms av V post := by
  intro sz
  refine Met.ofW (cc := cc) (maxL := maxL) (ret := none) hy hw ?_
  intro p e s m args below meth c s₁ B hml hv
  obtain ⟨rfl, hsz, hP, hK, hD0⟩ := hv
  have hts := atoms_spec (ws := ws) B.pre
  have hown : s.vm.findClass y.cls = some m.cls := findClass_of_methodNamed B.named
  have hlocks : meth.locks = false := B.notSynchronized
  have hin : meth.name = y.name := (name_of_methodNamed B.named B.method).1
  subst hsz
  have hD := hD0.self (sz := s.heap.size)
  have hl := lv_entry av (n := maxL) hlen
  rw [lg_entry_eq]
  generalize (lg_sl av ++ List.replicate (maxL - (lg_sl av).length) Slot.unset).toArray = ls at hl ⊢
  refine body (p, e, rm, s, m, av.toArray, below, meth, c, maxL, va_A V s.heap.size, MQ below (zQw E V post s.heap.size) av.toArray s mc ms (va_A V s.heap.size)) ⟨B.exec, B.bytes, hml, rfl, rfl, hown, hts, fun q h => Or.inr h, hK, hlocks⟩ (hin.trans hnm) ?_ s.heap [] ls hP hD va_S.rf hl
  intro pc lv V0 q hV0 hd H locs ls2 hP2 hD2 hS2 _
  subst hV0
  exact W.vret B.exec B.bytes B.returns (fun t ht _ => ⟨⟨q, rfl, trivial, by rw [ht]; exact hP2, hD2⟩, hS2.F ht⟩) hS2.2.2 hd hlocks
section ZN
variable {E : GE} {K : KX} {cc : ByteArray} {Ts : List Cond} {own : String} {rm : Room} {nL ce sl pc : Nat} {V V' : va_W} {lv lv' : List (Nat × Value)} {st : List Value}
theorem z_objInit (C : zC E K cc Ts own rm nL) {idx a : Nat} (h1 : zw K (.methodLink own idx objectInit)) (h2 : zw K (.instanceMethod objectInit)) (h3 : zw K (.code objectInit ⟨#[0xb1]⟩ 1 none)) (hR : 1 ≤ rm.frames ∧ (st.map fun v => v.category).sum + 12 ≤ rm.locals) (hd : decode cc pc = .ok (.invokespecial idx, 3)) (k : Z E K ce sl V (pc + 3) lv st) : Z E K ce sl V pc lv (.ref a :: st) := by
  obtain ⟨p, e, R, s, m, args, below, meth, c, nL', A, Q⟩ := K
  obtain ⟨hx, hb, hml, hnl, hrm, hown, hts, hA, hK, hlk⟩ := C
  subst hnl
  subst hrm
  intro H locs ls hP hD hS hl
  refine W.objInit hx hb hown h1 h2 h3 rfl (by rw [hml]; exact hl.1) rfl hd hR.1 (by show 2 * 0 + _ + 12 ≤ _; have := hR.2; omega) ?_
  exact W.eq (g2 := F0 m (pc + 3) ls st) rfl (k H locs ls hP hD hS hl)
theorem z_newI (C : zC E K cc Ts own rm nL) (harr : zw K (.arrayClass .int)) {n : Int32} {L : Nat} (hn : ¬ n < 0) (hN : n.toNatClampNeg = L) (hby : L * componentBytes .int ≤ 536870912) (hcap : ce + 1 ≤ rm.cells ∧ sl + L ≤ rm.slots) (hd : decode cc pc = .ok (.newarray .int, 2)) (k : ∀ q : Nat, Z E K (ce + 1) (sl + L) (V ++ [(q, .inl (gI E, L, .inl (fun _ => 0)))]) (pc + 2) lv (.ref q :: st)) : Z E K ce sl V pc lv (.int n :: st) := by
  obtain ⟨p, e, R, s, m, args, below, meth, c, nL', A, Q⟩ := K
  obtain ⟨hx, hb, hml, hnl, hrm, hown, hts, hA, hK, hlk⟩ := C
  subst hnl
  subst hrm
  intro H locs ls hP hD hS hl
  refine va_newa (atype := .int) (ty := .int) (a0 := (L, .inl (fun _ => 0))) hx hb harr rfl hK.1 hP hD hS hA (fun cA => by rw [vp_cell_i]; rfl) hn hN hby hcap.1 hcap.2 hd (fun q cA H1 hK1 hP1 hD1 hS1 => ?_)
  have e2 : s.vm.findClass ("[" ++ FieldType.int.toString) = some cA := (hK1.2 3 (cA, .int) rfl).2
  have e3 : s.vm.findClass ("[" ++ FieldType.int.toString) = some (gI E) := (hK.1.2 1 (gI E, .int) rfl).2
  rw [e3] at e2
  have e1 : cA = gI E := (Option.some.inj e2).symm
  subst e1
  exact k q H1 locs ls hP1 hD1 hS1 hl
theorem z_newB (C : zC E K cc Ts own rm nL) (harr : zw K (.arrayClass .byte)) {n : Int32} {L : Nat} (hn : ¬ n < 0) (hN : n.toNatClampNeg = L) (hby : L * componentBytes .byte ≤ 536870912) (hcap : ce + 1 ≤ rm.cells ∧ sl + L ≤ rm.slots) (hd : decode cc pc = .ok (.newarray .byte, 2)) (k : ∀ q : Nat, Z E K (ce + 1) (sl + L) (V ++ [(q, .inl (gB E, L, .inl (fun _ => 0)))]) (pc + 2) lv (.ref q :: st)) : Z E K ce sl V pc lv (.int n :: st) := by
  obtain ⟨p, e, R, s, m, args, below, meth, c, nL', A, Q⟩ := K
  obtain ⟨hx, hb, hml, hnl, hrm, hown, hts, hA, hK, hlk⟩ := C
  subst hnl
  subst hrm
  intro H locs ls hP hD hS hl
  refine va_newa (atype := .byte) (ty := .byte) (a0 := (L, .inl (fun _ => 0))) hx hb harr rfl hK.1 hP hD hS hA (fun cA => by rw [vp_cell_i]; rfl) hn hN hby hcap.1 hcap.2 hd (fun q cA H1 hK1 hP1 hD1 hS1 => ?_)
  have e2 : s.vm.findClass ("[" ++ FieldType.byte.toString) = some cA := (hK1.2 3 (cA, .byte) rfl).2
  have e3 : s.vm.findClass ("[" ++ FieldType.byte.toString) = some (gB E) := (hK.1.2 0 (gB E, .byte) rfl).2
  rw [e3] at e2
  have e1 : cA = gB E := (Option.some.inj e2).symm
  subst e1
  exact k q H1 locs ls hP1 hD1 hS1 hl
theorem z_newZ (C : zC E K cc Ts own rm nL) (harr : zw K (.arrayClass .boolean)) {n : Int32} {L : Nat} (hn : ¬ n < 0) (hN : n.toNatClampNeg = L) (hby : L * componentBytes .boolean ≤ 536870912) (hcap : ce + 1 ≤ rm.cells ∧ sl + L ≤ rm.slots) (hd : decode cc pc = .ok (.newarray .boolean, 2)) (k : ∀ q : Nat, Z E K (ce + 1) (sl + L) (V ++ [(q, .inl (gZ E, L, .inl (fun _ => 0)))]) (pc + 2) lv (.ref q :: st)) : Z E K ce sl V pc lv (.int n :: st) := by
  obtain ⟨p, e, R, s, m, args, below, meth, c, nL', A, Q⟩ := K
  obtain ⟨hx, hb, hml, hnl, hrm, hown, hts, hA, hK, hlk⟩ := C
  subst hnl
  subst hrm
  intro H locs ls hP hD hS hl
  refine va_newa (atype := .boolean) (ty := .boolean) (a0 := (L, .inl (fun _ => 0))) hx hb harr rfl hK.1 hP hD hS hA (fun cA => by rw [vp_cell_i]; rfl) hn hN hby hcap.1 hcap.2 hd (fun q cA H1 hK1 hP1 hD1 hS1 => ?_)
  have e2 : s.vm.findClass ("[" ++ FieldType.boolean.toString) = some cA := (hK1.2 3 (cA, .boolean) rfl).2
  have e3 : s.vm.findClass ("[" ++ FieldType.boolean.toString) = some (gZ E) := (hK.1.2 2 (gZ E, .boolean) rfl).2
  rw [e3] at e2
  have e1 : cA = gZ E := (Option.some.inj e2).symm
  subst e1
  exact k q H1 locs ls hP1 hD1 hS1 hl
theorem z_new (C : zC E K cc Ts own rm nL) {Cn : String} {T : u_T} {Nf ci index : Nat} (hin : ∀ w ∈ u_ws Cn T Nf, w ∈ Ts) (ty : Nat → FieldType) (hty : ∀ k, k < Nf → parseFieldDescriptor (T k).2.2.1 = some (ty k)) (h1 : zw K (.classLink own index Cn)) (h2 : zw K (.instantiable Cn Nf)) (h3 : zw K (.initialized Cn)) (hc : vwCl[ci]? = some (Cn, T, Nf)) {fs : List Value} (hfs : ∀ j, j < Nf → defaultValue (ty j) = vp_V fs j) (hcap : ce + 1 ≤ rm.cells ∧ sl + Nf ≤ rm.slots) (hd : decode cc pc = .ok (.new index, 3)) (k : ∀ q : Nat, Z E K (ce + 1) (sl + Nf) (V ++ [(q, .inr (ci, fs))]) (pc + 3) lv (.ref q :: st)) : Z E K ce sl V pc lv st := by
  obtain ⟨p, e, R, s, m, args, below, meth, c, nL', A, Q⟩ := K
  obtain ⟨hx, hb, hml, hnl, hrm, hown, hts, hA, hK, hlk⟩ := C
  subst hnl
  subst hrm
  intro H locs ls hP hD hS hl
  exact va_new hx hb hts hin ty hty hown h1 h2 h3 hK.1 hP hD hS hA hc hfs hcap.1 hcap.2 hd (fun q H1 hP1 hD1 hS1 => k q H1 locs ls hP1 hD1 hS1 hl)
theorem z_widen {k1 n1 : Nat} (h1 : ce ≤ k1) (h2 : sl ≤ n1) (k : Z E K k1 n1 V pc lv st) : Z E K ce sl V pc lv st := by
  obtain ⟨p, e, R, s, m, args, below, meth, c, nL', A, Q⟩ := K
  intro H locs ls hP hD hS hl
  exact W.widen h1 h2 (k H locs ls hP hD hS hl)
/-- a constructor is called: its cells wc come back as post q -/
theorem z_callIW (C : zC E K cc Ts own rm nL) {y : MethodName} {ws ws' : List Cond} {rc : Room} {bytes : ByteArray} {maxL index b mc ms : Nat} {As : List Value} {wc wr : va_W} {post : (Nat → Nat) → va_W} (hM : zW E y ws rc mc ms (.ref b :: As) wc post) (hG : GoodIn Ts ws) (hw : ws = Cond.code y bytes maxL none :: ws') (hz : rc.cells = mc ∧ rc.slots = ms) (h1 : zw K (.initialized y.cls)) (h2 : zw K (.methodLink own index y)) (h3 : zw K (.instanceMethod y)) (hnm : y.name = "<init>")
    (hy : y.cls ≠ "java/lang/invoke/MethodHandle" ∧ y.cls ≠ "java/lang/invoke/VarHandle" ∧ (parseMethodDescriptor y.desc).map (fun d => d.parameters.length) = some As.length) (hR : rc.frames + 1 ≤ rm.frames ∧ 8 + (maxL + 11) + rc.locals ≤ rm.locals) (hcap : ce + mc ≤ rm.cells ∧ sl + ms ≤ rm.slots)
    (isC isR : List Nat) (hC : isC.map (fun i => V[i]?) = wc.map some) (hr : isR.map (fun i => V[i]?) = wr.map some) (hn : va_nd isR = true) (hdis : ∀ i ∈ isR, i ∉ isC) (hnc : va_nd isC = true) (hst : (st.map fun v => v.category).sum ≤ 8) (hd : decode cc pc = .ok (.invokespecial index, 3)) (k : ∀ q : Nat → Nat, Z E K (ce + mc) (sl + ms) (wr ++ post q) (pc + 3) lv st) {st0 : List Value} (h0 : st0 = As.reverse ++ .ref b :: st) : Z E K ce sl V pc lv st0 := by
  subst h0
  obtain ⟨p, e, R, s, m, args, below, meth, c, nL', A, Q⟩ := K
  obtain ⟨hx, hb, hml, hnl, hrm, hown, hts, hA, hK, hlk⟩ := C
  subst hnl
  subst hrm
  intro H locs ls hP hD hS hl
  have hPc := hP.sub (ws' := wc) isC (z_filterSome hC)
  have hFc := va_free (wc := wc) hD hS hA isC hC
  have hDc0 : va_D A wc := hD.sub isC hnc hC
  have hDc : va_D (fun _ => True) wc := ⟨hDc0.1, fun _ _ _ => trivial⟩
  refine va_callv (va_runI (As := As) (rest := st) ⟨hx, hb, hml, hown, hts⟩ (hM H.size) (cwI As.length hts hG hw hz.1 hz.2 h1 h2 h3 hnm hy hR) ⟨zPre_blind E _ _ _, fun U hU hW => ⟨rfl, by rw [hU], by rw [hU]; exact hPc, hK.warm hW, hDc⟩⟩ rfl rfl hl.1 rfl (lv_room hst) hd ⟨hcap.1, hcap.2⟩) hS (fun q _ h => hFc q h) hFc (fun q t H1 locs1 ht hvm hw2 hB hz1 hk1 hS1 => ?_)
  obtain ⟨hP1, hD1⟩ := hB
  rw [ht] at hP1
  obtain ⟨hP2, hD2⟩ := va_join (wr := wr) (w1 := post q) hP hD isC isR hC hr hn hdis hk1 hFc hP1 hD1
  exact k q H1 locs1 ls hP2 hD2 hS1 hl
/-- the same, of a nest mate's private constructor -/
theorem z_callIN (C : zC E K cc Ts own rm nL) {y : MethodName} {host : String} {ws ws' : List Cond} {rc : Room} {bytes : ByteArray} {maxL index b mc ms : Nat} {As : List Value} {wc wr : va_W} {post : (Nat → Nat) → va_W} (hM : zW E y ws rc mc ms (.ref b :: As) wc post) (hG : GoodIn Ts ws) (hw : ws = Cond.code y bytes maxL none :: ws') (hz : rc.cells = mc ∧ rc.slots = ms) (h1 : zw K (.initialized y.cls)) (hNl : ∀ U : State, zK E U → va_Nw (.methodLinkNest own index y host) U) (h3 : zw K (.instanceMethod y)) (hnm : y.name = "<init>")
    (hy : y.cls ≠ "java/lang/invoke/MethodHandle" ∧ y.cls ≠ "java/lang/invoke/VarHandle" ∧ (parseMethodDescriptor y.desc).map (fun d => d.parameters.length) = some As.length) (hR : rc.frames + 1 ≤ rm.frames ∧ 8 + (maxL + 11) + rc.locals ≤ rm.locals) (hcap : ce + mc ≤ rm.cells ∧ sl + ms ≤ rm.slots)
    (isC isR : List Nat) (hC : isC.map (fun i => V[i]?) = wc.map some) (hr : isR.map (fun i => V[i]?) = wr.map some) (hn : va_nd isR = true) (hdis : ∀ i ∈ isR, i ∉ isC) (hnc : va_nd isC = true) (hst : (st.map fun v => v.category).sum ≤ 8) (hd : decode cc pc = .ok (.invokespecial index, 3)) (k : ∀ q : Nat → Nat, Z E K (ce + mc) (sl + ms) (wr ++ post q) (pc + 3) lv st) {st0 : List Value} (h0 : st0 = As.reverse ++ .ref b :: st) : Z E K ce sl V pc lv st0 := by
  subst h0
  obtain ⟨p, e, R, s, m, args, below, meth, c, nL', A, Q⟩ := K
  obtain ⟨hx, hb, hml, hnl, hrm, hown, hts, hA, hK, hlk⟩ := C
  subst hnl
  subst hrm
  intro H locs ls hP hD hS hl
  have hPc := hP.sub (ws' := wc) isC (z_filterSome hC)
  have hFc := va_free (wc := wc) hD hS hA isC hC
  have hDc0 : va_D A wc := hD.sub isC hnc hC
  have hDc : va_D (fun _ => True) wc := ⟨hDc0.1, fun _ _ _ => trivial⟩
  refine va_callv (va_runIN (As := As) (rest := st) ⟨hx, hb, hml, hown, hts⟩ (hM H.size) ⟨va_cnB As.length hts hG hw hz.1 hz.2 (hNl s hK) h1 hy hR, hnm, h3⟩ ⟨zPre_blind E _ _ _, fun U hU hW => ⟨rfl, by rw [hU], by rw [hU]; exact hPc, hK.warm hW, hDc⟩⟩ rfl rfl hl.1 rfl (lv_room hst) hd ⟨hcap.1, hcap.2⟩) hS (fun q _ h => hFc q h) hFc (fun q t H1 locs1 ht hvm hw2 hB hz1 hk1 hS1 => ?_)
  obtain ⟨hP1, hD1⟩ := hB
  rw [ht] at hP1
  obtain ⟨hP2, hD2⟩ := va_join (wr := wr) (w1 := post q) hP hD isC isR hC hr hn hdis hk1 hFc hP1 hD1
  exact k q H1 locs1 ls hP2 hD2 hS1 hl
end ZN

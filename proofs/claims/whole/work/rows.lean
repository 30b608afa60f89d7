section
-- ===== PART A: goes FIRST, ahead of the names: the tables' words, and 'selects' of the private methods out of them =====
/-- a private method of a class that the tables say can be made, by its rows of tables_1 -/
def lw_okq (q : MethodName × Nat) : Prop := (q.1.cls ≠ "java/lang/invoke/MethodHandle" ∧ q.1.cls ≠ "java/lang/invoke/VarHandle") ∧ Cond.instantiable q.1.cls q.2 ∈ tables_1 ∧ Cond.privateMethod q.1 ∈ tables_1 ∧ Cond.instanceMethod q.1 ∈ tables_1
theorem lw_p0 : lw_okq (⟨"StoreLog3$Sectors", "sumOf", "(I)I"⟩, 2) := ⟨⟨by decide +kernel, by decide +kernel⟩, List.mem_of_getElem? (i := 23) (by decide +kernel), List.mem_of_getElem? (i := 69) (by decide +kernel), List.mem_of_getElem? (i := 70) (by decide +kernel)⟩
theorem lw_p1 : lw_okq (⟨"StoreLog3$Journal", "forgetMemory", "()V"⟩, 12) := ⟨⟨by decide +kernel, by decide +kernel⟩, List.mem_of_getElem? (i := 17) (by decide +kernel), List.mem_of_getElem? (i := 74) (by decide +kernel), List.mem_of_getElem? (i := 75) (by decide +kernel)⟩
theorem lw_p2 : lw_okq (⟨"StoreLog3$Journal", "goToNext", "()V"⟩, 12) := ⟨⟨by decide +kernel, by decide +kernel⟩, List.mem_of_getElem? (i := 17) (by decide +kernel), List.mem_of_getElem? (i := 239) (by decide +kernel), List.mem_of_getElem? (i := 240) (by decide +kernel)⟩
theorem lw_p3 : lw_okq (⟨"StoreLog3", "endTransaction", "(II)I"⟩, 5) := ⟨⟨by decide +kernel, by decide +kernel⟩, List.mem_of_getElem? (i := 9) (by decide +kernel), List.mem_of_getElem? (i := 252) (by decide +kernel), List.mem_of_getElem? (i := 253) (by decide +kernel)⟩
theorem lw_p4 : lw_okq (⟨"StoreLog3$Journal", "putOnDisk", "(I)I"⟩, 12) := ⟨⟨by decide +kernel, by decide +kernel⟩, List.mem_of_getElem? (i := 17) (by decide +kernel), List.mem_of_getElem? (i := 294) (by decide +kernel), List.mem_of_getElem? (i := 295) (by decide +kernel)⟩
theorem lw_p5 : lw_okq (⟨"StoreLog3$Journal", "writePairs", "(LStoreLog3$Dictionary;I)I"⟩, 12) := ⟨⟨by decide +kernel, by decide +kernel⟩, List.mem_of_getElem? (i := 17) (by decide +kernel), List.mem_of_getElem? (i := 327) (by decide +kernel), List.mem_of_getElem? (i := 328) (by decide +kernel)⟩
theorem lw_p6 : lw_okq (⟨"StoreLog3$Finder", "lookAt", "(LStoreLog3$Sectors;)V"⟩, 4) := ⟨⟨by decide +kernel, by decide +kernel⟩, List.mem_of_getElem? (i := 139) (by decide +kernel), List.mem_of_getElem? (i := 353) (by decide +kernel), List.mem_of_getElem? (i := 354) (by decide +kernel)⟩
theorem lw_p7 : lw_okq (⟨"StoreLog3$Finder", "pagesFrom", "(LStoreLog3$Sectors;I)I"⟩, 4) := ⟨⟨by decide +kernel, by decide +kernel⟩, List.mem_of_getElem? (i := 139) (by decide +kernel), List.mem_of_getElem? (i := 375) (by decide +kernel), List.mem_of_getElem? (i := 376) (by decide +kernel)⟩
theorem lw_p8 : lw_okq (⟨"StoreLog3$Finder", "isTelling", "(I)Z"⟩, 4) := ⟨⟨by decide +kernel, by decide +kernel⟩, List.mem_of_getElem? (i := 139) (by decide +kernel), List.mem_of_getElem? (i := 379) (by decide +kernel), List.mem_of_getElem? (i := 380) (by decide +kernel)⟩
theorem lw_p9 : lw_okq (⟨"StoreLog3", "undoAllOpen", "()I"⟩, 5) := ⟨⟨by decide +kernel, by decide +kernel⟩, List.mem_of_getElem? (i := 9) (by decide +kernel), List.mem_of_getElem? (i := 426) (by decide +kernel), List.mem_of_getElem? (i := 427) (by decide +kernel)⟩
theorem lw_p10 : lw_okq (⟨"StoreLog3Model", "begin0", "()V"⟩, 20) := ⟨⟨by decide +kernel, by decide +kernel⟩, List.mem_of_getElem? (i := 474) (by decide +kernel), List.mem_of_getElem? (i := 480) (by decide +kernel), List.mem_of_getElem? (i := 481) (by decide +kernel)⟩
theorem lw_p11 : lw_okq (⟨"StoreLog3Model", "forget", "()V"⟩, 20) := ⟨⟨by decide +kernel, by decide +kernel⟩, List.mem_of_getElem? (i := 474) (by decide +kernel), List.mem_of_getElem? (i := 484) (by decide +kernel), List.mem_of_getElem? (i := 485) (by decide +kernel)⟩
theorem lw_p12 : lw_okq (⟨"StoreLog3Model", "clearRow", "(II)V"⟩, 20) := ⟨⟨by decide +kernel, by decide +kernel⟩, List.mem_of_getElem? (i := 474) (by decide +kernel), List.mem_of_getElem? (i := 488) (by decide +kernel), List.mem_of_getElem? (i := 489) (by decide +kernel)⟩
theorem lw_p13 : lw_okq (⟨"StoreLog3Model", "number", "(III)V"⟩, 20) := ⟨⟨by decide +kernel, by decide +kernel⟩, List.mem_of_getElem? (i := 474) (by decide +kernel), List.mem_of_getElem? (i := 492) (by decide +kernel), List.mem_of_getElem? (i := 493) (by decide +kernel)⟩
theorem lw_p14 : lw_okq (⟨"StoreLog3Model", "seal", "(I)V"⟩, 20) := ⟨⟨by decide +kernel, by decide +kernel⟩, List.mem_of_getElem? (i := 474) (by decide +kernel), List.mem_of_getElem? (i := 496) (by decide +kernel), List.mem_of_getElem? (i := 497) (by decide +kernel)⟩
theorem lw_p15 : lw_okq (⟨"StoreLog3Model", "isOpenOne", "(I)Z"⟩, 20) := ⟨⟨by decide +kernel, by decide +kernel⟩, List.mem_of_getElem? (i := 474) (by decide +kernel), List.mem_of_getElem? (i := 573) (by decide +kernel), List.mem_of_getElem? (i := 574) (by decide +kernel)⟩
def lw_privs_1 : List (MethodName × Nat) := [(⟨"StoreLog3$Sectors", "sumOf", "(I)I"⟩, 2), (⟨"StoreLog3$Journal", "forgetMemory", "()V"⟩, 12), (⟨"StoreLog3$Journal", "goToNext", "()V"⟩, 12), (⟨"StoreLog3", "endTransaction", "(II)I"⟩, 5), (⟨"StoreLog3$Journal", "putOnDisk", "(I)I"⟩, 12), (⟨"StoreLog3$Journal", "writePairs", "(LStoreLog3$Dictionary;I)I"⟩, 12), (⟨"StoreLog3$Finder", "lookAt", "(LStoreLog3$Sectors;)V"⟩, 4), (⟨"StoreLog3$Finder", "pagesFrom", "(LStoreLog3$Sectors;I)I"⟩, 4), (⟨"StoreLog3$Finder", "isTelling", "(I)Z"⟩, 4), (⟨"StoreLog3", "undoAllOpen", "()I"⟩, 5), (⟨"StoreLog3Model", "begin0", "()V"⟩, 20), (⟨"StoreLog3Model", "forget", "()V"⟩, 20), (⟨"StoreLog3Model", "clearRow", "(II)V"⟩, 20), (⟨"StoreLog3Model", "number", "(III)V"⟩, 20), (⟨"StoreLog3Model", "seal", "(I)V"⟩, 20), (⟨"StoreLog3Model", "isOpenOne", "(I)Z"⟩, 20)]
theorem lw_r1 : ∀ q ∈ lw_privs_1, lw_okq q := List.forall_mem_cons.mpr ⟨lw_p0, List.forall_mem_cons.mpr ⟨lw_p1, List.forall_mem_cons.mpr ⟨lw_p2, List.forall_mem_cons.mpr ⟨lw_p3, List.forall_mem_cons.mpr ⟨lw_p4, List.forall_mem_cons.mpr ⟨lw_p5, List.forall_mem_cons.mpr ⟨lw_p6, List.forall_mem_cons.mpr ⟨lw_p7, List.forall_mem_cons.mpr ⟨lw_p8, List.forall_mem_cons.mpr ⟨lw_p9, List.forall_mem_cons.mpr ⟨lw_p10, List.forall_mem_cons.mpr ⟨lw_p11, List.forall_mem_cons.mpr ⟨lw_p12, List.forall_mem_cons.mpr ⟨lw_p13, List.forall_mem_cons.mpr ⟨lw_p14, List.forall_mem_cons.mpr ⟨lw_p15, fun _ h => absurd h List.not_mem_nil⟩⟩⟩⟩⟩⟩⟩⟩⟩⟩⟩⟩⟩⟩⟩⟩
theorem lw_p16 : lw_okq (⟨"StoreLog3Model", "mayAdd", "()Z"⟩, 20) := ⟨⟨by decide +kernel, by decide +kernel⟩, List.mem_of_getElem? (i := 474) (by decide +kernel), List.mem_of_getElem? (i := 584) (by decide +kernel), List.mem_of_getElem? (i := 585) (by decide +kernel)⟩
theorem lw_p17 : lw_okq (⟨"StoreLog3Model", "mayWrite", "(I)Z"⟩, 20) := ⟨⟨by decide +kernel, by decide +kernel⟩, List.mem_of_getElem? (i := 474) (by decide +kernel), List.mem_of_getElem? (i := 588) (by decide +kernel), List.mem_of_getElem? (i := 589) (by decide +kernel)⟩
theorem lw_p18 : lw_okq (⟨"StoreLog3Model", "needed", "()I"⟩, 20) := ⟨⟨by decide +kernel, by decide +kernel⟩, List.mem_of_getElem? (i := 474) (by decide +kernel), List.mem_of_getElem? (i := 592) (by decide +kernel), List.mem_of_getElem? (i := 593) (by decide +kernel)⟩
theorem lw_p19 : lw_okq (⟨"StoreLog3Model", "add", "(III)V"⟩, 20) := ⟨⟨by decide +kernel, by decide +kernel⟩, List.mem_of_getElem? (i := 474) (by decide +kernel), List.mem_of_getElem? (i := 596) (by decide +kernel), List.mem_of_getElem? (i := 597) (by decide +kernel)⟩
theorem lw_p20 : lw_okq (⟨"StoreLog3Model", "writeEntries", "()V"⟩, 20) := ⟨⟨by decide +kernel, by decide +kernel⟩, List.mem_of_getElem? (i := 474) (by decide +kernel), List.mem_of_getElem? (i := 600) (by decide +kernel), List.mem_of_getElem? (i := 601) (by decide +kernel)⟩
theorem lw_p21 : lw_okq (⟨"StoreLog3Model", "write", "()V"⟩, 20) := ⟨⟨by decide +kernel, by decide +kernel⟩, List.mem_of_getElem? (i := 474) (by decide +kernel), List.mem_of_getElem? (i := 604) (by decide +kernel), List.mem_of_getElem? (i := 605) (by decide +kernel)⟩
theorem lw_p22 : lw_okq (⟨"StoreLog3Model", "finish", "(IZ)I"⟩, 20) := ⟨⟨by decide +kernel, by decide +kernel⟩, List.mem_of_getElem? (i := 474) (by decide +kernel), List.mem_of_getElem? (i := 612) (by decide +kernel), List.mem_of_getElem? (i := 613) (by decide +kernel)⟩
theorem lw_p23 : lw_okq (⟨"StoreLog3Model", "release", "(IZ)I"⟩, 20) := ⟨⟨by decide +kernel, by decide +kernel⟩, List.mem_of_getElem? (i := 474) (by decide +kernel), List.mem_of_getElem? (i := 616) (by decide +kernel), List.mem_of_getElem? (i := 617) (by decide +kernel)⟩
theorem lw_p24 : lw_okq (⟨"StoreLog3Model", "lay", "(II)V"⟩, 20) := ⟨⟨by decide +kernel, by decide +kernel⟩, List.mem_of_getElem? (i := 474) (by decide +kernel), List.mem_of_getElem? (i := 636) (by decide +kernel), List.mem_of_getElem? (i := 637) (by decide +kernel)⟩
theorem lw_p25 : lw_okq (⟨"StoreLog3Model", "serialAt", "(I)I"⟩, 20) := ⟨⟨by decide +kernel, by decide +kernel⟩, List.mem_of_getElem? (i := 474) (by decide +kernel), List.mem_of_getElem? (i := 652) (by decide +kernel), List.mem_of_getElem? (i := 653) (by decide +kernel)⟩
theorem lw_p26 : lw_okq (⟨"StoreLog3Model", "numberAt", "(III)I"⟩, 20) := ⟨⟨by decide +kernel, by decide +kernel⟩, List.mem_of_getElem? (i := 474) (by decide +kernel), List.mem_of_getElem? (i := 656) (by decide +kernel), List.mem_of_getElem? (i := 657) (by decide +kernel)⟩
theorem lw_p27 : lw_okq (⟨"StoreLog3Model", "byteAt", "(II)I"⟩, 20) := ⟨⟨by decide +kernel, by decide +kernel⟩, List.mem_of_getElem? (i := 474) (by decide +kernel), List.mem_of_getElem? (i := 660) (by decide +kernel), List.mem_of_getElem? (i := 661) (by decide +kernel)⟩
theorem lw_p28 : lw_okq (⟨"StoreLog3Model", "pagesFrom", "(I)I"⟩, 20) := ⟨⟨by decide +kernel, by decide +kernel⟩, List.mem_of_getElem? (i := 474) (by decide +kernel), List.mem_of_getElem? (i := 665) (by decide +kernel), List.mem_of_getElem? (i := 666) (by decide +kernel)⟩
theorem lw_p29 : lw_okq (⟨"StoreLog3Model", "tells", "(I)Z"⟩, 20) := ⟨⟨by decide +kernel, by decide +kernel⟩, List.mem_of_getElem? (i := 474) (by decide +kernel), List.mem_of_getElem? (i := 669) (by decide +kernel), List.mem_of_getElem? (i := 670) (by decide +kernel)⟩
theorem lw_p30 : lw_okq (⟨"StoreLog3Model", "isSound", "(I)Z"⟩, 20) := ⟨⟨by decide +kernel, by decide +kernel⟩, List.mem_of_getElem? (i := 474) (by decide +kernel), List.mem_of_getElem? (i := 673) (by decide +kernel), List.mem_of_getElem? (i := 674) (by decide +kernel)⟩
theorem lw_p31 : lw_okq (⟨"StoreLog3Model", "redo", "(I)V"⟩, 20) := ⟨⟨by decide +kernel, by decide +kernel⟩, List.mem_of_getElem? (i := 474) (by decide +kernel), List.mem_of_getElem? (i := 677) (by decide +kernel), List.mem_of_getElem? (i := 678) (by decide +kernel)⟩
def lw_privs_2 : List (MethodName × Nat) := [(⟨"StoreLog3Model", "mayAdd", "()Z"⟩, 20), (⟨"StoreLog3Model", "mayWrite", "(I)Z"⟩, 20), (⟨"StoreLog3Model", "needed", "()I"⟩, 20), (⟨"StoreLog3Model", "add", "(III)V"⟩, 20), (⟨"StoreLog3Model", "writeEntries", "()V"⟩, 20), (⟨"StoreLog3Model", "write", "()V"⟩, 20), (⟨"StoreLog3Model", "finish", "(IZ)I"⟩, 20), (⟨"StoreLog3Model", "release", "(IZ)I"⟩, 20), (⟨"StoreLog3Model", "lay", "(II)V"⟩, 20), (⟨"StoreLog3Model", "serialAt", "(I)I"⟩, 20), (⟨"StoreLog3Model", "numberAt", "(III)I"⟩, 20), (⟨"StoreLog3Model", "byteAt", "(II)I"⟩, 20), (⟨"StoreLog3Model", "pagesFrom", "(I)I"⟩, 20), (⟨"StoreLog3Model", "tells", "(I)Z"⟩, 20), (⟨"StoreLog3Model", "isSound", "(I)Z"⟩, 20), (⟨"StoreLog3Model", "redo", "(I)V"⟩, 20)]
theorem lw_r2 : ∀ q ∈ lw_privs_2, lw_okq q := List.forall_mem_cons.mpr ⟨lw_p16, List.forall_mem_cons.mpr ⟨lw_p17, List.forall_mem_cons.mpr ⟨lw_p18, List.forall_mem_cons.mpr ⟨lw_p19, List.forall_mem_cons.mpr ⟨lw_p20, List.forall_mem_cons.mpr ⟨lw_p21, List.forall_mem_cons.mpr ⟨lw_p22, List.forall_mem_cons.mpr ⟨lw_p23, List.forall_mem_cons.mpr ⟨lw_p24, List.forall_mem_cons.mpr ⟨lw_p25, List.forall_mem_cons.mpr ⟨lw_p26, List.forall_mem_cons.mpr ⟨lw_p27, List.forall_mem_cons.mpr ⟨lw_p28, List.forall_mem_cons.mpr ⟨lw_p29, List.forall_mem_cons.mpr ⟨lw_p30, List.forall_mem_cons.mpr ⟨lw_p31, fun _ h => absurd h List.not_mem_nil⟩⟩⟩⟩⟩⟩⟩⟩⟩⟩⟩⟩⟩⟩⟩⟩
def lw_privs : List (MethodName × Nat) := lw_privs_1 ++ (lw_privs_2)
def lw_tbl : List Cond := k2_sels lw_privs ++ tables_1
theorem lw_privs_ok : ∀ q ∈ lw_privs, lw_okq q := by
  show ∀ q ∈ lw_privs_1 ++ (lw_privs_2), lw_okq q
  exact List.forall_mem_append.mpr ⟨lw_r1, lw_r2⟩
end
section
/-! ===== BEGIN words of one list among another's, by their places ===== -/
theorem goodIn_r {big : List Cond} (ws : List Cond) (ps : List Nat) (hp : ws = ps.filterMap (fun i => big[i]?)) (h : ws.all goodWord = true) : GoodIn big ws := by
  intro w hw
  have h1 := List.all_eq_true.mp h w hw
  rw [hp] at hw
  obtain ⟨i, -, hi⟩ := List.mem_filterMap.mp hw
  have hm : w ∈ big := by first | exact List.mem_of_getElem? hi | exact List.getElem?_mem hi
  exact ⟨hm, good_of_word h1⟩
theorem goodIn_app {big a b : List Cond} (ha : GoodIn big a) (hb : GoodIn big b) : GoodIn big (a ++ b) := fun w h => (List.mem_append.mp h).elim (ha w) (hb w)
theorem goodIn_ca {big a b : List Cond} {c : Cond} (ha : GoodIn big (c :: a)) (hb : GoodIn big b) : GoodIn big (c :: (a ++ b)) := fun w h => (List.mem_cons.mp h).elim (fun e => ha w (List.mem_cons.mpr (Or.inl e))) (fun h => (List.mem_append.mp h).elim (fun h => ha w (List.mem_cons.mpr (Or.inr h))) (hb w))
theorem goodIn_sub {big ws : List Cond} (hm : ∀ w ∈ ws, w ∈ big) (h : ws.all goodWord = true) : GoodIn big ws := fun w hw => ⟨hm w hw, good_of_word (List.all_eq_true.mp h w hw)⟩
/-! ===== END ===== -/

/-! ===== BEGIN printed: names, fields, word lists, decode rows ===== -/
def RX0 : String := "StoreLog3$Dictionary"
def TX0 : u_T := fun k => match k with
  | 0 => ("StoreLog3$Dictionary", "committed", "[I", true)
  | 1 => ("StoreLog3$Dictionary", "changed", "[I", true)
  | 2 => ("StoreLog3$Dictionary", "holders", "[I", true)
  | _ => ("StoreLog3$Dictionary", "open", "I", false)
def tyX0 : Nat → FieldType := fun k => match k with
  | 0 => .array .int
  | 1 => .array .int
  | 2 => .array .int
  | _ => .int
abbrev wsX00 : List Cond := u_ws RX0 TX0 4
theorem nmX0 : ∀ a, a < 4 → ∀ b, b < 4 → a ≠ b → (TX0 a).2.1 ≠ (TX0 b).2.1 := by decide +kernel
theorem tyX0_ok : ∀ k, k < 4 → parseFieldDescriptor (TX0 k).2.2.1 = some (tyX0 k) := by decide +kernel
abbrev cX0_init : ByteArray := prog_2_method_1_code
def yX0_init : MethodName := ⟨RX0, "<init>", "()V"⟩
abbrev cX0_clear : ByteArray := prog_2_method_2_code
def yX0_clear : MethodName := ⟨RX0, "clear", "()V"⟩
abbrev cX0_openLeast : ByteArray := prog_2_method_3_code
def yX0_openLeast : MethodName := ⟨RX0, "openLeast", "()I"⟩
abbrev cX0_isOpen : ByteArray := prog_2_method_4_code
def yX0_isOpen : MethodName := ⟨RX0, "isOpen", "(I)Z"⟩
abbrev cX0_openBits : ByteArray := prog_2_method_5_code
def yX0_openBits : MethodName := ⟨RX0, "openBits", "()I"⟩
abbrev cX0_holderOf : ByteArray := prog_2_method_6_code
def yX0_holderOf : MethodName := ⟨RX0, "holderOf", "(I)I"⟩
abbrev cX0_committedValue : ByteArray := prog_2_method_7_code
def yX0_committedValue : MethodName := ⟨RX0, "committedValue", "(I)I"⟩
abbrev cX0_valueFor : ByteArray := prog_2_method_8_code
def yX0_valueFor : MethodName := ⟨RX0, "valueFor", "(II)I"⟩
abbrev cX0_setCommitted : ByteArray := prog_2_method_9_code
def yX0_setCommitted : MethodName := ⟨RX0, "setCommitted", "(II)V"⟩
abbrev cX0_change : ByteArray := prog_2_method_10_code
def yX0_change : MethodName := ⟨RX0, "change", "(III)V"⟩
abbrev cX0_close : ByteArray := prog_2_method_11_code
def yX0_close : MethodName := ⟨RX0, "close", "(IZ)I"⟩
abbrev cX0_pagesDue : ByteArray := prog_2_method_12_code
def yX0_pagesDue : MethodName := ⟨RX0, "pagesDue", "()I"⟩
abbrev cX0_nextWithValue : ByteArray := prog_2_method_13_code
def yX0_nextWithValue : MethodName := ⟨RX0, "nextWithValue", "(I)I"⟩
def RX1 : String := "StoreLog3$Finder"
def TX1 : u_T := fun k => match k with
  | 0 => ("StoreLog3$Finder", "tells", "[Z", true)
  | 1 => ("StoreLog3$Finder", "firstPage", "I", false)
  | 2 => ("StoreLog3$Finder", "pages", "I", false)
  | _ => ("StoreLog3$Finder", "runEnd", "I", false)
def tyX1 : Nat → FieldType := fun k => match k with
  | 0 => .array .boolean
  | 1 => .int
  | 2 => .int
  | _ => .int
abbrev wsX10 : List Cond := u_ws RX1 TX1 4
theorem nmX1 : ∀ a, a < 4 → ∀ b, b < 4 → a ≠ b → (TX1 a).2.1 ≠ (TX1 b).2.1 := by decide +kernel
theorem tyX1_ok : ∀ k, k < 4 → parseFieldDescriptor (TX1 k).2.2.1 = some (tyX1 k) := by decide +kernel
abbrev cX1_init : ByteArray := prog_3_method_1_code
def yX1_init : MethodName := ⟨RX1, "<init>", "()V"⟩
abbrev cX1_firstPage : ByteArray := prog_3_method_2_code
def yX1_firstPage : MethodName := ⟨RX1, "firstPage", "()I"⟩
abbrev cX1_runEnd : ByteArray := prog_3_method_3_code
def yX1_runEnd : MethodName := ⟨RX1, "runEnd", "()I"⟩
abbrev cX1_findCheckpoint : ByteArray := prog_3_method_4_code
def yX1_findCheckpoint : MethodName := ⟨RX1, "findCheckpoint", "(LStoreLog3$Sectors;)Z"⟩
abbrev cX1_readPages : ByteArray := prog_3_method_5_code
def yX1_readPages : MethodName := ⟨RX1, "readPages", "(LStoreLog3$Sectors;LStoreLog3$Dictionary;)V"⟩
abbrev cX1_goOverRun : ByteArray := prog_3_method_6_code
def yX1_goOverRun : MethodName := ⟨RX1, "goOverRun", "(LStoreLog3$Sectors;LStoreLog3$Dictionary;)V"⟩
abbrev cX1_lookAt : ByteArray := prog_3_method_7_code
def yX1_lookAt : MethodName := ⟨RX1, "lookAt", "(LStoreLog3$Sectors;)V"⟩
abbrev cX1_isTelling : ByteArray := prog_3_method_8_code
def yX1_isTelling : MethodName := ⟨RX1, "isTelling", "(I)Z"⟩
abbrev cX1_pagesFrom : ByteArray := prog_3_method_9_code
def yX1_pagesFrom : MethodName := ⟨RX1, "pagesFrom", "(LStoreLog3$Sectors;I)I"⟩
abbrev cX1_isLater : ByteArray := prog_3_method_10_code
def yX1_isLater : MethodName := ⟨RX1, "isLater", "(II)Z"⟩
abbrev cX1_isLog : ByteArray := prog_3_method_11_code
def yX1_isLog : MethodName := ⟨RX1, "isLog", "(LStoreLog3$Sectors;I)Z"⟩
abbrev cX1_isPage : ByteArray := prog_3_method_12_code
def yX1_isPage : MethodName := ⟨RX1, "isPage", "(LStoreLog3$Sectors;I)Z"⟩
abbrev cX1_readPage : ByteArray := prog_3_method_13_code
def yX1_readPage : MethodName := ⟨RX1, "readPage", "(LStoreLog3$Sectors;ILStoreLog3$Dictionary;)V"⟩
abbrev cX1_goOverLog : ByteArray := prog_3_method_14_code
def yX1_goOverLog : MethodName := ⟨RX1, "goOverLog", "(LStoreLog3$Sectors;ILStoreLog3$Dictionary;)V"⟩
def RX2 : String := "StoreLog3$Journal"
def TX2 : u_T := fun k => match k with
  | 0 => ("StoreLog3$Journal", "disk", "LStoreLog3$Sectors;", true)
  | 1 => ("StoreLog3$Journal", "memory", "LStoreLog3$Sectors;", true)
  | 2 => ("StoreLog3$Journal", "entryHeads", "[I", true)
  | 3 => ("StoreLog3$Journal", "entryKeys", "[I", true)
  | 4 => ("StoreLog3$Journal", "entryValues", "[I", true)
  | 5 => ("StoreLog3$Journal", "entries", "I", false)
  | 6 => ("StoreLog3$Journal", "waiting", "I", false)
  | 7 => ("StoreLog3$Journal", "firstWaiting", "I", false)
  | 8 => ("StoreLog3$Journal", "lastSerial", "I", false)
  | 9 => ("StoreLog3$Journal", "lastSector", "I", false)
  | 10 => ("StoreLog3$Journal", "firstNeeded", "I", false)
  | _ => ("StoreLog3$Journal", "firstPageWaiting", "I", false)
def tyX2 : Nat → FieldType := fun k => match k with
  | 0 => .object "StoreLog3$Sectors"
  | 1 => .object "StoreLog3$Sectors"
  | 2 => .array .int
  | 3 => .array .int
  | 4 => .array .int
  | 5 => .int
  | 6 => .int
  | 7 => .int
  | 8 => .int
  | 9 => .int
  | 10 => .int
  | _ => .int
abbrev wsX20 : List Cond := u_ws RX2 TX2 12
theorem nmX2 : ∀ a, a < 12 → ∀ b, b < 12 → a ≠ b → (TX2 a).2.1 ≠ (TX2 b).2.1 := by decide +kernel
theorem tyX2_ok : ∀ k, k < 12 → parseFieldDescriptor (TX2 k).2.2.1 = some (tyX2 k) := by decide +kernel
abbrev cX2_init : ByteArray := prog_4_method_1_code
def yX2_init : MethodName := ⟨RX2, "<init>", "(I)V"⟩
abbrev cX2_beginAnew : ByteArray := prog_4_method_2_code
def yX2_beginAnew : MethodName := ⟨RX2, "beginAnew", "()V"⟩
abbrev cX2_entries : ByteArray := prog_4_method_3_code
def yX2_entries : MethodName := ⟨RX2, "entries", "()I"⟩
abbrev cX2_waiting : ByteArray := prog_4_method_4_code
def yX2_waiting : MethodName := ⟨RX2, "waiting", "()I"⟩
abbrev cX2_lastSerial : ByteArray := prog_4_method_5_code
def yX2_lastSerial : MethodName := ⟨RX2, "lastSerial", "()I"⟩
abbrev cX2_lastSector : ByteArray := prog_4_method_6_code
def yX2_lastSector : MethodName := ⟨RX2, "lastSector", "()I"⟩
abbrev cX2_needed : ByteArray := prog_4_method_7_code
def yX2_needed : MethodName := ⟨RX2, "needed", "()I"⟩
abbrev cX2_hasRoom : ByteArray := prog_4_method_8_code
def yX2_hasRoom : MethodName := ⟨RX2, "hasRoom", "(I)Z"⟩
abbrev cX2_logsDue : ByteArray := prog_4_method_9_code
def yX2_logsDue : MethodName := ⟨RX2, "logsDue", "()I"⟩
abbrev cX2_canTakeEntry : ByteArray := prog_4_method_10_code
def yX2_canTakeEntry : MethodName := ⟨RX2, "canTakeEntry", "()Z"⟩
abbrev cX2_takeEntry : ByteArray := prog_4_method_11_code
def yX2_takeEntry : MethodName := ⟨RX2, "takeEntry", "(IIII)V"⟩
abbrev cX2_writeLog : ByteArray := prog_4_method_12_code
def yX2_writeLog : MethodName := ⟨RX2, "writeLog", "()V"⟩
abbrev cX2_writePages : ByteArray := prog_4_method_13_code
def yX2_writePages : MethodName := ⟨RX2, "writePages", "(LStoreLog3$Dictionary;I)V"⟩
abbrev cX2_putAllOnDisk : ByteArray := prog_4_method_14_code
def yX2_putAllOnDisk : MethodName := ⟨RX2, "putAllOnDisk", "()I"⟩
abbrev cX2_loseMemory : ByteArray := prog_4_method_15_code
def yX2_loseMemory : MethodName := ⟨RX2, "loseMemory", "(II)V"⟩
abbrev cX2_goOn : ByteArray := prog_4_method_16_code
def yX2_goOn : MethodName := ⟨RX2, "goOn", "(II)V"⟩
abbrev cX2_writePairs : ByteArray := prog_4_method_17_code
def yX2_writePairs : MethodName := ⟨RX2, "writePairs", "(LStoreLog3$Dictionary;I)I"⟩
abbrev cX2_goToNext : ByteArray := prog_4_method_18_code
def yX2_goToNext : MethodName := ⟨RX2, "goToNext", "()V"⟩
abbrev cX2_putOnDisk : ByteArray := prog_4_method_19_code
def yX2_putOnDisk : MethodName := ⟨RX2, "putOnDisk", "(I)I"⟩
abbrev cX2_forgetMemory : ByteArray := prog_4_method_20_code
def yX2_forgetMemory : MethodName := ⟨RX2, "forgetMemory", "()V"⟩
def RX3 : String := "StoreLog3$Sectors"
def TX3 : u_T := fun k => match k with
  | 0 => ("StoreLog3$Sectors", "size", "I", true)
  | _ => ("StoreLog3$Sectors", "bytes", "[B", true)
def tyX3 : Nat → FieldType := fun k => match k with
  | 0 => .int
  | _ => .array .byte
abbrev wsX30 : List Cond := u_ws RX3 TX3 2
theorem nmX3 : ∀ a, a < 2 → ∀ b, b < 2 → a ≠ b → (TX3 a).2.1 ≠ (TX3 b).2.1 := by decide +kernel
theorem tyX3_ok : ∀ k, k < 2 → parseFieldDescriptor (TX3 k).2.2.1 = some (tyX3 k) := by decide +kernel
abbrev cX3_init : ByteArray := prog_5_method_1_code
def yX3_init : MethodName := ⟨RX3, "<init>", "(I)V"⟩
abbrev cX3_size : ByteArray := prog_5_method_2_code
def yX3_size : MethodName := ⟨RX3, "size", "()I"⟩
abbrev cX3_behind : ByteArray := prog_5_method_3_code
def yX3_behind : MethodName := ⟨RX3, "behind", "(I)I"⟩
abbrev cX3_stepsBetween : ByteArray := prog_5_method_4_code
def yX3_stepsBetween : MethodName := ⟨RX3, "stepsBetween", "(II)I"⟩
abbrev cX3_byteOf : ByteArray := prog_5_method_5_code
def yX3_byteOf : MethodName := ⟨RX3, "byteOf", "(II)I"⟩
abbrev cX3_setByte : ByteArray := prog_5_method_6_code
def yX3_setByte : MethodName := ⟨RX3, "setByte", "(III)V"⟩
abbrev cX3_numberOf : ByteArray := prog_5_method_7_code
def yX3_numberOf : MethodName := ⟨RX3, "numberOf", "(III)I"⟩
abbrev cX3_setNumber : ByteArray := prog_5_method_8_code
def yX3_setNumber : MethodName := ⟨RX3, "setNumber", "(IIII)V"⟩
abbrev cX3_serialOf : ByteArray := prog_5_method_9_code
def yX3_serialOf : MethodName := ⟨RX3, "serialOf", "(I)I"⟩
abbrev cX3_isSound : ByteArray := prog_5_method_10_code
def yX3_isSound : MethodName := ⟨RX3, "isSound", "(I)Z"⟩
abbrev cX3_prepare : ByteArray := prog_5_method_11_code
def yX3_prepare : MethodName := ⟨RX3, "prepare", "(IIII)V"⟩
abbrev cX3_seal : ByteArray := prog_5_method_12_code
def yX3_seal : MethodName := ⟨RX3, "seal", "(I)V"⟩
abbrev cX3_copyStart : ByteArray := prog_5_method_13_code
def yX3_copyStart : MethodName := ⟨RX3, "copyStart", "(LStoreLog3$Sectors;II)V"⟩
abbrev cX3_clear : ByteArray := prog_5_method_14_code
def yX3_clear : MethodName := ⟨RX3, "clear", "()V"⟩
abbrev cX3_sumOf : ByteArray := prog_5_method_15_code
def yX3_sumOf : MethodName := ⟨RX3, "sumOf", "(I)I"⟩
def RX4 : String := "StoreLog3"
def TX4 : u_T := fun k => match k with
  | 0 => ("StoreLog3", "journal", "LStoreLog3$Journal;", true)
  | 1 => ("StoreLog3", "dictionary", "LStoreLog3$Dictionary;", true)
  | 2 => ("StoreLog3", "finder", "LStoreLog3$Finder;", true)
  | 3 => ("StoreLog3", "down", "Z", false)
  | _ => ("StoreLog3", "commits", "I", false)
def tyX4 : Nat → FieldType := fun k => match k with
  | 0 => .object "StoreLog3$Journal"
  | 1 => .object "StoreLog3$Dictionary"
  | 2 => .object "StoreLog3$Finder"
  | 3 => .boolean
  | _ => .int
abbrev wsX40 : List Cond := u_ws RX4 TX4 5
theorem nmX4 : ∀ a, a < 5 → ∀ b, b < 5 → a ≠ b → (TX4 a).2.1 ≠ (TX4 b).2.1 := by decide +kernel
theorem tyX4_ok : ∀ k, k < 5 → parseFieldDescriptor (TX4 k).2.2.1 = some (tyX4 k) := by decide +kernel
abbrev cX4_init : ByteArray := prog_1_method_1_code
def yX4_init : MethodName := ⟨RX4, "<init>", "(I)V"⟩
abbrev cX4_begin : ByteArray := prog_1_method_2_code
def yX4_begin : MethodName := ⟨RX4, "begin", "()I"⟩
abbrev cX4_put : ByteArray := prog_1_method_3_code
def yX4_put : MethodName := ⟨RX4, "put", "(III)I"⟩
abbrev cX4_commit : ByteArray := prog_1_method_4_code
def yX4_commit : MethodName := ⟨RX4, "commit", "(I)I"⟩
abbrev cX4_undo : ByteArray := prog_1_method_5_code
def yX4_undo : MethodName := ⟨RX4, "undo", "(I)I"⟩
abbrev cX4_get : ByteArray := prog_1_method_6_code
def yX4_get : MethodName := ⟨RX4, "get", "(I)I"⟩
abbrev cX4_seen : ByteArray := prog_1_method_7_code
def yX4_seen : MethodName := ⟨RX4, "seen", "(II)I"⟩
abbrev cX4_sync : ByteArray := prog_1_method_8_code
def yX4_sync : MethodName := ⟨RX4, "sync", "()I"⟩
abbrev cX4_checkpoint : ByteArray := prog_1_method_9_code
def yX4_checkpoint : MethodName := ⟨RX4, "checkpoint", "()I"⟩
abbrev cX4_cut : ByteArray := prog_1_method_10_code
def yX4_cut : MethodName := ⟨RX4, "cut", "(II)I"⟩
abbrev cX4_start : ByteArray := prog_1_method_11_code
def yX4_start : MethodName := ⟨RX4, "start", "()I"⟩
abbrev cX4_at : ByteArray := prog_1_method_12_code
def yX4_at : MethodName := ⟨RX4, "at", "(II)I"⟩
abbrev cX4_sound : ByteArray := prog_1_method_13_code
def yX4_sound : MethodName := ⟨RX4, "sound", "(I)Z"⟩
abbrev cX4_poke : ByteArray := prog_1_method_14_code
def yX4_poke : MethodName := ⟨RX4, "poke", "(III)Z"⟩
abbrev cX4_count : ByteArray := prog_1_method_15_code
def yX4_count : MethodName := ⟨RX4, "count", "(I)I"⟩
abbrev cX4_holder : ByteArray := prog_1_method_16_code
def yX4_holder : MethodName := ⟨RX4, "holder", "(I)I"⟩
abbrev cX4_format : ByteArray := prog_1_method_17_code
def yX4_format : MethodName := ⟨RX4, "format", "()I"⟩
abbrev cX4_endTransaction : ByteArray := prog_1_method_18_code
def yX4_endTransaction : MethodName := ⟨RX4, "endTransaction", "(II)I"⟩
abbrev cX4_undoAllOpen : ByteArray := prog_1_method_19_code
def yX4_undoAllOpen : MethodName := ⟨RX4, "undoAllOpen", "()I"⟩
abbrev cX4_isTransaction : ByteArray := prog_1_method_20_code
def yX4_isTransaction : MethodName := ⟨RX4, "isTransaction", "(I)Z"⟩
abbrev cX4_isKey : ByteArray := prog_1_method_21_code
def yX4_isKey : MethodName := ⟨RX4, "isKey", "(I)Z"⟩
abbrev cX4_isValue : ByteArray := prog_1_method_22_code
def yX4_isValue : MethodName := ⟨RX4, "isValue", "(I)Z"⟩
def RX5 : String := "StoreLog3Model"
def TX5 : u_T := fun k => match k with
  | 0 => ("StoreLog3Model", "sectors", "I", true)
  | 1 => ("StoreLog3Model", "disk", "[B", true)
  | 2 => ("StoreLog3Model", "isDown", "Z", false)
  | 3 => ("StoreLog3Model", "waiting", "I", false)
  | 4 => ("StoreLog3Model", "whereTo", "[I", true)
  | 5 => ("StoreLog3Model", "waits", "[B", true)
  | 6 => ("StoreLog3Model", "lastSector", "I", false)
  | 7 => ("StoreLog3Model", "lastSerial", "I", false)
  | 8 => ("StoreLog3Model", "newFirst", "I", false)
  | 9 => ("StoreLog3Model", "wholeFirst", "I", false)
  | 10 => ("StoreLog3Model", "entries", "I", false)
  | 11 => ("StoreLog3Model", "entryHeads", "[I", true)
  | 12 => ("StoreLog3Model", "entryKeys", "[I", true)
  | 13 => ("StoreLog3Model", "entryValues", "[I", true)
  | 14 => ("StoreLog3Model", "values", "[I", true)
  | 15 => ("StoreLog3Model", "isOpen", "[Z", true)
  | 16 => ("StoreLog3Model", "holders", "[I", true)
  | 17 => ("StoreLog3Model", "held", "[I", true)
  | 18 => ("StoreLog3Model", "commits", "I", false)
  | _ => ("StoreLog3Model", "row", "[B", true)
def tyX5 : Nat → FieldType := fun k => match k with
  | 0 => .int
  | 1 => .array .byte
  | 2 => .boolean
  | 3 => .int
  | 4 => .array .int
  | 5 => .array .byte
  | 6 => .int
  | 7 => .int
  | 8 => .int
  | 9 => .int
  | 10 => .int
  | 11 => .array .int
  | 12 => .array .int
  | 13 => .array .int
  | 14 => .array .int
  | 15 => .array .boolean
  | 16 => .array .int
  | 17 => .array .int
  | 18 => .int
  | _ => .array .byte
abbrev wsX50 : List Cond := u_ws RX5 TX5 20
theorem nmX5 : ∀ a, a < 20 → ∀ b, b < 20 → a ≠ b → (TX5 a).2.1 ≠ (TX5 b).2.1 := by decide +kernel
theorem tyX5_ok : ∀ k, k < 20 → parseFieldDescriptor (TX5 k).2.2.1 = some (tyX5 k) := by decide +kernel
abbrev cX5_init : ByteArray := prog_7_method_1_code
def yX5_init : MethodName := ⟨RX5, "<init>", "(I)V"⟩
abbrev cX5_forget : ByteArray := prog_7_method_3_code
def yX5_forget : MethodName := ⟨RX5, "forget", "()V"⟩
abbrev cX5_begin0 : ByteArray := prog_7_method_4_code
def yX5_begin0 : MethodName := ⟨RX5, "begin0", "()V"⟩
abbrev cX5_isIn : ByteArray := prog_7_method_5_code
def yX5_isIn : MethodName := ⟨RX5, "isIn", "(III)Z"⟩
abbrev cX5_clearRow : ByteArray := prog_7_method_6_code
def yX5_clearRow : MethodName := ⟨RX5, "clearRow", "(II)V"⟩
abbrev cX5_number : ByteArray := prog_7_method_7_code
def yX5_number : MethodName := ⟨RX5, "number", "(III)V"⟩
abbrev cX5_step : ByteArray := prog_7_method_8_code
def yX5_step : MethodName := ⟨RX5, "step", "(II)I"⟩
abbrev cX5_seal : ByteArray := prog_7_method_9_code
def yX5_seal : MethodName := ⟨RX5, "seal", "(I)V"⟩
abbrev cX5_needed : ByteArray := prog_7_method_10_code
def yX5_needed : MethodName := ⟨RX5, "needed", "()I"⟩
abbrev cX5_mayWrite : ByteArray := prog_7_method_11_code
def yX5_mayWrite : MethodName := ⟨RX5, "mayWrite", "(I)Z"⟩
abbrev cX5_write : ByteArray := prog_7_method_12_code
def yX5_write : MethodName := ⟨RX5, "write", "()V"⟩
abbrev cX5_writeEntries : ByteArray := prog_7_method_13_code
def yX5_writeEntries : MethodName := ⟨RX5, "writeEntries", "()V"⟩
abbrev cX5_add : ByteArray := prog_7_method_14_code
def yX5_add : MethodName := ⟨RX5, "add", "(III)V"⟩
abbrev cX5_mayAdd : ByteArray := prog_7_method_15_code
def yX5_mayAdd : MethodName := ⟨RX5, "mayAdd", "()Z"⟩
abbrev cX5_isOpenOne : ByteArray := prog_7_method_16_code
def yX5_isOpenOne : MethodName := ⟨RX5, "isOpenOne", "(I)Z"⟩
abbrev cX5_isKey : ByteArray := prog_7_method_17_code
def yX5_isKey : MethodName := ⟨RX5, "isKey", "(I)Z"⟩
abbrev cX5_begin : ByteArray := prog_7_method_18_code
def yX5_begin : MethodName := ⟨RX5, "begin", "()I"⟩
abbrev cX5_put : ByteArray := prog_7_method_19_code
def yX5_put : MethodName := ⟨RX5, "put", "(III)I"⟩
abbrev cX5_release : ByteArray := prog_7_method_20_code
def yX5_release : MethodName := ⟨RX5, "release", "(IZ)I"⟩
abbrev cX5_finish : ByteArray := prog_7_method_21_code
def yX5_finish : MethodName := ⟨RX5, "finish", "(IZ)I"⟩
abbrev cX5_commit : ByteArray := prog_7_method_22_code
def yX5_commit : MethodName := ⟨RX5, "commit", "(I)I"⟩
abbrev cX5_undo : ByteArray := prog_7_method_23_code
def yX5_undo : MethodName := ⟨RX5, "undo", "(I)I"⟩
abbrev cX5_get : ByteArray := prog_7_method_24_code
def yX5_get : MethodName := ⟨RX5, "get", "(I)I"⟩
abbrev cX5_seen : ByteArray := prog_7_method_25_code
def yX5_seen : MethodName := ⟨RX5, "seen", "(II)I"⟩
abbrev cX5_lay : ByteArray := prog_7_method_26_code
def yX5_lay : MethodName := ⟨RX5, "lay", "(II)V"⟩
abbrev cX5_sync : ByteArray := prog_7_method_27_code
def yX5_sync : MethodName := ⟨RX5, "sync", "()I"⟩
abbrev cX5_checkpoint : ByteArray := prog_7_method_28_code
def yX5_checkpoint : MethodName := ⟨RX5, "checkpoint", "()I"⟩
abbrev cX5_cut : ByteArray := prog_7_method_29_code
def yX5_cut : MethodName := ⟨RX5, "cut", "(II)I"⟩
abbrev cX5_byteAt : ByteArray := prog_7_method_30_code
def yX5_byteAt : MethodName := ⟨RX5, "byteAt", "(II)I"⟩
abbrev cX5_numberAt : ByteArray := prog_7_method_31_code
def yX5_numberAt : MethodName := ⟨RX5, "numberAt", "(III)I"⟩
abbrev cX5_isSound : ByteArray := prog_7_method_32_code
def yX5_isSound : MethodName := ⟨RX5, "isSound", "(I)Z"⟩
abbrev cX5_tells : ByteArray := prog_7_method_33_code
def yX5_tells : MethodName := ⟨RX5, "tells", "(I)Z"⟩
abbrev cX5_serialAt : ByteArray := prog_7_method_34_code
def yX5_serialAt : MethodName := ⟨RX5, "serialAt", "(I)I"⟩
abbrev cX5_pagesFrom : ByteArray := prog_7_method_35_code
def yX5_pagesFrom : MethodName := ⟨RX5, "pagesFrom", "(I)I"⟩
abbrev cX5_redo : ByteArray := prog_7_method_36_code
def yX5_redo : MethodName := ⟨RX5, "redo", "(I)V"⟩
abbrev cX5_start : ByteArray := prog_7_method_37_code
def yX5_start : MethodName := ⟨RX5, "start", "()I"⟩
abbrev cX5_at : ByteArray := prog_7_method_38_code
def yX5_at : MethodName := ⟨RX5, "at", "(II)I"⟩
abbrev cX5_sound : ByteArray := prog_7_method_39_code
def yX5_sound : MethodName := ⟨RX5, "sound", "(I)Z"⟩
abbrev cX5_poke : ByteArray := prog_7_method_40_code
def yX5_poke : MethodName := ⟨RX5, "poke", "(III)Z"⟩
abbrev cX5_count : ByteArray := prog_7_method_41_code
def yX5_count : MethodName := ⟨RX5, "count", "(I)I"⟩
abbrev cX5_holder : ByteArray := prog_7_method_42_code
def yX5_holder : MethodName := ⟨RX5, "holder", "(I)I"⟩
abbrev cX5_format : ByteArray := prog_7_method_43_code
def yX5_format : MethodName := ⟨RX5, "format", "()I"⟩
def RJ9 : String := "java/lang/Math"
def TJ9 : u_T := fun k => match k with
  | _ => ("", "", "", false)
def tyJ9 : Nat → FieldType := fun k => match k with
  | _ => .int
abbrev wsJ90 : List Cond := u_ws RJ9 TJ9 0
theorem nmJ9 : ∀ a, a < 0 → ∀ b, b < 0 → a ≠ b → (TJ9 a).2.1 ≠ (TJ9 b).2.1 := by decide +kernel
theorem tyJ9_ok : ∀ k, k < 0 → parseFieldDescriptor (TJ9 k).2.2.1 = some (tyJ9 k) := by decide +kernel
abbrev cJ9_max_7cf53 : ByteArray := prog_8_method_65_code
def yJ9_max_7cf53 : MethodName := ⟨RJ9, "max", "(II)I"⟩
abbrev cJ9_min_7cf53 : ByteArray := prog_8_method_69_code
def yJ9_min_7cf53 : MethodName := ⟨RJ9, "min", "(II)I"⟩
def RL : String := "StoreLog3Law"
abbrev cL_cell : ByteArray := method_2_code
def yL_cell : MethodName := ⟨RL, "cell", "([II)I"⟩
abbrev cL_law : ByteArray := code
def yL_law : MethodName := ⟨RL, "law", "([I)Z"⟩
def wsX0_clear : List Cond := .code yX0_clear cX0_clear 2 none :: ([.fieldLink RX0 9 "StoreLog3$Dictionary" "committed" "[I", .fieldLink RX0 15 "StoreLog3$Dictionary" "changed" "[I", .fieldLink RX0 18 "StoreLog3$Dictionary" "holders" "[I", .fieldLink RX0 24 "StoreLog3$Dictionary" "open" "I"] ++ wsX00)
def wsX0_init : List Cond := .code yX0_init cX0_init 1 none :: ([.methodLink RX0 3 objectInit, .instanceMethod objectInit, .code objectInit ⟨#[0xb1]⟩ 1 none, .arrayClass .int, .fieldLink RX0 9 "StoreLog3$Dictionary" "committed" "[I", .fieldLink RX0 15 "StoreLog3$Dictionary" "changed" "[I", .fieldLink RX0 18 "StoreLog3$Dictionary" "holders" "[I", .methodLink RX0 21 yX0_clear, .instanceMethod yX0_clear, .selects RX0 yX0_clear yX0_clear, .initialized RX0, .code yX0_clear cX0_clear 2 none, .fieldLink RX0 24 "StoreLog3$Dictionary" "open" "I"] ++ wsX00)
def wsX4_isTransaction : List Cond := .code yX4_isTransaction cX4_isTransaction 1 (some .boolean) :: ([])
def wsX0_isOpen : List Cond := .code yX0_isOpen cX0_isOpen 2 (some .boolean) :: ([.fieldLink RX0 24 "StoreLog3$Dictionary" "open" "I", .static yX4_isTransaction, .initialized RX4, .code yX4_isTransaction cX4_isTransaction 1 (some .boolean)] ++ wsX00)
def wsX0_openLeast : List Cond := .code yX0_openLeast cX0_openLeast 2 (some .int) :: ([.fieldLink RX0 24 "StoreLog3$Dictionary" "open" "I", .methodLink RX0 28 yX0_isOpen, .instanceMethod yX0_isOpen, .selects RX0 yX0_isOpen yX0_isOpen, .initialized RX0, .code yX0_isOpen cX0_isOpen 2 (some .boolean), .static yX4_isTransaction, .initialized RX4, .code yX4_isTransaction cX4_isTransaction 1 (some .boolean)] ++ wsX00)
def wsX0_openBits : List Cond := .code yX0_openBits cX0_openBits 1 (some .int) :: ([.fieldLink RX0 24 "StoreLog3$Dictionary" "open" "I"] ++ wsX00)
def wsX4_isKey : List Cond := .code yX4_isKey cX4_isKey 1 (some .boolean) :: ([])
def wsX0_holderOf : List Cond := .code yX0_holderOf cX0_holderOf 2 (some .int) :: ([.fieldLink RX0 18 "StoreLog3$Dictionary" "holders" "[I", .static yX4_isKey, .initialized RX4, .code yX4_isKey cX4_isKey 1 (some .boolean)] ++ wsX00)
def wsX0_committedValue : List Cond := .code yX0_committedValue cX0_committedValue 2 (some .int) :: ([.fieldLink RX0 9 "StoreLog3$Dictionary" "committed" "[I", .static yX4_isKey, .initialized RX4, .code yX4_isKey cX4_isKey 1 (some .boolean)] ++ wsX00)
def wsX0_valueFor : List Cond := .code yX0_valueFor cX0_valueFor 3 (some .int) :: ([.fieldLink RX0 18 "StoreLog3$Dictionary" "holders" "[I", .fieldLink RX0 15 "StoreLog3$Dictionary" "changed" "[I", .fieldLink RX0 9 "StoreLog3$Dictionary" "committed" "[I", .static yX4_isKey, .initialized RX4, .code yX4_isKey cX4_isKey 1 (some .boolean)] ++ wsX00)
def wsX0_setCommitted : List Cond := .code yX0_setCommitted cX0_setCommitted 3 none :: ([.fieldLink RX0 9 "StoreLog3$Dictionary" "committed" "[I", .static yX4_isKey, .initialized RX4, .code yX4_isKey cX4_isKey 1 (some .boolean)] ++ wsX00)
def wsX0_change : List Cond := .code yX0_change cX0_change 4 none :: ([.fieldLink RX0 24 "StoreLog3$Dictionary" "open" "I", .fieldLink RX0 18 "StoreLog3$Dictionary" "holders" "[I", .fieldLink RX0 15 "StoreLog3$Dictionary" "changed" "[I", .static yX4_isTransaction, .initialized RX4, .code yX4_isTransaction cX4_isTransaction 1 (some .boolean), .static yX4_isKey, .code yX4_isKey cX4_isKey 1 (some .boolean)] ++ wsX00)
def wsX0_close : List Cond := .code yX0_close cX0_close 5 (some .int) :: ([.fieldLink RX0 18 "StoreLog3$Dictionary" "holders" "[I", .fieldLink RX0 9 "StoreLog3$Dictionary" "committed" "[I", .fieldLink RX0 15 "StoreLog3$Dictionary" "changed" "[I", .fieldLink RX0 24 "StoreLog3$Dictionary" "open" "I", .methodLink RX0 28 yX0_isOpen, .instanceMethod yX0_isOpen, .selects RX0 yX0_isOpen yX0_isOpen, .initialized RX0, .code yX0_isOpen cX0_isOpen 2 (some .boolean), .static yX4_isTransaction, .initialized RX4, .code yX4_isTransaction cX4_isTransaction 1 (some .boolean)] ++ wsX00)
def wsX0_pagesDue : List Cond := .code yX0_pagesDue cX0_pagesDue 4 (some .int) :: ([.fieldLink RX0 9 "StoreLog3$Dictionary" "committed" "[I"] ++ wsX00)
def wsX0_nextWithValue : List Cond := .code yX0_nextWithValue cX0_nextWithValue 3 (some .int) :: ([.methodLink RX0 38 Lib.Math.max.name, .static Lib.Math.max.name, .initialized "java/lang/Math", .code Lib.Math.max.name Lib.Math.max.code 2 (some .int), .fieldLink RX0 9 "StoreLog3$Dictionary" "committed" "[I"] ++ wsX00)
def wsX1_init : List Cond := .code yX1_init cX1_init 1 none :: ([.methodLink RX1 3 objectInit, .instanceMethod objectInit, .code objectInit ⟨#[0xb1]⟩ 1 none, .arrayClass .boolean, .fieldLink RX1 9 "StoreLog3$Finder" "tells" "[Z"] ++ wsX10)
def wsX1_firstPage : List Cond := .code yX1_firstPage cX1_firstPage 1 (some .int) :: ([.fieldLink RX1 15 "StoreLog3$Finder" "firstPage" "I"] ++ wsX10)
def wsX1_runEnd : List Cond := .code yX1_runEnd cX1_runEnd 1 (some .int) :: ([.fieldLink RX1 19 "StoreLog3$Finder" "runEnd" "I"] ++ wsX10)
def wsX3_byteOf : List Cond := .code yX3_byteOf cX3_byteOf 3 (some .int) :: ([.fieldLink RX3 18 "StoreLog3$Sectors" "size" "I", .fieldLink RX3 24 "StoreLog3$Sectors" "bytes" "[B"] ++ wsX30)
def wsX1_isLog : List Cond := .code yX1_isLog cX1_isLog 5 (some .boolean) :: ([.methodLink RX1 58 yX3_byteOf, .instanceMethod yX3_byteOf, .selects RX3 yX3_byteOf yX3_byteOf, .initialized RX3, .code yX3_byteOf cX3_byteOf 3 (some .int), .fieldLink RX3 18 "StoreLog3$Sectors" "size" "I", .fieldLink RX3 24 "StoreLog3$Sectors" "bytes" "[B", .static yX4_isTransaction, .initialized RX4, .code yX4_isTransaction cX4_isTransaction 1 (some .boolean), .static yX4_isKey, .code yX4_isKey cX4_isKey 1 (some .boolean)] ++ wsX30)
def wsX1_isPage : List Cond := .code yX1_isPage cX1_isPage 4 (some .boolean) :: ([.methodLink RX1 58 yX3_byteOf, .instanceMethod yX3_byteOf, .selects RX3 yX3_byteOf yX3_byteOf, .initialized RX3, .code yX3_byteOf cX3_byteOf 3 (some .int), .fieldLink RX3 18 "StoreLog3$Sectors" "size" "I", .fieldLink RX3 24 "StoreLog3$Sectors" "bytes" "[B", .static yX4_isKey, .initialized RX4, .code yX4_isKey cX4_isKey 1 (some .boolean)] ++ wsX30)
def wsX3_numberOf : List Cond := .code yX3_numberOf cX3_numberOf 6 (some .int) :: ([.methodLink RX3 28 yX3_byteOf, .instanceMethod yX3_byteOf, .selects RX3 yX3_byteOf yX3_byteOf, .initialized RX3, .code yX3_byteOf cX3_byteOf 3 (some .int), .fieldLink RX3 18 "StoreLog3$Sectors" "size" "I", .fieldLink RX3 24 "StoreLog3$Sectors" "bytes" "[B"] ++ wsX30)
def wsX3_sumOf : List Cond := .code yX3_sumOf cX3_sumOf 6 (some .int) :: ([.fieldLink RX3 18 "StoreLog3$Sectors" "size" "I", .fieldLink RX3 24 "StoreLog3$Sectors" "bytes" "[B", .constant RX3 47 (-2048144777)] ++ wsX30)
def wsX3_isSound : List Cond := .code yX3_isSound cX3_isSound 2 (some .boolean) :: ([.methodLink RX3 28 yX3_byteOf, .instanceMethod yX3_byteOf, .selects RX3 yX3_byteOf yX3_byteOf, .initialized RX3, .code yX3_byteOf cX3_byteOf 3 (some .int), .fieldLink RX3 18 "StoreLog3$Sectors" "size" "I", .fieldLink RX3 24 "StoreLog3$Sectors" "bytes" "[B", .methodLink RX3 35 yX3_numberOf, .instanceMethod yX3_numberOf, .selects RX3 yX3_numberOf yX3_numberOf, .code yX3_numberOf cX3_numberOf 6 (some .int), .methodLink RX3 39 yX3_sumOf, .instanceMethod yX3_sumOf, .selects RX3 yX3_sumOf yX3_sumOf, .code yX3_sumOf cX3_sumOf 6 (some .int), .constant RX3 47 (-2048144777)] ++ wsX30)
def wsX1_lookAt_r1 : List Cond := [Cond.fieldLink RX1 9 "StoreLog3$Finder" "tells" "[Z", Cond.methodLink RX1 65 yX1_isLog, Cond.static yX1_isLog, Cond.initialized RX1, Cond.code yX1_isLog cX1_isLog 5 (some .boolean), Cond.methodLink RX1 58 yX3_byteOf, Cond.instanceMethod yX3_byteOf, Cond.selects RX3 yX3_byteOf yX3_byteOf, Cond.initialized RX3, Cond.code yX3_byteOf cX3_byteOf 3 (some .int), Cond.fieldLink RX3 18 "StoreLog3$Sectors" "size" "I", Cond.fieldLink RX3 24 "StoreLog3$Sectors" "bytes" "[B", Cond.static yX4_isTransaction, Cond.initialized RX4, Cond.code yX4_isTransaction cX4_isTransaction 1 (some .boolean), Cond.static yX4_isKey, Cond.code yX4_isKey cX4_isKey 1 (some .boolean), Cond.methodLink RX1 69 yX1_isPage, Cond.static yX1_isPage, Cond.code yX1_isPage cX1_isPage 4 (some .boolean), Cond.methodLink RX1 72 yX3_isSound, Cond.instanceMethod yX3_isSound, Cond.selects RX3 yX3_isSound yX3_isSound, Cond.code yX3_isSound cX3_isSound 2 (some .boolean)]
def wsX1_lookAt_r2 : List Cond := [Cond.methodLink RX3 28 yX3_byteOf, Cond.methodLink RX3 35 yX3_numberOf, Cond.instanceMethod yX3_numberOf, Cond.selects RX3 yX3_numberOf yX3_numberOf, Cond.code yX3_numberOf cX3_numberOf 6 (some .int), Cond.methodLink RX3 39 yX3_sumOf, Cond.instanceMethod yX3_sumOf, Cond.selects RX3 yX3_sumOf yX3_sumOf, Cond.code yX3_sumOf cX3_sumOf 6 (some .int), Cond.constant RX3 47 (-2048144777)]
def wsX1_lookAt : List Cond := .code yX1_lookAt cX1_lookAt 3 none :: ((wsX1_lookAt_r1 ++ wsX1_lookAt_r2) ++ wsX10 ++ wsX30)
def wsX3_size : List Cond := .code yX3_size cX3_size 1 (some .int) :: ([.fieldLink RX3 18 "StoreLog3$Sectors" "size" "I"] ++ wsX30)
def wsX1_isTelling : List Cond := .code yX1_isTelling cX1_isTelling 2 (some .boolean) :: ([.fieldLink RX1 9 "StoreLog3$Finder" "tells" "[Z"] ++ wsX10)
def wsX3_serialOf : List Cond := .code yX3_serialOf cX3_serialOf 2 (some .int) :: ([.methodLink RX3 35 yX3_numberOf, .instanceMethod yX3_numberOf, .selects RX3 yX3_numberOf yX3_numberOf, .initialized RX3, .code yX3_numberOf cX3_numberOf 6 (some .int), .methodLink RX3 28 yX3_byteOf, .instanceMethod yX3_byteOf, .selects RX3 yX3_byteOf yX3_byteOf, .code yX3_byteOf cX3_byteOf 3 (some .int), .fieldLink RX3 18 "StoreLog3$Sectors" "size" "I", .fieldLink RX3 24 "StoreLog3$Sectors" "bytes" "[B"] ++ wsX30)
def wsX3_behind : List Cond := .code yX3_behind cX3_behind 2 (some .int) :: ([.fieldLink RX3 18 "StoreLog3$Sectors" "size" "I"] ++ wsX30)
def wsX1_pagesFrom_r1 : List Cond := [Cond.methodLink RX1 58 yX3_byteOf, Cond.instanceMethod yX3_byteOf, Cond.selects RX3 yX3_byteOf yX3_byteOf, Cond.initialized RX3, Cond.code yX3_byteOf cX3_byteOf 3 (some .int), Cond.fieldLink RX3 18 "StoreLog3$Sectors" "size" "I", Cond.fieldLink RX3 24 "StoreLog3$Sectors" "bytes" "[B", Cond.methodLink RX1 54 yX1_isTelling, Cond.instanceMethod yX1_isTelling, Cond.selects RX1 yX1_isTelling yX1_isTelling, Cond.initialized RX1, Cond.code yX1_isTelling cX1_isTelling 2 (some .boolean), Cond.fieldLink RX1 9 "StoreLog3$Finder" "tells" "[Z", Cond.methodLink RX1 39 yX3_serialOf, Cond.instanceMethod yX3_serialOf, Cond.selects RX3 yX3_serialOf yX3_serialOf, Cond.code yX3_serialOf cX3_serialOf 2 (some .int), Cond.methodLink RX3 35 yX3_numberOf, Cond.instanceMethod yX3_numberOf, Cond.selects RX3 yX3_numberOf yX3_numberOf, Cond.code yX3_numberOf cX3_numberOf 6 (some .int), Cond.methodLink RX3 28 yX3_byteOf, Cond.methodLink RX1 51 yX3_behind, Cond.instanceMethod yX3_behind]
def wsX1_pagesFrom_r2 : List Cond := [Cond.selects RX3 yX3_behind yX3_behind, Cond.code yX3_behind cX3_behind 2 (some .int)]
def wsX1_pagesFrom : List Cond := .code yX1_pagesFrom cX1_pagesFrom 6 (some .int) :: ((wsX1_pagesFrom_r1 ++ wsX1_pagesFrom_r2) ++ wsX30 ++ wsX10)
def wsX1_isLater : List Cond := .code yX1_isLater cX1_isLater 2 (some .boolean) :: ([.constantLong RX1 75 (4294967295)])
def wsX1_findCheckpoint_r1 : List Cond := [Cond.fieldLink RX1 26 "StoreLog3$Finder" "pages" "I", Cond.fieldLink RX1 15 "StoreLog3$Finder" "firstPage" "I", Cond.methodLink RX1 22 yX1_lookAt, Cond.instanceMethod yX1_lookAt, Cond.selects RX1 yX1_lookAt yX1_lookAt, Cond.initialized RX1, Cond.code yX1_lookAt cX1_lookAt 3 none, Cond.fieldLink RX1 9 "StoreLog3$Finder" "tells" "[Z", Cond.methodLink RX1 65 yX1_isLog, Cond.static yX1_isLog, Cond.code yX1_isLog cX1_isLog 5 (some .boolean), Cond.methodLink RX1 58 yX3_byteOf, Cond.instanceMethod yX3_byteOf, Cond.selects RX3 yX3_byteOf yX3_byteOf, Cond.initialized RX3, Cond.code yX3_byteOf cX3_byteOf 3 (some .int), Cond.fieldLink RX3 18 "StoreLog3$Sectors" "size" "I", Cond.fieldLink RX3 24 "StoreLog3$Sectors" "bytes" "[B", Cond.static yX4_isTransaction, Cond.initialized RX4, Cond.code yX4_isTransaction cX4_isTransaction 1 (some .boolean), Cond.static yX4_isKey, Cond.code yX4_isKey cX4_isKey 1 (some .boolean), Cond.methodLink RX1 69 yX1_isPage]
def wsX1_findCheckpoint_r2 : List Cond := [Cond.static yX1_isPage, Cond.code yX1_isPage cX1_isPage 4 (some .boolean), Cond.methodLink RX1 72 yX3_isSound, Cond.instanceMethod yX3_isSound, Cond.selects RX3 yX3_isSound yX3_isSound, Cond.code yX3_isSound cX3_isSound 2 (some .boolean), Cond.methodLink RX3 28 yX3_byteOf, Cond.methodLink RX3 35 yX3_numberOf, Cond.instanceMethod yX3_numberOf, Cond.selects RX3 yX3_numberOf yX3_numberOf, Cond.code yX3_numberOf cX3_numberOf 6 (some .int), Cond.methodLink RX3 39 yX3_sumOf, Cond.instanceMethod yX3_sumOf, Cond.selects RX3 yX3_sumOf yX3_sumOf, Cond.code yX3_sumOf cX3_sumOf 6 (some .int), Cond.constant RX3 47 (-2048144777), Cond.methodLink RX1 29 yX3_size, Cond.instanceMethod yX3_size, Cond.selects RX3 yX3_size yX3_size, Cond.code yX3_size cX3_size 1 (some .int), Cond.methodLink RX1 35 yX1_pagesFrom, Cond.instanceMethod yX1_pagesFrom, Cond.selects RX1 yX1_pagesFrom yX1_pagesFrom, Cond.code yX1_pagesFrom cX1_pagesFrom 6 (some .int)]
def wsX1_findCheckpoint_r3 : List Cond := [Cond.methodLink RX1 54 yX1_isTelling, Cond.instanceMethod yX1_isTelling, Cond.selects RX1 yX1_isTelling yX1_isTelling, Cond.code yX1_isTelling cX1_isTelling 2 (some .boolean), Cond.methodLink RX1 39 yX3_serialOf, Cond.instanceMethod yX3_serialOf, Cond.selects RX3 yX3_serialOf yX3_serialOf, Cond.code yX3_serialOf cX3_serialOf 2 (some .int), Cond.methodLink RX1 51 yX3_behind, Cond.instanceMethod yX3_behind, Cond.selects RX3 yX3_behind yX3_behind, Cond.code yX3_behind cX3_behind 2 (some .int), Cond.methodLink RX1 43 yX1_isLater, Cond.static yX1_isLater, Cond.code yX1_isLater cX1_isLater 2 (some .boolean), Cond.constantLong RX1 75 (4294967295)]
def wsX1_findCheckpoint : List Cond := .code yX1_findCheckpoint cX1_findCheckpoint 4 (some .boolean) :: ((wsX1_findCheckpoint_r1 ++ (wsX1_findCheckpoint_r2 ++ wsX1_findCheckpoint_r3)) ++ wsX10 ++ wsX30)
def wsX1_readPage : List Cond := .code yX1_readPage cX1_readPage 6 none :: ([.methodLink RX1 58 yX3_byteOf, .instanceMethod yX3_byteOf, .selects RX3 yX3_byteOf yX3_byteOf, .initialized RX3, .code yX3_byteOf cX3_byteOf 3 (some .int), .fieldLink RX3 18 "StoreLog3$Sectors" "size" "I", .fieldLink RX3 24 "StoreLog3$Sectors" "bytes" "[B", .methodLink RX1 83 yX3_numberOf, .instanceMethod yX3_numberOf, .selects RX3 yX3_numberOf yX3_numberOf, .code yX3_numberOf cX3_numberOf 6 (some .int), .methodLink RX3 28 yX3_byteOf, .methodLink RX1 87 yX0_setCommitted, .instanceMethod yX0_setCommitted, .selects RX0 yX0_setCommitted yX0_setCommitted, .initialized RX0, .code yX0_setCommitted cX0_setCommitted 3 none, .fieldLink RX0 9 "StoreLog3$Dictionary" "committed" "[I", .static yX4_isKey, .initialized RX4, .code yX4_isKey cX4_isKey 1 (some .boolean)] ++ wsX30 ++ wsX00)
def wsX1_readPages_r1 : List Cond := [Cond.fieldLink RX1 15 "StoreLog3$Finder" "firstPage" "I", Cond.fieldLink RX1 26 "StoreLog3$Finder" "pages" "I", Cond.fieldLink RX1 19 "StoreLog3$Finder" "runEnd" "I", Cond.methodLink RX1 47 yX1_readPage, Cond.static yX1_readPage, Cond.initialized RX1, Cond.code yX1_readPage cX1_readPage 6 none, Cond.methodLink RX1 58 yX3_byteOf, Cond.instanceMethod yX3_byteOf, Cond.selects RX3 yX3_byteOf yX3_byteOf, Cond.initialized RX3, Cond.code yX3_byteOf cX3_byteOf 3 (some .int), Cond.fieldLink RX3 18 "StoreLog3$Sectors" "size" "I", Cond.fieldLink RX3 24 "StoreLog3$Sectors" "bytes" "[B", Cond.methodLink RX1 83 yX3_numberOf, Cond.instanceMethod yX3_numberOf, Cond.selects RX3 yX3_numberOf yX3_numberOf, Cond.code yX3_numberOf cX3_numberOf 6 (some .int), Cond.methodLink RX3 28 yX3_byteOf, Cond.methodLink RX1 87 yX0_setCommitted, Cond.instanceMethod yX0_setCommitted, Cond.selects RX0 yX0_setCommitted yX0_setCommitted, Cond.initialized RX0, Cond.code yX0_setCommitted cX0_setCommitted 3 none]
def wsX1_readPages_r2 : List Cond := [Cond.fieldLink RX0 9 "StoreLog3$Dictionary" "committed" "[I", Cond.static yX4_isKey, Cond.initialized RX4, Cond.code yX4_isKey cX4_isKey 1 (some .boolean), Cond.methodLink RX1 51 yX3_behind, Cond.instanceMethod yX3_behind, Cond.selects RX3 yX3_behind yX3_behind, Cond.code yX3_behind cX3_behind 2 (some .int)]
def wsX1_readPages : List Cond := .code yX1_readPages cX1_readPages 5 none :: ((wsX1_readPages_r1 ++ wsX1_readPages_r2) ++ wsX10 ++ wsX30 ++ wsX00)
def wsX1_goOverLog_r1 : List Cond := [Cond.methodLink RX1 58 yX3_byteOf, Cond.instanceMethod yX3_byteOf, Cond.selects RX3 yX3_byteOf yX3_byteOf, Cond.initialized RX3, Cond.code yX3_byteOf cX3_byteOf 3 (some .int), Cond.fieldLink RX3 18 "StoreLog3$Sectors" "size" "I", Cond.fieldLink RX3 24 "StoreLog3$Sectors" "bytes" "[B", Cond.methodLink RX1 83 yX3_numberOf, Cond.instanceMethod yX3_numberOf, Cond.selects RX3 yX3_numberOf yX3_numberOf, Cond.code yX3_numberOf cX3_numberOf 6 (some .int), Cond.methodLink RX3 28 yX3_byteOf, Cond.methodLink RX1 93 yX0_change, Cond.instanceMethod yX0_change, Cond.selects RX0 yX0_change yX0_change, Cond.initialized RX0, Cond.code yX0_change cX0_change 4 none, Cond.fieldLink RX0 24 "StoreLog3$Dictionary" "open" "I", Cond.fieldLink RX0 18 "StoreLog3$Dictionary" "holders" "[I", Cond.fieldLink RX0 15 "StoreLog3$Dictionary" "changed" "[I", Cond.static yX4_isTransaction, Cond.initialized RX4, Cond.code yX4_isTransaction cX4_isTransaction 1 (some .boolean), Cond.static yX4_isKey]
def wsX1_goOverLog_r2 : List Cond := [Cond.code yX4_isKey cX4_isKey 1 (some .boolean), Cond.methodLink RX1 97 yX0_close, Cond.instanceMethod yX0_close, Cond.selects RX0 yX0_close yX0_close, Cond.code yX0_close cX0_close 5 (some .int), Cond.fieldLink RX0 9 "StoreLog3$Dictionary" "committed" "[I", Cond.methodLink RX0 28 yX0_isOpen, Cond.instanceMethod yX0_isOpen, Cond.selects RX0 yX0_isOpen yX0_isOpen, Cond.code yX0_isOpen cX0_isOpen 2 (some .boolean)]
def wsX1_goOverLog : List Cond := .code yX1_goOverLog cX1_goOverLog 9 none :: ((wsX1_goOverLog_r1 ++ wsX1_goOverLog_r2) ++ wsX30 ++ wsX00)
def wsX1_goOverRun_r1 : List Cond := [Cond.fieldLink RX1 19 "StoreLog3$Finder" "runEnd" "I", Cond.methodLink RX1 29 yX3_size, Cond.instanceMethod yX3_size, Cond.selects RX3 yX3_size yX3_size, Cond.initialized RX3, Cond.code yX3_size cX3_size 1 (some .int), Cond.fieldLink RX3 18 "StoreLog3$Sectors" "size" "I", Cond.methodLink RX1 51 yX3_behind, Cond.instanceMethod yX3_behind, Cond.selects RX3 yX3_behind yX3_behind, Cond.code yX3_behind cX3_behind 2 (some .int), Cond.methodLink RX1 54 yX1_isTelling, Cond.instanceMethod yX1_isTelling, Cond.selects RX1 yX1_isTelling yX1_isTelling, Cond.initialized RX1, Cond.code yX1_isTelling cX1_isTelling 2 (some .boolean), Cond.fieldLink RX1 9 "StoreLog3$Finder" "tells" "[Z", Cond.methodLink RX1 39 yX3_serialOf, Cond.instanceMethod yX3_serialOf, Cond.selects RX3 yX3_serialOf yX3_serialOf, Cond.code yX3_serialOf cX3_serialOf 2 (some .int), Cond.methodLink RX3 35 yX3_numberOf, Cond.instanceMethod yX3_numberOf, Cond.selects RX3 yX3_numberOf yX3_numberOf]
def wsX1_goOverRun_r2 : List Cond := [Cond.code yX3_numberOf cX3_numberOf 6 (some .int), Cond.methodLink RX3 28 yX3_byteOf, Cond.instanceMethod yX3_byteOf, Cond.selects RX3 yX3_byteOf yX3_byteOf, Cond.code yX3_byteOf cX3_byteOf 3 (some .int), Cond.fieldLink RX3 24 "StoreLog3$Sectors" "bytes" "[B", Cond.methodLink RX1 58 yX3_byteOf, Cond.methodLink RX1 62 yX1_goOverLog, Cond.static yX1_goOverLog, Cond.code yX1_goOverLog cX1_goOverLog 9 none, Cond.methodLink RX1 83 yX3_numberOf, Cond.methodLink RX1 93 yX0_change, Cond.instanceMethod yX0_change, Cond.selects RX0 yX0_change yX0_change, Cond.initialized RX0, Cond.code yX0_change cX0_change 4 none, Cond.fieldLink RX0 24 "StoreLog3$Dictionary" "open" "I", Cond.fieldLink RX0 18 "StoreLog3$Dictionary" "holders" "[I", Cond.fieldLink RX0 15 "StoreLog3$Dictionary" "changed" "[I", Cond.static yX4_isTransaction, Cond.initialized RX4, Cond.code yX4_isTransaction cX4_isTransaction 1 (some .boolean), Cond.static yX4_isKey, Cond.code yX4_isKey cX4_isKey 1 (some .boolean)]
def wsX1_goOverRun_r3 : List Cond := [Cond.methodLink RX1 97 yX0_close, Cond.instanceMethod yX0_close, Cond.selects RX0 yX0_close yX0_close, Cond.code yX0_close cX0_close 5 (some .int), Cond.fieldLink RX0 9 "StoreLog3$Dictionary" "committed" "[I", Cond.methodLink RX0 28 yX0_isOpen, Cond.instanceMethod yX0_isOpen, Cond.selects RX0 yX0_isOpen yX0_isOpen, Cond.code yX0_isOpen cX0_isOpen 2 (some .boolean)]
def wsX1_goOverRun : List Cond := .code yX1_goOverRun cX1_goOverRun 5 none :: ((wsX1_goOverRun_r1 ++ (wsX1_goOverRun_r2 ++ wsX1_goOverRun_r3)) ++ wsX10 ++ wsX30 ++ wsX00)
def wsX3_init : List Cond := .code yX3_init cX3_init 2 none :: ([.methodLink RX3 3 objectInit, .instanceMethod objectInit, .code objectInit ⟨#[0xb1]⟩ 1 none, .methodLink RX3 9 Lib.Math.min.name, .static Lib.Math.min.name, .initialized "java/lang/Math", .code Lib.Math.min.name Lib.Math.min.code 2 (some .int), .methodLink RX3 15 Lib.Math.max.name, .static Lib.Math.max.name, .code Lib.Math.max.name Lib.Math.max.code 2 (some .int), .fieldLink RX3 18 "StoreLog3$Sectors" "size" "I", .arrayClass .byte, .fieldLink RX3 24 "StoreLog3$Sectors" "bytes" "[B"] ++ wsX30)
def wsX3_clear : List Cond := .code yX3_clear cX3_clear 2 none :: ([.fieldLink RX3 24 "StoreLog3$Sectors" "bytes" "[B"] ++ wsX30)
def wsX3_setByte : List Cond := .code yX3_setByte cX3_setByte 4 none :: ([.fieldLink RX3 18 "StoreLog3$Sectors" "size" "I", .fieldLink RX3 24 "StoreLog3$Sectors" "bytes" "[B"] ++ wsX30)
def wsX3_setNumber : List Cond := .code yX3_setNumber cX3_setNumber 7 none :: ([.methodLink RX3 31 yX3_setByte, .instanceMethod yX3_setByte, .selects RX3 yX3_setByte yX3_setByte, .initialized RX3, .code yX3_setByte cX3_setByte 4 none, .fieldLink RX3 18 "StoreLog3$Sectors" "size" "I", .fieldLink RX3 24 "StoreLog3$Sectors" "bytes" "[B"] ++ wsX30)
def wsX3_prepare : List Cond := .code yX3_prepare cX3_prepare 6 none :: ([.methodLink RX3 31 yX3_setByte, .instanceMethod yX3_setByte, .selects RX3 yX3_setByte yX3_setByte, .initialized RX3, .code yX3_setByte cX3_setByte 4 none, .fieldLink RX3 18 "StoreLog3$Sectors" "size" "I", .fieldLink RX3 24 "StoreLog3$Sectors" "bytes" "[B", .methodLink RX3 43 yX3_setNumber, .instanceMethod yX3_setNumber, .selects RX3 yX3_setNumber yX3_setNumber, .code yX3_setNumber cX3_setNumber 7 none] ++ wsX30)
def wsX3_seal : List Cond := .code yX3_seal cX3_seal 2 none :: ([.methodLink RX3 39 yX3_sumOf, .instanceMethod yX3_sumOf, .selects RX3 yX3_sumOf yX3_sumOf, .initialized RX3, .code yX3_sumOf cX3_sumOf 6 (some .int), .fieldLink RX3 18 "StoreLog3$Sectors" "size" "I", .fieldLink RX3 24 "StoreLog3$Sectors" "bytes" "[B", .constant RX3 47 (-2048144777), .methodLink RX3 43 yX3_setNumber, .instanceMethod yX3_setNumber, .selects RX3 yX3_setNumber yX3_setNumber, .code yX3_setNumber cX3_setNumber 7 none, .methodLink RX3 31 yX3_setByte, .instanceMethod yX3_setByte, .selects RX3 yX3_setByte yX3_setByte, .code yX3_setByte cX3_setByte 4 none] ++ wsX30)
def wsX2_forgetMemory : List Cond := .code yX2_forgetMemory cX2_forgetMemory 1 none :: ([.fieldLink RX2 63 "StoreLog3$Journal" "entries" "I", .fieldLink RX2 66 "StoreLog3$Journal" "waiting" "I", .fieldLink RX2 99 "StoreLog3$Journal" "firstPageWaiting" "I"] ++ wsX20)
def wsX2_beginAnew_r1 : List Cond := [Cond.fieldLink RX2 26 "StoreLog3$Journal" "disk" "LStoreLog3$Sectors;", Cond.fieldLink RX2 50 "StoreLog3$Journal" "lastSerial" "I", Cond.fieldLink RX2 54 "StoreLog3$Journal" "lastSector" "I", Cond.fieldLink RX2 57 "StoreLog3$Journal" "firstNeeded" "I", Cond.methodLink RX2 36 yX3_clear, Cond.instanceMethod yX3_clear, Cond.selects RX3 yX3_clear yX3_clear, Cond.initialized RX3, Cond.code yX3_clear cX3_clear 2 none, Cond.fieldLink RX3 24 "StoreLog3$Sectors" "bytes" "[B", Cond.methodLink RX2 39 yX3_prepare, Cond.instanceMethod yX3_prepare, Cond.selects RX3 yX3_prepare yX3_prepare, Cond.code yX3_prepare cX3_prepare 6 none, Cond.methodLink RX3 31 yX3_setByte, Cond.instanceMethod yX3_setByte, Cond.selects RX3 yX3_setByte yX3_setByte, Cond.code yX3_setByte cX3_setByte 4 none, Cond.fieldLink RX3 18 "StoreLog3$Sectors" "size" "I", Cond.methodLink RX3 43 yX3_setNumber, Cond.instanceMethod yX3_setNumber, Cond.selects RX3 yX3_setNumber yX3_setNumber, Cond.code yX3_setNumber cX3_setNumber 7 none, Cond.methodLink RX2 43 yX3_setByte]
def wsX2_beginAnew_r2 : List Cond := [Cond.methodLink RX2 47 yX3_seal, Cond.instanceMethod yX3_seal, Cond.selects RX3 yX3_seal yX3_seal, Cond.code yX3_seal cX3_seal 2 none, Cond.methodLink RX3 39 yX3_sumOf, Cond.instanceMethod yX3_sumOf, Cond.selects RX3 yX3_sumOf yX3_sumOf, Cond.code yX3_sumOf cX3_sumOf 6 (some .int), Cond.constant RX3 47 (-2048144777), Cond.methodLink RX2 60 yX2_forgetMemory, Cond.instanceMethod yX2_forgetMemory, Cond.selects RX2 yX2_forgetMemory yX2_forgetMemory, Cond.initialized RX2, Cond.code yX2_forgetMemory cX2_forgetMemory 1 none, Cond.fieldLink RX2 63 "StoreLog3$Journal" "entries" "I", Cond.fieldLink RX2 66 "StoreLog3$Journal" "waiting" "I", Cond.fieldLink RX2 99 "StoreLog3$Journal" "firstPageWaiting" "I"]
def wsX2_beginAnew : List Cond := .code yX2_beginAnew cX2_beginAnew 1 none :: ((wsX2_beginAnew_r1 ++ wsX2_beginAnew_r2) ++ wsX20 ++ wsX30)
def wsX2_init_r1 : List Cond := [Cond.methodLink RX2 3 objectInit, Cond.instanceMethod objectInit, Cond.code objectInit ⟨#[0xb1]⟩ 1 none, Cond.arrayClass .int, Cond.fieldLink RX2 9 "StoreLog3$Journal" "entryHeads" "[I", Cond.fieldLink RX2 15 "StoreLog3$Journal" "entryKeys" "[I", Cond.fieldLink RX2 18 "StoreLog3$Journal" "entryValues" "[I", Cond.classLink RX2 21 RX3, Cond.instantiable RX3 2, Cond.initialized RX3, Cond.fieldLink RX2 26 "StoreLog3$Journal" "disk" "LStoreLog3$Sectors;", Cond.fieldLink RX2 30 "StoreLog3$Journal" "memory" "LStoreLog3$Sectors;", Cond.methodLink RX2 23 yX3_init, Cond.instanceMethod yX3_init, Cond.code yX3_init cX3_init 2 none, Cond.methodLink RX3 3 objectInit, Cond.methodLink RX3 9 Lib.Math.min.name, Cond.static Lib.Math.min.name, Cond.initialized "java/lang/Math", Cond.code Lib.Math.min.name Lib.Math.min.code 2 (some .int), Cond.methodLink RX3 15 Lib.Math.max.name, Cond.static Lib.Math.max.name, Cond.code Lib.Math.max.name Lib.Math.max.code 2 (some .int), Cond.fieldLink RX3 18 "StoreLog3$Sectors" "size" "I"]
def wsX2_init_r2 : List Cond := [Cond.arrayClass .byte, Cond.fieldLink RX3 24 "StoreLog3$Sectors" "bytes" "[B", Cond.methodLink RX2 33 yX2_beginAnew, Cond.instanceMethod yX2_beginAnew, Cond.selects RX2 yX2_beginAnew yX2_beginAnew, Cond.initialized RX2, Cond.code yX2_beginAnew cX2_beginAnew 1 none, Cond.fieldLink RX2 50 "StoreLog3$Journal" "lastSerial" "I", Cond.fieldLink RX2 54 "StoreLog3$Journal" "lastSector" "I", Cond.fieldLink RX2 57 "StoreLog3$Journal" "firstNeeded" "I", Cond.methodLink RX2 36 yX3_clear, Cond.instanceMethod yX3_clear, Cond.selects RX3 yX3_clear yX3_clear, Cond.code yX3_clear cX3_clear 2 none, Cond.methodLink RX2 39 yX3_prepare, Cond.instanceMethod yX3_prepare, Cond.selects RX3 yX3_prepare yX3_prepare, Cond.code yX3_prepare cX3_prepare 6 none, Cond.methodLink RX3 31 yX3_setByte, Cond.instanceMethod yX3_setByte, Cond.selects RX3 yX3_setByte yX3_setByte, Cond.code yX3_setByte cX3_setByte 4 none, Cond.methodLink RX3 43 yX3_setNumber, Cond.instanceMethod yX3_setNumber]
def wsX2_init_r3 : List Cond := [Cond.selects RX3 yX3_setNumber yX3_setNumber, Cond.code yX3_setNumber cX3_setNumber 7 none, Cond.methodLink RX2 43 yX3_setByte, Cond.methodLink RX2 47 yX3_seal, Cond.instanceMethod yX3_seal, Cond.selects RX3 yX3_seal yX3_seal, Cond.code yX3_seal cX3_seal 2 none, Cond.methodLink RX3 39 yX3_sumOf, Cond.instanceMethod yX3_sumOf, Cond.selects RX3 yX3_sumOf yX3_sumOf, Cond.code yX3_sumOf cX3_sumOf 6 (some .int), Cond.constant RX3 47 (-2048144777), Cond.methodLink RX2 60 yX2_forgetMemory, Cond.instanceMethod yX2_forgetMemory, Cond.selects RX2 yX2_forgetMemory yX2_forgetMemory, Cond.code yX2_forgetMemory cX2_forgetMemory 1 none, Cond.fieldLink RX2 63 "StoreLog3$Journal" "entries" "I", Cond.fieldLink RX2 66 "StoreLog3$Journal" "waiting" "I", Cond.fieldLink RX2 99 "StoreLog3$Journal" "firstPageWaiting" "I"]
def wsX2_init : List Cond := .code yX2_init cX2_init 2 none :: ((wsX2_init_r1 ++ (wsX2_init_r2 ++ wsX2_init_r3)) ++ wsX20 ++ wsX30)
def wsX2_entries : List Cond := .code yX2_entries cX2_entries 1 (some .int) :: ([.fieldLink RX2 63 "StoreLog3$Journal" "entries" "I"] ++ wsX20)
def wsX2_waiting : List Cond := .code yX2_waiting cX2_waiting 1 (some .int) :: ([.fieldLink RX2 66 "StoreLog3$Journal" "waiting" "I"] ++ wsX20)
def wsX2_lastSerial : List Cond := .code yX2_lastSerial cX2_lastSerial 1 (some .int) :: ([.fieldLink RX2 50 "StoreLog3$Journal" "lastSerial" "I"] ++ wsX20)
def wsX2_lastSector : List Cond := .code yX2_lastSector cX2_lastSector 1 (some .int) :: ([.fieldLink RX2 54 "StoreLog3$Journal" "lastSector" "I"] ++ wsX20)
def wsX3_stepsBetween : List Cond := .code yX3_stepsBetween cX3_stepsBetween 3 (some .int) :: ([.fieldLink RX3 18 "StoreLog3$Sectors" "size" "I"] ++ wsX30)
def wsX2_needed : List Cond := .code yX2_needed cX2_needed 1 (some .int) :: ([.fieldLink RX2 26 "StoreLog3$Journal" "disk" "LStoreLog3$Sectors;", .fieldLink RX2 57 "StoreLog3$Journal" "firstNeeded" "I", .fieldLink RX2 54 "StoreLog3$Journal" "lastSector" "I", .methodLink RX2 69 yX3_stepsBetween, .instanceMethod yX3_stepsBetween, .selects RX3 yX3_stepsBetween yX3_stepsBetween, .initialized RX3, .code yX3_stepsBetween cX3_stepsBetween 3 (some .int), .fieldLink RX3 18 "StoreLog3$Sectors" "size" "I"] ++ wsX20 ++ wsX30)
def wsX2_hasRoom : List Cond := .code yX2_hasRoom cX2_hasRoom 2 (some .boolean) :: ([.fieldLink RX2 26 "StoreLog3$Journal" "disk" "LStoreLog3$Sectors;", .methodLink RX2 73 yX2_needed, .instanceMethod yX2_needed, .selects RX2 yX2_needed yX2_needed, .initialized RX2, .code yX2_needed cX2_needed 1 (some .int), .fieldLink RX2 57 "StoreLog3$Journal" "firstNeeded" "I", .fieldLink RX2 54 "StoreLog3$Journal" "lastSector" "I", .methodLink RX2 69 yX3_stepsBetween, .instanceMethod yX3_stepsBetween, .selects RX3 yX3_stepsBetween yX3_stepsBetween, .initialized RX3, .code yX3_stepsBetween cX3_stepsBetween 3 (some .int), .fieldLink RX3 18 "StoreLog3$Sectors" "size" "I", .methodLink RX2 77 yX3_size, .instanceMethod yX3_size, .selects RX3 yX3_size yX3_size, .code yX3_size cX3_size 1 (some .int)] ++ wsX20 ++ wsX30)
def wsX2_logsDue : List Cond := .code yX2_logsDue cX2_logsDue 1 (some .int) :: ([.fieldLink RX2 63 "StoreLog3$Journal" "entries" "I"] ++ wsX20)
def wsX2_canTakeEntry : List Cond := .code yX2_canTakeEntry cX2_canTakeEntry 1 (some .boolean) :: ([.fieldLink RX2 63 "StoreLog3$Journal" "entries" "I", .methodLink RX2 80 yX2_hasRoom, .instanceMethod yX2_hasRoom, .selects RX2 yX2_hasRoom yX2_hasRoom, .initialized RX2, .code yX2_hasRoom cX2_hasRoom 2 (some .boolean), .fieldLink RX2 26 "StoreLog3$Journal" "disk" "LStoreLog3$Sectors;", .methodLink RX2 73 yX2_needed, .instanceMethod yX2_needed, .selects RX2 yX2_needed yX2_needed, .code yX2_needed cX2_needed 1 (some .int), .fieldLink RX2 57 "StoreLog3$Journal" "firstNeeded" "I", .fieldLink RX2 54 "StoreLog3$Journal" "lastSector" "I", .methodLink RX2 69 yX3_stepsBetween, .instanceMethod yX3_stepsBetween, .selects RX3 yX3_stepsBetween yX3_stepsBetween, .initialized RX3, .code yX3_stepsBetween cX3_stepsBetween 3 (some .int), .fieldLink RX3 18 "StoreLog3$Sectors" "size" "I", .methodLink RX2 77 yX3_size, .instanceMethod yX3_size, .selects RX3 yX3_size yX3_size, .code yX3_size cX3_size 1 (some .int)] ++ wsX20 ++ wsX30)
def wsX2_goToNext : List Cond := .code yX2_goToNext cX2_goToNext 1 none :: ([.fieldLink RX2 50 "StoreLog3$Journal" "lastSerial" "I", .fieldLink RX2 26 "StoreLog3$Journal" "disk" "LStoreLog3$Sectors;", .fieldLink RX2 54 "StoreLog3$Journal" "lastSector" "I", .fieldLink RX2 66 "StoreLog3$Journal" "waiting" "I", .fieldLink RX2 122 "StoreLog3$Journal" "firstWaiting" "I", .methodLink RX2 119 yX3_behind, .instanceMethod yX3_behind, .selects RX3 yX3_behind yX3_behind, .initialized RX3, .code yX3_behind cX3_behind 2 (some .int), .fieldLink RX3 18 "StoreLog3$Sectors" "size" "I"] ++ wsX20 ++ wsX30)
def wsX2_writeLog_r1 : List Cond := [Cond.fieldLink RX2 63 "StoreLog3$Journal" "entries" "I", Cond.fieldLink RX2 30 "StoreLog3$Journal" "memory" "LStoreLog3$Sectors;", Cond.fieldLink RX2 54 "StoreLog3$Journal" "lastSector" "I", Cond.fieldLink RX2 50 "StoreLog3$Journal" "lastSerial" "I", Cond.fieldLink RX2 9 "StoreLog3$Journal" "entryHeads" "[I", Cond.fieldLink RX2 15 "StoreLog3$Journal" "entryKeys" "[I", Cond.fieldLink RX2 18 "StoreLog3$Journal" "entryValues" "[I", Cond.methodLink RX2 87 yX2_goToNext, Cond.instanceMethod yX2_goToNext, Cond.selects RX2 yX2_goToNext yX2_goToNext, Cond.initialized RX2, Cond.code yX2_goToNext cX2_goToNext 1 none, Cond.fieldLink RX2 26 "StoreLog3$Journal" "disk" "LStoreLog3$Sectors;", Cond.fieldLink RX2 66 "StoreLog3$Journal" "waiting" "I", Cond.fieldLink RX2 122 "StoreLog3$Journal" "firstWaiting" "I", Cond.methodLink RX2 119 yX3_behind, Cond.instanceMethod yX3_behind, Cond.selects RX3 yX3_behind yX3_behind, Cond.initialized RX3, Cond.code yX3_behind cX3_behind 2 (some .int), Cond.fieldLink RX3 18 "StoreLog3$Sectors" "size" "I", Cond.methodLink RX2 39 yX3_prepare, Cond.instanceMethod yX3_prepare, Cond.selects RX3 yX3_prepare yX3_prepare]
def wsX2_writeLog_r2 : List Cond := [Cond.code yX3_prepare cX3_prepare 6 none, Cond.methodLink RX3 31 yX3_setByte, Cond.instanceMethod yX3_setByte, Cond.selects RX3 yX3_setByte yX3_setByte, Cond.code yX3_setByte cX3_setByte 4 none, Cond.fieldLink RX3 24 "StoreLog3$Sectors" "bytes" "[B", Cond.methodLink RX3 43 yX3_setNumber, Cond.instanceMethod yX3_setNumber, Cond.selects RX3 yX3_setNumber yX3_setNumber, Cond.code yX3_setNumber cX3_setNumber 7 none, Cond.methodLink RX2 43 yX3_setByte, Cond.methodLink RX2 90 yX3_setNumber, Cond.methodLink RX2 47 yX3_seal, Cond.instanceMethod yX3_seal, Cond.selects RX3 yX3_seal yX3_seal, Cond.code yX3_seal cX3_seal 2 none, Cond.methodLink RX3 39 yX3_sumOf, Cond.instanceMethod yX3_sumOf, Cond.selects RX3 yX3_sumOf yX3_sumOf, Cond.code yX3_sumOf cX3_sumOf 6 (some .int), Cond.constant RX3 47 (-2048144777)]
def wsX2_writeLog : List Cond := .code yX2_writeLog cX2_writeLog 3 none :: ((wsX2_writeLog_r1 ++ wsX2_writeLog_r2) ++ wsX20 ++ wsX30)
def wsX2_takeEntry_r1 : List Cond := [Cond.fieldLink RX2 63 "StoreLog3$Journal" "entries" "I", Cond.fieldLink RX2 9 "StoreLog3$Journal" "entryHeads" "[I", Cond.fieldLink RX2 15 "StoreLog3$Journal" "entryKeys" "[I", Cond.fieldLink RX2 18 "StoreLog3$Journal" "entryValues" "[I", Cond.methodLink RX2 84 yX2_writeLog, Cond.instanceMethod yX2_writeLog, Cond.selects RX2 yX2_writeLog yX2_writeLog, Cond.initialized RX2, Cond.code yX2_writeLog cX2_writeLog 3 none, Cond.fieldLink RX2 30 "StoreLog3$Journal" "memory" "LStoreLog3$Sectors;", Cond.fieldLink RX2 54 "StoreLog3$Journal" "lastSector" "I", Cond.fieldLink RX2 50 "StoreLog3$Journal" "lastSerial" "I", Cond.methodLink RX2 87 yX2_goToNext, Cond.instanceMethod yX2_goToNext, Cond.selects RX2 yX2_goToNext yX2_goToNext, Cond.code yX2_goToNext cX2_goToNext 1 none, Cond.fieldLink RX2 26 "StoreLog3$Journal" "disk" "LStoreLog3$Sectors;", Cond.fieldLink RX2 66 "StoreLog3$Journal" "waiting" "I", Cond.fieldLink RX2 122 "StoreLog3$Journal" "firstWaiting" "I", Cond.methodLink RX2 119 yX3_behind, Cond.instanceMethod yX3_behind, Cond.selects RX3 yX3_behind yX3_behind, Cond.initialized RX3, Cond.code yX3_behind cX3_behind 2 (some .int)]
def wsX2_takeEntry_r2 : List Cond := [Cond.fieldLink RX3 18 "StoreLog3$Sectors" "size" "I", Cond.methodLink RX2 39 yX3_prepare, Cond.instanceMethod yX3_prepare, Cond.selects RX3 yX3_prepare yX3_prepare, Cond.code yX3_prepare cX3_prepare 6 none, Cond.methodLink RX3 31 yX3_setByte, Cond.instanceMethod yX3_setByte, Cond.selects RX3 yX3_setByte yX3_setByte, Cond.code yX3_setByte cX3_setByte 4 none, Cond.fieldLink RX3 24 "StoreLog3$Sectors" "bytes" "[B", Cond.methodLink RX3 43 yX3_setNumber, Cond.instanceMethod yX3_setNumber, Cond.selects RX3 yX3_setNumber yX3_setNumber, Cond.code yX3_setNumber cX3_setNumber 7 none, Cond.methodLink RX2 43 yX3_setByte, Cond.methodLink RX2 90 yX3_setNumber, Cond.methodLink RX2 47 yX3_seal, Cond.instanceMethod yX3_seal, Cond.selects RX3 yX3_seal yX3_seal, Cond.code yX3_seal cX3_seal 2 none, Cond.methodLink RX3 39 yX3_sumOf, Cond.instanceMethod yX3_sumOf, Cond.selects RX3 yX3_sumOf yX3_sumOf, Cond.code yX3_sumOf cX3_sumOf 6 (some .int)]
def wsX2_takeEntry_r3 : List Cond := [Cond.constant RX3 47 (-2048144777)]
def wsX2_takeEntry : List Cond := .code yX2_takeEntry cX2_takeEntry 5 none :: ((wsX2_takeEntry_r1 ++ (wsX2_takeEntry_r2 ++ wsX2_takeEntry_r3)) ++ wsX20 ++ wsX30)
def wsX2_writePairs_r1 : List Cond := [Cond.fieldLink RX2 30 "StoreLog3$Journal" "memory" "LStoreLog3$Sectors;", Cond.fieldLink RX2 54 "StoreLog3$Journal" "lastSector" "I", Cond.fieldLink RX2 50 "StoreLog3$Journal" "lastSerial" "I", Cond.methodLink RX2 39 yX3_prepare, Cond.instanceMethod yX3_prepare, Cond.selects RX3 yX3_prepare yX3_prepare, Cond.initialized RX3, Cond.code yX3_prepare cX3_prepare 6 none, Cond.methodLink RX3 31 yX3_setByte, Cond.instanceMethod yX3_setByte, Cond.selects RX3 yX3_setByte yX3_setByte, Cond.code yX3_setByte cX3_setByte 4 none, Cond.fieldLink RX3 18 "StoreLog3$Sectors" "size" "I", Cond.fieldLink RX3 24 "StoreLog3$Sectors" "bytes" "[B", Cond.methodLink RX3 43 yX3_setNumber, Cond.instanceMethod yX3_setNumber, Cond.selects RX3 yX3_setNumber yX3_setNumber, Cond.code yX3_setNumber cX3_setNumber 7 none, Cond.methodLink RX2 43 yX3_setByte, Cond.methodLink RX2 116 yX0_committedValue, Cond.instanceMethod yX0_committedValue, Cond.selects RX0 yX0_committedValue yX0_committedValue, Cond.initialized RX0, Cond.code yX0_committedValue cX0_committedValue 2 (some .int)]
def wsX2_writePairs_r2 : List Cond := [Cond.fieldLink RX0 9 "StoreLog3$Dictionary" "committed" "[I", Cond.static yX4_isKey, Cond.initialized RX4, Cond.code yX4_isKey cX4_isKey 1 (some .boolean), Cond.methodLink RX2 90 yX3_setNumber, Cond.methodLink RX2 93 yX0_nextWithValue, Cond.instanceMethod yX0_nextWithValue, Cond.selects RX0 yX0_nextWithValue yX0_nextWithValue, Cond.code yX0_nextWithValue cX0_nextWithValue 3 (some .int), Cond.methodLink RX0 38 Lib.Math.max.name, Cond.static Lib.Math.max.name, Cond.initialized "java/lang/Math", Cond.code Lib.Math.max.name Lib.Math.max.code 2 (some .int)]
def wsX2_writePairs : List Cond := .code yX2_writePairs cX2_writePairs 6 (some .int) :: ((wsX2_writePairs_r1 ++ wsX2_writePairs_r2) ++ wsX20 ++ wsX30 ++ wsX00)
def wsX2_writePages_r1 : List Cond := [Cond.fieldLink RX2 54 "StoreLog3$Journal" "lastSector" "I", Cond.fieldLink RX2 99 "StoreLog3$Journal" "firstPageWaiting" "I", Cond.fieldLink RX2 30 "StoreLog3$Journal" "memory" "LStoreLog3$Sectors;", Cond.methodLink RX2 93 yX0_nextWithValue, Cond.instanceMethod yX0_nextWithValue, Cond.selects RX0 yX0_nextWithValue yX0_nextWithValue, Cond.initialized RX0, Cond.code yX0_nextWithValue cX0_nextWithValue 3 (some .int), Cond.methodLink RX0 38 Lib.Math.max.name, Cond.static Lib.Math.max.name, Cond.initialized "java/lang/Math", Cond.code Lib.Math.max.name Lib.Math.max.code 2 (some .int), Cond.fieldLink RX0 9 "StoreLog3$Dictionary" "committed" "[I", Cond.methodLink RX2 87 yX2_goToNext, Cond.instanceMethod yX2_goToNext, Cond.selects RX2 yX2_goToNext yX2_goToNext, Cond.initialized RX2, Cond.code yX2_goToNext cX2_goToNext 1 none, Cond.fieldLink RX2 50 "StoreLog3$Journal" "lastSerial" "I", Cond.fieldLink RX2 26 "StoreLog3$Journal" "disk" "LStoreLog3$Sectors;", Cond.fieldLink RX2 66 "StoreLog3$Journal" "waiting" "I", Cond.fieldLink RX2 122 "StoreLog3$Journal" "firstWaiting" "I", Cond.methodLink RX2 119 yX3_behind, Cond.instanceMethod yX3_behind]
def wsX2_writePages_r2 : List Cond := [Cond.selects RX3 yX3_behind yX3_behind, Cond.initialized RX3, Cond.code yX3_behind cX3_behind 2 (some .int), Cond.fieldLink RX3 18 "StoreLog3$Sectors" "size" "I", Cond.methodLink RX2 102 yX2_writePairs, Cond.instanceMethod yX2_writePairs, Cond.selects RX2 yX2_writePairs yX2_writePairs, Cond.code yX2_writePairs cX2_writePairs 6 (some .int), Cond.methodLink RX2 39 yX3_prepare, Cond.instanceMethod yX3_prepare, Cond.selects RX3 yX3_prepare yX3_prepare, Cond.code yX3_prepare cX3_prepare 6 none, Cond.methodLink RX3 31 yX3_setByte, Cond.instanceMethod yX3_setByte, Cond.selects RX3 yX3_setByte yX3_setByte, Cond.code yX3_setByte cX3_setByte 4 none, Cond.fieldLink RX3 24 "StoreLog3$Sectors" "bytes" "[B", Cond.methodLink RX3 43 yX3_setNumber, Cond.instanceMethod yX3_setNumber, Cond.selects RX3 yX3_setNumber yX3_setNumber, Cond.code yX3_setNumber cX3_setNumber 7 none, Cond.methodLink RX2 43 yX3_setByte, Cond.methodLink RX2 116 yX0_committedValue, Cond.instanceMethod yX0_committedValue]
def wsX2_writePages_r3 : List Cond := [Cond.selects RX0 yX0_committedValue yX0_committedValue, Cond.code yX0_committedValue cX0_committedValue 2 (some .int), Cond.static yX4_isKey, Cond.initialized RX4, Cond.code yX4_isKey cX4_isKey 1 (some .boolean), Cond.methodLink RX2 90 yX3_setNumber, Cond.methodLink RX2 47 yX3_seal, Cond.instanceMethod yX3_seal, Cond.selects RX3 yX3_seal yX3_seal, Cond.code yX3_seal cX3_seal 2 none, Cond.methodLink RX3 39 yX3_sumOf, Cond.instanceMethod yX3_sumOf, Cond.selects RX3 yX3_sumOf yX3_sumOf, Cond.code yX3_sumOf cX3_sumOf 6 (some .int), Cond.constant RX3 47 (-2048144777)]
def wsX2_writePages : List Cond := .code yX2_writePages cX2_writePages 5 none :: ((wsX2_writePages_r1 ++ (wsX2_writePages_r2 ++ wsX2_writePages_r3)) ++ wsX20 ++ wsX00 ++ wsX30)
def wsX3_copyStart : List Cond := .code yX3_copyStart cX3_copyStart 5 none :: ([.methodLink RX3 28 yX3_byteOf, .instanceMethod yX3_byteOf, .selects RX3 yX3_byteOf yX3_byteOf, .initialized RX3, .code yX3_byteOf cX3_byteOf 3 (some .int), .fieldLink RX3 18 "StoreLog3$Sectors" "size" "I", .fieldLink RX3 24 "StoreLog3$Sectors" "bytes" "[B", .methodLink RX3 31 yX3_setByte, .instanceMethod yX3_setByte, .selects RX3 yX3_setByte yX3_setByte, .code yX3_setByte cX3_setByte 4 none] ++ wsX30)
def wsX2_putOnDisk : List Cond := .code yX2_putOnDisk cX2_putOnDisk 4 (some .int) :: ([.fieldLink RX2 122 "StoreLog3$Journal" "firstWaiting" "I", .fieldLink RX2 26 "StoreLog3$Journal" "disk" "LStoreLog3$Sectors;", .fieldLink RX2 30 "StoreLog3$Journal" "memory" "LStoreLog3$Sectors;", .methodLink RX2 109 yX3_copyStart, .instanceMethod yX3_copyStart, .selects RX3 yX3_copyStart yX3_copyStart, .initialized RX3, .code yX3_copyStart cX3_copyStart 5 none, .methodLink RX3 28 yX3_byteOf, .instanceMethod yX3_byteOf, .selects RX3 yX3_byteOf yX3_byteOf, .code yX3_byteOf cX3_byteOf 3 (some .int), .fieldLink RX3 18 "StoreLog3$Sectors" "size" "I", .fieldLink RX3 24 "StoreLog3$Sectors" "bytes" "[B", .methodLink RX3 31 yX3_setByte, .instanceMethod yX3_setByte, .selects RX3 yX3_setByte yX3_setByte, .code yX3_setByte cX3_setByte 4 none, .methodLink RX2 119 yX3_behind, .instanceMethod yX3_behind, .selects RX3 yX3_behind yX3_behind, .code yX3_behind cX3_behind 2 (some .int)] ++ wsX20 ++ wsX30)
def wsX2_putAllOnDisk_r1 : List Cond := [Cond.fieldLink RX2 66 "StoreLog3$Journal" "waiting" "I", Cond.fieldLink RX2 99 "StoreLog3$Journal" "firstPageWaiting" "I", Cond.fieldLink RX2 57 "StoreLog3$Journal" "firstNeeded" "I", Cond.methodLink RX2 106 yX2_putOnDisk, Cond.instanceMethod yX2_putOnDisk, Cond.selects RX2 yX2_putOnDisk yX2_putOnDisk, Cond.initialized RX2, Cond.code yX2_putOnDisk cX2_putOnDisk 4 (some .int), Cond.fieldLink RX2 122 "StoreLog3$Journal" "firstWaiting" "I", Cond.fieldLink RX2 26 "StoreLog3$Journal" "disk" "LStoreLog3$Sectors;", Cond.fieldLink RX2 30 "StoreLog3$Journal" "memory" "LStoreLog3$Sectors;", Cond.methodLink RX2 109 yX3_copyStart, Cond.instanceMethod yX3_copyStart, Cond.selects RX3 yX3_copyStart yX3_copyStart, Cond.initialized RX3, Cond.code yX3_copyStart cX3_copyStart 5 none, Cond.methodLink RX3 28 yX3_byteOf, Cond.instanceMethod yX3_byteOf, Cond.selects RX3 yX3_byteOf yX3_byteOf, Cond.code yX3_byteOf cX3_byteOf 3 (some .int), Cond.fieldLink RX3 18 "StoreLog3$Sectors" "size" "I", Cond.fieldLink RX3 24 "StoreLog3$Sectors" "bytes" "[B", Cond.methodLink RX3 31 yX3_setByte, Cond.instanceMethod yX3_setByte]
def wsX2_putAllOnDisk_r2 : List Cond := [Cond.selects RX3 yX3_setByte yX3_setByte, Cond.code yX3_setByte cX3_setByte 4 none, Cond.methodLink RX2 119 yX3_behind, Cond.instanceMethod yX3_behind, Cond.selects RX3 yX3_behind yX3_behind, Cond.code yX3_behind cX3_behind 2 (some .int)]
def wsX2_putAllOnDisk : List Cond := .code yX2_putAllOnDisk cX2_putAllOnDisk 2 (some .int) :: ((wsX2_putAllOnDisk_r1 ++ wsX2_putAllOnDisk_r2) ++ wsX20 ++ wsX30)
def wsX2_loseMemory_r1 : List Cond := [Cond.fieldLink RX2 66 "StoreLog3$Journal" "waiting" "I", Cond.fieldLink RX2 26 "StoreLog3$Journal" "disk" "LStoreLog3$Sectors;", Cond.fieldLink RX2 30 "StoreLog3$Journal" "memory" "LStoreLog3$Sectors;", Cond.methodLink RX2 106 yX2_putOnDisk, Cond.instanceMethod yX2_putOnDisk, Cond.selects RX2 yX2_putOnDisk yX2_putOnDisk, Cond.initialized RX2, Cond.code yX2_putOnDisk cX2_putOnDisk 4 (some .int), Cond.fieldLink RX2 122 "StoreLog3$Journal" "firstWaiting" "I", Cond.methodLink RX2 109 yX3_copyStart, Cond.instanceMethod yX3_copyStart, Cond.selects RX3 yX3_copyStart yX3_copyStart, Cond.initialized RX3, Cond.code yX3_copyStart cX3_copyStart 5 none, Cond.methodLink RX3 28 yX3_byteOf, Cond.instanceMethod yX3_byteOf, Cond.selects RX3 yX3_byteOf yX3_byteOf, Cond.code yX3_byteOf cX3_byteOf 3 (some .int), Cond.fieldLink RX3 18 "StoreLog3$Sectors" "size" "I", Cond.fieldLink RX3 24 "StoreLog3$Sectors" "bytes" "[B", Cond.methodLink RX3 31 yX3_setByte, Cond.instanceMethod yX3_setByte, Cond.selects RX3 yX3_setByte yX3_setByte, Cond.code yX3_setByte cX3_setByte 4 none]
def wsX2_loseMemory_r2 : List Cond := [Cond.methodLink RX2 119 yX3_behind, Cond.instanceMethod yX3_behind, Cond.selects RX3 yX3_behind yX3_behind, Cond.code yX3_behind cX3_behind 2 (some .int), Cond.methodLink RX2 60 yX2_forgetMemory, Cond.instanceMethod yX2_forgetMemory, Cond.selects RX2 yX2_forgetMemory yX2_forgetMemory, Cond.code yX2_forgetMemory cX2_forgetMemory 1 none, Cond.fieldLink RX2 63 "StoreLog3$Journal" "entries" "I", Cond.fieldLink RX2 99 "StoreLog3$Journal" "firstPageWaiting" "I"]
def wsX2_loseMemory : List Cond := .code yX2_loseMemory cX2_loseMemory 4 none :: ((wsX2_loseMemory_r1 ++ wsX2_loseMemory_r2) ++ wsX20 ++ wsX30)
def wsX2_goOn : List Cond := .code yX2_goOn cX2_goOn 3 none :: ([.fieldLink RX2 57 "StoreLog3$Journal" "firstNeeded" "I", .fieldLink RX2 54 "StoreLog3$Journal" "lastSector" "I", .fieldLink RX2 26 "StoreLog3$Journal" "disk" "LStoreLog3$Sectors;", .fieldLink RX2 50 "StoreLog3$Journal" "lastSerial" "I", .methodLink RX2 113 yX3_serialOf, .instanceMethod yX3_serialOf, .selects RX3 yX3_serialOf yX3_serialOf, .initialized RX3, .code yX3_serialOf cX3_serialOf 2 (some .int), .methodLink RX3 35 yX3_numberOf, .instanceMethod yX3_numberOf, .selects RX3 yX3_numberOf yX3_numberOf, .code yX3_numberOf cX3_numberOf 6 (some .int), .methodLink RX3 28 yX3_byteOf, .instanceMethod yX3_byteOf, .selects RX3 yX3_byteOf yX3_byteOf, .code yX3_byteOf cX3_byteOf 3 (some .int), .fieldLink RX3 18 "StoreLog3$Sectors" "size" "I", .fieldLink RX3 24 "StoreLog3$Sectors" "bytes" "[B"] ++ wsX20 ++ wsX30)
def wsX4_init_r1 : List Cond := [Cond.methodLink RX4 1 objectInit, Cond.instanceMethod objectInit, Cond.code objectInit ⟨#[0xb1]⟩ 1 none, Cond.classLink RX4 7 RX2, Cond.instantiable RX2 12, Cond.initialized RX2, Cond.fieldLink RX4 12 "StoreLog3" "journal" "LStoreLog3$Journal;", Cond.classLink RX4 18 RX0, Cond.instantiable RX0 4, Cond.initialized RX0, Cond.fieldLink RX4 21 "StoreLog3" "dictionary" "LStoreLog3$Dictionary;", Cond.classLink RX4 25 RX1, Cond.instantiable RX1 4, Cond.initialized RX1, Cond.fieldLink RX4 28 "StoreLog3" "finder" "LStoreLog3$Finder;", Cond.methodLink RX4 9 yX2_init, Cond.instanceMethod yX2_init, Cond.code yX2_init cX2_init 2 none, Cond.methodLink RX2 3 objectInit, Cond.arrayClass .int, Cond.fieldLink RX2 9 "StoreLog3$Journal" "entryHeads" "[I", Cond.fieldLink RX2 15 "StoreLog3$Journal" "entryKeys" "[I", Cond.fieldLink RX2 18 "StoreLog3$Journal" "entryValues" "[I", Cond.classLink RX2 21 RX3]
def wsX4_init_r2 : List Cond := [Cond.instantiable RX3 2, Cond.initialized RX3, Cond.fieldLink RX2 26 "StoreLog3$Journal" "disk" "LStoreLog3$Sectors;", Cond.fieldLink RX2 30 "StoreLog3$Journal" "memory" "LStoreLog3$Sectors;", Cond.methodLink RX2 23 yX3_init, Cond.instanceMethod yX3_init, Cond.code yX3_init cX3_init 2 none, Cond.methodLink RX3 3 objectInit, Cond.methodLink RX3 9 Lib.Math.min.name, Cond.static Lib.Math.min.name, Cond.initialized "java/lang/Math", Cond.code Lib.Math.min.name Lib.Math.min.code 2 (some .int), Cond.methodLink RX3 15 Lib.Math.max.name, Cond.static Lib.Math.max.name, Cond.code Lib.Math.max.name Lib.Math.max.code 2 (some .int), Cond.fieldLink RX3 18 "StoreLog3$Sectors" "size" "I", Cond.arrayClass .byte, Cond.fieldLink RX3 24 "StoreLog3$Sectors" "bytes" "[B", Cond.methodLink RX2 33 yX2_beginAnew, Cond.instanceMethod yX2_beginAnew, Cond.selects RX2 yX2_beginAnew yX2_beginAnew, Cond.code yX2_beginAnew cX2_beginAnew 1 none, Cond.fieldLink RX2 50 "StoreLog3$Journal" "lastSerial" "I", Cond.fieldLink RX2 54 "StoreLog3$Journal" "lastSector" "I"]
def wsX4_init_r3 : List Cond := [Cond.fieldLink RX2 57 "StoreLog3$Journal" "firstNeeded" "I", Cond.methodLink RX2 36 yX3_clear, Cond.instanceMethod yX3_clear, Cond.selects RX3 yX3_clear yX3_clear, Cond.code yX3_clear cX3_clear 2 none, Cond.methodLink RX2 39 yX3_prepare, Cond.instanceMethod yX3_prepare, Cond.selects RX3 yX3_prepare yX3_prepare, Cond.code yX3_prepare cX3_prepare 6 none, Cond.methodLink RX3 31 yX3_setByte, Cond.instanceMethod yX3_setByte, Cond.selects RX3 yX3_setByte yX3_setByte, Cond.code yX3_setByte cX3_setByte 4 none, Cond.methodLink RX3 43 yX3_setNumber, Cond.instanceMethod yX3_setNumber, Cond.selects RX3 yX3_setNumber yX3_setNumber, Cond.code yX3_setNumber cX3_setNumber 7 none, Cond.methodLink RX2 43 yX3_setByte, Cond.methodLink RX2 47 yX3_seal, Cond.instanceMethod yX3_seal, Cond.selects RX3 yX3_seal yX3_seal, Cond.code yX3_seal cX3_seal 2 none, Cond.methodLink RX3 39 yX3_sumOf, Cond.instanceMethod yX3_sumOf]
def wsX4_init_r4 : List Cond := [Cond.selects RX3 yX3_sumOf yX3_sumOf, Cond.code yX3_sumOf cX3_sumOf 6 (some .int), Cond.constant RX3 47 (-2048144777), Cond.methodLink RX2 60 yX2_forgetMemory, Cond.instanceMethod yX2_forgetMemory, Cond.selects RX2 yX2_forgetMemory yX2_forgetMemory, Cond.code yX2_forgetMemory cX2_forgetMemory 1 none, Cond.fieldLink RX2 63 "StoreLog3$Journal" "entries" "I", Cond.fieldLink RX2 66 "StoreLog3$Journal" "waiting" "I", Cond.fieldLink RX2 99 "StoreLog3$Journal" "firstPageWaiting" "I", Cond.methodLink RX4 20 yX0_init, Cond.instanceMethod yX0_init, Cond.code yX0_init cX0_init 1 none, Cond.methodLink RX0 3 objectInit, Cond.fieldLink RX0 9 "StoreLog3$Dictionary" "committed" "[I", Cond.fieldLink RX0 15 "StoreLog3$Dictionary" "changed" "[I", Cond.fieldLink RX0 18 "StoreLog3$Dictionary" "holders" "[I", Cond.methodLink RX0 21 yX0_clear, Cond.instanceMethod yX0_clear, Cond.selects RX0 yX0_clear yX0_clear, Cond.code yX0_clear cX0_clear 2 none, Cond.fieldLink RX0 24 "StoreLog3$Dictionary" "open" "I", Cond.instanceMethod yX1_init, Cond.code yX1_init cX1_init 1 none]
def wsX4_init_r5 : List Cond := [Cond.methodLink RX1 3 objectInit, Cond.arrayClass .boolean, Cond.fieldLink RX1 9 "StoreLog3$Finder" "tells" "[Z"]
def wsX4_init : List Cond := .code yX4_init cX4_init 2 none :: ((wsX4_init_r1 ++ (wsX4_init_r2 ++ (wsX4_init_r3 ++ (wsX4_init_r4 ++ wsX4_init_r5)))) ++ wsX20 ++ wsX40 ++ wsX00 ++ wsX10 ++ wsX30)
def wsX4_begin : List Cond := .code yX4_begin cX4_begin 1 (some .int) :: ([.fieldLink RX4 32 "StoreLog3" "down" "Z", .fieldLink RX4 21 "StoreLog3" "dictionary" "LStoreLog3$Dictionary;", .methodLink RX4 36 yX0_openLeast, .instanceMethod yX0_openLeast, .selects RX0 yX0_openLeast yX0_openLeast, .initialized RX0, .code yX0_openLeast cX0_openLeast 2 (some .int), .fieldLink RX0 24 "StoreLog3$Dictionary" "open" "I", .methodLink RX0 28 yX0_isOpen, .instanceMethod yX0_isOpen, .selects RX0 yX0_isOpen yX0_isOpen, .code yX0_isOpen cX0_isOpen 2 (some .boolean), .static yX4_isTransaction, .initialized RX4, .code yX4_isTransaction cX4_isTransaction 1 (some .boolean)] ++ wsX40 ++ wsX00)
def wsX4_isValue : List Cond := .code yX4_isValue cX4_isValue 1 (some .boolean) :: ([.constant RX4 169 (16777215)])
def wsX4_put_r1 : List Cond := [Cond.fieldLink RX4 32 "StoreLog3" "down" "Z", Cond.fieldLink RX4 21 "StoreLog3" "dictionary" "LStoreLog3$Dictionary;", Cond.fieldLink RX4 12 "StoreLog3" "journal" "LStoreLog3$Journal;", Cond.methodLink RX4 40 yX0_isOpen, Cond.instanceMethod yX0_isOpen, Cond.selects RX0 yX0_isOpen yX0_isOpen, Cond.initialized RX0, Cond.code yX0_isOpen cX0_isOpen 2 (some .boolean), Cond.fieldLink RX0 24 "StoreLog3$Dictionary" "open" "I", Cond.static yX4_isTransaction, Cond.initialized RX4, Cond.code yX4_isTransaction cX4_isTransaction 1 (some .boolean), Cond.methodLink RX4 44 yX4_isKey, Cond.static yX4_isKey, Cond.code yX4_isKey cX4_isKey 1 (some .boolean), Cond.methodLink RX4 47 yX4_isValue, Cond.static yX4_isValue, Cond.code yX4_isValue cX4_isValue 1 (some .boolean), Cond.constant RX4 169 (16777215), Cond.methodLink RX4 50 yX0_holderOf, Cond.instanceMethod yX0_holderOf, Cond.selects RX0 yX0_holderOf yX0_holderOf, Cond.code yX0_holderOf cX0_holderOf 2 (some .int), Cond.fieldLink RX0 18 "StoreLog3$Dictionary" "holders" "[I"]
def wsX4_put_r2 : List Cond := [Cond.methodLink RX4 54 yX2_canTakeEntry, Cond.instanceMethod yX2_canTakeEntry, Cond.selects RX2 yX2_canTakeEntry yX2_canTakeEntry, Cond.initialized RX2, Cond.code yX2_canTakeEntry cX2_canTakeEntry 1 (some .boolean), Cond.fieldLink RX2 63 "StoreLog3$Journal" "entries" "I", Cond.methodLink RX2 80 yX2_hasRoom, Cond.instanceMethod yX2_hasRoom, Cond.selects RX2 yX2_hasRoom yX2_hasRoom, Cond.code yX2_hasRoom cX2_hasRoom 2 (some .boolean), Cond.fieldLink RX2 26 "StoreLog3$Journal" "disk" "LStoreLog3$Sectors;", Cond.methodLink RX2 73 yX2_needed, Cond.instanceMethod yX2_needed, Cond.selects RX2 yX2_needed yX2_needed, Cond.code yX2_needed cX2_needed 1 (some .int), Cond.fieldLink RX2 57 "StoreLog3$Journal" "firstNeeded" "I", Cond.fieldLink RX2 54 "StoreLog3$Journal" "lastSector" "I", Cond.methodLink RX2 69 yX3_stepsBetween, Cond.instanceMethod yX3_stepsBetween, Cond.selects RX3 yX3_stepsBetween yX3_stepsBetween, Cond.initialized RX3, Cond.code yX3_stepsBetween cX3_stepsBetween 3 (some .int), Cond.fieldLink RX3 18 "StoreLog3$Sectors" "size" "I", Cond.methodLink RX2 77 yX3_size]
def wsX4_put_r3 : List Cond := [Cond.instanceMethod yX3_size, Cond.selects RX3 yX3_size yX3_size, Cond.code yX3_size cX3_size 1 (some .int), Cond.methodLink RX4 58 yX0_change, Cond.instanceMethod yX0_change, Cond.selects RX0 yX0_change yX0_change, Cond.code yX0_change cX0_change 4 none, Cond.fieldLink RX0 15 "StoreLog3$Dictionary" "changed" "[I", Cond.methodLink RX4 62 yX2_takeEntry, Cond.instanceMethod yX2_takeEntry, Cond.selects RX2 yX2_takeEntry yX2_takeEntry, Cond.code yX2_takeEntry cX2_takeEntry 5 none, Cond.fieldLink RX2 9 "StoreLog3$Journal" "entryHeads" "[I", Cond.fieldLink RX2 15 "StoreLog3$Journal" "entryKeys" "[I", Cond.fieldLink RX2 18 "StoreLog3$Journal" "entryValues" "[I", Cond.methodLink RX2 84 yX2_writeLog, Cond.instanceMethod yX2_writeLog, Cond.selects RX2 yX2_writeLog yX2_writeLog, Cond.code yX2_writeLog cX2_writeLog 3 none, Cond.fieldLink RX2 30 "StoreLog3$Journal" "memory" "LStoreLog3$Sectors;", Cond.fieldLink RX2 50 "StoreLog3$Journal" "lastSerial" "I", Cond.methodLink RX2 87 yX2_goToNext, Cond.instanceMethod yX2_goToNext, Cond.selects RX2 yX2_goToNext yX2_goToNext]
def wsX4_put_r4 : List Cond := [Cond.code yX2_goToNext cX2_goToNext 1 none, Cond.fieldLink RX2 66 "StoreLog3$Journal" "waiting" "I", Cond.fieldLink RX2 122 "StoreLog3$Journal" "firstWaiting" "I", Cond.methodLink RX2 119 yX3_behind, Cond.instanceMethod yX3_behind, Cond.selects RX3 yX3_behind yX3_behind, Cond.code yX3_behind cX3_behind 2 (some .int), Cond.methodLink RX2 39 yX3_prepare, Cond.instanceMethod yX3_prepare, Cond.selects RX3 yX3_prepare yX3_prepare, Cond.code yX3_prepare cX3_prepare 6 none, Cond.methodLink RX3 31 yX3_setByte, Cond.instanceMethod yX3_setByte, Cond.selects RX3 yX3_setByte yX3_setByte, Cond.code yX3_setByte cX3_setByte 4 none, Cond.fieldLink RX3 24 "StoreLog3$Sectors" "bytes" "[B", Cond.methodLink RX3 43 yX3_setNumber, Cond.instanceMethod yX3_setNumber, Cond.selects RX3 yX3_setNumber yX3_setNumber, Cond.code yX3_setNumber cX3_setNumber 7 none, Cond.methodLink RX2 43 yX3_setByte, Cond.methodLink RX2 90 yX3_setNumber, Cond.methodLink RX2 47 yX3_seal, Cond.instanceMethod yX3_seal]
def wsX4_put_r5 : List Cond := [Cond.selects RX3 yX3_seal yX3_seal, Cond.code yX3_seal cX3_seal 2 none, Cond.methodLink RX3 39 yX3_sumOf, Cond.instanceMethod yX3_sumOf, Cond.selects RX3 yX3_sumOf yX3_sumOf, Cond.code yX3_sumOf cX3_sumOf 6 (some .int), Cond.constant RX3 47 (-2048144777)]
def wsX4_put : List Cond := .code yX4_put cX4_put 5 (some .int) :: ((wsX4_put_r1 ++ (wsX4_put_r2 ++ (wsX4_put_r3 ++ (wsX4_put_r4 ++ wsX4_put_r5)))) ++ wsX40 ++ wsX00 ++ wsX20 ++ wsX30)
def wsX4_endTransaction_r1 : List Cond := [Cond.fieldLink RX4 32 "StoreLog3" "down" "Z", Cond.fieldLink RX4 21 "StoreLog3" "dictionary" "LStoreLog3$Dictionary;", Cond.fieldLink RX4 12 "StoreLog3" "journal" "LStoreLog3$Journal;", Cond.methodLink RX4 40 yX0_isOpen, Cond.instanceMethod yX0_isOpen, Cond.selects RX0 yX0_isOpen yX0_isOpen, Cond.initialized RX0, Cond.code yX0_isOpen cX0_isOpen 2 (some .boolean), Cond.fieldLink RX0 24 "StoreLog3$Dictionary" "open" "I", Cond.static yX4_isTransaction, Cond.initialized RX4, Cond.code yX4_isTransaction cX4_isTransaction 1 (some .boolean), Cond.methodLink RX4 54 yX2_canTakeEntry, Cond.instanceMethod yX2_canTakeEntry, Cond.selects RX2 yX2_canTakeEntry yX2_canTakeEntry, Cond.initialized RX2, Cond.code yX2_canTakeEntry cX2_canTakeEntry 1 (some .boolean), Cond.fieldLink RX2 63 "StoreLog3$Journal" "entries" "I", Cond.methodLink RX2 80 yX2_hasRoom, Cond.instanceMethod yX2_hasRoom, Cond.selects RX2 yX2_hasRoom yX2_hasRoom, Cond.code yX2_hasRoom cX2_hasRoom 2 (some .boolean), Cond.fieldLink RX2 26 "StoreLog3$Journal" "disk" "LStoreLog3$Sectors;", Cond.methodLink RX2 73 yX2_needed]
def wsX4_endTransaction_r2 : List Cond := [Cond.instanceMethod yX2_needed, Cond.selects RX2 yX2_needed yX2_needed, Cond.code yX2_needed cX2_needed 1 (some .int), Cond.fieldLink RX2 57 "StoreLog3$Journal" "firstNeeded" "I", Cond.fieldLink RX2 54 "StoreLog3$Journal" "lastSector" "I", Cond.methodLink RX2 69 yX3_stepsBetween, Cond.instanceMethod yX3_stepsBetween, Cond.selects RX3 yX3_stepsBetween yX3_stepsBetween, Cond.initialized RX3, Cond.code yX3_stepsBetween cX3_stepsBetween 3 (some .int), Cond.fieldLink RX3 18 "StoreLog3$Sectors" "size" "I", Cond.methodLink RX2 77 yX3_size, Cond.instanceMethod yX3_size, Cond.selects RX3 yX3_size yX3_size, Cond.code yX3_size cX3_size 1 (some .int), Cond.methodLink RX4 62 yX2_takeEntry, Cond.instanceMethod yX2_takeEntry, Cond.selects RX2 yX2_takeEntry yX2_takeEntry, Cond.code yX2_takeEntry cX2_takeEntry 5 none, Cond.fieldLink RX2 9 "StoreLog3$Journal" "entryHeads" "[I", Cond.fieldLink RX2 15 "StoreLog3$Journal" "entryKeys" "[I", Cond.fieldLink RX2 18 "StoreLog3$Journal" "entryValues" "[I", Cond.methodLink RX2 84 yX2_writeLog, Cond.instanceMethod yX2_writeLog]
def wsX4_endTransaction_r3 : List Cond := [Cond.selects RX2 yX2_writeLog yX2_writeLog, Cond.code yX2_writeLog cX2_writeLog 3 none, Cond.fieldLink RX2 30 "StoreLog3$Journal" "memory" "LStoreLog3$Sectors;", Cond.fieldLink RX2 50 "StoreLog3$Journal" "lastSerial" "I", Cond.methodLink RX2 87 yX2_goToNext, Cond.instanceMethod yX2_goToNext, Cond.selects RX2 yX2_goToNext yX2_goToNext, Cond.code yX2_goToNext cX2_goToNext 1 none, Cond.fieldLink RX2 66 "StoreLog3$Journal" "waiting" "I", Cond.fieldLink RX2 122 "StoreLog3$Journal" "firstWaiting" "I", Cond.methodLink RX2 119 yX3_behind, Cond.instanceMethod yX3_behind, Cond.selects RX3 yX3_behind yX3_behind, Cond.code yX3_behind cX3_behind 2 (some .int), Cond.methodLink RX2 39 yX3_prepare, Cond.instanceMethod yX3_prepare, Cond.selects RX3 yX3_prepare yX3_prepare, Cond.code yX3_prepare cX3_prepare 6 none, Cond.methodLink RX3 31 yX3_setByte, Cond.instanceMethod yX3_setByte, Cond.selects RX3 yX3_setByte yX3_setByte, Cond.code yX3_setByte cX3_setByte 4 none, Cond.fieldLink RX3 24 "StoreLog3$Sectors" "bytes" "[B", Cond.methodLink RX3 43 yX3_setNumber]
def wsX4_endTransaction_r4 : List Cond := [Cond.instanceMethod yX3_setNumber, Cond.selects RX3 yX3_setNumber yX3_setNumber, Cond.code yX3_setNumber cX3_setNumber 7 none, Cond.methodLink RX2 43 yX3_setByte, Cond.methodLink RX2 90 yX3_setNumber, Cond.methodLink RX2 47 yX3_seal, Cond.instanceMethod yX3_seal, Cond.selects RX3 yX3_seal yX3_seal, Cond.code yX3_seal cX3_seal 2 none, Cond.methodLink RX3 39 yX3_sumOf, Cond.instanceMethod yX3_sumOf, Cond.selects RX3 yX3_sumOf yX3_sumOf, Cond.code yX3_sumOf cX3_sumOf 6 (some .int), Cond.constant RX3 47 (-2048144777), Cond.methodLink RX4 165 yX0_close, Cond.instanceMethod yX0_close, Cond.selects RX0 yX0_close yX0_close, Cond.code yX0_close cX0_close 5 (some .int), Cond.fieldLink RX0 18 "StoreLog3$Dictionary" "holders" "[I", Cond.fieldLink RX0 9 "StoreLog3$Dictionary" "committed" "[I", Cond.fieldLink RX0 15 "StoreLog3$Dictionary" "changed" "[I", Cond.methodLink RX0 28 yX0_isOpen]
def wsX4_endTransaction : List Cond := .code yX4_endTransaction cX4_endTransaction 3 (some .int) :: ((wsX4_endTransaction_r1 ++ (wsX4_endTransaction_r2 ++ (wsX4_endTransaction_r3 ++ wsX4_endTransaction_r4))) ++ wsX40 ++ wsX00 ++ wsX20 ++ wsX30)
def wsX4_commit_r1 : List Cond := [Cond.fieldLink RX4 70 "StoreLog3" "commits" "I", Cond.methodLink RX4 66 yX4_endTransaction, Cond.instanceMethod yX4_endTransaction, Cond.selects RX4 yX4_endTransaction yX4_endTransaction, Cond.initialized RX4, Cond.code yX4_endTransaction cX4_endTransaction 3 (some .int), Cond.fieldLink RX4 32 "StoreLog3" "down" "Z", Cond.fieldLink RX4 21 "StoreLog3" "dictionary" "LStoreLog3$Dictionary;", Cond.fieldLink RX4 12 "StoreLog3" "journal" "LStoreLog3$Journal;", Cond.methodLink RX4 40 yX0_isOpen, Cond.instanceMethod yX0_isOpen, Cond.selects RX0 yX0_isOpen yX0_isOpen, Cond.initialized RX0, Cond.code yX0_isOpen cX0_isOpen 2 (some .boolean), Cond.fieldLink RX0 24 "StoreLog3$Dictionary" "open" "I", Cond.static yX4_isTransaction, Cond.code yX4_isTransaction cX4_isTransaction 1 (some .boolean), Cond.methodLink RX4 54 yX2_canTakeEntry, Cond.instanceMethod yX2_canTakeEntry, Cond.selects RX2 yX2_canTakeEntry yX2_canTakeEntry, Cond.initialized RX2, Cond.code yX2_canTakeEntry cX2_canTakeEntry 1 (some .boolean), Cond.fieldLink RX2 63 "StoreLog3$Journal" "entries" "I", Cond.methodLink RX2 80 yX2_hasRoom]
def wsX4_commit_r2 : List Cond := [Cond.instanceMethod yX2_hasRoom, Cond.selects RX2 yX2_hasRoom yX2_hasRoom, Cond.code yX2_hasRoom cX2_hasRoom 2 (some .boolean), Cond.fieldLink RX2 26 "StoreLog3$Journal" "disk" "LStoreLog3$Sectors;", Cond.methodLink RX2 73 yX2_needed, Cond.instanceMethod yX2_needed, Cond.selects RX2 yX2_needed yX2_needed, Cond.code yX2_needed cX2_needed 1 (some .int), Cond.fieldLink RX2 57 "StoreLog3$Journal" "firstNeeded" "I", Cond.fieldLink RX2 54 "StoreLog3$Journal" "lastSector" "I", Cond.methodLink RX2 69 yX3_stepsBetween, Cond.instanceMethod yX3_stepsBetween, Cond.selects RX3 yX3_stepsBetween yX3_stepsBetween, Cond.initialized RX3, Cond.code yX3_stepsBetween cX3_stepsBetween 3 (some .int), Cond.fieldLink RX3 18 "StoreLog3$Sectors" "size" "I", Cond.methodLink RX2 77 yX3_size, Cond.instanceMethod yX3_size, Cond.selects RX3 yX3_size yX3_size, Cond.code yX3_size cX3_size 1 (some .int), Cond.methodLink RX4 62 yX2_takeEntry, Cond.instanceMethod yX2_takeEntry, Cond.selects RX2 yX2_takeEntry yX2_takeEntry, Cond.code yX2_takeEntry cX2_takeEntry 5 none]
def wsX4_commit_r3 : List Cond := [Cond.fieldLink RX2 9 "StoreLog3$Journal" "entryHeads" "[I", Cond.fieldLink RX2 15 "StoreLog3$Journal" "entryKeys" "[I", Cond.fieldLink RX2 18 "StoreLog3$Journal" "entryValues" "[I", Cond.methodLink RX2 84 yX2_writeLog, Cond.instanceMethod yX2_writeLog, Cond.selects RX2 yX2_writeLog yX2_writeLog, Cond.code yX2_writeLog cX2_writeLog 3 none, Cond.fieldLink RX2 30 "StoreLog3$Journal" "memory" "LStoreLog3$Sectors;", Cond.fieldLink RX2 50 "StoreLog3$Journal" "lastSerial" "I", Cond.methodLink RX2 87 yX2_goToNext, Cond.instanceMethod yX2_goToNext, Cond.selects RX2 yX2_goToNext yX2_goToNext, Cond.code yX2_goToNext cX2_goToNext 1 none, Cond.fieldLink RX2 66 "StoreLog3$Journal" "waiting" "I", Cond.fieldLink RX2 122 "StoreLog3$Journal" "firstWaiting" "I", Cond.methodLink RX2 119 yX3_behind, Cond.instanceMethod yX3_behind, Cond.selects RX3 yX3_behind yX3_behind, Cond.code yX3_behind cX3_behind 2 (some .int), Cond.methodLink RX2 39 yX3_prepare, Cond.instanceMethod yX3_prepare, Cond.selects RX3 yX3_prepare yX3_prepare, Cond.code yX3_prepare cX3_prepare 6 none, Cond.methodLink RX3 31 yX3_setByte]
def wsX4_commit_r4 : List Cond := [Cond.instanceMethod yX3_setByte, Cond.selects RX3 yX3_setByte yX3_setByte, Cond.code yX3_setByte cX3_setByte 4 none, Cond.fieldLink RX3 24 "StoreLog3$Sectors" "bytes" "[B", Cond.methodLink RX3 43 yX3_setNumber, Cond.instanceMethod yX3_setNumber, Cond.selects RX3 yX3_setNumber yX3_setNumber, Cond.code yX3_setNumber cX3_setNumber 7 none, Cond.methodLink RX2 43 yX3_setByte, Cond.methodLink RX2 90 yX3_setNumber, Cond.methodLink RX2 47 yX3_seal, Cond.instanceMethod yX3_seal, Cond.selects RX3 yX3_seal yX3_seal, Cond.code yX3_seal cX3_seal 2 none, Cond.methodLink RX3 39 yX3_sumOf, Cond.instanceMethod yX3_sumOf, Cond.selects RX3 yX3_sumOf yX3_sumOf, Cond.code yX3_sumOf cX3_sumOf 6 (some .int), Cond.constant RX3 47 (-2048144777), Cond.methodLink RX4 165 yX0_close, Cond.instanceMethod yX0_close, Cond.selects RX0 yX0_close yX0_close, Cond.code yX0_close cX0_close 5 (some .int), Cond.fieldLink RX0 18 "StoreLog3$Dictionary" "holders" "[I"]
def wsX4_commit_r5 : List Cond := [Cond.fieldLink RX0 9 "StoreLog3$Dictionary" "committed" "[I", Cond.fieldLink RX0 15 "StoreLog3$Dictionary" "changed" "[I", Cond.methodLink RX0 28 yX0_isOpen]
def wsX4_commit : List Cond := .code yX4_commit cX4_commit 3 (some .int) :: ((wsX4_commit_r1 ++ (wsX4_commit_r2 ++ (wsX4_commit_r3 ++ (wsX4_commit_r4 ++ wsX4_commit_r5)))) ++ wsX40 ++ wsX00 ++ wsX20 ++ wsX30)
def wsX4_undo_r1 : List Cond := [Cond.methodLink RX4 66 yX4_endTransaction, Cond.instanceMethod yX4_endTransaction, Cond.selects RX4 yX4_endTransaction yX4_endTransaction, Cond.initialized RX4, Cond.code yX4_endTransaction cX4_endTransaction 3 (some .int), Cond.fieldLink RX4 32 "StoreLog3" "down" "Z", Cond.fieldLink RX4 21 "StoreLog3" "dictionary" "LStoreLog3$Dictionary;", Cond.fieldLink RX4 12 "StoreLog3" "journal" "LStoreLog3$Journal;", Cond.methodLink RX4 40 yX0_isOpen, Cond.instanceMethod yX0_isOpen, Cond.selects RX0 yX0_isOpen yX0_isOpen, Cond.initialized RX0, Cond.code yX0_isOpen cX0_isOpen 2 (some .boolean), Cond.fieldLink RX0 24 "StoreLog3$Dictionary" "open" "I", Cond.static yX4_isTransaction, Cond.code yX4_isTransaction cX4_isTransaction 1 (some .boolean), Cond.methodLink RX4 54 yX2_canTakeEntry, Cond.instanceMethod yX2_canTakeEntry, Cond.selects RX2 yX2_canTakeEntry yX2_canTakeEntry, Cond.initialized RX2, Cond.code yX2_canTakeEntry cX2_canTakeEntry 1 (some .boolean), Cond.fieldLink RX2 63 "StoreLog3$Journal" "entries" "I", Cond.methodLink RX2 80 yX2_hasRoom, Cond.instanceMethod yX2_hasRoom]
def wsX4_undo_r2 : List Cond := [Cond.selects RX2 yX2_hasRoom yX2_hasRoom, Cond.code yX2_hasRoom cX2_hasRoom 2 (some .boolean), Cond.fieldLink RX2 26 "StoreLog3$Journal" "disk" "LStoreLog3$Sectors;", Cond.methodLink RX2 73 yX2_needed, Cond.instanceMethod yX2_needed, Cond.selects RX2 yX2_needed yX2_needed, Cond.code yX2_needed cX2_needed 1 (some .int), Cond.fieldLink RX2 57 "StoreLog3$Journal" "firstNeeded" "I", Cond.fieldLink RX2 54 "StoreLog3$Journal" "lastSector" "I", Cond.methodLink RX2 69 yX3_stepsBetween, Cond.instanceMethod yX3_stepsBetween, Cond.selects RX3 yX3_stepsBetween yX3_stepsBetween, Cond.initialized RX3, Cond.code yX3_stepsBetween cX3_stepsBetween 3 (some .int), Cond.fieldLink RX3 18 "StoreLog3$Sectors" "size" "I", Cond.methodLink RX2 77 yX3_size, Cond.instanceMethod yX3_size, Cond.selects RX3 yX3_size yX3_size, Cond.code yX3_size cX3_size 1 (some .int), Cond.methodLink RX4 62 yX2_takeEntry, Cond.instanceMethod yX2_takeEntry, Cond.selects RX2 yX2_takeEntry yX2_takeEntry, Cond.code yX2_takeEntry cX2_takeEntry 5 none, Cond.fieldLink RX2 9 "StoreLog3$Journal" "entryHeads" "[I"]
def wsX4_undo_r3 : List Cond := [Cond.fieldLink RX2 15 "StoreLog3$Journal" "entryKeys" "[I", Cond.fieldLink RX2 18 "StoreLog3$Journal" "entryValues" "[I", Cond.methodLink RX2 84 yX2_writeLog, Cond.instanceMethod yX2_writeLog, Cond.selects RX2 yX2_writeLog yX2_writeLog, Cond.code yX2_writeLog cX2_writeLog 3 none, Cond.fieldLink RX2 30 "StoreLog3$Journal" "memory" "LStoreLog3$Sectors;", Cond.fieldLink RX2 50 "StoreLog3$Journal" "lastSerial" "I", Cond.methodLink RX2 87 yX2_goToNext, Cond.instanceMethod yX2_goToNext, Cond.selects RX2 yX2_goToNext yX2_goToNext, Cond.code yX2_goToNext cX2_goToNext 1 none, Cond.fieldLink RX2 66 "StoreLog3$Journal" "waiting" "I", Cond.fieldLink RX2 122 "StoreLog3$Journal" "firstWaiting" "I", Cond.methodLink RX2 119 yX3_behind, Cond.instanceMethod yX3_behind, Cond.selects RX3 yX3_behind yX3_behind, Cond.code yX3_behind cX3_behind 2 (some .int), Cond.methodLink RX2 39 yX3_prepare, Cond.instanceMethod yX3_prepare, Cond.selects RX3 yX3_prepare yX3_prepare, Cond.code yX3_prepare cX3_prepare 6 none, Cond.methodLink RX3 31 yX3_setByte, Cond.instanceMethod yX3_setByte]
def wsX4_undo_r4 : List Cond := [Cond.selects RX3 yX3_setByte yX3_setByte, Cond.code yX3_setByte cX3_setByte 4 none, Cond.fieldLink RX3 24 "StoreLog3$Sectors" "bytes" "[B", Cond.methodLink RX3 43 yX3_setNumber, Cond.instanceMethod yX3_setNumber, Cond.selects RX3 yX3_setNumber yX3_setNumber, Cond.code yX3_setNumber cX3_setNumber 7 none, Cond.methodLink RX2 43 yX3_setByte, Cond.methodLink RX2 90 yX3_setNumber, Cond.methodLink RX2 47 yX3_seal, Cond.instanceMethod yX3_seal, Cond.selects RX3 yX3_seal yX3_seal, Cond.code yX3_seal cX3_seal 2 none, Cond.methodLink RX3 39 yX3_sumOf, Cond.instanceMethod yX3_sumOf, Cond.selects RX3 yX3_sumOf yX3_sumOf, Cond.code yX3_sumOf cX3_sumOf 6 (some .int), Cond.constant RX3 47 (-2048144777), Cond.methodLink RX4 165 yX0_close, Cond.instanceMethod yX0_close, Cond.selects RX0 yX0_close yX0_close, Cond.code yX0_close cX0_close 5 (some .int), Cond.fieldLink RX0 18 "StoreLog3$Dictionary" "holders" "[I", Cond.fieldLink RX0 9 "StoreLog3$Dictionary" "committed" "[I"]
def wsX4_undo_r5 : List Cond := [Cond.fieldLink RX0 15 "StoreLog3$Dictionary" "changed" "[I", Cond.methodLink RX0 28 yX0_isOpen]
def wsX4_undo : List Cond := .code yX4_undo cX4_undo 2 (some .int) :: ((wsX4_undo_r1 ++ (wsX4_undo_r2 ++ (wsX4_undo_r3 ++ (wsX4_undo_r4 ++ wsX4_undo_r5)))) ++ wsX40 ++ wsX00 ++ wsX20 ++ wsX30)
def wsX4_get : List Cond := .code yX4_get cX4_get 2 (some .int) :: ([.fieldLink RX4 32 "StoreLog3" "down" "Z", .fieldLink RX4 21 "StoreLog3" "dictionary" "LStoreLog3$Dictionary;", .methodLink RX4 74 yX0_committedValue, .instanceMethod yX0_committedValue, .selects RX0 yX0_committedValue yX0_committedValue, .initialized RX0, .code yX0_committedValue cX0_committedValue 2 (some .int), .fieldLink RX0 9 "StoreLog3$Dictionary" "committed" "[I", .static yX4_isKey, .initialized RX4, .code yX4_isKey cX4_isKey 1 (some .boolean)] ++ wsX40 ++ wsX00)
def wsX4_seen : List Cond := .code yX4_seen cX4_seen 3 (some .int) :: ([.fieldLink RX4 32 "StoreLog3" "down" "Z", .fieldLink RX4 21 "StoreLog3" "dictionary" "LStoreLog3$Dictionary;", .methodLink RX4 40 yX0_isOpen, .instanceMethod yX0_isOpen, .selects RX0 yX0_isOpen yX0_isOpen, .initialized RX0, .code yX0_isOpen cX0_isOpen 2 (some .boolean), .fieldLink RX0 24 "StoreLog3$Dictionary" "open" "I", .static yX4_isTransaction, .initialized RX4, .code yX4_isTransaction cX4_isTransaction 1 (some .boolean), .methodLink RX4 77 yX0_valueFor, .instanceMethod yX0_valueFor, .selects RX0 yX0_valueFor yX0_valueFor, .code yX0_valueFor cX0_valueFor 3 (some .int), .fieldLink RX0 18 "StoreLog3$Dictionary" "holders" "[I", .fieldLink RX0 15 "StoreLog3$Dictionary" "changed" "[I", .fieldLink RX0 9 "StoreLog3$Dictionary" "committed" "[I", .static yX4_isKey, .code yX4_isKey cX4_isKey 1 (some .boolean)] ++ wsX40 ++ wsX00)
def wsX4_sync_r1 : List Cond := [Cond.fieldLink RX4 32 "StoreLog3" "down" "Z", Cond.fieldLink RX4 12 "StoreLog3" "journal" "LStoreLog3$Journal;", Cond.methodLink RX4 80 yX2_logsDue, Cond.instanceMethod yX2_logsDue, Cond.selects RX2 yX2_logsDue yX2_logsDue, Cond.initialized RX2, Cond.code yX2_logsDue cX2_logsDue 1 (some .int), Cond.fieldLink RX2 63 "StoreLog3$Journal" "entries" "I", Cond.methodLink RX4 83 yX2_hasRoom, Cond.instanceMethod yX2_hasRoom, Cond.selects RX2 yX2_hasRoom yX2_hasRoom, Cond.code yX2_hasRoom cX2_hasRoom 2 (some .boolean), Cond.fieldLink RX2 26 "StoreLog3$Journal" "disk" "LStoreLog3$Sectors;", Cond.methodLink RX2 73 yX2_needed, Cond.instanceMethod yX2_needed, Cond.selects RX2 yX2_needed yX2_needed, Cond.code yX2_needed cX2_needed 1 (some .int), Cond.fieldLink RX2 57 "StoreLog3$Journal" "firstNeeded" "I", Cond.fieldLink RX2 54 "StoreLog3$Journal" "lastSector" "I", Cond.methodLink RX2 69 yX3_stepsBetween, Cond.instanceMethod yX3_stepsBetween, Cond.selects RX3 yX3_stepsBetween yX3_stepsBetween, Cond.initialized RX3, Cond.code yX3_stepsBetween cX3_stepsBetween 3 (some .int)]
def wsX4_sync_r2 : List Cond := [Cond.fieldLink RX3 18 "StoreLog3$Sectors" "size" "I", Cond.methodLink RX2 77 yX3_size, Cond.instanceMethod yX3_size, Cond.selects RX3 yX3_size yX3_size, Cond.code yX3_size cX3_size 1 (some .int), Cond.methodLink RX4 86 yX2_writeLog, Cond.instanceMethod yX2_writeLog, Cond.selects RX2 yX2_writeLog yX2_writeLog, Cond.code yX2_writeLog cX2_writeLog 3 none, Cond.fieldLink RX2 30 "StoreLog3$Journal" "memory" "LStoreLog3$Sectors;", Cond.fieldLink RX2 50 "StoreLog3$Journal" "lastSerial" "I", Cond.fieldLink RX2 9 "StoreLog3$Journal" "entryHeads" "[I", Cond.fieldLink RX2 15 "StoreLog3$Journal" "entryKeys" "[I", Cond.fieldLink RX2 18 "StoreLog3$Journal" "entryValues" "[I", Cond.methodLink RX2 87 yX2_goToNext, Cond.instanceMethod yX2_goToNext, Cond.selects RX2 yX2_goToNext yX2_goToNext, Cond.code yX2_goToNext cX2_goToNext 1 none, Cond.fieldLink RX2 66 "StoreLog3$Journal" "waiting" "I", Cond.fieldLink RX2 122 "StoreLog3$Journal" "firstWaiting" "I", Cond.methodLink RX2 119 yX3_behind, Cond.instanceMethod yX3_behind, Cond.selects RX3 yX3_behind yX3_behind, Cond.code yX3_behind cX3_behind 2 (some .int)]
def wsX4_sync_r3 : List Cond := [Cond.methodLink RX2 39 yX3_prepare, Cond.instanceMethod yX3_prepare, Cond.selects RX3 yX3_prepare yX3_prepare, Cond.code yX3_prepare cX3_prepare 6 none, Cond.methodLink RX3 31 yX3_setByte, Cond.instanceMethod yX3_setByte, Cond.selects RX3 yX3_setByte yX3_setByte, Cond.code yX3_setByte cX3_setByte 4 none, Cond.fieldLink RX3 24 "StoreLog3$Sectors" "bytes" "[B", Cond.methodLink RX3 43 yX3_setNumber, Cond.instanceMethod yX3_setNumber, Cond.selects RX3 yX3_setNumber yX3_setNumber, Cond.code yX3_setNumber cX3_setNumber 7 none, Cond.methodLink RX2 43 yX3_setByte, Cond.methodLink RX2 90 yX3_setNumber, Cond.methodLink RX2 47 yX3_seal, Cond.instanceMethod yX3_seal, Cond.selects RX3 yX3_seal yX3_seal, Cond.code yX3_seal cX3_seal 2 none, Cond.methodLink RX3 39 yX3_sumOf, Cond.instanceMethod yX3_sumOf, Cond.selects RX3 yX3_sumOf yX3_sumOf, Cond.code yX3_sumOf cX3_sumOf 6 (some .int), Cond.constant RX3 47 (-2048144777)]
def wsX4_sync_r4 : List Cond := [Cond.methodLink RX4 89 yX2_putAllOnDisk, Cond.instanceMethod yX2_putAllOnDisk, Cond.selects RX2 yX2_putAllOnDisk yX2_putAllOnDisk, Cond.code yX2_putAllOnDisk cX2_putAllOnDisk 2 (some .int), Cond.fieldLink RX2 99 "StoreLog3$Journal" "firstPageWaiting" "I", Cond.methodLink RX2 106 yX2_putOnDisk, Cond.instanceMethod yX2_putOnDisk, Cond.selects RX2 yX2_putOnDisk yX2_putOnDisk, Cond.code yX2_putOnDisk cX2_putOnDisk 4 (some .int), Cond.methodLink RX2 109 yX3_copyStart, Cond.instanceMethod yX3_copyStart, Cond.selects RX3 yX3_copyStart yX3_copyStart, Cond.code yX3_copyStart cX3_copyStart 5 none, Cond.methodLink RX3 28 yX3_byteOf, Cond.instanceMethod yX3_byteOf, Cond.selects RX3 yX3_byteOf yX3_byteOf, Cond.code yX3_byteOf cX3_byteOf 3 (some .int)]
def wsX4_sync : List Cond := .code yX4_sync cX4_sync 1 (some .int) :: ((wsX4_sync_r1 ++ (wsX4_sync_r2 ++ (wsX4_sync_r3 ++ wsX4_sync_r4))) ++ wsX40 ++ wsX20 ++ wsX30)
def wsX4_checkpoint_r1 : List Cond := [Cond.fieldLink RX4 32 "StoreLog3" "down" "Z", Cond.fieldLink RX4 21 "StoreLog3" "dictionary" "LStoreLog3$Dictionary;", Cond.fieldLink RX4 12 "StoreLog3" "journal" "LStoreLog3$Journal;", Cond.methodLink RX4 92 yX0_openBits, Cond.instanceMethod yX0_openBits, Cond.selects RX0 yX0_openBits yX0_openBits, Cond.initialized RX0, Cond.code yX0_openBits cX0_openBits 1 (some .int), Cond.fieldLink RX0 24 "StoreLog3$Dictionary" "open" "I", Cond.methodLink RX4 95 yX0_pagesDue, Cond.instanceMethod yX0_pagesDue, Cond.selects RX0 yX0_pagesDue yX0_pagesDue, Cond.code yX0_pagesDue cX0_pagesDue 4 (some .int), Cond.fieldLink RX0 9 "StoreLog3$Dictionary" "committed" "[I", Cond.methodLink RX4 80 yX2_logsDue, Cond.instanceMethod yX2_logsDue, Cond.selects RX2 yX2_logsDue yX2_logsDue, Cond.initialized RX2, Cond.code yX2_logsDue cX2_logsDue 1 (some .int), Cond.fieldLink RX2 63 "StoreLog3$Journal" "entries" "I", Cond.methodLink RX4 83 yX2_hasRoom, Cond.instanceMethod yX2_hasRoom, Cond.selects RX2 yX2_hasRoom yX2_hasRoom, Cond.code yX2_hasRoom cX2_hasRoom 2 (some .boolean)]
def wsX4_checkpoint_r2 : List Cond := [Cond.fieldLink RX2 26 "StoreLog3$Journal" "disk" "LStoreLog3$Sectors;", Cond.methodLink RX2 73 yX2_needed, Cond.instanceMethod yX2_needed, Cond.selects RX2 yX2_needed yX2_needed, Cond.code yX2_needed cX2_needed 1 (some .int), Cond.fieldLink RX2 57 "StoreLog3$Journal" "firstNeeded" "I", Cond.fieldLink RX2 54 "StoreLog3$Journal" "lastSector" "I", Cond.methodLink RX2 69 yX3_stepsBetween, Cond.instanceMethod yX3_stepsBetween, Cond.selects RX3 yX3_stepsBetween yX3_stepsBetween, Cond.initialized RX3, Cond.code yX3_stepsBetween cX3_stepsBetween 3 (some .int), Cond.fieldLink RX3 18 "StoreLog3$Sectors" "size" "I", Cond.methodLink RX2 77 yX3_size, Cond.instanceMethod yX3_size, Cond.selects RX3 yX3_size yX3_size, Cond.code yX3_size cX3_size 1 (some .int), Cond.methodLink RX4 86 yX2_writeLog, Cond.instanceMethod yX2_writeLog, Cond.selects RX2 yX2_writeLog yX2_writeLog, Cond.code yX2_writeLog cX2_writeLog 3 none, Cond.fieldLink RX2 30 "StoreLog3$Journal" "memory" "LStoreLog3$Sectors;", Cond.fieldLink RX2 50 "StoreLog3$Journal" "lastSerial" "I", Cond.fieldLink RX2 9 "StoreLog3$Journal" "entryHeads" "[I"]
def wsX4_checkpoint_r3 : List Cond := [Cond.fieldLink RX2 15 "StoreLog3$Journal" "entryKeys" "[I", Cond.fieldLink RX2 18 "StoreLog3$Journal" "entryValues" "[I", Cond.methodLink RX2 87 yX2_goToNext, Cond.instanceMethod yX2_goToNext, Cond.selects RX2 yX2_goToNext yX2_goToNext, Cond.code yX2_goToNext cX2_goToNext 1 none, Cond.fieldLink RX2 66 "StoreLog3$Journal" "waiting" "I", Cond.fieldLink RX2 122 "StoreLog3$Journal" "firstWaiting" "I", Cond.methodLink RX2 119 yX3_behind, Cond.instanceMethod yX3_behind, Cond.selects RX3 yX3_behind yX3_behind, Cond.code yX3_behind cX3_behind 2 (some .int), Cond.methodLink RX2 39 yX3_prepare, Cond.instanceMethod yX3_prepare, Cond.selects RX3 yX3_prepare yX3_prepare, Cond.code yX3_prepare cX3_prepare 6 none, Cond.methodLink RX3 31 yX3_setByte, Cond.instanceMethod yX3_setByte, Cond.selects RX3 yX3_setByte yX3_setByte, Cond.code yX3_setByte cX3_setByte 4 none, Cond.fieldLink RX3 24 "StoreLog3$Sectors" "bytes" "[B", Cond.methodLink RX3 43 yX3_setNumber, Cond.instanceMethod yX3_setNumber, Cond.selects RX3 yX3_setNumber yX3_setNumber]
def wsX4_checkpoint_r4 : List Cond := [Cond.code yX3_setNumber cX3_setNumber 7 none, Cond.methodLink RX2 43 yX3_setByte, Cond.methodLink RX2 90 yX3_setNumber, Cond.methodLink RX2 47 yX3_seal, Cond.instanceMethod yX3_seal, Cond.selects RX3 yX3_seal yX3_seal, Cond.code yX3_seal cX3_seal 2 none, Cond.methodLink RX3 39 yX3_sumOf, Cond.instanceMethod yX3_sumOf, Cond.selects RX3 yX3_sumOf yX3_sumOf, Cond.code yX3_sumOf cX3_sumOf 6 (some .int), Cond.constant RX3 47 (-2048144777), Cond.methodLink RX4 98 yX2_writePages, Cond.instanceMethod yX2_writePages, Cond.selects RX2 yX2_writePages yX2_writePages, Cond.code yX2_writePages cX2_writePages 5 none, Cond.fieldLink RX2 99 "StoreLog3$Journal" "firstPageWaiting" "I", Cond.methodLink RX2 93 yX0_nextWithValue, Cond.instanceMethod yX0_nextWithValue, Cond.selects RX0 yX0_nextWithValue yX0_nextWithValue, Cond.code yX0_nextWithValue cX0_nextWithValue 3 (some .int), Cond.methodLink RX0 38 Lib.Math.max.name, Cond.static Lib.Math.max.name, Cond.initialized "java/lang/Math"]
def wsX4_checkpoint_r5 : List Cond := [Cond.code Lib.Math.max.name Lib.Math.max.code 2 (some .int), Cond.methodLink RX2 102 yX2_writePairs, Cond.instanceMethod yX2_writePairs, Cond.selects RX2 yX2_writePairs yX2_writePairs, Cond.code yX2_writePairs cX2_writePairs 6 (some .int), Cond.methodLink RX2 116 yX0_committedValue, Cond.instanceMethod yX0_committedValue, Cond.selects RX0 yX0_committedValue yX0_committedValue, Cond.code yX0_committedValue cX0_committedValue 2 (some .int), Cond.static yX4_isKey, Cond.initialized RX4, Cond.code yX4_isKey cX4_isKey 1 (some .boolean)]
def wsX4_checkpoint : List Cond := .code yX4_checkpoint cX4_checkpoint 2 (some .int) :: ((wsX4_checkpoint_r1 ++ (wsX4_checkpoint_r2 ++ (wsX4_checkpoint_r3 ++ (wsX4_checkpoint_r4 ++ wsX4_checkpoint_r5)))) ++ wsX40 ++ wsX00 ++ wsX20 ++ wsX30)
def wsX4_cut_r1 : List Cond := [Cond.fieldLink RX4 32 "StoreLog3" "down" "Z", Cond.fieldLink RX4 12 "StoreLog3" "journal" "LStoreLog3$Journal;", Cond.fieldLink RX4 21 "StoreLog3" "dictionary" "LStoreLog3$Dictionary;", Cond.methodLink RX4 102 yX2_waiting, Cond.instanceMethod yX2_waiting, Cond.selects RX2 yX2_waiting yX2_waiting, Cond.initialized RX2, Cond.code yX2_waiting cX2_waiting 1 (some .int), Cond.fieldLink RX2 66 "StoreLog3$Journal" "waiting" "I", Cond.methodLink RX4 105 yX2_loseMemory, Cond.instanceMethod yX2_loseMemory, Cond.selects RX2 yX2_loseMemory yX2_loseMemory, Cond.code yX2_loseMemory cX2_loseMemory 4 none, Cond.fieldLink RX2 26 "StoreLog3$Journal" "disk" "LStoreLog3$Sectors;", Cond.fieldLink RX2 30 "StoreLog3$Journal" "memory" "LStoreLog3$Sectors;", Cond.methodLink RX2 106 yX2_putOnDisk, Cond.instanceMethod yX2_putOnDisk, Cond.selects RX2 yX2_putOnDisk yX2_putOnDisk, Cond.code yX2_putOnDisk cX2_putOnDisk 4 (some .int), Cond.fieldLink RX2 122 "StoreLog3$Journal" "firstWaiting" "I", Cond.methodLink RX2 109 yX3_copyStart, Cond.instanceMethod yX3_copyStart, Cond.selects RX3 yX3_copyStart yX3_copyStart, Cond.initialized RX3]
def wsX4_cut_r2 : List Cond := [Cond.code yX3_copyStart cX3_copyStart 5 none, Cond.methodLink RX3 28 yX3_byteOf, Cond.instanceMethod yX3_byteOf, Cond.selects RX3 yX3_byteOf yX3_byteOf, Cond.code yX3_byteOf cX3_byteOf 3 (some .int), Cond.fieldLink RX3 18 "StoreLog3$Sectors" "size" "I", Cond.fieldLink RX3 24 "StoreLog3$Sectors" "bytes" "[B", Cond.methodLink RX3 31 yX3_setByte, Cond.instanceMethod yX3_setByte, Cond.selects RX3 yX3_setByte yX3_setByte, Cond.code yX3_setByte cX3_setByte 4 none, Cond.methodLink RX2 119 yX3_behind, Cond.instanceMethod yX3_behind, Cond.selects RX3 yX3_behind yX3_behind, Cond.code yX3_behind cX3_behind 2 (some .int), Cond.methodLink RX2 60 yX2_forgetMemory, Cond.instanceMethod yX2_forgetMemory, Cond.selects RX2 yX2_forgetMemory yX2_forgetMemory, Cond.code yX2_forgetMemory cX2_forgetMemory 1 none, Cond.fieldLink RX2 63 "StoreLog3$Journal" "entries" "I", Cond.fieldLink RX2 99 "StoreLog3$Journal" "firstPageWaiting" "I", Cond.methodLink RX4 109 yX0_clear, Cond.instanceMethod yX0_clear, Cond.selects RX0 yX0_clear yX0_clear]
def wsX4_cut_r3 : List Cond := [Cond.initialized RX0, Cond.code yX0_clear cX0_clear 2 none, Cond.fieldLink RX0 9 "StoreLog3$Dictionary" "committed" "[I", Cond.fieldLink RX0 15 "StoreLog3$Dictionary" "changed" "[I", Cond.fieldLink RX0 18 "StoreLog3$Dictionary" "holders" "[I", Cond.fieldLink RX0 24 "StoreLog3$Dictionary" "open" "I"]
def wsX4_cut : List Cond := .code yX4_cut cX4_cut 4 (some .int) :: ((wsX4_cut_r1 ++ (wsX4_cut_r2 ++ wsX4_cut_r3)) ++ wsX40 ++ wsX20 ++ wsX30 ++ wsX00)
def wsX4_undoAllOpen_r1 : List Cond := [Cond.fieldLink RX4 21 "StoreLog3" "dictionary" "LStoreLog3$Dictionary;", Cond.fieldLink RX4 12 "StoreLog3" "journal" "LStoreLog3$Journal;", Cond.methodLink RX4 40 yX0_isOpen, Cond.instanceMethod yX0_isOpen, Cond.selects RX0 yX0_isOpen yX0_isOpen, Cond.initialized RX0, Cond.code yX0_isOpen cX0_isOpen 2 (some .boolean), Cond.fieldLink RX0 24 "StoreLog3$Dictionary" "open" "I", Cond.static yX4_isTransaction, Cond.initialized RX4, Cond.code yX4_isTransaction cX4_isTransaction 1 (some .boolean), Cond.methodLink RX4 62 yX2_takeEntry, Cond.instanceMethod yX2_takeEntry, Cond.selects RX2 yX2_takeEntry yX2_takeEntry, Cond.initialized RX2, Cond.code yX2_takeEntry cX2_takeEntry 5 none, Cond.fieldLink RX2 63 "StoreLog3$Journal" "entries" "I", Cond.fieldLink RX2 9 "StoreLog3$Journal" "entryHeads" "[I", Cond.fieldLink RX2 15 "StoreLog3$Journal" "entryKeys" "[I", Cond.fieldLink RX2 18 "StoreLog3$Journal" "entryValues" "[I", Cond.methodLink RX2 84 yX2_writeLog, Cond.instanceMethod yX2_writeLog, Cond.selects RX2 yX2_writeLog yX2_writeLog, Cond.code yX2_writeLog cX2_writeLog 3 none]
def wsX4_undoAllOpen_r2 : List Cond := [Cond.fieldLink RX2 30 "StoreLog3$Journal" "memory" "LStoreLog3$Sectors;", Cond.fieldLink RX2 54 "StoreLog3$Journal" "lastSector" "I", Cond.fieldLink RX2 50 "StoreLog3$Journal" "lastSerial" "I", Cond.methodLink RX2 87 yX2_goToNext, Cond.instanceMethod yX2_goToNext, Cond.selects RX2 yX2_goToNext yX2_goToNext, Cond.code yX2_goToNext cX2_goToNext 1 none, Cond.fieldLink RX2 26 "StoreLog3$Journal" "disk" "LStoreLog3$Sectors;", Cond.fieldLink RX2 66 "StoreLog3$Journal" "waiting" "I", Cond.fieldLink RX2 122 "StoreLog3$Journal" "firstWaiting" "I", Cond.methodLink RX2 119 yX3_behind, Cond.instanceMethod yX3_behind, Cond.selects RX3 yX3_behind yX3_behind, Cond.initialized RX3, Cond.code yX3_behind cX3_behind 2 (some .int), Cond.fieldLink RX3 18 "StoreLog3$Sectors" "size" "I", Cond.methodLink RX2 39 yX3_prepare, Cond.instanceMethod yX3_prepare, Cond.selects RX3 yX3_prepare yX3_prepare, Cond.code yX3_prepare cX3_prepare 6 none, Cond.methodLink RX3 31 yX3_setByte, Cond.instanceMethod yX3_setByte, Cond.selects RX3 yX3_setByte yX3_setByte, Cond.code yX3_setByte cX3_setByte 4 none]
def wsX4_undoAllOpen_r3 : List Cond := [Cond.fieldLink RX3 24 "StoreLog3$Sectors" "bytes" "[B", Cond.methodLink RX3 43 yX3_setNumber, Cond.instanceMethod yX3_setNumber, Cond.selects RX3 yX3_setNumber yX3_setNumber, Cond.code yX3_setNumber cX3_setNumber 7 none, Cond.methodLink RX2 43 yX3_setByte, Cond.methodLink RX2 90 yX3_setNumber, Cond.methodLink RX2 47 yX3_seal, Cond.instanceMethod yX3_seal, Cond.selects RX3 yX3_seal yX3_seal, Cond.code yX3_seal cX3_seal 2 none, Cond.methodLink RX3 39 yX3_sumOf, Cond.instanceMethod yX3_sumOf, Cond.selects RX3 yX3_sumOf yX3_sumOf, Cond.code yX3_sumOf cX3_sumOf 6 (some .int), Cond.constant RX3 47 (-2048144777), Cond.methodLink RX4 165 yX0_close, Cond.instanceMethod yX0_close, Cond.selects RX0 yX0_close yX0_close, Cond.code yX0_close cX0_close 5 (some .int), Cond.fieldLink RX0 18 "StoreLog3$Dictionary" "holders" "[I", Cond.fieldLink RX0 9 "StoreLog3$Dictionary" "committed" "[I", Cond.fieldLink RX0 15 "StoreLog3$Dictionary" "changed" "[I", Cond.methodLink RX0 28 yX0_isOpen]
def wsX4_undoAllOpen : List Cond := .code yX4_undoAllOpen cX4_undoAllOpen 3 (some .int) :: ((wsX4_undoAllOpen_r1 ++ (wsX4_undoAllOpen_r2 ++ wsX4_undoAllOpen_r3)) ++ wsX40 ++ wsX00 ++ wsX20 ++ wsX30)
def wsX4_start_r1 : List Cond := [Cond.fieldLink RX4 32 "StoreLog3" "down" "Z", Cond.fieldLink RX4 28 "StoreLog3" "finder" "LStoreLog3$Finder;", Cond.fieldLink RX4 12 "StoreLog3" "journal" "LStoreLog3$Journal;", Cond.fieldLink RX4 112 "StoreLog3$Journal" "disk" "LStoreLog3$Sectors;", Cond.fieldLink RX4 21 "StoreLog3" "dictionary" "LStoreLog3$Dictionary;", Cond.fieldLink RX4 70 "StoreLog3" "commits" "I", Cond.methodLink RX4 116 yX1_findCheckpoint, Cond.instanceMethod yX1_findCheckpoint, Cond.selects RX1 yX1_findCheckpoint yX1_findCheckpoint, Cond.initialized RX1, Cond.code yX1_findCheckpoint cX1_findCheckpoint 4 (some .boolean), Cond.fieldLink RX1 26 "StoreLog3$Finder" "pages" "I", Cond.fieldLink RX1 15 "StoreLog3$Finder" "firstPage" "I", Cond.methodLink RX1 22 yX1_lookAt, Cond.instanceMethod yX1_lookAt, Cond.selects RX1 yX1_lookAt yX1_lookAt, Cond.code yX1_lookAt cX1_lookAt 3 none, Cond.fieldLink RX1 9 "StoreLog3$Finder" "tells" "[Z", Cond.methodLink RX1 65 yX1_isLog, Cond.static yX1_isLog, Cond.code yX1_isLog cX1_isLog 5 (some .boolean), Cond.methodLink RX1 58 yX3_byteOf, Cond.instanceMethod yX3_byteOf, Cond.selects RX3 yX3_byteOf yX3_byteOf]
def wsX4_start_r2 : List Cond := [Cond.initialized RX3, Cond.code yX3_byteOf cX3_byteOf 3 (some .int), Cond.fieldLink RX3 18 "StoreLog3$Sectors" "size" "I", Cond.fieldLink RX3 24 "StoreLog3$Sectors" "bytes" "[B", Cond.static yX4_isTransaction, Cond.initialized RX4, Cond.code yX4_isTransaction cX4_isTransaction 1 (some .boolean), Cond.static yX4_isKey, Cond.code yX4_isKey cX4_isKey 1 (some .boolean), Cond.methodLink RX1 69 yX1_isPage, Cond.static yX1_isPage, Cond.code yX1_isPage cX1_isPage 4 (some .boolean), Cond.methodLink RX1 72 yX3_isSound, Cond.instanceMethod yX3_isSound, Cond.selects RX3 yX3_isSound yX3_isSound, Cond.code yX3_isSound cX3_isSound 2 (some .boolean), Cond.methodLink RX3 28 yX3_byteOf, Cond.methodLink RX3 35 yX3_numberOf, Cond.instanceMethod yX3_numberOf, Cond.selects RX3 yX3_numberOf yX3_numberOf, Cond.code yX3_numberOf cX3_numberOf 6 (some .int), Cond.methodLink RX3 39 yX3_sumOf, Cond.instanceMethod yX3_sumOf, Cond.selects RX3 yX3_sumOf yX3_sumOf]
def wsX4_start_r3 : List Cond := [Cond.code yX3_sumOf cX3_sumOf 6 (some .int), Cond.constant RX3 47 (-2048144777), Cond.methodLink RX1 29 yX3_size, Cond.instanceMethod yX3_size, Cond.selects RX3 yX3_size yX3_size, Cond.code yX3_size cX3_size 1 (some .int), Cond.methodLink RX1 35 yX1_pagesFrom, Cond.instanceMethod yX1_pagesFrom, Cond.selects RX1 yX1_pagesFrom yX1_pagesFrom, Cond.code yX1_pagesFrom cX1_pagesFrom 6 (some .int), Cond.methodLink RX1 54 yX1_isTelling, Cond.instanceMethod yX1_isTelling, Cond.selects RX1 yX1_isTelling yX1_isTelling, Cond.code yX1_isTelling cX1_isTelling 2 (some .boolean), Cond.methodLink RX1 39 yX3_serialOf, Cond.instanceMethod yX3_serialOf, Cond.selects RX3 yX3_serialOf yX3_serialOf, Cond.code yX3_serialOf cX3_serialOf 2 (some .int), Cond.methodLink RX1 51 yX3_behind, Cond.instanceMethod yX3_behind, Cond.selects RX3 yX3_behind yX3_behind, Cond.code yX3_behind cX3_behind 2 (some .int), Cond.methodLink RX1 43 yX1_isLater, Cond.static yX1_isLater]
def wsX4_start_r4 : List Cond := [Cond.code yX1_isLater cX1_isLater 2 (some .boolean), Cond.constantLong RX1 75 (4294967295), Cond.methodLink RX4 120 yX1_readPages, Cond.instanceMethod yX1_readPages, Cond.selects RX1 yX1_readPages yX1_readPages, Cond.code yX1_readPages cX1_readPages 5 none, Cond.fieldLink RX1 19 "StoreLog3$Finder" "runEnd" "I", Cond.methodLink RX1 47 yX1_readPage, Cond.static yX1_readPage, Cond.code yX1_readPage cX1_readPage 6 none, Cond.methodLink RX1 83 yX3_numberOf, Cond.methodLink RX1 87 yX0_setCommitted, Cond.instanceMethod yX0_setCommitted, Cond.selects RX0 yX0_setCommitted yX0_setCommitted, Cond.initialized RX0, Cond.code yX0_setCommitted cX0_setCommitted 3 none, Cond.fieldLink RX0 9 "StoreLog3$Dictionary" "committed" "[I", Cond.methodLink RX4 124 yX1_goOverRun, Cond.instanceMethod yX1_goOverRun, Cond.selects RX1 yX1_goOverRun yX1_goOverRun, Cond.code yX1_goOverRun cX1_goOverRun 5 none, Cond.methodLink RX1 62 yX1_goOverLog, Cond.static yX1_goOverLog, Cond.code yX1_goOverLog cX1_goOverLog 9 none]
def wsX4_start_r5 : List Cond := [Cond.methodLink RX1 93 yX0_change, Cond.instanceMethod yX0_change, Cond.selects RX0 yX0_change yX0_change, Cond.code yX0_change cX0_change 4 none, Cond.fieldLink RX0 24 "StoreLog3$Dictionary" "open" "I", Cond.fieldLink RX0 18 "StoreLog3$Dictionary" "holders" "[I", Cond.fieldLink RX0 15 "StoreLog3$Dictionary" "changed" "[I", Cond.methodLink RX1 97 yX0_close, Cond.instanceMethod yX0_close, Cond.selects RX0 yX0_close yX0_close, Cond.code yX0_close cX0_close 5 (some .int), Cond.methodLink RX0 28 yX0_isOpen, Cond.instanceMethod yX0_isOpen, Cond.selects RX0 yX0_isOpen yX0_isOpen, Cond.code yX0_isOpen cX0_isOpen 2 (some .boolean), Cond.methodLink RX4 127 yX1_firstPage, Cond.instanceMethod yX1_firstPage, Cond.selects RX1 yX1_firstPage yX1_firstPage, Cond.code yX1_firstPage cX1_firstPage 1 (some .int), Cond.methodLink RX4 130 yX1_runEnd, Cond.instanceMethod yX1_runEnd, Cond.selects RX1 yX1_runEnd yX1_runEnd, Cond.code yX1_runEnd cX1_runEnd 1 (some .int), Cond.methodLink RX4 133 yX2_goOn]
def wsX4_start_r6 : List Cond := [Cond.instanceMethod yX2_goOn, Cond.selects RX2 yX2_goOn yX2_goOn, Cond.initialized RX2, Cond.code yX2_goOn cX2_goOn 3 none, Cond.fieldLink RX2 57 "StoreLog3$Journal" "firstNeeded" "I", Cond.fieldLink RX2 54 "StoreLog3$Journal" "lastSector" "I", Cond.fieldLink RX2 26 "StoreLog3$Journal" "disk" "LStoreLog3$Sectors;", Cond.fieldLink RX2 50 "StoreLog3$Journal" "lastSerial" "I", Cond.methodLink RX2 113 yX3_serialOf, Cond.methodLink RX4 136 yX4_undoAllOpen, Cond.instanceMethod yX4_undoAllOpen, Cond.selects RX4 yX4_undoAllOpen yX4_undoAllOpen, Cond.code yX4_undoAllOpen cX4_undoAllOpen 3 (some .int), Cond.methodLink RX4 40 yX0_isOpen, Cond.methodLink RX4 62 yX2_takeEntry, Cond.instanceMethod yX2_takeEntry, Cond.selects RX2 yX2_takeEntry yX2_takeEntry, Cond.code yX2_takeEntry cX2_takeEntry 5 none, Cond.fieldLink RX2 63 "StoreLog3$Journal" "entries" "I", Cond.fieldLink RX2 9 "StoreLog3$Journal" "entryHeads" "[I", Cond.fieldLink RX2 15 "StoreLog3$Journal" "entryKeys" "[I", Cond.fieldLink RX2 18 "StoreLog3$Journal" "entryValues" "[I", Cond.methodLink RX2 84 yX2_writeLog, Cond.instanceMethod yX2_writeLog]
def wsX4_start_r7 : List Cond := [Cond.selects RX2 yX2_writeLog yX2_writeLog, Cond.code yX2_writeLog cX2_writeLog 3 none, Cond.fieldLink RX2 30 "StoreLog3$Journal" "memory" "LStoreLog3$Sectors;", Cond.methodLink RX2 87 yX2_goToNext, Cond.instanceMethod yX2_goToNext, Cond.selects RX2 yX2_goToNext yX2_goToNext, Cond.code yX2_goToNext cX2_goToNext 1 none, Cond.fieldLink RX2 66 "StoreLog3$Journal" "waiting" "I", Cond.fieldLink RX2 122 "StoreLog3$Journal" "firstWaiting" "I", Cond.methodLink RX2 119 yX3_behind, Cond.methodLink RX2 39 yX3_prepare, Cond.instanceMethod yX3_prepare, Cond.selects RX3 yX3_prepare yX3_prepare, Cond.code yX3_prepare cX3_prepare 6 none, Cond.methodLink RX3 31 yX3_setByte, Cond.instanceMethod yX3_setByte, Cond.selects RX3 yX3_setByte yX3_setByte, Cond.code yX3_setByte cX3_setByte 4 none, Cond.methodLink RX3 43 yX3_setNumber, Cond.instanceMethod yX3_setNumber, Cond.selects RX3 yX3_setNumber yX3_setNumber, Cond.code yX3_setNumber cX3_setNumber 7 none, Cond.methodLink RX2 43 yX3_setByte, Cond.methodLink RX2 90 yX3_setNumber]
def wsX4_start_r8 : List Cond := [Cond.methodLink RX2 47 yX3_seal, Cond.instanceMethod yX3_seal, Cond.selects RX3 yX3_seal yX3_seal, Cond.code yX3_seal cX3_seal 2 none, Cond.methodLink RX4 165 yX0_close]
def wsX4_start : List Cond := .code yX4_start cX4_start 1 (some .int) :: ((wsX4_start_r1 ++ (wsX4_start_r2 ++ (wsX4_start_r3 ++ (wsX4_start_r4 ++ (wsX4_start_r5 ++ (wsX4_start_r6 ++ (wsX4_start_r7 ++ wsX4_start_r8))))))) ++ wsX40 ++ wsX20 ++ wsX10 ++ wsX30 ++ wsX00)
def wsX4_at : List Cond := .code yX4_at cX4_at 3 (some .int) :: ([.fieldLink RX4 12 "StoreLog3" "journal" "LStoreLog3$Journal;", .fieldLink RX4 112 "StoreLog3$Journal" "disk" "LStoreLog3$Sectors;", .methodLink RX4 139 yX3_byteOf, .instanceMethod yX3_byteOf, .selects RX3 yX3_byteOf yX3_byteOf, .initialized RX3, .code yX3_byteOf cX3_byteOf 3 (some .int), .fieldLink RX3 18 "StoreLog3$Sectors" "size" "I", .fieldLink RX3 24 "StoreLog3$Sectors" "bytes" "[B"] ++ wsX40 ++ wsX20 ++ wsX30)
def wsX4_sound : List Cond := .code yX4_sound cX4_sound 2 (some .boolean) :: ([.fieldLink RX4 12 "StoreLog3" "journal" "LStoreLog3$Journal;", .fieldLink RX4 112 "StoreLog3$Journal" "disk" "LStoreLog3$Sectors;", .methodLink RX4 144 yX3_isSound, .instanceMethod yX3_isSound, .selects RX3 yX3_isSound yX3_isSound, .initialized RX3, .code yX3_isSound cX3_isSound 2 (some .boolean), .methodLink RX3 28 yX3_byteOf, .instanceMethod yX3_byteOf, .selects RX3 yX3_byteOf yX3_byteOf, .code yX3_byteOf cX3_byteOf 3 (some .int), .fieldLink RX3 18 "StoreLog3$Sectors" "size" "I", .fieldLink RX3 24 "StoreLog3$Sectors" "bytes" "[B", .methodLink RX3 35 yX3_numberOf, .instanceMethod yX3_numberOf, .selects RX3 yX3_numberOf yX3_numberOf, .code yX3_numberOf cX3_numberOf 6 (some .int), .methodLink RX3 39 yX3_sumOf, .instanceMethod yX3_sumOf, .selects RX3 yX3_sumOf yX3_sumOf, .code yX3_sumOf cX3_sumOf 6 (some .int), .constant RX3 47 (-2048144777)] ++ wsX40 ++ wsX20 ++ wsX30)
def wsX4_poke : List Cond := .code yX4_poke cX4_poke 5 (some .boolean) :: ([.fieldLink RX4 12 "StoreLog3" "journal" "LStoreLog3$Journal;", .fieldLink RX4 112 "StoreLog3$Journal" "disk" "LStoreLog3$Sectors;", .methodLink RX4 139 yX3_byteOf, .instanceMethod yX3_byteOf, .selects RX3 yX3_byteOf yX3_byteOf, .initialized RX3, .code yX3_byteOf cX3_byteOf 3 (some .int), .fieldLink RX3 18 "StoreLog3$Sectors" "size" "I", .fieldLink RX3 24 "StoreLog3$Sectors" "bytes" "[B", .methodLink RX4 147 yX3_setByte, .instanceMethod yX3_setByte, .selects RX3 yX3_setByte yX3_setByte, .code yX3_setByte cX3_setByte 4 none] ++ wsX40 ++ wsX20 ++ wsX30)
def wsX4_count_r1 : List Cond := [Cond.fieldLink RX4 32 "StoreLog3" "down" "Z", Cond.fieldLink RX4 12 "StoreLog3" "journal" "LStoreLog3$Journal;", Cond.fieldLink RX4 21 "StoreLog3" "dictionary" "LStoreLog3$Dictionary;", Cond.fieldLink RX4 70 "StoreLog3" "commits" "I", Cond.methodLink RX4 150 yX2_lastSerial, Cond.instanceMethod yX2_lastSerial, Cond.selects RX2 yX2_lastSerial yX2_lastSerial, Cond.initialized RX2, Cond.code yX2_lastSerial cX2_lastSerial 1 (some .int), Cond.fieldLink RX2 50 "StoreLog3$Journal" "lastSerial" "I", Cond.methodLink RX4 153 yX2_lastSector, Cond.instanceMethod yX2_lastSector, Cond.selects RX2 yX2_lastSector yX2_lastSector, Cond.code yX2_lastSector cX2_lastSector 1 (some .int), Cond.fieldLink RX2 54 "StoreLog3$Journal" "lastSector" "I", Cond.methodLink RX4 102 yX2_waiting, Cond.instanceMethod yX2_waiting, Cond.selects RX2 yX2_waiting yX2_waiting, Cond.code yX2_waiting cX2_waiting 1 (some .int), Cond.fieldLink RX2 66 "StoreLog3$Journal" "waiting" "I", Cond.methodLink RX4 156 yX2_entries, Cond.instanceMethod yX2_entries, Cond.selects RX2 yX2_entries yX2_entries, Cond.code yX2_entries cX2_entries 1 (some .int)]
def wsX4_count_r2 : List Cond := [Cond.fieldLink RX2 63 "StoreLog3$Journal" "entries" "I", Cond.methodLink RX4 159 yX2_needed, Cond.instanceMethod yX2_needed, Cond.selects RX2 yX2_needed yX2_needed, Cond.code yX2_needed cX2_needed 1 (some .int), Cond.fieldLink RX2 26 "StoreLog3$Journal" "disk" "LStoreLog3$Sectors;", Cond.fieldLink RX2 57 "StoreLog3$Journal" "firstNeeded" "I", Cond.methodLink RX2 69 yX3_stepsBetween, Cond.instanceMethod yX3_stepsBetween, Cond.selects RX3 yX3_stepsBetween yX3_stepsBetween, Cond.initialized RX3, Cond.code yX3_stepsBetween cX3_stepsBetween 3 (some .int), Cond.fieldLink RX3 18 "StoreLog3$Sectors" "size" "I", Cond.methodLink RX4 92 yX0_openBits, Cond.instanceMethod yX0_openBits, Cond.selects RX0 yX0_openBits yX0_openBits, Cond.initialized RX0, Cond.code yX0_openBits cX0_openBits 1 (some .int), Cond.fieldLink RX0 24 "StoreLog3$Dictionary" "open" "I"]
def wsX4_count : List Cond := .code yX4_count cX4_count 2 (some .int) :: ((wsX4_count_r1 ++ wsX4_count_r2) ++ wsX40 ++ wsX20 ++ wsX30 ++ wsX00)
def wsX4_holder : List Cond := .code yX4_holder cX4_holder 2 (some .int) :: ([.fieldLink RX4 32 "StoreLog3" "down" "Z", .fieldLink RX4 21 "StoreLog3" "dictionary" "LStoreLog3$Dictionary;", .methodLink RX4 50 yX0_holderOf, .instanceMethod yX0_holderOf, .selects RX0 yX0_holderOf yX0_holderOf, .initialized RX0, .code yX0_holderOf cX0_holderOf 2 (some .int), .fieldLink RX0 18 "StoreLog3$Dictionary" "holders" "[I", .static yX4_isKey, .initialized RX4, .code yX4_isKey cX4_isKey 1 (some .boolean)] ++ wsX40 ++ wsX00)
def wsX4_format_r1 : List Cond := [Cond.fieldLink RX4 32 "StoreLog3" "down" "Z", Cond.fieldLink RX4 70 "StoreLog3" "commits" "I", Cond.fieldLink RX4 12 "StoreLog3" "journal" "LStoreLog3$Journal;", Cond.fieldLink RX4 21 "StoreLog3" "dictionary" "LStoreLog3$Dictionary;", Cond.methodLink RX4 162 yX2_beginAnew, Cond.instanceMethod yX2_beginAnew, Cond.selects RX2 yX2_beginAnew yX2_beginAnew, Cond.initialized RX2, Cond.code yX2_beginAnew cX2_beginAnew 1 none, Cond.fieldLink RX2 26 "StoreLog3$Journal" "disk" "LStoreLog3$Sectors;", Cond.fieldLink RX2 50 "StoreLog3$Journal" "lastSerial" "I", Cond.fieldLink RX2 54 "StoreLog3$Journal" "lastSector" "I", Cond.fieldLink RX2 57 "StoreLog3$Journal" "firstNeeded" "I", Cond.methodLink RX2 36 yX3_clear, Cond.instanceMethod yX3_clear, Cond.selects RX3 yX3_clear yX3_clear, Cond.initialized RX3, Cond.code yX3_clear cX3_clear 2 none, Cond.fieldLink RX3 24 "StoreLog3$Sectors" "bytes" "[B", Cond.methodLink RX2 39 yX3_prepare, Cond.instanceMethod yX3_prepare, Cond.selects RX3 yX3_prepare yX3_prepare, Cond.code yX3_prepare cX3_prepare 6 none, Cond.methodLink RX3 31 yX3_setByte]
def wsX4_format_r2 : List Cond := [Cond.instanceMethod yX3_setByte, Cond.selects RX3 yX3_setByte yX3_setByte, Cond.code yX3_setByte cX3_setByte 4 none, Cond.fieldLink RX3 18 "StoreLog3$Sectors" "size" "I", Cond.methodLink RX3 43 yX3_setNumber, Cond.instanceMethod yX3_setNumber, Cond.selects RX3 yX3_setNumber yX3_setNumber, Cond.code yX3_setNumber cX3_setNumber 7 none, Cond.methodLink RX2 43 yX3_setByte, Cond.methodLink RX2 47 yX3_seal, Cond.instanceMethod yX3_seal, Cond.selects RX3 yX3_seal yX3_seal, Cond.code yX3_seal cX3_seal 2 none, Cond.methodLink RX3 39 yX3_sumOf, Cond.instanceMethod yX3_sumOf, Cond.selects RX3 yX3_sumOf yX3_sumOf, Cond.code yX3_sumOf cX3_sumOf 6 (some .int), Cond.constant RX3 47 (-2048144777), Cond.methodLink RX2 60 yX2_forgetMemory, Cond.instanceMethod yX2_forgetMemory, Cond.selects RX2 yX2_forgetMemory yX2_forgetMemory, Cond.code yX2_forgetMemory cX2_forgetMemory 1 none, Cond.fieldLink RX2 63 "StoreLog3$Journal" "entries" "I", Cond.fieldLink RX2 66 "StoreLog3$Journal" "waiting" "I"]
def wsX4_format_r3 : List Cond := [Cond.fieldLink RX2 99 "StoreLog3$Journal" "firstPageWaiting" "I", Cond.methodLink RX4 109 yX0_clear, Cond.instanceMethod yX0_clear, Cond.selects RX0 yX0_clear yX0_clear, Cond.initialized RX0, Cond.code yX0_clear cX0_clear 2 none, Cond.fieldLink RX0 9 "StoreLog3$Dictionary" "committed" "[I", Cond.fieldLink RX0 15 "StoreLog3$Dictionary" "changed" "[I", Cond.fieldLink RX0 18 "StoreLog3$Dictionary" "holders" "[I", Cond.fieldLink RX0 24 "StoreLog3$Dictionary" "open" "I"]
def wsX4_format : List Cond := .code yX4_format cX4_format 2 (some .int) :: ((wsX4_format_r1 ++ (wsX4_format_r2 ++ wsX4_format_r3)) ++ wsX40 ++ wsX20 ++ wsX30 ++ wsX00)
def wsX5_forget : List Cond := .code yX5_forget cX5_forget 2 none :: ([.fieldLink RX5 52 "StoreLog3Model" "waiting" "I", .fieldLink RX5 55 "StoreLog3Model" "entries" "I", .fieldLink RX5 58 "StoreLog3Model" "commits" "I", .fieldLink RX5 32 "StoreLog3Model" "isOpen" "[Z", .fieldLink RX5 29 "StoreLog3Model" "values" "[I", .fieldLink RX5 36 "StoreLog3Model" "holders" "[I"] ++ wsX50)
def wsX5_number : List Cond := .code yX5_number cX5_number 5 none :: ([.fieldLink RX5 42 "StoreLog3Model" "row" "[B"] ++ wsX50)
def wsX5_clearRow : List Cond := .code yX5_clearRow cX5_clearRow 4 none :: ([.fieldLink RX5 42 "StoreLog3Model" "row" "[B", .methodLink RX5 88 yX5_number, .instanceMethod yX5_number, .selects RX5 yX5_number yX5_number, .initialized RX5, .code yX5_number cX5_number 5 none] ++ wsX50)
def wsX5_step : List Cond := .code yX5_step cX5_step 3 (some .int) :: ([.constant RX5 92 (-2048144777)])
def wsX5_seal : List Cond := .code yX5_seal cX5_seal 4 none :: ([.fieldLink RX5 42 "StoreLog3Model" "row" "[B", .methodLink RX5 93 yX5_step, .static yX5_step, .initialized RX5, .code yX5_step cX5_step 3 (some .int), .constant RX5 92 (-2048144777), .methodLink RX5 88 yX5_number, .instanceMethod yX5_number, .selects RX5 yX5_number yX5_number, .code yX5_number cX5_number 5 none] ++ wsX50)
def wsX5_begin0_r1 : List Cond := [Cond.fieldLink RX5 64 "StoreLog3Model" "isDown" "Z", Cond.fieldLink RX5 45 "StoreLog3Model" "sectors" "I", Cond.fieldLink RX5 7 "StoreLog3Model" "disk" "[B", Cond.fieldLink RX5 68 "StoreLog3Model" "lastSector" "I", Cond.fieldLink RX5 71 "StoreLog3Model" "lastSerial" "I", Cond.fieldLink RX5 74 "StoreLog3Model" "newFirst" "I", Cond.fieldLink RX5 77 "StoreLog3Model" "wholeFirst" "I", Cond.fieldLink RX5 42 "StoreLog3Model" "row" "[B", Cond.methodLink RX5 61 yX5_forget, Cond.instanceMethod yX5_forget, Cond.selects RX5 yX5_forget yX5_forget, Cond.initialized RX5, Cond.code yX5_forget cX5_forget 2 none, Cond.fieldLink RX5 52 "StoreLog3Model" "waiting" "I", Cond.fieldLink RX5 55 "StoreLog3Model" "entries" "I", Cond.fieldLink RX5 58 "StoreLog3Model" "commits" "I", Cond.fieldLink RX5 32 "StoreLog3Model" "isOpen" "[Z", Cond.fieldLink RX5 29 "StoreLog3Model" "values" "[I", Cond.fieldLink RX5 36 "StoreLog3Model" "holders" "[I", Cond.methodLink RX5 80 yX5_clearRow, Cond.instanceMethod yX5_clearRow, Cond.selects RX5 yX5_clearRow yX5_clearRow, Cond.code yX5_clearRow cX5_clearRow 4 none, Cond.methodLink RX5 88 yX5_number]
def wsX5_begin0_r2 : List Cond := [Cond.instanceMethod yX5_number, Cond.selects RX5 yX5_number yX5_number, Cond.code yX5_number cX5_number 5 none, Cond.methodLink RX5 84 yX5_seal, Cond.instanceMethod yX5_seal, Cond.selects RX5 yX5_seal yX5_seal, Cond.code yX5_seal cX5_seal 4 none, Cond.methodLink RX5 93 yX5_step, Cond.static yX5_step, Cond.code yX5_step cX5_step 3 (some .int), Cond.constant RX5 92 (-2048144777)]
def wsX5_begin0 : List Cond := .code yX5_begin0 cX5_begin0 2 none :: ((wsX5_begin0_r1 ++ wsX5_begin0_r2) ++ wsX50)
def wsX5_init_r1 : List Cond := [Cond.methodLink RX5 1 objectInit, Cond.instanceMethod objectInit, Cond.code objectInit ⟨#[0xb1]⟩ 1 none, Cond.arrayClass .byte, Cond.fieldLink RX5 7 "StoreLog3Model" "disk" "[B", Cond.arrayClass .int, Cond.fieldLink RX5 13 "StoreLog3Model" "whereTo" "[I", Cond.fieldLink RX5 17 "StoreLog3Model" "waits" "[B", Cond.fieldLink RX5 20 "StoreLog3Model" "entryHeads" "[I", Cond.fieldLink RX5 23 "StoreLog3Model" "entryKeys" "[I", Cond.fieldLink RX5 26 "StoreLog3Model" "entryValues" "[I", Cond.fieldLink RX5 29 "StoreLog3Model" "values" "[I", Cond.arrayClass .boolean, Cond.fieldLink RX5 32 "StoreLog3Model" "isOpen" "[Z", Cond.fieldLink RX5 36 "StoreLog3Model" "holders" "[I", Cond.fieldLink RX5 39 "StoreLog3Model" "held" "[I", Cond.fieldLink RX5 42 "StoreLog3Model" "row" "[B", Cond.fieldLink RX5 45 "StoreLog3Model" "sectors" "I", Cond.methodLink RX5 49 yX5_begin0, Cond.instanceMethod yX5_begin0, Cond.selects RX5 yX5_begin0 yX5_begin0, Cond.initialized RX5, Cond.code yX5_begin0 cX5_begin0 2 none, Cond.fieldLink RX5 64 "StoreLog3Model" "isDown" "Z"]
def wsX5_init_r2 : List Cond := [Cond.fieldLink RX5 68 "StoreLog3Model" "lastSector" "I", Cond.fieldLink RX5 71 "StoreLog3Model" "lastSerial" "I", Cond.fieldLink RX5 74 "StoreLog3Model" "newFirst" "I", Cond.fieldLink RX5 77 "StoreLog3Model" "wholeFirst" "I", Cond.methodLink RX5 61 yX5_forget, Cond.instanceMethod yX5_forget, Cond.selects RX5 yX5_forget yX5_forget, Cond.code yX5_forget cX5_forget 2 none, Cond.fieldLink RX5 52 "StoreLog3Model" "waiting" "I", Cond.fieldLink RX5 55 "StoreLog3Model" "entries" "I", Cond.fieldLink RX5 58 "StoreLog3Model" "commits" "I", Cond.methodLink RX5 80 yX5_clearRow, Cond.instanceMethod yX5_clearRow, Cond.selects RX5 yX5_clearRow yX5_clearRow, Cond.code yX5_clearRow cX5_clearRow 4 none, Cond.methodLink RX5 88 yX5_number, Cond.instanceMethod yX5_number, Cond.selects RX5 yX5_number yX5_number, Cond.code yX5_number cX5_number 5 none, Cond.methodLink RX5 84 yX5_seal, Cond.instanceMethod yX5_seal, Cond.selects RX5 yX5_seal yX5_seal, Cond.code yX5_seal cX5_seal 4 none, Cond.methodLink RX5 93 yX5_step]
def wsX5_init_r3 : List Cond := [Cond.static yX5_step, Cond.code yX5_step cX5_step 3 (some .int), Cond.constant RX5 92 (-2048144777)]
def wsX5_init : List Cond := .code yX5_init cX5_init 2 none :: ((wsX5_init_r1 ++ (wsX5_init_r2 ++ wsX5_init_r3)) ++ wsX50)
def wsX5_isIn : List Cond := .code yX5_isIn cX5_isIn 3 (some .boolean) :: ([])
def wsX5_needed : List Cond := .code yX5_needed cX5_needed 1 (some .int) :: ([.fieldLink RX5 71 "StoreLog3Model" "lastSerial" "I", .fieldLink RX5 77 "StoreLog3Model" "wholeFirst" "I"] ++ wsX50)
def wsX5_mayWrite : List Cond := .code yX5_mayWrite cX5_mayWrite 2 (some .boolean) :: ([.fieldLink RX5 45 "StoreLog3Model" "sectors" "I", .methodLink RX5 97 yX5_needed, .instanceMethod yX5_needed, .selects RX5 yX5_needed yX5_needed, .initialized RX5, .code yX5_needed cX5_needed 1 (some .int), .fieldLink RX5 71 "StoreLog3Model" "lastSerial" "I", .fieldLink RX5 77 "StoreLog3Model" "wholeFirst" "I"] ++ wsX50)
def wsX5_write : List Cond := .code yX5_write cX5_write 2 none :: ([.fieldLink RX5 68 "StoreLog3Model" "lastSector" "I", .fieldLink RX5 45 "StoreLog3Model" "sectors" "I", .fieldLink RX5 13 "StoreLog3Model" "whereTo" "[I", .fieldLink RX5 52 "StoreLog3Model" "waiting" "I", .fieldLink RX5 17 "StoreLog3Model" "waits" "[B", .fieldLink RX5 42 "StoreLog3Model" "row" "[B", .fieldLink RX5 71 "StoreLog3Model" "lastSerial" "I", .methodLink RX5 84 yX5_seal, .instanceMethod yX5_seal, .selects RX5 yX5_seal yX5_seal, .initialized RX5, .code yX5_seal cX5_seal 4 none, .methodLink RX5 93 yX5_step, .static yX5_step, .code yX5_step cX5_step 3 (some .int), .constant RX5 92 (-2048144777), .methodLink RX5 88 yX5_number, .instanceMethod yX5_number, .selects RX5 yX5_number yX5_number, .code yX5_number cX5_number 5 none] ++ wsX50)
def wsX5_writeEntries_r1 : List Cond := [Cond.fieldLink RX5 71 "StoreLog3Model" "lastSerial" "I", Cond.fieldLink RX5 42 "StoreLog3Model" "row" "[B", Cond.fieldLink RX5 55 "StoreLog3Model" "entries" "I", Cond.fieldLink RX5 20 "StoreLog3Model" "entryHeads" "[I", Cond.fieldLink RX5 23 "StoreLog3Model" "entryKeys" "[I", Cond.fieldLink RX5 26 "StoreLog3Model" "entryValues" "[I", Cond.methodLink RX5 80 yX5_clearRow, Cond.instanceMethod yX5_clearRow, Cond.selects RX5 yX5_clearRow yX5_clearRow, Cond.initialized RX5, Cond.code yX5_clearRow cX5_clearRow 4 none, Cond.methodLink RX5 88 yX5_number, Cond.instanceMethod yX5_number, Cond.selects RX5 yX5_number yX5_number, Cond.code yX5_number cX5_number 5 none, Cond.methodLink RX5 101 yX5_write, Cond.instanceMethod yX5_write, Cond.selects RX5 yX5_write yX5_write, Cond.code yX5_write cX5_write 2 none, Cond.fieldLink RX5 68 "StoreLog3Model" "lastSector" "I", Cond.fieldLink RX5 45 "StoreLog3Model" "sectors" "I", Cond.fieldLink RX5 13 "StoreLog3Model" "whereTo" "[I", Cond.fieldLink RX5 52 "StoreLog3Model" "waiting" "I", Cond.fieldLink RX5 17 "StoreLog3Model" "waits" "[B"]
def wsX5_writeEntries_r2 : List Cond := [Cond.methodLink RX5 84 yX5_seal, Cond.instanceMethod yX5_seal, Cond.selects RX5 yX5_seal yX5_seal, Cond.code yX5_seal cX5_seal 4 none, Cond.methodLink RX5 93 yX5_step, Cond.static yX5_step, Cond.code yX5_step cX5_step 3 (some .int), Cond.constant RX5 92 (-2048144777)]
def wsX5_writeEntries : List Cond := .code yX5_writeEntries cX5_writeEntries 2 none :: ((wsX5_writeEntries_r1 ++ wsX5_writeEntries_r2) ++ wsX50)
def wsX5_add_r1 : List Cond := [Cond.fieldLink RX5 20 "StoreLog3Model" "entryHeads" "[I", Cond.fieldLink RX5 55 "StoreLog3Model" "entries" "I", Cond.fieldLink RX5 23 "StoreLog3Model" "entryKeys" "[I", Cond.fieldLink RX5 26 "StoreLog3Model" "entryValues" "[I", Cond.methodLink RX5 104 yX5_writeEntries, Cond.instanceMethod yX5_writeEntries, Cond.selects RX5 yX5_writeEntries yX5_writeEntries, Cond.initialized RX5, Cond.code yX5_writeEntries cX5_writeEntries 2 none, Cond.fieldLink RX5 71 "StoreLog3Model" "lastSerial" "I", Cond.fieldLink RX5 42 "StoreLog3Model" "row" "[B", Cond.methodLink RX5 80 yX5_clearRow, Cond.instanceMethod yX5_clearRow, Cond.selects RX5 yX5_clearRow yX5_clearRow, Cond.code yX5_clearRow cX5_clearRow 4 none, Cond.methodLink RX5 88 yX5_number, Cond.instanceMethod yX5_number, Cond.selects RX5 yX5_number yX5_number, Cond.code yX5_number cX5_number 5 none, Cond.methodLink RX5 101 yX5_write, Cond.instanceMethod yX5_write, Cond.selects RX5 yX5_write yX5_write, Cond.code yX5_write cX5_write 2 none, Cond.fieldLink RX5 68 "StoreLog3Model" "lastSector" "I"]
def wsX5_add_r2 : List Cond := [Cond.fieldLink RX5 45 "StoreLog3Model" "sectors" "I", Cond.fieldLink RX5 13 "StoreLog3Model" "whereTo" "[I", Cond.fieldLink RX5 52 "StoreLog3Model" "waiting" "I", Cond.fieldLink RX5 17 "StoreLog3Model" "waits" "[B", Cond.methodLink RX5 84 yX5_seal, Cond.instanceMethod yX5_seal, Cond.selects RX5 yX5_seal yX5_seal, Cond.code yX5_seal cX5_seal 4 none, Cond.methodLink RX5 93 yX5_step, Cond.static yX5_step, Cond.code yX5_step cX5_step 3 (some .int), Cond.constant RX5 92 (-2048144777)]
def wsX5_add : List Cond := .code yX5_add cX5_add 4 none :: ((wsX5_add_r1 ++ wsX5_add_r2) ++ wsX50)
def wsX5_mayAdd : List Cond := .code yX5_mayAdd cX5_mayAdd 1 (some .boolean) :: ([.fieldLink RX5 55 "StoreLog3Model" "entries" "I", .methodLink RX5 107 yX5_mayWrite, .instanceMethod yX5_mayWrite, .selects RX5 yX5_mayWrite yX5_mayWrite, .initialized RX5, .code yX5_mayWrite cX5_mayWrite 2 (some .boolean), .fieldLink RX5 45 "StoreLog3Model" "sectors" "I", .methodLink RX5 97 yX5_needed, .instanceMethod yX5_needed, .selects RX5 yX5_needed yX5_needed, .code yX5_needed cX5_needed 1 (some .int), .fieldLink RX5 71 "StoreLog3Model" "lastSerial" "I", .fieldLink RX5 77 "StoreLog3Model" "wholeFirst" "I"] ++ wsX50)
def wsX5_isOpenOne : List Cond := .code yX5_isOpenOne cX5_isOpenOne 2 (some .boolean) :: ([.fieldLink RX5 32 "StoreLog3Model" "isOpen" "[Z", .methodLink RX5 111 yX5_isIn, .static yX5_isIn, .initialized RX5, .code yX5_isIn cX5_isIn 3 (some .boolean)] ++ wsX50)
def wsX5_isKey : List Cond := .code yX5_isKey cX5_isKey 1 (some .boolean) :: ([.methodLink RX5 111 yX5_isIn, .static yX5_isIn, .initialized RX5, .code yX5_isIn cX5_isIn 3 (some .boolean)])
def wsX5_begin : List Cond := .code yX5_begin cX5_begin 2 (some .int) :: ([.fieldLink RX5 64 "StoreLog3Model" "isDown" "Z", .fieldLink RX5 32 "StoreLog3Model" "isOpen" "[Z"] ++ wsX50)
def wsX5_put_r1 : List Cond := [Cond.fieldLink RX5 64 "StoreLog3Model" "isDown" "Z", Cond.constant RX5 121 (16777215), Cond.fieldLink RX5 36 "StoreLog3Model" "holders" "[I", Cond.fieldLink RX5 39 "StoreLog3Model" "held" "[I", Cond.methodLink RX5 115 yX5_isOpenOne, Cond.instanceMethod yX5_isOpenOne, Cond.selects RX5 yX5_isOpenOne yX5_isOpenOne, Cond.initialized RX5, Cond.code yX5_isOpenOne cX5_isOpenOne 2 (some .boolean), Cond.fieldLink RX5 32 "StoreLog3Model" "isOpen" "[Z", Cond.methodLink RX5 111 yX5_isIn, Cond.static yX5_isIn, Cond.code yX5_isIn cX5_isIn 3 (some .boolean), Cond.methodLink RX5 118 yX5_isKey, Cond.static yX5_isKey, Cond.code yX5_isKey cX5_isKey 1 (some .boolean), Cond.methodLink RX5 122 yX5_mayAdd, Cond.instanceMethod yX5_mayAdd, Cond.selects RX5 yX5_mayAdd yX5_mayAdd, Cond.code yX5_mayAdd cX5_mayAdd 1 (some .boolean), Cond.fieldLink RX5 55 "StoreLog3Model" "entries" "I", Cond.methodLink RX5 107 yX5_mayWrite, Cond.instanceMethod yX5_mayWrite, Cond.selects RX5 yX5_mayWrite yX5_mayWrite]
def wsX5_put_r2 : List Cond := [Cond.code yX5_mayWrite cX5_mayWrite 2 (some .boolean), Cond.fieldLink RX5 45 "StoreLog3Model" "sectors" "I", Cond.methodLink RX5 97 yX5_needed, Cond.instanceMethod yX5_needed, Cond.selects RX5 yX5_needed yX5_needed, Cond.code yX5_needed cX5_needed 1 (some .int), Cond.fieldLink RX5 71 "StoreLog3Model" "lastSerial" "I", Cond.fieldLink RX5 77 "StoreLog3Model" "wholeFirst" "I", Cond.methodLink RX5 126 yX5_add, Cond.instanceMethod yX5_add, Cond.selects RX5 yX5_add yX5_add, Cond.code yX5_add cX5_add 4 none, Cond.fieldLink RX5 20 "StoreLog3Model" "entryHeads" "[I", Cond.fieldLink RX5 23 "StoreLog3Model" "entryKeys" "[I", Cond.fieldLink RX5 26 "StoreLog3Model" "entryValues" "[I", Cond.methodLink RX5 104 yX5_writeEntries, Cond.instanceMethod yX5_writeEntries, Cond.selects RX5 yX5_writeEntries yX5_writeEntries, Cond.code yX5_writeEntries cX5_writeEntries 2 none, Cond.fieldLink RX5 42 "StoreLog3Model" "row" "[B", Cond.methodLink RX5 80 yX5_clearRow, Cond.instanceMethod yX5_clearRow, Cond.selects RX5 yX5_clearRow yX5_clearRow, Cond.code yX5_clearRow cX5_clearRow 4 none]
def wsX5_put_r3 : List Cond := [Cond.methodLink RX5 88 yX5_number, Cond.instanceMethod yX5_number, Cond.selects RX5 yX5_number yX5_number, Cond.code yX5_number cX5_number 5 none, Cond.methodLink RX5 101 yX5_write, Cond.instanceMethod yX5_write, Cond.selects RX5 yX5_write yX5_write, Cond.code yX5_write cX5_write 2 none, Cond.fieldLink RX5 68 "StoreLog3Model" "lastSector" "I", Cond.fieldLink RX5 13 "StoreLog3Model" "whereTo" "[I", Cond.fieldLink RX5 52 "StoreLog3Model" "waiting" "I", Cond.fieldLink RX5 17 "StoreLog3Model" "waits" "[B", Cond.methodLink RX5 84 yX5_seal, Cond.instanceMethod yX5_seal, Cond.selects RX5 yX5_seal yX5_seal, Cond.code yX5_seal cX5_seal 4 none, Cond.methodLink RX5 93 yX5_step, Cond.static yX5_step, Cond.code yX5_step cX5_step 3 (some .int), Cond.constant RX5 92 (-2048144777)]
def wsX5_put : List Cond := .code yX5_put cX5_put 4 (some .int) :: ((wsX5_put_r1 ++ (wsX5_put_r2 ++ wsX5_put_r3)) ++ wsX50)
def wsX5_release : List Cond := .code yX5_release cX5_release 5 (some .int) :: ([.fieldLink RX5 36 "StoreLog3Model" "holders" "[I", .fieldLink RX5 29 "StoreLog3Model" "values" "[I", .fieldLink RX5 39 "StoreLog3Model" "held" "[I", .fieldLink RX5 32 "StoreLog3Model" "isOpen" "[Z"] ++ wsX50)
def wsX5_finish_r1 : List Cond := [Cond.fieldLink RX5 64 "StoreLog3Model" "isDown" "Z", Cond.fieldLink RX5 58 "StoreLog3Model" "commits" "I", Cond.methodLink RX5 115 yX5_isOpenOne, Cond.instanceMethod yX5_isOpenOne, Cond.selects RX5 yX5_isOpenOne yX5_isOpenOne, Cond.initialized RX5, Cond.code yX5_isOpenOne cX5_isOpenOne 2 (some .boolean), Cond.fieldLink RX5 32 "StoreLog3Model" "isOpen" "[Z", Cond.methodLink RX5 111 yX5_isIn, Cond.static yX5_isIn, Cond.code yX5_isIn cX5_isIn 3 (some .boolean), Cond.methodLink RX5 122 yX5_mayAdd, Cond.instanceMethod yX5_mayAdd, Cond.selects RX5 yX5_mayAdd yX5_mayAdd, Cond.code yX5_mayAdd cX5_mayAdd 1 (some .boolean), Cond.fieldLink RX5 55 "StoreLog3Model" "entries" "I", Cond.methodLink RX5 107 yX5_mayWrite, Cond.instanceMethod yX5_mayWrite, Cond.selects RX5 yX5_mayWrite yX5_mayWrite, Cond.code yX5_mayWrite cX5_mayWrite 2 (some .boolean), Cond.fieldLink RX5 45 "StoreLog3Model" "sectors" "I", Cond.methodLink RX5 97 yX5_needed, Cond.instanceMethod yX5_needed, Cond.selects RX5 yX5_needed yX5_needed]
def wsX5_finish_r2 : List Cond := [Cond.code yX5_needed cX5_needed 1 (some .int), Cond.fieldLink RX5 71 "StoreLog3Model" "lastSerial" "I", Cond.fieldLink RX5 77 "StoreLog3Model" "wholeFirst" "I", Cond.methodLink RX5 126 yX5_add, Cond.instanceMethod yX5_add, Cond.selects RX5 yX5_add yX5_add, Cond.code yX5_add cX5_add 4 none, Cond.fieldLink RX5 20 "StoreLog3Model" "entryHeads" "[I", Cond.fieldLink RX5 23 "StoreLog3Model" "entryKeys" "[I", Cond.fieldLink RX5 26 "StoreLog3Model" "entryValues" "[I", Cond.methodLink RX5 104 yX5_writeEntries, Cond.instanceMethod yX5_writeEntries, Cond.selects RX5 yX5_writeEntries yX5_writeEntries, Cond.code yX5_writeEntries cX5_writeEntries 2 none, Cond.fieldLink RX5 42 "StoreLog3Model" "row" "[B", Cond.methodLink RX5 80 yX5_clearRow, Cond.instanceMethod yX5_clearRow, Cond.selects RX5 yX5_clearRow yX5_clearRow, Cond.code yX5_clearRow cX5_clearRow 4 none, Cond.methodLink RX5 88 yX5_number, Cond.instanceMethod yX5_number, Cond.selects RX5 yX5_number yX5_number, Cond.code yX5_number cX5_number 5 none, Cond.methodLink RX5 101 yX5_write]
def wsX5_finish_r3 : List Cond := [Cond.instanceMethod yX5_write, Cond.selects RX5 yX5_write yX5_write, Cond.code yX5_write cX5_write 2 none, Cond.fieldLink RX5 68 "StoreLog3Model" "lastSector" "I", Cond.fieldLink RX5 13 "StoreLog3Model" "whereTo" "[I", Cond.fieldLink RX5 52 "StoreLog3Model" "waiting" "I", Cond.fieldLink RX5 17 "StoreLog3Model" "waits" "[B", Cond.methodLink RX5 84 yX5_seal, Cond.instanceMethod yX5_seal, Cond.selects RX5 yX5_seal yX5_seal, Cond.code yX5_seal cX5_seal 4 none, Cond.methodLink RX5 93 yX5_step, Cond.static yX5_step, Cond.code yX5_step cX5_step 3 (some .int), Cond.constant RX5 92 (-2048144777), Cond.methodLink RX5 129 yX5_release, Cond.instanceMethod yX5_release, Cond.selects RX5 yX5_release yX5_release, Cond.code yX5_release cX5_release 5 (some .int), Cond.fieldLink RX5 36 "StoreLog3Model" "holders" "[I", Cond.fieldLink RX5 29 "StoreLog3Model" "values" "[I", Cond.fieldLink RX5 39 "StoreLog3Model" "held" "[I"]
def wsX5_finish : List Cond := .code yX5_finish cX5_finish 3 (some .int) :: ((wsX5_finish_r1 ++ (wsX5_finish_r2 ++ wsX5_finish_r3)) ++ wsX50)
def wsX5_commit_r1 : List Cond := [Cond.methodLink RX5 133 yX5_finish, Cond.instanceMethod yX5_finish, Cond.selects RX5 yX5_finish yX5_finish, Cond.initialized RX5, Cond.code yX5_finish cX5_finish 3 (some .int), Cond.fieldLink RX5 64 "StoreLog3Model" "isDown" "Z", Cond.fieldLink RX5 58 "StoreLog3Model" "commits" "I", Cond.methodLink RX5 115 yX5_isOpenOne, Cond.instanceMethod yX5_isOpenOne, Cond.selects RX5 yX5_isOpenOne yX5_isOpenOne, Cond.code yX5_isOpenOne cX5_isOpenOne 2 (some .boolean), Cond.fieldLink RX5 32 "StoreLog3Model" "isOpen" "[Z", Cond.methodLink RX5 111 yX5_isIn, Cond.static yX5_isIn, Cond.code yX5_isIn cX5_isIn 3 (some .boolean), Cond.methodLink RX5 122 yX5_mayAdd, Cond.instanceMethod yX5_mayAdd, Cond.selects RX5 yX5_mayAdd yX5_mayAdd, Cond.code yX5_mayAdd cX5_mayAdd 1 (some .boolean), Cond.fieldLink RX5 55 "StoreLog3Model" "entries" "I", Cond.methodLink RX5 107 yX5_mayWrite, Cond.instanceMethod yX5_mayWrite, Cond.selects RX5 yX5_mayWrite yX5_mayWrite, Cond.code yX5_mayWrite cX5_mayWrite 2 (some .boolean)]
def wsX5_commit_r2 : List Cond := [Cond.fieldLink RX5 45 "StoreLog3Model" "sectors" "I", Cond.methodLink RX5 97 yX5_needed, Cond.instanceMethod yX5_needed, Cond.selects RX5 yX5_needed yX5_needed, Cond.code yX5_needed cX5_needed 1 (some .int), Cond.fieldLink RX5 71 "StoreLog3Model" "lastSerial" "I", Cond.fieldLink RX5 77 "StoreLog3Model" "wholeFirst" "I", Cond.methodLink RX5 126 yX5_add, Cond.instanceMethod yX5_add, Cond.selects RX5 yX5_add yX5_add, Cond.code yX5_add cX5_add 4 none, Cond.fieldLink RX5 20 "StoreLog3Model" "entryHeads" "[I", Cond.fieldLink RX5 23 "StoreLog3Model" "entryKeys" "[I", Cond.fieldLink RX5 26 "StoreLog3Model" "entryValues" "[I", Cond.methodLink RX5 104 yX5_writeEntries, Cond.instanceMethod yX5_writeEntries, Cond.selects RX5 yX5_writeEntries yX5_writeEntries, Cond.code yX5_writeEntries cX5_writeEntries 2 none, Cond.fieldLink RX5 42 "StoreLog3Model" "row" "[B", Cond.methodLink RX5 80 yX5_clearRow, Cond.instanceMethod yX5_clearRow, Cond.selects RX5 yX5_clearRow yX5_clearRow, Cond.code yX5_clearRow cX5_clearRow 4 none, Cond.methodLink RX5 88 yX5_number]
def wsX5_commit_r3 : List Cond := [Cond.instanceMethod yX5_number, Cond.selects RX5 yX5_number yX5_number, Cond.code yX5_number cX5_number 5 none, Cond.methodLink RX5 101 yX5_write, Cond.instanceMethod yX5_write, Cond.selects RX5 yX5_write yX5_write, Cond.code yX5_write cX5_write 2 none, Cond.fieldLink RX5 68 "StoreLog3Model" "lastSector" "I", Cond.fieldLink RX5 13 "StoreLog3Model" "whereTo" "[I", Cond.fieldLink RX5 52 "StoreLog3Model" "waiting" "I", Cond.fieldLink RX5 17 "StoreLog3Model" "waits" "[B", Cond.methodLink RX5 84 yX5_seal, Cond.instanceMethod yX5_seal, Cond.selects RX5 yX5_seal yX5_seal, Cond.code yX5_seal cX5_seal 4 none, Cond.methodLink RX5 93 yX5_step, Cond.static yX5_step, Cond.code yX5_step cX5_step 3 (some .int), Cond.constant RX5 92 (-2048144777), Cond.methodLink RX5 129 yX5_release, Cond.instanceMethod yX5_release, Cond.selects RX5 yX5_release yX5_release, Cond.code yX5_release cX5_release 5 (some .int), Cond.fieldLink RX5 36 "StoreLog3Model" "holders" "[I"]
def wsX5_commit_r4 : List Cond := [Cond.fieldLink RX5 29 "StoreLog3Model" "values" "[I", Cond.fieldLink RX5 39 "StoreLog3Model" "held" "[I"]
def wsX5_commit : List Cond := .code yX5_commit cX5_commit 2 (some .int) :: ((wsX5_commit_r1 ++ (wsX5_commit_r2 ++ (wsX5_commit_r3 ++ wsX5_commit_r4))) ++ wsX50)
def wsX5_undo_r1 : List Cond := [Cond.methodLink RX5 133 yX5_finish, Cond.instanceMethod yX5_finish, Cond.selects RX5 yX5_finish yX5_finish, Cond.initialized RX5, Cond.code yX5_finish cX5_finish 3 (some .int), Cond.fieldLink RX5 64 "StoreLog3Model" "isDown" "Z", Cond.fieldLink RX5 58 "StoreLog3Model" "commits" "I", Cond.methodLink RX5 115 yX5_isOpenOne, Cond.instanceMethod yX5_isOpenOne, Cond.selects RX5 yX5_isOpenOne yX5_isOpenOne, Cond.code yX5_isOpenOne cX5_isOpenOne 2 (some .boolean), Cond.fieldLink RX5 32 "StoreLog3Model" "isOpen" "[Z", Cond.methodLink RX5 111 yX5_isIn, Cond.static yX5_isIn, Cond.code yX5_isIn cX5_isIn 3 (some .boolean), Cond.methodLink RX5 122 yX5_mayAdd, Cond.instanceMethod yX5_mayAdd, Cond.selects RX5 yX5_mayAdd yX5_mayAdd, Cond.code yX5_mayAdd cX5_mayAdd 1 (some .boolean), Cond.fieldLink RX5 55 "StoreLog3Model" "entries" "I", Cond.methodLink RX5 107 yX5_mayWrite, Cond.instanceMethod yX5_mayWrite, Cond.selects RX5 yX5_mayWrite yX5_mayWrite, Cond.code yX5_mayWrite cX5_mayWrite 2 (some .boolean)]
def wsX5_undo_r2 : List Cond := [Cond.fieldLink RX5 45 "StoreLog3Model" "sectors" "I", Cond.methodLink RX5 97 yX5_needed, Cond.instanceMethod yX5_needed, Cond.selects RX5 yX5_needed yX5_needed, Cond.code yX5_needed cX5_needed 1 (some .int), Cond.fieldLink RX5 71 "StoreLog3Model" "lastSerial" "I", Cond.fieldLink RX5 77 "StoreLog3Model" "wholeFirst" "I", Cond.methodLink RX5 126 yX5_add, Cond.instanceMethod yX5_add, Cond.selects RX5 yX5_add yX5_add, Cond.code yX5_add cX5_add 4 none, Cond.fieldLink RX5 20 "StoreLog3Model" "entryHeads" "[I", Cond.fieldLink RX5 23 "StoreLog3Model" "entryKeys" "[I", Cond.fieldLink RX5 26 "StoreLog3Model" "entryValues" "[I", Cond.methodLink RX5 104 yX5_writeEntries, Cond.instanceMethod yX5_writeEntries, Cond.selects RX5 yX5_writeEntries yX5_writeEntries, Cond.code yX5_writeEntries cX5_writeEntries 2 none, Cond.fieldLink RX5 42 "StoreLog3Model" "row" "[B", Cond.methodLink RX5 80 yX5_clearRow, Cond.instanceMethod yX5_clearRow, Cond.selects RX5 yX5_clearRow yX5_clearRow, Cond.code yX5_clearRow cX5_clearRow 4 none, Cond.methodLink RX5 88 yX5_number]
def wsX5_undo_r3 : List Cond := [Cond.instanceMethod yX5_number, Cond.selects RX5 yX5_number yX5_number, Cond.code yX5_number cX5_number 5 none, Cond.methodLink RX5 101 yX5_write, Cond.instanceMethod yX5_write, Cond.selects RX5 yX5_write yX5_write, Cond.code yX5_write cX5_write 2 none, Cond.fieldLink RX5 68 "StoreLog3Model" "lastSector" "I", Cond.fieldLink RX5 13 "StoreLog3Model" "whereTo" "[I", Cond.fieldLink RX5 52 "StoreLog3Model" "waiting" "I", Cond.fieldLink RX5 17 "StoreLog3Model" "waits" "[B", Cond.methodLink RX5 84 yX5_seal, Cond.instanceMethod yX5_seal, Cond.selects RX5 yX5_seal yX5_seal, Cond.code yX5_seal cX5_seal 4 none, Cond.methodLink RX5 93 yX5_step, Cond.static yX5_step, Cond.code yX5_step cX5_step 3 (some .int), Cond.constant RX5 92 (-2048144777), Cond.methodLink RX5 129 yX5_release, Cond.instanceMethod yX5_release, Cond.selects RX5 yX5_release yX5_release, Cond.code yX5_release cX5_release 5 (some .int), Cond.fieldLink RX5 36 "StoreLog3Model" "holders" "[I"]
def wsX5_undo_r4 : List Cond := [Cond.fieldLink RX5 29 "StoreLog3Model" "values" "[I", Cond.fieldLink RX5 39 "StoreLog3Model" "held" "[I"]
def wsX5_undo : List Cond := .code yX5_undo cX5_undo 2 (some .int) :: ((wsX5_undo_r1 ++ (wsX5_undo_r2 ++ (wsX5_undo_r3 ++ wsX5_undo_r4))) ++ wsX50)
def wsX5_get : List Cond := .code yX5_get cX5_get 2 (some .int) :: ([.fieldLink RX5 64 "StoreLog3Model" "isDown" "Z", .fieldLink RX5 29 "StoreLog3Model" "values" "[I", .methodLink RX5 118 yX5_isKey, .static yX5_isKey, .initialized RX5, .code yX5_isKey cX5_isKey 1 (some .boolean), .methodLink RX5 111 yX5_isIn, .static yX5_isIn, .code yX5_isIn cX5_isIn 3 (some .boolean)] ++ wsX50)
def wsX5_seen : List Cond := .code yX5_seen cX5_seen 3 (some .int) :: ([.fieldLink RX5 64 "StoreLog3Model" "isDown" "Z", .fieldLink RX5 36 "StoreLog3Model" "holders" "[I", .fieldLink RX5 39 "StoreLog3Model" "held" "[I", .fieldLink RX5 29 "StoreLog3Model" "values" "[I", .methodLink RX5 115 yX5_isOpenOne, .instanceMethod yX5_isOpenOne, .selects RX5 yX5_isOpenOne yX5_isOpenOne, .initialized RX5, .code yX5_isOpenOne cX5_isOpenOne 2 (some .boolean), .fieldLink RX5 32 "StoreLog3Model" "isOpen" "[Z", .methodLink RX5 111 yX5_isIn, .static yX5_isIn, .code yX5_isIn cX5_isIn 3 (some .boolean), .methodLink RX5 118 yX5_isKey, .static yX5_isKey, .code yX5_isKey cX5_isKey 1 (some .boolean)] ++ wsX50)
def wsX5_lay : List Cond := .code yX5_lay cX5_lay 4 none :: ([.fieldLink RX5 7 "StoreLog3Model" "disk" "[B", .fieldLink RX5 13 "StoreLog3Model" "whereTo" "[I", .fieldLink RX5 17 "StoreLog3Model" "waits" "[B"] ++ wsX50)
def wsX5_sync_r1 : List Cond := [Cond.fieldLink RX5 64 "StoreLog3Model" "isDown" "Z", Cond.fieldLink RX5 55 "StoreLog3Model" "entries" "I", Cond.fieldLink RX5 52 "StoreLog3Model" "waiting" "I", Cond.fieldLink RX5 74 "StoreLog3Model" "newFirst" "I", Cond.fieldLink RX5 77 "StoreLog3Model" "wholeFirst" "I", Cond.methodLink RX5 107 yX5_mayWrite, Cond.instanceMethod yX5_mayWrite, Cond.selects RX5 yX5_mayWrite yX5_mayWrite, Cond.initialized RX5, Cond.code yX5_mayWrite cX5_mayWrite 2 (some .boolean), Cond.fieldLink RX5 45 "StoreLog3Model" "sectors" "I", Cond.methodLink RX5 97 yX5_needed, Cond.instanceMethod yX5_needed, Cond.selects RX5 yX5_needed yX5_needed, Cond.code yX5_needed cX5_needed 1 (some .int), Cond.fieldLink RX5 71 "StoreLog3Model" "lastSerial" "I", Cond.methodLink RX5 104 yX5_writeEntries, Cond.instanceMethod yX5_writeEntries, Cond.selects RX5 yX5_writeEntries yX5_writeEntries, Cond.code yX5_writeEntries cX5_writeEntries 2 none, Cond.fieldLink RX5 42 "StoreLog3Model" "row" "[B", Cond.fieldLink RX5 20 "StoreLog3Model" "entryHeads" "[I", Cond.fieldLink RX5 23 "StoreLog3Model" "entryKeys" "[I", Cond.fieldLink RX5 26 "StoreLog3Model" "entryValues" "[I"]
def wsX5_sync_r2 : List Cond := [Cond.methodLink RX5 80 yX5_clearRow, Cond.instanceMethod yX5_clearRow, Cond.selects RX5 yX5_clearRow yX5_clearRow, Cond.code yX5_clearRow cX5_clearRow 4 none, Cond.methodLink RX5 88 yX5_number, Cond.instanceMethod yX5_number, Cond.selects RX5 yX5_number yX5_number, Cond.code yX5_number cX5_number 5 none, Cond.methodLink RX5 101 yX5_write, Cond.instanceMethod yX5_write, Cond.selects RX5 yX5_write yX5_write, Cond.code yX5_write cX5_write 2 none, Cond.fieldLink RX5 68 "StoreLog3Model" "lastSector" "I", Cond.fieldLink RX5 13 "StoreLog3Model" "whereTo" "[I", Cond.fieldLink RX5 17 "StoreLog3Model" "waits" "[B", Cond.methodLink RX5 84 yX5_seal, Cond.instanceMethod yX5_seal, Cond.selects RX5 yX5_seal yX5_seal, Cond.code yX5_seal cX5_seal 4 none, Cond.methodLink RX5 93 yX5_step, Cond.static yX5_step, Cond.code yX5_step cX5_step 3 (some .int), Cond.constant RX5 92 (-2048144777), Cond.methodLink RX5 136 yX5_lay]
def wsX5_sync_r3 : List Cond := [Cond.instanceMethod yX5_lay, Cond.selects RX5 yX5_lay yX5_lay, Cond.code yX5_lay cX5_lay 4 none, Cond.fieldLink RX5 7 "StoreLog3Model" "disk" "[B"]
def wsX5_sync : List Cond := .code yX5_sync cX5_sync 3 (some .int) :: ((wsX5_sync_r1 ++ (wsX5_sync_r2 ++ wsX5_sync_r3)) ++ wsX50)
def wsX5_checkpoint_r1 : List Cond := [Cond.fieldLink RX5 64 "StoreLog3Model" "isDown" "Z", Cond.fieldLink RX5 32 "StoreLog3Model" "isOpen" "[Z", Cond.fieldLink RX5 29 "StoreLog3Model" "values" "[I", Cond.fieldLink RX5 55 "StoreLog3Model" "entries" "I", Cond.fieldLink RX5 71 "StoreLog3Model" "lastSerial" "I", Cond.fieldLink RX5 74 "StoreLog3Model" "newFirst" "I", Cond.fieldLink RX5 42 "StoreLog3Model" "row" "[B", Cond.methodLink RX5 107 yX5_mayWrite, Cond.instanceMethod yX5_mayWrite, Cond.selects RX5 yX5_mayWrite yX5_mayWrite, Cond.initialized RX5, Cond.code yX5_mayWrite cX5_mayWrite 2 (some .boolean), Cond.fieldLink RX5 45 "StoreLog3Model" "sectors" "I", Cond.methodLink RX5 97 yX5_needed, Cond.instanceMethod yX5_needed, Cond.selects RX5 yX5_needed yX5_needed, Cond.code yX5_needed cX5_needed 1 (some .int), Cond.fieldLink RX5 77 "StoreLog3Model" "wholeFirst" "I", Cond.methodLink RX5 104 yX5_writeEntries, Cond.instanceMethod yX5_writeEntries, Cond.selects RX5 yX5_writeEntries yX5_writeEntries, Cond.code yX5_writeEntries cX5_writeEntries 2 none, Cond.fieldLink RX5 20 "StoreLog3Model" "entryHeads" "[I", Cond.fieldLink RX5 23 "StoreLog3Model" "entryKeys" "[I"]
def wsX5_checkpoint_r2 : List Cond := [Cond.fieldLink RX5 26 "StoreLog3Model" "entryValues" "[I", Cond.methodLink RX5 80 yX5_clearRow, Cond.instanceMethod yX5_clearRow, Cond.selects RX5 yX5_clearRow yX5_clearRow, Cond.code yX5_clearRow cX5_clearRow 4 none, Cond.methodLink RX5 88 yX5_number, Cond.instanceMethod yX5_number, Cond.selects RX5 yX5_number yX5_number, Cond.code yX5_number cX5_number 5 none, Cond.methodLink RX5 101 yX5_write, Cond.instanceMethod yX5_write, Cond.selects RX5 yX5_write yX5_write, Cond.code yX5_write cX5_write 2 none, Cond.fieldLink RX5 68 "StoreLog3Model" "lastSector" "I", Cond.fieldLink RX5 13 "StoreLog3Model" "whereTo" "[I", Cond.fieldLink RX5 52 "StoreLog3Model" "waiting" "I", Cond.fieldLink RX5 17 "StoreLog3Model" "waits" "[B", Cond.methodLink RX5 84 yX5_seal, Cond.instanceMethod yX5_seal, Cond.selects RX5 yX5_seal yX5_seal, Cond.code yX5_seal cX5_seal 4 none, Cond.methodLink RX5 93 yX5_step, Cond.static yX5_step, Cond.code yX5_step cX5_step 3 (some .int)]
def wsX5_checkpoint_r3 : List Cond := [Cond.constant RX5 92 (-2048144777)]
def wsX5_checkpoint : List Cond := .code yX5_checkpoint cX5_checkpoint 6 (some .int) :: ((wsX5_checkpoint_r1 ++ (wsX5_checkpoint_r2 ++ wsX5_checkpoint_r3)) ++ wsX50)
def wsX5_cut : List Cond := .code yX5_cut cX5_cut 5 (some .int) :: ([.fieldLink RX5 64 "StoreLog3Model" "isDown" "Z", .fieldLink RX5 52 "StoreLog3Model" "waiting" "I", .methodLink RX5 111 yX5_isIn, .static yX5_isIn, .initialized RX5, .code yX5_isIn cX5_isIn 3 (some .boolean), .methodLink RX5 136 yX5_lay, .instanceMethod yX5_lay, .selects RX5 yX5_lay yX5_lay, .code yX5_lay cX5_lay 4 none, .fieldLink RX5 7 "StoreLog3Model" "disk" "[B", .fieldLink RX5 13 "StoreLog3Model" "whereTo" "[I", .fieldLink RX5 17 "StoreLog3Model" "waits" "[B", .methodLink RX5 61 yX5_forget, .instanceMethod yX5_forget, .selects RX5 yX5_forget yX5_forget, .code yX5_forget cX5_forget 2 none, .fieldLink RX5 55 "StoreLog3Model" "entries" "I", .fieldLink RX5 58 "StoreLog3Model" "commits" "I", .fieldLink RX5 32 "StoreLog3Model" "isOpen" "[Z", .fieldLink RX5 29 "StoreLog3Model" "values" "[I", .fieldLink RX5 36 "StoreLog3Model" "holders" "[I"] ++ wsX50)
def wsX5_byteAt : List Cond := .code yX5_byteAt cX5_byteAt 3 (some .int) :: ([.fieldLink RX5 7 "StoreLog3Model" "disk" "[B"] ++ wsX50)
def wsX5_numberAt : List Cond := .code yX5_numberAt cX5_numberAt 6 (some .int) :: ([.methodLink RX5 139 yX5_byteAt, .instanceMethod yX5_byteAt, .selects RX5 yX5_byteAt yX5_byteAt, .initialized RX5, .code yX5_byteAt cX5_byteAt 3 (some .int), .fieldLink RX5 7 "StoreLog3Model" "disk" "[B"] ++ wsX50)
def wsX5_isSound : List Cond := .code yX5_isSound cX5_isSound 4 (some .boolean) :: ([.methodLink RX5 139 yX5_byteAt, .instanceMethod yX5_byteAt, .selects RX5 yX5_byteAt yX5_byteAt, .initialized RX5, .code yX5_byteAt cX5_byteAt 3 (some .int), .fieldLink RX5 7 "StoreLog3Model" "disk" "[B", .methodLink RX5 93 yX5_step, .static yX5_step, .code yX5_step cX5_step 3 (some .int), .constant RX5 92 (-2048144777), .methodLink RX5 142 yX5_numberAt, .instanceMethod yX5_numberAt, .selects RX5 yX5_numberAt yX5_numberAt, .code yX5_numberAt cX5_numberAt 6 (some .int)] ++ wsX50)
def wsX5_tells : List Cond := .code yX5_tells cX5_tells 6 (some .boolean) :: ([.methodLink RX5 139 yX5_byteAt, .instanceMethod yX5_byteAt, .selects RX5 yX5_byteAt yX5_byteAt, .initialized RX5, .code yX5_byteAt cX5_byteAt 3 (some .int), .fieldLink RX5 7 "StoreLog3Model" "disk" "[B", .methodLink RX5 146 yX5_isSound, .instanceMethod yX5_isSound, .selects RX5 yX5_isSound yX5_isSound, .code yX5_isSound cX5_isSound 4 (some .boolean), .methodLink RX5 93 yX5_step, .static yX5_step, .code yX5_step cX5_step 3 (some .int), .constant RX5 92 (-2048144777), .methodLink RX5 142 yX5_numberAt, .instanceMethod yX5_numberAt, .selects RX5 yX5_numberAt yX5_numberAt, .code yX5_numberAt cX5_numberAt 6 (some .int)] ++ wsX50)
def wsX5_serialAt : List Cond := .code yX5_serialAt cX5_serialAt 2 (some .int) :: ([.methodLink RX5 142 yX5_numberAt, .instanceMethod yX5_numberAt, .selects RX5 yX5_numberAt yX5_numberAt, .initialized RX5, .code yX5_numberAt cX5_numberAt 6 (some .int), .methodLink RX5 139 yX5_byteAt, .instanceMethod yX5_byteAt, .selects RX5 yX5_byteAt yX5_byteAt, .code yX5_byteAt cX5_byteAt 3 (some .int), .fieldLink RX5 7 "StoreLog3Model" "disk" "[B"] ++ wsX50)
def wsX5_pagesFrom_r1 : List Cond := [Cond.fieldLink RX5 45 "StoreLog3Model" "sectors" "I", Cond.methodLink RX5 139 yX5_byteAt, Cond.instanceMethod yX5_byteAt, Cond.selects RX5 yX5_byteAt yX5_byteAt, Cond.initialized RX5, Cond.code yX5_byteAt cX5_byteAt 3 (some .int), Cond.fieldLink RX5 7 "StoreLog3Model" "disk" "[B", Cond.methodLink RX5 149 yX5_tells, Cond.instanceMethod yX5_tells, Cond.selects RX5 yX5_tells yX5_tells, Cond.code yX5_tells cX5_tells 6 (some .boolean), Cond.methodLink RX5 146 yX5_isSound, Cond.instanceMethod yX5_isSound, Cond.selects RX5 yX5_isSound yX5_isSound, Cond.code yX5_isSound cX5_isSound 4 (some .boolean), Cond.methodLink RX5 93 yX5_step, Cond.static yX5_step, Cond.code yX5_step cX5_step 3 (some .int), Cond.constant RX5 92 (-2048144777), Cond.methodLink RX5 142 yX5_numberAt, Cond.instanceMethod yX5_numberAt, Cond.selects RX5 yX5_numberAt yX5_numberAt, Cond.code yX5_numberAt cX5_numberAt 6 (some .int), Cond.methodLink RX5 152 yX5_serialAt]
def wsX5_pagesFrom_r2 : List Cond := [Cond.instanceMethod yX5_serialAt, Cond.selects RX5 yX5_serialAt yX5_serialAt, Cond.code yX5_serialAt cX5_serialAt 2 (some .int)]
def wsX5_pagesFrom : List Cond := .code yX5_pagesFrom cX5_pagesFrom 6 (some .int) :: ((wsX5_pagesFrom_r1 ++ wsX5_pagesFrom_r2) ++ wsX50)
def wsX5_redo : List Cond := .code yX5_redo cX5_redo 7 none :: ([.fieldLink RX5 32 "StoreLog3Model" "isOpen" "[Z", .fieldLink RX5 36 "StoreLog3Model" "holders" "[I", .fieldLink RX5 39 "StoreLog3Model" "held" "[I", .methodLink RX5 139 yX5_byteAt, .instanceMethod yX5_byteAt, .selects RX5 yX5_byteAt yX5_byteAt, .initialized RX5, .code yX5_byteAt cX5_byteAt 3 (some .int), .fieldLink RX5 7 "StoreLog3Model" "disk" "[B", .methodLink RX5 142 yX5_numberAt, .instanceMethod yX5_numberAt, .selects RX5 yX5_numberAt yX5_numberAt, .code yX5_numberAt cX5_numberAt 6 (some .int), .methodLink RX5 129 yX5_release, .instanceMethod yX5_release, .selects RX5 yX5_release yX5_release, .code yX5_release cX5_release 5 (some .int), .fieldLink RX5 29 "StoreLog3Model" "values" "[I"] ++ wsX50)
def wsX5_start_r1 : List Cond := [Cond.fieldLink RX5 64 "StoreLog3Model" "isDown" "Z", Cond.fieldLink RX5 45 "StoreLog3Model" "sectors" "I", Cond.constant RX5 156 (-2147483648), Cond.fieldLink RX5 29 "StoreLog3Model" "values" "[I", Cond.fieldLink RX5 77 "StoreLog3Model" "wholeFirst" "I", Cond.fieldLink RX5 74 "StoreLog3Model" "newFirst" "I", Cond.fieldLink RX5 71 "StoreLog3Model" "lastSerial" "I", Cond.fieldLink RX5 68 "StoreLog3Model" "lastSector" "I", Cond.fieldLink RX5 32 "StoreLog3Model" "isOpen" "[Z", Cond.methodLink RX5 152 yX5_serialAt, Cond.instanceMethod yX5_serialAt, Cond.selects RX5 yX5_serialAt yX5_serialAt, Cond.initialized RX5, Cond.code yX5_serialAt cX5_serialAt 2 (some .int), Cond.methodLink RX5 142 yX5_numberAt, Cond.instanceMethod yX5_numberAt, Cond.selects RX5 yX5_numberAt yX5_numberAt, Cond.code yX5_numberAt cX5_numberAt 6 (some .int), Cond.methodLink RX5 139 yX5_byteAt, Cond.instanceMethod yX5_byteAt, Cond.selects RX5 yX5_byteAt yX5_byteAt, Cond.code yX5_byteAt cX5_byteAt 3 (some .int), Cond.fieldLink RX5 7 "StoreLog3Model" "disk" "[B", Cond.methodLink RX5 157 yX5_pagesFrom]
def wsX5_start_r2 : List Cond := [Cond.instanceMethod yX5_pagesFrom, Cond.selects RX5 yX5_pagesFrom yX5_pagesFrom, Cond.code yX5_pagesFrom cX5_pagesFrom 6 (some .int), Cond.methodLink RX5 149 yX5_tells, Cond.instanceMethod yX5_tells, Cond.selects RX5 yX5_tells yX5_tells, Cond.code yX5_tells cX5_tells 6 (some .boolean), Cond.methodLink RX5 146 yX5_isSound, Cond.instanceMethod yX5_isSound, Cond.selects RX5 yX5_isSound yX5_isSound, Cond.code yX5_isSound cX5_isSound 4 (some .boolean), Cond.methodLink RX5 93 yX5_step, Cond.static yX5_step, Cond.code yX5_step cX5_step 3 (some .int), Cond.constant RX5 92 (-2048144777), Cond.methodLink RX5 61 yX5_forget, Cond.instanceMethod yX5_forget, Cond.selects RX5 yX5_forget yX5_forget, Cond.code yX5_forget cX5_forget 2 none, Cond.fieldLink RX5 52 "StoreLog3Model" "waiting" "I", Cond.fieldLink RX5 55 "StoreLog3Model" "entries" "I", Cond.fieldLink RX5 58 "StoreLog3Model" "commits" "I", Cond.fieldLink RX5 36 "StoreLog3Model" "holders" "[I", Cond.methodLink RX5 160 yX5_redo]
def wsX5_start_r3 : List Cond := [Cond.instanceMethod yX5_redo, Cond.selects RX5 yX5_redo yX5_redo, Cond.code yX5_redo cX5_redo 7 none, Cond.fieldLink RX5 39 "StoreLog3Model" "held" "[I", Cond.methodLink RX5 129 yX5_release, Cond.instanceMethod yX5_release, Cond.selects RX5 yX5_release yX5_release, Cond.code yX5_release cX5_release 5 (some .int), Cond.methodLink RX5 126 yX5_add, Cond.instanceMethod yX5_add, Cond.selects RX5 yX5_add yX5_add, Cond.code yX5_add cX5_add 4 none, Cond.fieldLink RX5 20 "StoreLog3Model" "entryHeads" "[I", Cond.fieldLink RX5 23 "StoreLog3Model" "entryKeys" "[I", Cond.fieldLink RX5 26 "StoreLog3Model" "entryValues" "[I", Cond.methodLink RX5 104 yX5_writeEntries, Cond.instanceMethod yX5_writeEntries, Cond.selects RX5 yX5_writeEntries yX5_writeEntries, Cond.code yX5_writeEntries cX5_writeEntries 2 none, Cond.fieldLink RX5 42 "StoreLog3Model" "row" "[B", Cond.methodLink RX5 80 yX5_clearRow, Cond.instanceMethod yX5_clearRow, Cond.selects RX5 yX5_clearRow yX5_clearRow, Cond.code yX5_clearRow cX5_clearRow 4 none]
def wsX5_start_r4 : List Cond := [Cond.methodLink RX5 88 yX5_number, Cond.instanceMethod yX5_number, Cond.selects RX5 yX5_number yX5_number, Cond.code yX5_number cX5_number 5 none, Cond.methodLink RX5 101 yX5_write, Cond.instanceMethod yX5_write, Cond.selects RX5 yX5_write yX5_write, Cond.code yX5_write cX5_write 2 none, Cond.fieldLink RX5 13 "StoreLog3Model" "whereTo" "[I", Cond.fieldLink RX5 17 "StoreLog3Model" "waits" "[B", Cond.methodLink RX5 84 yX5_seal, Cond.instanceMethod yX5_seal, Cond.selects RX5 yX5_seal yX5_seal, Cond.code yX5_seal cX5_seal 4 none]
def wsX5_start : List Cond := .code yX5_start cX5_start 7 (some .int) :: ((wsX5_start_r1 ++ (wsX5_start_r2 ++ (wsX5_start_r3 ++ wsX5_start_r4))) ++ wsX50)
def wsX5_at : List Cond := .code yX5_at cX5_at 3 (some .int) :: ([.fieldLink RX5 45 "StoreLog3Model" "sectors" "I", .methodLink RX5 111 yX5_isIn, .static yX5_isIn, .initialized RX5, .code yX5_isIn cX5_isIn 3 (some .boolean), .methodLink RX5 139 yX5_byteAt, .instanceMethod yX5_byteAt, .selects RX5 yX5_byteAt yX5_byteAt, .code yX5_byteAt cX5_byteAt 3 (some .int), .fieldLink RX5 7 "StoreLog3Model" "disk" "[B"] ++ wsX50)
def wsX5_sound : List Cond := .code yX5_sound cX5_sound 2 (some .boolean) :: ([.fieldLink RX5 45 "StoreLog3Model" "sectors" "I", .methodLink RX5 111 yX5_isIn, .static yX5_isIn, .initialized RX5, .code yX5_isIn cX5_isIn 3 (some .boolean), .methodLink RX5 146 yX5_isSound, .instanceMethod yX5_isSound, .selects RX5 yX5_isSound yX5_isSound, .code yX5_isSound cX5_isSound 4 (some .boolean), .methodLink RX5 139 yX5_byteAt, .instanceMethod yX5_byteAt, .selects RX5 yX5_byteAt yX5_byteAt, .code yX5_byteAt cX5_byteAt 3 (some .int), .fieldLink RX5 7 "StoreLog3Model" "disk" "[B", .methodLink RX5 93 yX5_step, .static yX5_step, .code yX5_step cX5_step 3 (some .int), .constant RX5 92 (-2048144777), .methodLink RX5 142 yX5_numberAt, .instanceMethod yX5_numberAt, .selects RX5 yX5_numberAt yX5_numberAt, .code yX5_numberAt cX5_numberAt 6 (some .int)] ++ wsX50)
def wsX5_poke : List Cond := .code yX5_poke cX5_poke 4 (some .boolean) :: ([.fieldLink RX5 45 "StoreLog3Model" "sectors" "I", .fieldLink RX5 7 "StoreLog3Model" "disk" "[B", .methodLink RX5 111 yX5_isIn, .static yX5_isIn, .initialized RX5, .code yX5_isIn cX5_isIn 3 (some .boolean)] ++ wsX50)
def wsX5_count : List Cond := .code yX5_count cX5_count 2 (some .int) :: ([.fieldLink RX5 64 "StoreLog3Model" "isDown" "Z", .fieldLink RX5 71 "StoreLog3Model" "lastSerial" "I", .fieldLink RX5 68 "StoreLog3Model" "lastSector" "I", .fieldLink RX5 52 "StoreLog3Model" "waiting" "I", .fieldLink RX5 55 "StoreLog3Model" "entries" "I", .fieldLink RX5 32 "StoreLog3Model" "isOpen" "[Z", .fieldLink RX5 58 "StoreLog3Model" "commits" "I", .methodLink RX5 97 yX5_needed, .instanceMethod yX5_needed, .selects RX5 yX5_needed yX5_needed, .initialized RX5, .code yX5_needed cX5_needed 1 (some .int), .fieldLink RX5 77 "StoreLog3Model" "wholeFirst" "I"] ++ wsX50)
def wsX5_holder : List Cond := .code yX5_holder cX5_holder 2 (some .int) :: ([.fieldLink RX5 64 "StoreLog3Model" "isDown" "Z", .fieldLink RX5 36 "StoreLog3Model" "holders" "[I", .methodLink RX5 118 yX5_isKey, .static yX5_isKey, .initialized RX5, .code yX5_isKey cX5_isKey 1 (some .boolean), .methodLink RX5 111 yX5_isIn, .static yX5_isIn, .code yX5_isIn cX5_isIn 3 (some .boolean)] ++ wsX50)
def wsX5_format_r1 : List Cond := [Cond.fieldLink RX5 64 "StoreLog3Model" "isDown" "Z", Cond.fieldLink RX5 58 "StoreLog3Model" "commits" "I", Cond.methodLink RX5 49 yX5_begin0, Cond.instanceMethod yX5_begin0, Cond.selects RX5 yX5_begin0 yX5_begin0, Cond.initialized RX5, Cond.code yX5_begin0 cX5_begin0 2 none, Cond.fieldLink RX5 45 "StoreLog3Model" "sectors" "I", Cond.fieldLink RX5 7 "StoreLog3Model" "disk" "[B", Cond.fieldLink RX5 68 "StoreLog3Model" "lastSector" "I", Cond.fieldLink RX5 71 "StoreLog3Model" "lastSerial" "I", Cond.fieldLink RX5 74 "StoreLog3Model" "newFirst" "I", Cond.fieldLink RX5 77 "StoreLog3Model" "wholeFirst" "I", Cond.fieldLink RX5 42 "StoreLog3Model" "row" "[B", Cond.methodLink RX5 61 yX5_forget, Cond.instanceMethod yX5_forget, Cond.selects RX5 yX5_forget yX5_forget, Cond.code yX5_forget cX5_forget 2 none, Cond.fieldLink RX5 52 "StoreLog3Model" "waiting" "I", Cond.fieldLink RX5 55 "StoreLog3Model" "entries" "I", Cond.fieldLink RX5 32 "StoreLog3Model" "isOpen" "[Z", Cond.fieldLink RX5 29 "StoreLog3Model" "values" "[I", Cond.fieldLink RX5 36 "StoreLog3Model" "holders" "[I", Cond.methodLink RX5 80 yX5_clearRow]
def wsX5_format_r2 : List Cond := [Cond.instanceMethod yX5_clearRow, Cond.selects RX5 yX5_clearRow yX5_clearRow, Cond.code yX5_clearRow cX5_clearRow 4 none, Cond.methodLink RX5 88 yX5_number, Cond.instanceMethod yX5_number, Cond.selects RX5 yX5_number yX5_number, Cond.code yX5_number cX5_number 5 none, Cond.methodLink RX5 84 yX5_seal, Cond.instanceMethod yX5_seal, Cond.selects RX5 yX5_seal yX5_seal, Cond.code yX5_seal cX5_seal 4 none, Cond.methodLink RX5 93 yX5_step, Cond.static yX5_step, Cond.code yX5_step cX5_step 3 (some .int), Cond.constant RX5 92 (-2048144777)]
def wsX5_format : List Cond := .code yX5_format cX5_format 2 (some .int) :: ((wsX5_format_r1 ++ wsX5_format_r2) ++ wsX50)
def wsJ9_max_7cf53 : List Cond := .code yJ9_max_7cf53 cJ9_max_7cf53 2 (some .int) :: ([])
def wsJ9_min_7cf53 : List Cond := .code yJ9_min_7cf53 cJ9_min_7cf53 2 (some .int) :: ([])
def wsL_cell : List Cond := .code yL_cell cL_cell 2 (some .int) :: ([])
abbrev vwCl : List vw_C := [(RX0, TX0, 4), (RX1, TX1, 4), (RX2, TX2, 12), (RX3, TX3, 2), (RX4, TX4, 5), (RX5, TX5, 20)]
end
section
set_option maxRecDepth 20000 in
theorem ggX0_init_X0_clear : GoodIn wsX0_init wsX0_clear := goodIn_r _ [12, 5, 6, 7, 13, 14, 15, 16, 17] (by decide +kernel) (by decide +kernel)
set_option maxRecDepth 20000 in
theorem gX0_init_X0_clear : GoodIn wsX0_init (wsV RX0 21 RX0 yX0_clear wsX0_clear) := goodIn_app (goodIn_of _ (by decide +kernel)) ggX0_init_X0_clear
set_option maxRecDepth 20000 in
theorem ggX0_openLeast_X0_isOpen : GoodIn wsX0_openLeast wsX0_isOpen := goodIn_r _ [6, 1, 7, 8, 9, 10, 11, 12, 13] (by decide +kernel) (by decide +kernel)
set_option maxRecDepth 20000 in
theorem gX0_openLeast_X0_isOpen : GoodIn wsX0_openLeast (wsV RX0 28 RX0 yX0_isOpen wsX0_isOpen) := goodIn_app (goodIn_of _ (by decide +kernel)) ggX0_openLeast_X0_isOpen
set_option maxRecDepth 20000 in
theorem ggX0_isOpen_X4_isTransaction : GoodIn wsX0_isOpen wsX4_isTransaction := goodIn_r _ [4] (by decide +kernel) (by decide +kernel)
set_option maxRecDepth 20000 in
theorem gX0_isOpen_X4_isTransaction_n32 : GoodIn wsX0_isOpen (wsX4_isTransaction) := ggX0_isOpen_X4_isTransaction
set_option maxRecDepth 20000 in
theorem ggX0_holderOf_X4_isKey : GoodIn wsX0_holderOf wsX4_isKey := goodIn_r _ [4] (by decide +kernel) (by decide +kernel)
set_option maxRecDepth 20000 in
theorem gX0_holderOf_X4_isKey_n35 : GoodIn wsX0_holderOf (wsX4_isKey) := ggX0_holderOf_X4_isKey
set_option maxRecDepth 20000 in
theorem ggX0_committedValue_X4_isKey : GoodIn wsX0_committedValue wsX4_isKey := goodIn_r _ [4] (by decide +kernel) (by decide +kernel)
set_option maxRecDepth 20000 in
theorem gX0_committedValue_X4_isKey_n35 : GoodIn wsX0_committedValue (wsX4_isKey) := ggX0_committedValue_X4_isKey
set_option maxRecDepth 20000 in
theorem ggX0_valueFor_X4_isKey : GoodIn wsX0_valueFor wsX4_isKey := goodIn_r _ [6] (by decide +kernel) (by decide +kernel)
set_option maxRecDepth 20000 in
theorem gX0_valueFor_X4_isKey_n35 : GoodIn wsX0_valueFor (wsX4_isKey) := ggX0_valueFor_X4_isKey
set_option maxRecDepth 20000 in
theorem ggX0_setCommitted_X4_isKey : GoodIn wsX0_setCommitted wsX4_isKey := goodIn_r _ [4] (by decide +kernel) (by decide +kernel)
set_option maxRecDepth 20000 in
theorem gX0_setCommitted_X4_isKey_n35 : GoodIn wsX0_setCommitted (wsX4_isKey) := ggX0_setCommitted_X4_isKey
set_option maxRecDepth 20000 in
theorem ggX0_change_X4_isTransaction : GoodIn wsX0_change wsX4_isTransaction := goodIn_r _ [6] (by decide +kernel) (by decide +kernel)
set_option maxRecDepth 20000 in
theorem gX0_change_X4_isTransaction_n32 : GoodIn wsX0_change (wsX4_isTransaction) := ggX0_change_X4_isTransaction
set_option maxRecDepth 20000 in
theorem ggX0_change_X4_isKey : GoodIn wsX0_change wsX4_isKey := goodIn_r _ [8] (by decide +kernel) (by decide +kernel)
set_option maxRecDepth 20000 in
theorem gX0_change_X4_isKey_n35 : GoodIn wsX0_change (wsX4_isKey) := ggX0_change_X4_isKey
set_option maxRecDepth 20000 in
theorem ggX0_close_X0_isOpen : GoodIn wsX0_close wsX0_isOpen := goodIn_r _ [9, 4, 10, 11, 12, 13, 14, 15, 16] (by decide +kernel) (by decide +kernel)
set_option maxRecDepth 20000 in
theorem gX0_close_X0_isOpen : GoodIn wsX0_close (wsV RX0 28 RX0 yX0_isOpen wsX0_isOpen) := goodIn_app (goodIn_of _ (by decide +kernel)) ggX0_close_X0_isOpen
set_option maxRecDepth 20000 in
theorem ggX1_findCheckpoint_X1_lookAt : GoodIn wsX1_findCheckpoint wsX1_lookAt := goodIn_r _ [7, 8, 9, 10, 6, 11, 12, 13, 14, 15, 16, 17, 18, 19, 20, 21, 22, 23, 24, 25, 26, 27, 28, 29, 30, 31, 32, 33, 34, 35, 36, 37, 38, 39, 40, 65, 66, 67, 68, 69, 70] (by decide +kernel) (by decide +kernel)
set_option maxRecDepth 20000 in
theorem gX1_findCheckpoint_X1_lookAt : GoodIn wsX1_findCheckpoint (wsV RX1 22 RX1 yX1_lookAt wsX1_lookAt) := goodIn_app (goodIn_of _ (by decide +kernel)) ggX1_findCheckpoint_X1_lookAt
set_option maxRecDepth 20000 in
theorem ggX1_findCheckpoint_X3_size : GoodIn wsX1_findCheckpoint wsX3_size := goodIn_r _ [44, 17, 69, 70] (by decide +kernel) (by decide +kernel)
set_option maxRecDepth 20000 in
theorem gX1_findCheckpoint_X3_size : GoodIn wsX1_findCheckpoint (wsV RX1 29 RX3 yX3_size wsX3_size) := goodIn_app (goodIn_of _ (by decide +kernel)) ggX1_findCheckpoint_X3_size
set_option maxRecDepth 20000 in
theorem ggX1_findCheckpoint_X1_pagesFrom : GoodIn wsX1_findCheckpoint wsX1_pagesFrom := goodIn_r _ [48, 12, 13, 14, 15, 16, 17, 18, 49, 50, 51, 6, 52, 8, 53, 54, 55, 56, 32, 33, 34, 35, 31, 57, 58, 59, 60, 69, 70, 65, 66, 67, 68] (by decide +kernel) (by decide +kernel)
set_option maxRecDepth 20000 in
theorem gX1_findCheckpoint_X1_pagesFrom : GoodIn wsX1_findCheckpoint (wsV RX1 35 RX1 yX1_pagesFrom wsX1_pagesFrom) := goodIn_app (goodIn_of _ (by decide +kernel)) ggX1_findCheckpoint_X1_pagesFrom
set_option maxRecDepth 20000 in
theorem ggX1_findCheckpoint_X3_serialOf : GoodIn wsX1_findCheckpoint wsX3_serialOf := goodIn_r _ [56, 32, 33, 34, 15, 35, 31, 13, 14, 16, 17, 18, 69, 70] (by decide +kernel) (by decide +kernel)
set_option maxRecDepth 20000 in
theorem gX1_findCheckpoint_X3_serialOf : GoodIn wsX1_findCheckpoint (wsV RX1 39 RX3 yX3_serialOf wsX3_serialOf) := goodIn_app (goodIn_of _ (by decide +kernel)) ggX1_findCheckpoint_X3_serialOf
set_option maxRecDepth 20000 in
theorem ggX1_findCheckpoint_X1_isLater : GoodIn wsX1_findCheckpoint wsX1_isLater := goodIn_r _ [63, 64] (by decide +kernel) (by decide +kernel)
set_option maxRecDepth 20000 in
theorem gX1_findCheckpoint_X1_isLater : GoodIn wsX1_findCheckpoint (va_wsS RX1 43 yX1_isLater wsX1_isLater) := goodIn_app (goodIn_of _ (by decide +kernel)) ggX1_findCheckpoint_X1_isLater
set_option maxRecDepth 20000 in
theorem ggX1_readPages_X1_readPage : GoodIn wsX1_readPages wsX1_readPage := goodIn_r _ [7, 8, 9, 10, 11, 12, 13, 14, 15, 16, 17, 18, 19, 20, 21, 22, 23, 24, 25, 26, 27, 28, 37, 38, 39, 40, 41, 42] (by decide +kernel) (by decide +kernel)
set_option maxRecDepth 20000 in
theorem gX1_readPages_X1_readPage : GoodIn wsX1_readPages (va_wsS RX1 47 yX1_readPage wsX1_readPage) := goodIn_app (goodIn_of _ (by decide +kernel)) ggX1_readPages_X1_readPage
set_option maxRecDepth 20000 in
theorem ggX1_readPages_X3_behind : GoodIn wsX1_readPages wsX3_behind := goodIn_r _ [32, 13, 37, 38] (by decide +kernel) (by decide +kernel)
set_option maxRecDepth 20000 in
theorem gX1_readPages_X3_behind : GoodIn wsX1_readPages (wsV RX1 51 RX3 yX3_behind wsX3_behind) := goodIn_app (goodIn_of _ (by decide +kernel)) ggX1_readPages_X3_behind
set_option maxRecDepth 20000 in
theorem ggX1_goOverRun_X3_size : GoodIn wsX1_goOverRun wsX3_size := goodIn_r _ [6, 7, 62, 63] (by decide +kernel) (by decide +kernel)
set_option maxRecDepth 20000 in
theorem gX1_goOverRun_X3_size : GoodIn wsX1_goOverRun (wsV RX1 29 RX3 yX3_size wsX3_size) := goodIn_app (goodIn_of _ (by decide +kernel)) ggX1_goOverRun_X3_size
set_option maxRecDepth 20000 in
theorem ggX1_goOverRun_X3_behind : GoodIn wsX1_goOverRun wsX3_behind := goodIn_r _ [11, 7, 62, 63] (by decide +kernel) (by decide +kernel)
set_option maxRecDepth 20000 in
theorem gX1_goOverRun_X3_behind : GoodIn wsX1_goOverRun (wsV RX1 51 RX3 yX3_behind wsX3_behind) := goodIn_app (goodIn_of _ (by decide +kernel)) ggX1_goOverRun_X3_behind
set_option maxRecDepth 20000 in
theorem ggX1_goOverRun_X1_isTelling : GoodIn wsX1_goOverRun wsX1_isTelling := goodIn_r _ [16, 17, 58, 59, 60, 61] (by decide +kernel) (by decide +kernel)
set_option maxRecDepth 20000 in
theorem gX1_goOverRun_X1_isTelling : GoodIn wsX1_goOverRun (wsV RX1 54 RX1 yX1_isTelling wsX1_isTelling) := goodIn_app (goodIn_of _ (by decide +kernel)) ggX1_goOverRun_X1_isTelling
set_option maxRecDepth 20000 in
theorem ggX1_goOverRun_X3_serialOf : GoodIn wsX1_goOverRun wsX3_serialOf := goodIn_r _ [21, 22, 23, 24, 5, 25, 26, 27, 28, 29, 7, 30, 62, 63] (by decide +kernel) (by decide +kernel)
set_option maxRecDepth 20000 in
theorem gX1_goOverRun_X3_serialOf : GoodIn wsX1_goOverRun (wsV RX1 39 RX3 yX3_serialOf wsX3_serialOf) := goodIn_app (goodIn_of _ (by decide +kernel)) ggX1_goOverRun_X3_serialOf
set_option maxRecDepth 20000 in
theorem ggX1_goOverRun_X3_byteOf : GoodIn wsX1_goOverRun wsX3_byteOf := goodIn_r _ [29, 7, 30, 62, 63] (by decide +kernel) (by decide +kernel)
set_option maxRecDepth 20000 in
theorem gX1_goOverRun_X3_byteOf : GoodIn wsX1_goOverRun (wsV RX1 58 RX3 yX3_byteOf wsX3_byteOf) := goodIn_app (goodIn_of _ (by decide +kernel)) ggX1_goOverRun_X3_byteOf
set_option maxRecDepth 20000 in
theorem ggX1_goOverRun_X1_goOverLog : GoodIn wsX1_goOverRun wsX1_goOverLog := goodIn_r _ [34, 31, 27, 28, 5, 29, 7, 30, 35, 23, 24, 25, 26, 36, 37, 38, 39, 40, 41, 42, 43, 44, 45, 46, 47, 48, 49, 50, 51, 52, 53, 54, 55, 56, 57, 62, 63, 64, 65, 66, 67] (by decide +kernel) (by decide +kernel)
set_option maxRecDepth 20000 in
theorem gX1_goOverRun_X1_goOverLog : GoodIn wsX1_goOverRun (va_wsS RX1 62 yX1_goOverLog wsX1_goOverLog) := goodIn_app (goodIn_of _ (by decide +kernel)) ggX1_goOverRun_X1_goOverLog
set_option maxRecDepth 20000 in
theorem ggX1_lookAt_X1_isLog : GoodIn wsX1_lookAt wsX1_isLog := goodIn_r _ [5, 6, 7, 8, 9, 10, 11, 12, 13, 14, 15, 16, 17, 39, 40] (by decide +kernel) (by decide +kernel)
set_option maxRecDepth 20000 in
theorem gX1_lookAt_X1_isLog : GoodIn wsX1_lookAt (va_wsS RX1 65 yX1_isLog wsX1_isLog) := goodIn_app (goodIn_of _ (by decide +kernel)) ggX1_lookAt_X1_isLog
set_option maxRecDepth 20000 in
theorem ggX1_lookAt_X1_isPage : GoodIn wsX1_lookAt wsX1_isPage := goodIn_r _ [20, 6, 7, 8, 9, 10, 11, 12, 16, 14, 17, 39, 40] (by decide +kernel) (by decide +kernel)
set_option maxRecDepth 20000 in
theorem gX1_lookAt_X1_isPage : GoodIn wsX1_lookAt (va_wsS RX1 69 yX1_isPage wsX1_isPage) := goodIn_app (goodIn_of _ (by decide +kernel)) ggX1_lookAt_X1_isPage
set_option maxRecDepth 20000 in
theorem ggX1_lookAt_X3_isSound : GoodIn wsX1_lookAt wsX3_isSound := goodIn_r _ [24, 25, 7, 8, 9, 10, 11, 12, 26, 27, 28, 29, 30, 31, 32, 33, 34, 39, 40] (by decide +kernel) (by decide +kernel)
set_option maxRecDepth 20000 in
theorem gX1_lookAt_X3_isSound : GoodIn wsX1_lookAt (wsV RX1 72 RX3 yX3_isSound wsX3_isSound) := goodIn_app (goodIn_of _ (by decide +kernel)) ggX1_lookAt_X3_isSound
set_option maxRecDepth 20000 in
theorem ggX1_pagesFrom_X3_byteOf : GoodIn wsX1_pagesFrom wsX3_byteOf := goodIn_r _ [5, 6, 7, 27, 28] (by decide +kernel) (by decide +kernel)
set_option maxRecDepth 20000 in
theorem gX1_pagesFrom_X3_byteOf : GoodIn wsX1_pagesFrom (wsV RX1 58 RX3 yX3_byteOf wsX3_byteOf) := goodIn_app (goodIn_of _ (by decide +kernel)) ggX1_pagesFrom_X3_byteOf
set_option maxRecDepth 20000 in
theorem ggX1_pagesFrom_X1_isTelling : GoodIn wsX1_pagesFrom wsX1_isTelling := goodIn_r _ [12, 13, 29, 30, 31, 32] (by decide +kernel) (by decide +kernel)
set_option maxRecDepth 20000 in
theorem gX1_pagesFrom_X1_isTelling : GoodIn wsX1_pagesFrom (wsV RX1 54 RX1 yX1_isTelling wsX1_isTelling) := goodIn_app (goodIn_of _ (by decide +kernel)) ggX1_pagesFrom_X1_isTelling
set_option maxRecDepth 20000 in
theorem ggX1_pagesFrom_X3_serialOf : GoodIn wsX1_pagesFrom wsX3_serialOf := goodIn_r _ [17, 18, 19, 20, 4, 21, 22, 2, 3, 5, 6, 7, 27, 28] (by decide +kernel) (by decide +kernel)
set_option maxRecDepth 20000 in
theorem gX1_pagesFrom_X3_serialOf : GoodIn wsX1_pagesFrom (wsV RX1 39 RX3 yX3_serialOf wsX3_serialOf) := goodIn_app (goodIn_of _ (by decide +kernel)) ggX1_pagesFrom_X3_serialOf
set_option maxRecDepth 20000 in
theorem ggX1_pagesFrom_X3_behind : GoodIn wsX1_pagesFrom wsX3_behind := goodIn_r _ [26, 6, 27, 28] (by decide +kernel) (by decide +kernel)
set_option maxRecDepth 20000 in
theorem gX1_pagesFrom_X3_behind : GoodIn wsX1_pagesFrom (wsV RX1 51 RX3 yX3_behind wsX3_behind) := goodIn_app (goodIn_of _ (by decide +kernel)) ggX1_pagesFrom_X3_behind
set_option maxRecDepth 20000 in
theorem ggX1_isLog_X3_byteOf : GoodIn wsX1_isLog wsX3_byteOf := goodIn_r _ [5, 6, 7, 13, 14] (by decide +kernel) (by decide +kernel)
set_option maxRecDepth 20000 in
theorem gX1_isLog_X3_byteOf : GoodIn wsX1_isLog (wsV RX1 58 RX3 yX3_byteOf wsX3_byteOf) := goodIn_app (goodIn_of _ (by decide +kernel)) ggX1_isLog_X3_byteOf
set_option maxRecDepth 20000 in
theorem ggX1_isLog_X4_isTransaction : GoodIn wsX1_isLog wsX4_isTransaction := goodIn_r _ [10] (by decide +kernel) (by decide +kernel)
set_option maxRecDepth 20000 in
theorem gX1_isLog_X4_isTransaction_n77 : GoodIn wsX1_isLog (wsX4_isTransaction) := ggX1_isLog_X4_isTransaction
set_option maxRecDepth 20000 in
theorem ggX1_isLog_X4_isKey : GoodIn wsX1_isLog wsX4_isKey := goodIn_r _ [12] (by decide +kernel) (by decide +kernel)
set_option maxRecDepth 20000 in
theorem gX1_isLog_X4_isKey_n80 : GoodIn wsX1_isLog (wsX4_isKey) := ggX1_isLog_X4_isKey
set_option maxRecDepth 20000 in
theorem ggX1_isPage_X3_byteOf : GoodIn wsX1_isPage wsX3_byteOf := goodIn_r _ [5, 6, 7, 11, 12] (by decide +kernel) (by decide +kernel)
set_option maxRecDepth 20000 in
theorem gX1_isPage_X3_byteOf : GoodIn wsX1_isPage (wsV RX1 58 RX3 yX3_byteOf wsX3_byteOf) := goodIn_app (goodIn_of _ (by decide +kernel)) ggX1_isPage_X3_byteOf
set_option maxRecDepth 20000 in
theorem ggX1_isPage_X4_isKey : GoodIn wsX1_isPage wsX4_isKey := goodIn_r _ [10] (by decide +kernel) (by decide +kernel)
set_option maxRecDepth 20000 in
theorem gX1_isPage_X4_isKey_n80 : GoodIn wsX1_isPage (wsX4_isKey) := ggX1_isPage_X4_isKey
set_option maxRecDepth 20000 in
theorem ggX1_readPage_X3_byteOf : GoodIn wsX1_readPage wsX3_byteOf := goodIn_r _ [5, 6, 7, 22, 23] (by decide +kernel) (by decide +kernel)
set_option maxRecDepth 20000 in
theorem gX1_readPage_X3_byteOf : GoodIn wsX1_readPage (wsV RX1 58 RX3 yX3_byteOf wsX3_byteOf) := goodIn_app (goodIn_of _ (by decide +kernel)) ggX1_readPage_X3_byteOf
set_option maxRecDepth 20000 in
theorem ggX1_readPage_X3_numberOf : GoodIn wsX1_readPage wsX3_numberOf := goodIn_r _ [11, 12, 2, 3, 4, 5, 6, 7, 22, 23] (by decide +kernel) (by decide +kernel)
set_option maxRecDepth 20000 in
theorem gX1_readPage_X3_numberOf : GoodIn wsX1_readPage (wsV RX1 83 RX3 yX3_numberOf wsX3_numberOf) := goodIn_app (goodIn_of _ (by decide +kernel)) ggX1_readPage_X3_numberOf
set_option maxRecDepth 20000 in
theorem ggX1_readPage_X0_setCommitted : GoodIn wsX1_readPage wsX0_setCommitted := goodIn_r _ [17, 18, 19, 20, 21, 24, 25, 26, 27] (by decide +kernel) (by decide +kernel)
set_option maxRecDepth 20000 in
theorem gX1_readPage_X0_setCommitted : GoodIn wsX1_readPage (wsV RX1 87 RX0 yX0_setCommitted wsX0_setCommitted) := goodIn_app (goodIn_of _ (by decide +kernel)) ggX1_readPage_X0_setCommitted
set_option maxRecDepth 20000 in
theorem ggX1_goOverLog_X3_byteOf : GoodIn wsX1_goOverLog wsX3_byteOf := goodIn_r _ [5, 6, 7, 35, 36] (by decide +kernel) (by decide +kernel)
set_option maxRecDepth 20000 in
theorem gX1_goOverLog_X3_byteOf : GoodIn wsX1_goOverLog (wsV RX1 58 RX3 yX3_byteOf wsX3_byteOf) := goodIn_app (goodIn_of _ (by decide +kernel)) ggX1_goOverLog_X3_byteOf
set_option maxRecDepth 20000 in
theorem ggX1_goOverLog_X3_numberOf : GoodIn wsX1_goOverLog wsX3_numberOf := goodIn_r _ [11, 12, 2, 3, 4, 5, 6, 7, 35, 36] (by decide +kernel) (by decide +kernel)
set_option maxRecDepth 20000 in
theorem gX1_goOverLog_X3_numberOf : GoodIn wsX1_goOverLog (wsV RX1 83 RX3 yX3_numberOf wsX3_numberOf) := goodIn_app (goodIn_of _ (by decide +kernel)) ggX1_goOverLog_X3_numberOf
set_option maxRecDepth 20000 in
theorem ggX1_goOverLog_X0_change : GoodIn wsX1_goOverLog wsX0_change := goodIn_r _ [17, 18, 19, 20, 21, 22, 23, 24, 25, 37, 38, 39, 40] (by decide +kernel) (by decide +kernel)
set_option maxRecDepth 20000 in
theorem gX1_goOverLog_X0_change : GoodIn wsX1_goOverLog (wsV RX1 93 RX0 yX0_change wsX0_change) := goodIn_app (goodIn_of _ (by decide +kernel)) ggX1_goOverLog_X0_change
set_option maxRecDepth 20000 in
theorem ggX1_goOverLog_X0_close : GoodIn wsX1_goOverLog wsX0_close := goodIn_r _ [29, 19, 30, 20, 18, 31, 32, 33, 16, 34, 21, 22, 23, 37, 38, 39, 40] (by decide +kernel) (by decide +kernel)
set_option maxRecDepth 20000 in
theorem gX1_goOverLog_X0_close : GoodIn wsX1_goOverLog (wsV RX1 97 RX0 yX0_close wsX0_close) := goodIn_app (goodIn_of _ (by decide +kernel)) ggX1_goOverLog_X0_close
set_option maxRecDepth 20000 in
theorem ggX2_init_X3_init : GoodIn wsX2_init wsX3_init := goodIn_r _ [15, 16, 2, 3, 17, 18, 19, 20, 21, 22, 23, 24, 25, 26, 80, 81] (by decide +kernel) (by decide +kernel)
set_option maxRecDepth 20000 in
theorem gX2_init_X3_init : GoodIn wsX2_init (wsX3_init) := ggX2_init_X3_init
set_option maxRecDepth 20000 in
theorem ggX2_init_X2_beginAnew : GoodIn wsX2_init wsX2_beginAnew := goodIn_r _ [31, 11, 32, 33, 34, 35, 36, 37, 10, 38, 26, 39, 40, 41, 42, 43, 44, 45, 46, 24, 47, 48, 49, 50, 51, 52, 53, 54, 55, 56, 57, 58, 59, 60, 61, 62, 63, 30, 64, 65, 66, 67, 68, 69, 70, 71, 72, 73, 74, 75, 76, 77, 78, 79, 80, 81] (by decide +kernel) (by decide +kernel)
set_option maxRecDepth 20000 in
theorem gX2_init_X2_beginAnew : GoodIn wsX2_init (wsV RX2 33 RX2 yX2_beginAnew wsX2_beginAnew) := goodIn_app (goodIn_of _ (by decide +kernel)) ggX2_init_X2_beginAnew
set_option maxRecDepth 20000 in
theorem ggX2_beginAnew_X3_clear : GoodIn wsX2_beginAnew wsX3_clear := goodIn_r _ [9, 10, 54, 55] (by decide +kernel) (by decide +kernel)
set_option maxRecDepth 20000 in
theorem gX2_beginAnew_X3_clear : GoodIn wsX2_beginAnew (wsV RX2 36 RX3 yX3_clear wsX3_clear) := goodIn_app (goodIn_of _ (by decide +kernel)) ggX2_beginAnew_X3_clear
set_option maxRecDepth 20000 in
theorem ggX2_beginAnew_X3_prepare : GoodIn wsX2_beginAnew wsX3_prepare := goodIn_r _ [14, 15, 16, 17, 8, 18, 19, 10, 20, 21, 22, 23, 54, 55] (by decide +kernel) (by decide +kernel)
set_option maxRecDepth 20000 in
theorem gX2_beginAnew_X3_prepare : GoodIn wsX2_beginAnew (wsV RX2 39 RX3 yX3_prepare wsX3_prepare) := goodIn_app (goodIn_of _ (by decide +kernel)) ggX2_beginAnew_X3_prepare
set_option maxRecDepth 20000 in
theorem ggX2_beginAnew_X3_setByte : GoodIn wsX2_beginAnew wsX3_setByte := goodIn_r _ [18, 19, 10, 54, 55] (by decide +kernel) (by decide +kernel)
set_option maxRecDepth 20000 in
theorem gX2_beginAnew_X3_setByte : GoodIn wsX2_beginAnew (wsV RX2 43 RX3 yX3_setByte wsX3_setByte) := goodIn_app (goodIn_of _ (by decide +kernel)) ggX2_beginAnew_X3_setByte
set_option maxRecDepth 20000 in
theorem ggX2_beginAnew_X3_seal : GoodIn wsX2_beginAnew wsX3_seal := goodIn_r _ [28, 29, 30, 31, 8, 32, 19, 10, 33, 20, 21, 22, 23, 15, 16, 17, 18, 54, 55] (by decide +kernel) (by decide +kernel)
set_option maxRecDepth 20000 in
theorem gX2_beginAnew_X3_seal : GoodIn wsX2_beginAnew (wsV RX2 47 RX3 yX3_seal wsX3_seal) := goodIn_app (goodIn_of _ (by decide +kernel)) ggX2_beginAnew_X3_seal
set_option maxRecDepth 20000 in
theorem ggX2_beginAnew_X2_forgetMemory : GoodIn wsX2_beginAnew wsX2_forgetMemory := goodIn_r _ [38, 39, 40, 41, 42, 43, 44, 45, 46, 47, 48, 49, 50, 51, 52, 53] (by decide +kernel) (by decide +kernel)
set_option maxRecDepth 20000 in
theorem gX2_beginAnew_X2_forgetMemory : GoodIn wsX2_beginAnew (wsV RX2 60 RX2 yX2_forgetMemory wsX2_forgetMemory) := goodIn_app (goodIn_of _ (by decide +kernel)) ggX2_beginAnew_X2_forgetMemory
set_option maxRecDepth 20000 in
theorem ggX2_needed_X3_stepsBetween : GoodIn wsX2_needed wsX3_stepsBetween := goodIn_r _ [8, 9, 22, 23] (by decide +kernel) (by decide +kernel)
set_option maxRecDepth 20000 in
theorem gX2_needed_X3_stepsBetween : GoodIn wsX2_needed (wsV RX2 69 RX3 yX3_stepsBetween wsX3_stepsBetween) := goodIn_app (goodIn_of _ (by decide +kernel)) ggX2_needed_X3_stepsBetween
set_option maxRecDepth 20000 in
theorem ggX2_hasRoom_X2_needed : GoodIn wsX2_hasRoom wsX2_needed := goodIn_r _ [6, 1, 7, 8, 9, 10, 11, 12, 13, 14, 19, 20, 21, 22, 23, 24, 25, 26, 27, 28, 29, 30, 31, 32] (by decide +kernel) (by decide +kernel)
set_option maxRecDepth 20000 in
theorem gX2_hasRoom_X2_needed : GoodIn wsX2_hasRoom (wsV RX2 73 RX2 yX2_needed wsX2_needed) := goodIn_app (goodIn_of _ (by decide +kernel)) ggX2_hasRoom_X2_needed
set_option maxRecDepth 20000 in
theorem ggX2_hasRoom_X3_size : GoodIn wsX2_hasRoom wsX3_size := goodIn_r _ [18, 14, 31, 32] (by decide +kernel) (by decide +kernel)
set_option maxRecDepth 20000 in
theorem gX2_hasRoom_X3_size : GoodIn wsX2_hasRoom (wsV RX2 77 RX3 yX3_size wsX3_size) := goodIn_app (goodIn_of _ (by decide +kernel)) ggX2_hasRoom_X3_size
set_option maxRecDepth 20000 in
theorem ggX2_canTakeEntry_X2_hasRoom : GoodIn wsX2_canTakeEntry wsX2_hasRoom := goodIn_r _ [6, 7, 8, 9, 10, 5, 11, 12, 13, 14, 15, 16, 17, 18, 19, 20, 21, 22, 23, 24, 25, 26, 27, 28, 29, 30, 31, 32, 33, 34, 35, 36, 37] (by decide +kernel) (by decide +kernel)
set_option maxRecDepth 20000 in
theorem gX2_canTakeEntry_X2_hasRoom : GoodIn wsX2_canTakeEntry (wsV RX2 80 RX2 yX2_hasRoom wsX2_hasRoom) := goodIn_app (goodIn_of _ (by decide +kernel)) ggX2_canTakeEntry_X2_hasRoom
set_option maxRecDepth 20000 in
theorem ggX2_takeEntry_X2_writeLog : GoodIn wsX2_takeEntry wsX2_writeLog := goodIn_r _ [9, 1, 10, 11, 12, 2, 3, 4, 13, 14, 15, 8, 16, 17, 18, 19, 20, 21, 22, 23, 24, 25, 26, 27, 28, 29, 30, 31, 32, 33, 34, 35, 36, 37, 38, 39, 40, 41, 42, 43, 44, 45, 46, 47, 48, 49, 50, 51, 52, 53, 54, 55, 56, 57, 58, 59, 60, 61, 62, 63] (by decide +kernel) (by decide +kernel)
set_option maxRecDepth 20000 in
theorem gX2_takeEntry_X2_writeLog : GoodIn wsX2_takeEntry (wsV RX2 84 RX2 yX2_writeLog wsX2_writeLog) := goodIn_app (goodIn_of _ (by decide +kernel)) ggX2_takeEntry_X2_writeLog
set_option maxRecDepth 20000 in
theorem ggX2_writeLog_X2_goToNext : GoodIn wsX2_writeLog wsX2_goToNext := goodIn_r _ [12, 4, 13, 3, 14, 15, 16, 17, 18, 19, 20, 21, 46, 47, 48, 49, 50, 51, 52, 53, 54, 55, 56, 57, 58, 59] (by decide +kernel) (by decide +kernel)
set_option maxRecDepth 20000 in
theorem gX2_writeLog_X2_goToNext : GoodIn wsX2_writeLog (wsV RX2 87 RX2 yX2_goToNext wsX2_goToNext) := goodIn_app (goodIn_of _ (by decide +kernel)) ggX2_writeLog_X2_goToNext
set_option maxRecDepth 20000 in
theorem ggX2_writeLog_X3_prepare : GoodIn wsX2_writeLog wsX3_prepare := goodIn_r _ [25, 26, 27, 28, 19, 29, 21, 30, 31, 32, 33, 34, 58, 59] (by decide +kernel) (by decide +kernel)
set_option maxRecDepth 20000 in
theorem gX2_writeLog_X3_prepare : GoodIn wsX2_writeLog (wsV RX2 39 RX3 yX3_prepare wsX3_prepare) := goodIn_app (goodIn_of _ (by decide +kernel)) ggX2_writeLog_X3_prepare
set_option maxRecDepth 20000 in
theorem ggX2_writeLog_X3_setByte : GoodIn wsX2_writeLog wsX3_setByte := goodIn_r _ [29, 21, 30, 58, 59] (by decide +kernel) (by decide +kernel)
set_option maxRecDepth 20000 in
theorem gX2_writeLog_X3_setByte : GoodIn wsX2_writeLog (wsV RX2 43 RX3 yX3_setByte wsX3_setByte) := goodIn_app (goodIn_of _ (by decide +kernel)) ggX2_writeLog_X3_setByte
set_option maxRecDepth 20000 in
theorem ggX2_writeLog_X3_setNumber : GoodIn wsX2_writeLog wsX3_setNumber := goodIn_r _ [34, 26, 27, 28, 19, 29, 21, 30, 58, 59] (by decide +kernel) (by decide +kernel)
set_option maxRecDepth 20000 in
theorem gX2_writeLog_X3_setNumber : GoodIn wsX2_writeLog (wsV RX2 90 RX3 yX3_setNumber wsX3_setNumber) := goodIn_app (goodIn_of _ (by decide +kernel)) ggX2_writeLog_X3_setNumber
set_option maxRecDepth 20000 in
theorem ggX2_writeLog_X3_seal : GoodIn wsX2_writeLog wsX3_seal := goodIn_r _ [40, 41, 42, 43, 19, 44, 21, 30, 45, 31, 32, 33, 34, 26, 27, 28, 29, 58, 59] (by decide +kernel) (by decide +kernel)
set_option maxRecDepth 20000 in
theorem gX2_writeLog_X3_seal : GoodIn wsX2_writeLog (wsV RX2 47 RX3 yX3_seal wsX3_seal) := goodIn_app (goodIn_of _ (by decide +kernel)) ggX2_writeLog_X3_seal
set_option maxRecDepth 20000 in
theorem ggX2_writePages_X0_nextWithValue : GoodIn wsX2_writePages wsX0_nextWithValue := goodIn_r _ [8, 9, 10, 11, 12, 13, 76, 77, 78, 79] (by decide +kernel) (by decide +kernel)
set_option maxRecDepth 20000 in
theorem gX2_writePages_X0_nextWithValue : GoodIn wsX2_writePages (wsV RX2 93 RX0 yX0_nextWithValue wsX0_nextWithValue) := goodIn_app (goodIn_of _ (by decide +kernel)) ggX2_writePages_X0_nextWithValue
set_option maxRecDepth 20000 in
theorem ggX2_writePages_X2_goToNext : GoodIn wsX2_writePages wsX2_goToNext := goodIn_r _ [18, 19, 20, 1, 21, 22, 23, 24, 25, 26, 27, 28, 64, 65, 66, 67, 68, 69, 70, 71, 72, 73, 74, 75, 80, 81] (by decide +kernel) (by decide +kernel)
set_option maxRecDepth 20000 in
theorem gX2_writePages_X2_goToNext : GoodIn wsX2_writePages (wsV RX2 87 RX2 yX2_goToNext wsX2_goToNext) := goodIn_app (goodIn_of _ (by decide +kernel)) ggX2_writePages_X2_goToNext
set_option maxRecDepth 20000 in
theorem ggX2_writePages_X2_writePairs : GoodIn wsX2_writePages wsX2_writePairs := goodIn_r _ [32, 3, 1, 19, 33, 34, 35, 26, 36, 37, 38, 39, 40, 28, 41, 42, 43, 44, 45, 46, 47, 48, 49, 7, 50, 13, 51, 52, 53, 54, 4, 5, 6, 8, 9, 10, 11, 12, 64, 65, 66, 67, 68, 69, 70, 71, 72, 73, 74, 75, 80, 81, 76, 77, 78, 79] (by decide +kernel) (by decide +kernel)
set_option maxRecDepth 20000 in
theorem gX2_writePages_X2_writePairs : GoodIn wsX2_writePages (wsV RX2 102 RX2 yX2_writePairs wsX2_writePairs) := goodIn_app (goodIn_of _ (by decide +kernel)) ggX2_writePages_X2_writePairs
set_option maxRecDepth 20000 in
theorem ggX2_writePages_X3_setByte : GoodIn wsX2_writePages wsX3_setByte := goodIn_r _ [40, 28, 41, 80, 81] (by decide +kernel) (by decide +kernel)
set_option maxRecDepth 20000 in
theorem gX2_writePages_X3_setByte : GoodIn wsX2_writePages (wsV RX2 43 RX3 yX3_setByte wsX3_setByte) := goodIn_app (goodIn_of _ (by decide +kernel)) ggX2_writePages_X3_setByte
set_option maxRecDepth 20000 in
theorem ggX2_writePages_X3_seal : GoodIn wsX2_writePages wsX3_seal := goodIn_r _ [58, 59, 60, 61, 26, 62, 28, 41, 63, 42, 43, 44, 45, 37, 38, 39, 40, 80, 81] (by decide +kernel) (by decide +kernel)
set_option maxRecDepth 20000 in
theorem gX2_writePages_X3_seal : GoodIn wsX2_writePages (wsV RX2 47 RX3 yX3_seal wsX3_seal) := goodIn_app (goodIn_of _ (by decide +kernel)) ggX2_writePages_X3_seal
set_option maxRecDepth 20000 in
theorem ggX2_putAllOnDisk_X2_putOnDisk : GoodIn wsX2_putAllOnDisk wsX2_putOnDisk := goodIn_r _ [8, 9, 10, 11, 12, 13, 14, 15, 16, 17, 18, 19, 20, 21, 22, 23, 24, 25, 26, 27, 28, 29, 30, 31, 32, 33, 34, 35, 36, 37, 38, 39, 40, 41, 42, 43, 44] (by decide +kernel) (by decide +kernel)
set_option maxRecDepth 20000 in
theorem gX2_putAllOnDisk_X2_putOnDisk : GoodIn wsX2_putAllOnDisk (wsV RX2 106 RX2 yX2_putOnDisk wsX2_putOnDisk) := goodIn_app (goodIn_of _ (by decide +kernel)) ggX2_putAllOnDisk_X2_putOnDisk
set_option maxRecDepth 20000 in
theorem ggX2_loseMemory_X2_putOnDisk : GoodIn wsX2_loseMemory wsX2_putOnDisk := goodIn_r _ [8, 9, 2, 3, 10, 11, 12, 13, 14, 15, 16, 17, 18, 19, 20, 21, 22, 23, 24, 25, 26, 27, 28, 35, 36, 37, 38, 39, 40, 41, 42, 43, 44, 45, 46, 47, 48] (by decide +kernel) (by decide +kernel)
set_option maxRecDepth 20000 in
theorem gX2_loseMemory_X2_putOnDisk : GoodIn wsX2_loseMemory (wsV RX2 106 RX2 yX2_putOnDisk wsX2_putOnDisk) := goodIn_app (goodIn_of _ (by decide +kernel)) ggX2_loseMemory_X2_putOnDisk
set_option maxRecDepth 20000 in
theorem ggX2_loseMemory_X3_copyStart : GoodIn wsX2_loseMemory wsX3_copyStart := goodIn_r _ [14, 15, 16, 17, 13, 18, 19, 20, 21, 22, 23, 24, 47, 48] (by decide +kernel) (by decide +kernel)
set_option maxRecDepth 20000 in
theorem gX2_loseMemory_X3_copyStart : GoodIn wsX2_loseMemory (wsV RX2 109 RX3 yX3_copyStart wsX3_copyStart) := goodIn_app (goodIn_of _ (by decide +kernel)) ggX2_loseMemory_X3_copyStart
set_option maxRecDepth 20000 in
theorem ggX2_loseMemory_X2_forgetMemory : GoodIn wsX2_loseMemory wsX2_forgetMemory := goodIn_r _ [32, 33, 1, 34, 35, 36, 37, 38, 39, 40, 41, 42, 43, 44, 45, 46] (by decide +kernel) (by decide +kernel)
set_option maxRecDepth 20000 in
theorem gX2_loseMemory_X2_forgetMemory : GoodIn wsX2_loseMemory (wsV RX2 60 RX2 yX2_forgetMemory wsX2_forgetMemory) := goodIn_app (goodIn_of _ (by decide +kernel)) ggX2_loseMemory_X2_forgetMemory
set_option maxRecDepth 20000 in
theorem ggX2_goOn_X3_serialOf : GoodIn wsX2_goOn wsX3_serialOf := goodIn_r _ [9, 10, 11, 12, 8, 13, 14, 15, 16, 17, 18, 19, 32, 33] (by decide +kernel) (by decide +kernel)
set_option maxRecDepth 20000 in
theorem gX2_goOn_X3_serialOf : GoodIn wsX2_goOn (wsV RX2 113 RX3 yX3_serialOf wsX3_serialOf) := goodIn_app (goodIn_of _ (by decide +kernel)) ggX2_goOn_X3_serialOf
set_option maxRecDepth 20000 in
theorem ggX2_writePairs_X3_prepare : GoodIn wsX2_writePairs wsX3_prepare := goodIn_r _ [8, 9, 10, 11, 7, 12, 13, 14, 15, 16, 17, 18, 50, 51] (by decide +kernel) (by decide +kernel)
set_option maxRecDepth 20000 in
theorem gX2_writePairs_X3_prepare : GoodIn wsX2_writePairs (wsV RX2 39 RX3 yX3_prepare wsX3_prepare) := goodIn_app (goodIn_of _ (by decide +kernel)) ggX2_writePairs_X3_prepare
set_option maxRecDepth 20000 in
theorem ggX2_writePairs_X3_setByte : GoodIn wsX2_writePairs wsX3_setByte := goodIn_r _ [12, 13, 14, 50, 51] (by decide +kernel) (by decide +kernel)
set_option maxRecDepth 20000 in
theorem gX2_writePairs_X3_setByte : GoodIn wsX2_writePairs (wsV RX2 43 RX3 yX3_setByte wsX3_setByte) := goodIn_app (goodIn_of _ (by decide +kernel)) ggX2_writePairs_X3_setByte
set_option maxRecDepth 20000 in
theorem ggX2_writePairs_X0_committedValue : GoodIn wsX2_writePairs wsX0_committedValue := goodIn_r _ [24, 25, 26, 27, 28, 52, 53, 54, 55] (by decide +kernel) (by decide +kernel)
set_option maxRecDepth 20000 in
theorem gX2_writePairs_X0_committedValue : GoodIn wsX2_writePairs (wsV RX2 116 RX0 yX0_committedValue wsX0_committedValue) := goodIn_app (goodIn_of _ (by decide +kernel)) ggX2_writePairs_X0_committedValue
set_option maxRecDepth 20000 in
theorem ggX2_writePairs_X3_setNumber : GoodIn wsX2_writePairs wsX3_setNumber := goodIn_r _ [18, 9, 10, 11, 7, 12, 13, 14, 50, 51] (by decide +kernel) (by decide +kernel)
set_option maxRecDepth 20000 in
theorem gX2_writePairs_X3_setNumber : GoodIn wsX2_writePairs (wsV RX2 90 RX3 yX3_setNumber wsX3_setNumber) := goodIn_app (goodIn_of _ (by decide +kernel)) ggX2_writePairs_X3_setNumber
set_option maxRecDepth 20000 in
theorem ggX2_writePairs_X0_nextWithValue : GoodIn wsX2_writePairs wsX0_nextWithValue := goodIn_r _ [33, 34, 35, 36, 37, 25, 52, 53, 54, 55] (by decide +kernel) (by decide +kernel)
set_option maxRecDepth 20000 in
theorem gX2_writePairs_X0_nextWithValue : GoodIn wsX2_writePairs (wsV RX2 93 RX0 yX0_nextWithValue wsX0_nextWithValue) := goodIn_app (goodIn_of _ (by decide +kernel)) ggX2_writePairs_X0_nextWithValue
set_option maxRecDepth 20000 in
theorem ggX2_goToNext_X3_behind : GoodIn wsX2_goToNext wsX3_behind := goodIn_r _ [10, 11, 24, 25] (by decide +kernel) (by decide +kernel)
set_option maxRecDepth 20000 in
theorem gX2_goToNext_X3_behind : GoodIn wsX2_goToNext (wsV RX2 119 RX3 yX3_behind wsX3_behind) := goodIn_app (goodIn_of _ (by decide +kernel)) ggX2_goToNext_X3_behind
set_option maxRecDepth 20000 in
theorem ggX2_putOnDisk_X3_copyStart : GoodIn wsX2_putOnDisk wsX3_copyStart := goodIn_r _ [8, 9, 10, 11, 7, 12, 13, 14, 15, 16, 17, 18, 35, 36] (by decide +kernel) (by decide +kernel)
set_option maxRecDepth 20000 in
theorem gX2_putOnDisk_X3_copyStart : GoodIn wsX2_putOnDisk (wsV RX2 109 RX3 yX3_copyStart wsX3_copyStart) := goodIn_app (goodIn_of _ (by decide +kernel)) ggX2_putOnDisk_X3_copyStart
set_option maxRecDepth 20000 in
theorem ggX2_putOnDisk_X3_behind : GoodIn wsX2_putOnDisk wsX3_behind := goodIn_r _ [22, 13, 35, 36] (by decide +kernel) (by decide +kernel)
set_option maxRecDepth 20000 in
theorem gX2_putOnDisk_X3_behind : GoodIn wsX2_putOnDisk (wsV RX2 119 RX3 yX3_behind wsX3_behind) := goodIn_app (goodIn_of _ (by decide +kernel)) ggX2_putOnDisk_X3_behind
set_option maxRecDepth 20000 in
theorem ggX3_numberOf_X3_byteOf : GoodIn wsX3_numberOf wsX3_byteOf := goodIn_r _ [5, 6, 7, 8, 9] (by decide +kernel) (by decide +kernel)
set_option maxRecDepth 20000 in
theorem gX3_numberOf_X3_byteOf : GoodIn wsX3_numberOf (wsV RX3 28 RX3 yX3_byteOf wsX3_byteOf) := goodIn_app (goodIn_of _ (by decide +kernel)) ggX3_numberOf_X3_byteOf
set_option maxRecDepth 20000 in
theorem ggX3_setNumber_X3_setByte : GoodIn wsX3_setNumber wsX3_setByte := goodIn_r _ [5, 6, 7, 8, 9] (by decide +kernel) (by decide +kernel)
set_option maxRecDepth 20000 in
theorem gX3_setNumber_X3_setByte : GoodIn wsX3_setNumber (wsV RX3 31 RX3 yX3_setByte wsX3_setByte) := goodIn_app (goodIn_of _ (by decide +kernel)) ggX3_setNumber_X3_setByte
set_option maxRecDepth 20000 in
theorem ggX3_serialOf_X3_numberOf : GoodIn wsX3_serialOf wsX3_numberOf := goodIn_r _ [5, 6, 7, 8, 4, 9, 10, 11, 12, 13] (by decide +kernel) (by decide +kernel)
set_option maxRecDepth 20000 in
theorem gX3_serialOf_X3_numberOf : GoodIn wsX3_serialOf (wsV RX3 35 RX3 yX3_numberOf wsX3_numberOf) := goodIn_app (goodIn_of _ (by decide +kernel)) ggX3_serialOf_X3_numberOf
set_option maxRecDepth 20000 in
theorem ggX3_isSound_X3_byteOf : GoodIn wsX3_isSound wsX3_byteOf := goodIn_r _ [5, 6, 7, 17, 18] (by decide +kernel) (by decide +kernel)
set_option maxRecDepth 20000 in
theorem gX3_isSound_X3_byteOf : GoodIn wsX3_isSound (wsV RX3 28 RX3 yX3_byteOf wsX3_byteOf) := goodIn_app (goodIn_of _ (by decide +kernel)) ggX3_isSound_X3_byteOf
set_option maxRecDepth 20000 in
theorem ggX3_isSound_X3_numberOf : GoodIn wsX3_isSound wsX3_numberOf := goodIn_r _ [11, 1, 2, 3, 4, 5, 6, 7, 17, 18] (by decide +kernel) (by decide +kernel)
set_option maxRecDepth 20000 in
theorem gX3_isSound_X3_numberOf : GoodIn wsX3_isSound (wsV RX3 35 RX3 yX3_numberOf wsX3_numberOf) := goodIn_app (goodIn_of _ (by decide +kernel)) ggX3_isSound_X3_numberOf
set_option maxRecDepth 20000 in
theorem ggX3_isSound_X3_sumOf : GoodIn wsX3_isSound wsX3_sumOf := goodIn_r _ [15, 6, 7, 16, 17, 18] (by decide +kernel) (by decide +kernel)
set_option maxRecDepth 20000 in
theorem gX3_isSound_X3_sumOf : GoodIn wsX3_isSound (wsV RX3 39 RX3 yX3_sumOf wsX3_sumOf) := goodIn_app (goodIn_of _ (by decide +kernel)) ggX3_isSound_X3_sumOf
set_option maxRecDepth 20000 in
theorem ggX3_prepare_X3_setByte : GoodIn wsX3_prepare wsX3_setByte := goodIn_r _ [5, 6, 7, 12, 13] (by decide +kernel) (by decide +kernel)
set_option maxRecDepth 20000 in
theorem gX3_prepare_X3_setByte : GoodIn wsX3_prepare (wsV RX3 31 RX3 yX3_setByte wsX3_setByte) := goodIn_app (goodIn_of _ (by decide +kernel)) ggX3_prepare_X3_setByte
set_option maxRecDepth 20000 in
theorem ggX3_prepare_X3_setNumber : GoodIn wsX3_prepare wsX3_setNumber := goodIn_r _ [11, 1, 2, 3, 4, 5, 6, 7, 12, 13] (by decide +kernel) (by decide +kernel)
set_option maxRecDepth 20000 in
theorem gX3_prepare_X3_setNumber : GoodIn wsX3_prepare (wsV RX3 43 RX3 yX3_setNumber wsX3_setNumber) := goodIn_app (goodIn_of _ (by decide +kernel)) ggX3_prepare_X3_setNumber
set_option maxRecDepth 20000 in
theorem ggX3_seal_X3_sumOf : GoodIn wsX3_seal wsX3_sumOf := goodIn_r _ [5, 6, 7, 8, 17, 18] (by decide +kernel) (by decide +kernel)
set_option maxRecDepth 20000 in
theorem gX3_seal_X3_sumOf : GoodIn wsX3_seal (wsV RX3 39 RX3 yX3_sumOf wsX3_sumOf) := goodIn_app (goodIn_of _ (by decide +kernel)) ggX3_seal_X3_sumOf
set_option maxRecDepth 20000 in
theorem ggX3_seal_X3_setNumber : GoodIn wsX3_seal wsX3_setNumber := goodIn_r _ [12, 13, 14, 15, 4, 16, 6, 7, 17, 18] (by decide +kernel) (by decide +kernel)
set_option maxRecDepth 20000 in
theorem gX3_seal_X3_setNumber : GoodIn wsX3_seal (wsV RX3 43 RX3 yX3_setNumber wsX3_setNumber) := goodIn_app (goodIn_of _ (by decide +kernel)) ggX3_seal_X3_setNumber
set_option maxRecDepth 20000 in
theorem ggX3_copyStart_X3_byteOf : GoodIn wsX3_copyStart wsX3_byteOf := goodIn_r _ [5, 6, 7, 12, 13] (by decide +kernel) (by decide +kernel)
set_option maxRecDepth 20000 in
theorem gX3_copyStart_X3_byteOf : GoodIn wsX3_copyStart (wsV RX3 28 RX3 yX3_byteOf wsX3_byteOf) := goodIn_app (goodIn_of _ (by decide +kernel)) ggX3_copyStart_X3_byteOf
set_option maxRecDepth 20000 in
theorem ggX3_copyStart_X3_setByte : GoodIn wsX3_copyStart wsX3_setByte := goodIn_r _ [11, 6, 7, 12, 13] (by decide +kernel) (by decide +kernel)
set_option maxRecDepth 20000 in
theorem gX3_copyStart_X3_setByte : GoodIn wsX3_copyStart (wsV RX3 31 RX3 yX3_setByte wsX3_setByte) := goodIn_app (goodIn_of _ (by decide +kernel)) ggX3_copyStart_X3_setByte
set_option maxRecDepth 20000 in
theorem ggX4_init_X2_init : GoodIn wsX4_init wsX2_init := goodIn_r _ [18, 19, 2, 3, 20, 21, 22, 23, 24, 25, 26, 27, 28, 29, 30, 31, 32, 33, 34, 35, 36, 37, 38, 39, 40, 41, 42, 43, 44, 45, 6, 46, 47, 48, 49, 50, 51, 52, 53, 54, 55, 56, 57, 58, 59, 60, 61, 62, 63, 64, 65, 66, 67, 68, 69, 70, 71, 72, 73, 74, 75, 76, 77, 78, 79, 80, 81, 82, 100, 101, 102, 103, 104, 105, 106, 107, 108, 109, 110, 111, 125, 126] (by decide +kernel) (by decide +kernel)
set_option maxRecDepth 20000 in
theorem gX4_init_X2_init : GoodIn wsX4_init (wsX2_init) := ggX4_init_X2_init
set_option maxRecDepth 20000 in
theorem ggX4_init_X0_init : GoodIn wsX4_init wsX0_init := goodIn_r _ [85, 86, 2, 3, 20, 87, 88, 89, 90, 91, 92, 10, 93, 94, 117, 118, 119, 120] (by decide +kernel) (by decide +kernel)
set_option maxRecDepth 20000 in
theorem gX4_init_X0_init : GoodIn wsX4_init (wsX0_init) := ggX4_init_X0_init
set_option maxRecDepth 20000 in
theorem ggX4_init_X1_init : GoodIn wsX4_init wsX1_init := goodIn_r _ [96, 97, 2, 3, 98, 99, 121, 122, 123, 124] (by decide +kernel) (by decide +kernel)
set_option maxRecDepth 20000 in
theorem gX4_init_X1_init_n27 : GoodIn wsX4_init (wsX1_init) := ggX4_init_X1_init
set_option maxRecDepth 20000 in
theorem ggX4_begin_X0_openLeast : GoodIn wsX4_begin wsX0_openLeast := goodIn_r _ [7, 8, 9, 10, 11, 6, 12, 13, 14, 15, 21, 22, 23, 24] (by decide +kernel) (by decide +kernel)
set_option maxRecDepth 20000 in
theorem gX4_begin_X0_openLeast : GoodIn wsX4_begin (wsV RX4 36 RX0 yX0_openLeast wsX0_openLeast) := goodIn_app (goodIn_of _ (by decide +kernel)) ggX4_begin_X0_openLeast
set_option maxRecDepth 20000 in
theorem ggX4_put_X0_isOpen : GoodIn wsX4_put wsX0_isOpen := goodIn_r _ [8, 9, 10, 11, 12, 109, 110, 111, 112] (by decide +kernel) (by decide +kernel)
set_option maxRecDepth 20000 in
theorem gX4_put_X0_isOpen : GoodIn wsX4_put (wsV RX4 40 RX0 yX0_isOpen wsX0_isOpen) := goodIn_app (goodIn_of _ (by decide +kernel)) ggX4_put_X0_isOpen
set_option maxRecDepth 20000 in
theorem ggX4_put_X4_isKey : GoodIn wsX4_put wsX4_isKey := goodIn_r _ [15] (by decide +kernel) (by decide +kernel)
set_option maxRecDepth 20000 in
theorem gX4_put_X4_isKey : GoodIn wsX4_put (va_wsS RX4 44 yX4_isKey wsX4_isKey) := goodIn_app (goodIn_of _ (by decide +kernel)) ggX4_put_X4_isKey
set_option maxRecDepth 20000 in
theorem ggX4_put_X4_isValue : GoodIn wsX4_put wsX4_isValue := goodIn_r _ [18, 19] (by decide +kernel) (by decide +kernel)
set_option maxRecDepth 20000 in
theorem gX4_put_X4_isValue : GoodIn wsX4_put (va_wsS RX4 47 yX4_isValue wsX4_isValue) := goodIn_app (goodIn_of _ (by decide +kernel)) ggX4_put_X4_isValue
set_option maxRecDepth 20000 in
theorem ggX4_put_X0_holderOf : GoodIn wsX4_put wsX0_holderOf := goodIn_r _ [23, 24, 14, 11, 15, 109, 110, 111, 112] (by decide +kernel) (by decide +kernel)
set_option maxRecDepth 20000 in
theorem gX4_put_X0_holderOf : GoodIn wsX4_put (wsV RX4 50 RX0 yX0_holderOf wsX0_holderOf) := goodIn_app (goodIn_of _ (by decide +kernel)) ggX4_put_X0_holderOf
set_option maxRecDepth 20000 in
theorem ggX4_put_X2_canTakeEntry : GoodIn wsX4_put wsX2_canTakeEntry := goodIn_r _ [29, 30, 31, 32, 33, 28, 34, 35, 36, 37, 38, 39, 40, 41, 42, 43, 44, 45, 46, 47, 48, 49, 50, 51, 113, 114, 115, 116, 117, 118, 119, 120, 121, 122, 123, 124, 125, 126] (by decide +kernel) (by decide +kernel)
set_option maxRecDepth 20000 in
theorem gX4_put_X2_canTakeEntry : GoodIn wsX4_put (wsV RX4 54 RX2 yX2_canTakeEntry wsX2_canTakeEntry) := goodIn_app (goodIn_of _ (by decide +kernel)) ggX4_put_X2_canTakeEntry
set_option maxRecDepth 20000 in
theorem ggX4_put_X0_change : GoodIn wsX4_put wsX0_change := goodIn_r _ [55, 9, 24, 56, 10, 11, 12, 14, 15, 109, 110, 111, 112] (by decide +kernel) (by decide +kernel)
set_option maxRecDepth 20000 in
theorem gX4_put_X0_change : GoodIn wsX4_put (wsV RX4 58 RX0 yX0_change wsX0_change) := goodIn_app (goodIn_of _ (by decide +kernel)) ggX4_put_X0_change
set_option maxRecDepth 20000 in
theorem ggX4_put_X2_takeEntry : GoodIn wsX4_put wsX2_takeEntry := goodIn_r _ [60, 30, 61, 62, 63, 64, 65, 66, 28, 67, 68, 41, 69, 70, 71, 72, 73, 35, 74, 75, 76, 77, 78, 45, 79, 47, 80, 81, 82, 83, 84, 85, 86, 87, 88, 89, 90, 91, 92, 93, 94, 95, 96, 97, 98, 99, 100, 101, 102, 103, 113, 114, 115, 116, 117, 118, 119, 120, 121, 122, 123, 124, 125, 126] (by decide +kernel) (by decide +kernel)
set_option maxRecDepth 20000 in
theorem gX4_put_X2_takeEntry : GoodIn wsX4_put (wsV RX4 62 RX2 yX2_takeEntry wsX2_takeEntry) := goodIn_app (goodIn_of _ (by decide +kernel)) ggX4_put_X2_takeEntry
set_option maxRecDepth 20000 in
theorem ggX4_commit_X4_endTransaction : GoodIn wsX4_commit wsX4_endTransaction := goodIn_r _ [6, 7, 8, 9, 10, 11, 12, 13, 14, 15, 16, 5, 17, 18, 19, 20, 21, 22, 23, 24, 25, 26, 27, 28, 29, 30, 31, 32, 33, 34, 35, 36, 37, 38, 39, 40, 41, 42, 43, 44, 45, 46, 47, 48, 49, 50, 51, 52, 53, 54, 55, 56, 57, 58, 59, 60, 61, 62, 63, 64, 65, 66, 67, 68, 69, 70, 71, 72, 73, 74, 75, 76, 77, 78, 79, 80, 81, 82, 83, 84, 85, 86, 87, 88, 89, 90, 91, 92, 93, 94, 95, 96, 97, 98, 99, 100, 101, 102, 103, 104, 105, 106, 107, 108, 109, 110, 111, 112, 113, 114, 115, 116, 117, 118, 119, 120, 121, 122] (by decide +kernel) (by decide +kernel)
set_option maxRecDepth 20000 in
theorem gX4_commit_X4_endTransaction : GoodIn wsX4_commit (wsV RX4 66 RX4 yX4_endTransaction wsX4_endTransaction) := goodIn_app (goodIn_of _ (by decide +kernel)) ggX4_commit_X4_endTransaction
set_option maxRecDepth 20000 in
theorem ggX4_undo_X4_endTransaction : GoodIn wsX4_undo wsX4_endTransaction := goodIn_r _ [5, 6, 7, 8, 9, 10, 11, 12, 13, 14, 15, 4, 16, 17, 18, 19, 20, 21, 22, 23, 24, 25, 26, 27, 28, 29, 30, 31, 32, 33, 34, 35, 36, 37, 38, 39, 40, 41, 42, 43, 44, 45, 46, 47, 48, 49, 50, 51, 52, 53, 54, 55, 56, 57, 58, 59, 60, 61, 62, 63, 64, 65, 66, 67, 68, 69, 70, 71, 72, 73, 74, 75, 76, 77, 78, 79, 80, 81, 82, 83, 84, 85, 86, 87, 88, 89, 90, 91, 92, 93, 94, 95, 96, 97, 98, 99, 100, 101, 102, 103, 104, 105, 106, 107, 108, 109, 110, 111, 112, 113, 114, 115, 116, 117, 118, 119, 120, 121] (by decide +kernel) (by decide +kernel)
set_option maxRecDepth 20000 in
theorem gX4_undo_X4_endTransaction : GoodIn wsX4_undo (wsV RX4 66 RX4 yX4_endTransaction wsX4_endTransaction) := goodIn_app (goodIn_of _ (by decide +kernel)) ggX4_undo_X4_endTransaction
set_option maxRecDepth 20000 in
theorem ggX4_get_X0_committedValue : GoodIn wsX4_get wsX0_committedValue := goodIn_r _ [7, 8, 9, 10, 11, 17, 18, 19, 20] (by decide +kernel) (by decide +kernel)
set_option maxRecDepth 20000 in
theorem gX4_get_X0_committedValue : GoodIn wsX4_get (wsV RX4 74 RX0 yX0_committedValue wsX0_committedValue) := goodIn_app (goodIn_of _ (by decide +kernel)) ggX4_get_X0_committedValue
set_option maxRecDepth 20000 in
theorem ggX4_seen_X0_isOpen : GoodIn wsX4_seen wsX0_isOpen := goodIn_r _ [7, 8, 9, 10, 11, 26, 27, 28, 29] (by decide +kernel) (by decide +kernel)
set_option maxRecDepth 20000 in
theorem gX4_seen_X0_isOpen : GoodIn wsX4_seen (wsV RX4 40 RX0 yX0_isOpen wsX0_isOpen) := goodIn_app (goodIn_of _ (by decide +kernel)) ggX4_seen_X0_isOpen
set_option maxRecDepth 20000 in
theorem ggX4_seen_X0_valueFor : GoodIn wsX4_seen wsX0_valueFor := goodIn_r _ [15, 16, 17, 18, 19, 10, 20, 26, 27, 28, 29] (by decide +kernel) (by decide +kernel)
set_option maxRecDepth 20000 in
theorem gX4_seen_X0_valueFor : GoodIn wsX4_seen (wsV RX4 77 RX0 yX0_valueFor wsX0_valueFor) := goodIn_app (goodIn_of _ (by decide +kernel)) ggX4_seen_X0_valueFor
set_option maxRecDepth 20000 in
theorem ggX4_sync_X2_logsDue : GoodIn wsX4_sync wsX2_logsDue := goodIn_r _ [7, 8, 95, 96, 97, 98, 99, 100, 101, 102, 103, 104, 105, 106] (by decide +kernel) (by decide +kernel)
set_option maxRecDepth 20000 in
theorem gX4_sync_X2_logsDue : GoodIn wsX4_sync (wsV RX4 80 RX2 yX2_logsDue wsX2_logsDue) := goodIn_app (goodIn_of _ (by decide +kernel)) ggX4_sync_X2_logsDue
set_option maxRecDepth 20000 in
theorem ggX4_sync_X2_hasRoom : GoodIn wsX4_sync wsX2_hasRoom := goodIn_r _ [12, 13, 14, 15, 16, 6, 17, 18, 19, 20, 21, 22, 23, 24, 25, 26, 27, 28, 29, 95, 96, 97, 98, 99, 100, 101, 102, 103, 104, 105, 106, 107, 108] (by decide +kernel) (by decide +kernel)
set_option maxRecDepth 20000 in
theorem gX4_sync_X2_hasRoom : GoodIn wsX4_sync (wsV RX4 83 RX2 yX2_hasRoom wsX2_hasRoom) := goodIn_app (goodIn_of _ (by decide +kernel)) ggX4_sync_X2_hasRoom
set_option maxRecDepth 20000 in
theorem ggX4_sync_X2_writeLog : GoodIn wsX4_sync wsX2_writeLog := goodIn_r _ [33, 8, 34, 19, 35, 36, 37, 38, 39, 40, 41, 6, 42, 13, 43, 44, 45, 46, 47, 23, 48, 25, 49, 50, 51, 52, 53, 54, 55, 56, 57, 58, 59, 60, 61, 62, 63, 64, 65, 66, 67, 68, 69, 70, 71, 72, 95, 96, 97, 98, 99, 100, 101, 102, 103, 104, 105, 106, 107, 108] (by decide +kernel) (by decide +kernel)
set_option maxRecDepth 20000 in
theorem gX4_sync_X2_writeLog : GoodIn wsX4_sync (wsV RX4 86 RX2 yX2_writeLog wsX2_writeLog) := goodIn_app (goodIn_of _ (by decide +kernel)) ggX4_sync_X2_writeLog
end
section
set_option maxRecDepth 20000 in
theorem ggX4_sync_X2_putAllOnDisk : GoodIn wsX4_sync wsX2_putAllOnDisk := goodIn_r _ [76, 43, 77, 18, 78, 79, 80, 6, 81, 44, 13, 34, 82, 83, 84, 23, 85, 86, 87, 88, 89, 25, 57, 53, 54, 55, 56, 45, 46, 47, 48, 95, 96, 97, 98, 99, 100, 101, 102, 103, 104, 105, 106, 107, 108] (by decide +kernel) (by decide +kernel)
set_option maxRecDepth 20000 in
theorem gX4_sync_X2_putAllOnDisk : GoodIn wsX4_sync (wsV RX4 89 RX2 yX2_putAllOnDisk wsX2_putAllOnDisk) := goodIn_app (goodIn_of _ (by decide +kernel)) ggX4_sync_X2_putAllOnDisk
set_option maxRecDepth 20000 in
theorem ggX4_checkpoint_X0_openBits : GoodIn wsX4_checkpoint wsX0_openBits := goodIn_r _ [8, 9, 114, 115, 116, 117] (by decide +kernel) (by decide +kernel)
set_option maxRecDepth 20000 in
theorem gX4_checkpoint_X0_openBits : GoodIn wsX4_checkpoint (wsV RX4 92 RX0 yX0_openBits wsX0_openBits) := goodIn_app (goodIn_of _ (by decide +kernel)) ggX4_checkpoint_X0_openBits
set_option maxRecDepth 20000 in
theorem ggX4_checkpoint_X0_pagesDue : GoodIn wsX4_checkpoint wsX0_pagesDue := goodIn_r _ [13, 14, 114, 115, 116, 117] (by decide +kernel) (by decide +kernel)
set_option maxRecDepth 20000 in
theorem gX4_checkpoint_X0_pagesDue : GoodIn wsX4_checkpoint (wsV RX4 95 RX0 yX0_pagesDue wsX0_pagesDue) := goodIn_app (goodIn_of _ (by decide +kernel)) ggX4_checkpoint_X0_pagesDue
set_option maxRecDepth 20000 in
theorem ggX4_checkpoint_X2_logsDue : GoodIn wsX4_checkpoint wsX2_logsDue := goodIn_r _ [19, 20, 118, 119, 120, 121, 122, 123, 124, 125, 126, 127, 128, 129] (by decide +kernel) (by decide +kernel)
set_option maxRecDepth 20000 in
theorem gX4_checkpoint_X2_logsDue : GoodIn wsX4_checkpoint (wsV RX4 80 RX2 yX2_logsDue wsX2_logsDue) := goodIn_app (goodIn_of _ (by decide +kernel)) ggX4_checkpoint_X2_logsDue
set_option maxRecDepth 20000 in
theorem ggX4_checkpoint_X2_hasRoom : GoodIn wsX4_checkpoint wsX2_hasRoom := goodIn_r _ [24, 25, 26, 27, 28, 18, 29, 30, 31, 32, 33, 34, 35, 36, 37, 38, 39, 40, 41, 118, 119, 120, 121, 122, 123, 124, 125, 126, 127, 128, 129, 130, 131] (by decide +kernel) (by decide +kernel)
set_option maxRecDepth 20000 in
theorem gX4_checkpoint_X2_hasRoom : GoodIn wsX4_checkpoint (wsV RX4 83 RX2 yX2_hasRoom wsX2_hasRoom) := goodIn_app (goodIn_of _ (by decide +kernel)) ggX4_checkpoint_X2_hasRoom
set_option maxRecDepth 20000 in
theorem ggX4_checkpoint_X2_writeLog : GoodIn wsX4_checkpoint wsX2_writeLog := goodIn_r _ [45, 20, 46, 31, 47, 48, 49, 50, 51, 52, 53, 18, 54, 25, 55, 56, 57, 58, 59, 35, 60, 37, 61, 62, 63, 64, 65, 66, 67, 68, 69, 70, 71, 72, 73, 74, 75, 76, 77, 78, 79, 80, 81, 82, 83, 84, 118, 119, 120, 121, 122, 123, 124, 125, 126, 127, 128, 129, 130, 131] (by decide +kernel) (by decide +kernel)
set_option maxRecDepth 20000 in
theorem gX4_checkpoint_X2_writeLog : GoodIn wsX4_checkpoint (wsV RX4 86 RX2 yX2_writeLog wsX2_writeLog) := goodIn_app (goodIn_of _ (by decide +kernel)) ggX4_checkpoint_X2_writeLog
set_option maxRecDepth 20000 in
theorem ggX4_checkpoint_X2_writePages : GoodIn wsX4_checkpoint wsX2_writePages := goodIn_r _ [88, 31, 89, 46, 90, 91, 92, 7, 93, 94, 95, 96, 97, 14, 51, 52, 53, 18, 54, 47, 25, 55, 56, 57, 58, 59, 35, 60, 37, 98, 99, 100, 101, 61, 62, 63, 64, 65, 66, 67, 68, 69, 70, 71, 72, 73, 74, 102, 103, 104, 105, 106, 107, 108, 75, 76, 77, 78, 79, 80, 81, 82, 83, 84, 118, 119, 120, 121, 122, 123, 124, 125, 126, 127, 128, 129, 114, 115, 116, 117, 130, 131] (by decide +kernel) (by decide +kernel)
set_option maxRecDepth 20000 in
theorem gX4_checkpoint_X2_writePages : GoodIn wsX4_checkpoint (wsV RX4 98 RX2 yX2_writePages wsX2_writePages) := goodIn_app (goodIn_of _ (by decide +kernel)) ggX4_checkpoint_X2_writePages
set_option maxRecDepth 20000 in
theorem ggX4_cut_X2_waiting : GoodIn wsX4_cut wsX2_waiting := goodIn_r _ [8, 9, 60, 61, 62, 63, 64, 65, 66, 67, 68, 69, 70, 71] (by decide +kernel) (by decide +kernel)
set_option maxRecDepth 20000 in
theorem gX4_cut_X2_waiting : GoodIn wsX4_cut (wsV RX4 102 RX2 yX2_waiting wsX2_waiting) := goodIn_app (goodIn_of _ (by decide +kernel)) ggX4_cut_X2_waiting
set_option maxRecDepth 20000 in
theorem ggX4_cut_X2_loseMemory : GoodIn wsX4_cut wsX2_loseMemory := goodIn_r _ [13, 9, 14, 15, 16, 17, 18, 7, 19, 20, 21, 22, 23, 24, 25, 26, 27, 28, 29, 30, 31, 32, 33, 34, 35, 36, 37, 38, 39, 40, 41, 42, 43, 44, 45, 60, 61, 62, 63, 64, 65, 66, 67, 68, 69, 70, 71, 72, 73] (by decide +kernel) (by decide +kernel)
set_option maxRecDepth 20000 in
theorem gX4_cut_X2_loseMemory : GoodIn wsX4_cut (wsV RX4 105 RX2 yX2_loseMemory wsX2_loseMemory) := goodIn_app (goodIn_of _ (by decide +kernel)) ggX4_cut_X2_loseMemory
set_option maxRecDepth 20000 in
theorem ggX4_cut_X0_clear : GoodIn wsX4_cut wsX0_clear := goodIn_r _ [50, 51, 52, 53, 54, 74, 75, 76, 77] (by decide +kernel) (by decide +kernel)
set_option maxRecDepth 20000 in
theorem gX4_cut_X0_clear : GoodIn wsX4_cut (wsV RX4 109 RX0 yX0_clear wsX0_clear) := goodIn_app (goodIn_of _ (by decide +kernel)) ggX4_cut_X0_clear
set_option maxRecDepth 20000 in
theorem ggX4_start_X1_findCheckpoint : GoodIn wsX4_start wsX1_findCheckpoint := goodIn_r _ [11, 12, 13, 14, 15, 16, 10, 17, 18, 19, 20, 21, 22, 23, 24, 25, 26, 27, 28, 29, 30, 31, 32, 33, 34, 35, 36, 37, 38, 39, 40, 41, 42, 43, 44, 45, 46, 47, 48, 49, 50, 51, 52, 53, 54, 55, 56, 57, 58, 59, 60, 61, 62, 63, 64, 65, 66, 67, 68, 69, 70, 71, 72, 73, 74, 191, 192, 193, 194, 195, 196] (by decide +kernel) (by decide +kernel)
set_option maxRecDepth 20000 in
theorem gX4_start_X1_findCheckpoint : GoodIn wsX4_start (wsV RX4 116 RX1 yX1_findCheckpoint wsX1_findCheckpoint) := goodIn_app (goodIn_of _ (by decide +kernel)) ggX4_start_X1_findCheckpoint
set_option maxRecDepth 20000 in
theorem ggX4_start_X1_readPages : GoodIn wsX4_start wsX1_readPages := goodIn_r _ [78, 13, 12, 79, 80, 81, 10, 82, 22, 23, 24, 25, 26, 27, 28, 83, 43, 44, 45, 41, 84, 85, 86, 87, 88, 89, 32, 30, 33, 67, 68, 69, 70, 191, 192, 193, 194, 195, 196, 197, 198, 199, 200] (by decide +kernel) (by decide +kernel)
set_option maxRecDepth 20000 in
theorem gX4_start_X1_readPages : GoodIn wsX4_start (wsV RX4 120 RX1 yX1_readPages wsX1_readPages) := goodIn_app (goodIn_of _ (by decide +kernel)) ggX4_start_X1_readPages
set_option maxRecDepth 20000 in
theorem ggX4_start_X1_goOverRun : GoodIn wsX4_start wsX1_goOverRun := goodIn_r _ [93, 79, 51, 52, 53, 25, 54, 27, 67, 68, 69, 70, 59, 60, 61, 10, 62, 18, 63, 64, 65, 66, 42, 43, 44, 45, 41, 23, 24, 26, 28, 22, 94, 95, 96, 83, 97, 98, 99, 87, 100, 101, 102, 103, 29, 30, 31, 32, 33, 104, 105, 106, 107, 89, 108, 109, 110, 111, 191, 192, 193, 194, 195, 196, 197, 198, 199, 200] (by decide +kernel) (by decide +kernel)
set_option maxRecDepth 20000 in
theorem gX4_start_X1_goOverRun : GoodIn wsX4_start (wsV RX4 124 RX1 yX1_goOverRun wsX1_goOverRun) := goodIn_app (goodIn_of _ (by decide +kernel)) ggX4_start_X1_goOverRun
set_option maxRecDepth 20000 in
theorem ggX4_start_X1_firstPage : GoodIn wsX4_start wsX1_firstPage := goodIn_r _ [115, 13, 191, 192, 193, 194] (by decide +kernel) (by decide +kernel)
set_option maxRecDepth 20000 in
theorem gX4_start_X1_firstPage : GoodIn wsX4_start (wsV RX4 127 RX1 yX1_firstPage wsX1_firstPage) := goodIn_app (goodIn_of _ (by decide +kernel)) ggX4_start_X1_firstPage
set_option maxRecDepth 20000 in
theorem ggX4_start_X1_runEnd : GoodIn wsX4_start wsX1_runEnd := goodIn_r _ [119, 79, 191, 192, 193, 194] (by decide +kernel) (by decide +kernel)
set_option maxRecDepth 20000 in
theorem gX4_start_X1_runEnd : GoodIn wsX4_start (wsV RX4 130 RX1 yX1_runEnd wsX1_runEnd) := goodIn_app (goodIn_of _ (by decide +kernel)) ggX4_start_X1_runEnd
set_option maxRecDepth 20000 in
theorem ggX4_start_X2_goOn : GoodIn wsX4_start wsX2_goOn := goodIn_r _ [124, 125, 126, 127, 128, 129, 64, 65, 25, 66, 42, 43, 44, 45, 41, 23, 24, 26, 27, 28, 179, 180, 181, 182, 183, 184, 185, 186, 187, 188, 189, 190, 195, 196] (by decide +kernel) (by decide +kernel)
set_option maxRecDepth 20000 in
theorem gX4_start_X2_goOn : GoodIn wsX4_start (wsV RX4 133 RX2 yX2_goOn wsX2_goOn) := goodIn_app (goodIn_of _ (by decide +kernel)) ggX4_start_X2_goOn
set_option maxRecDepth 20000 in
theorem ggX4_start_X4_undoAllOpen : GoodIn wsX4_start wsX4_undoAllOpen := goodIn_r _ [133, 5, 3, 134, 109, 110, 87, 111, 101, 29, 30, 31, 135, 136, 137, 123, 138, 139, 140, 141, 142, 143, 144, 145, 146, 147, 126, 128, 148, 149, 150, 151, 127, 152, 153, 154, 68, 69, 25, 70, 27, 155, 156, 157, 158, 159, 160, 161, 162, 28, 163, 164, 165, 166, 167, 168, 169, 170, 171, 172, 46, 47, 48, 49, 50, 173, 105, 106, 107, 102, 89, 103, 108, 174, 175, 176, 177, 178, 197, 198, 199, 200, 179, 180, 181, 182, 183, 184, 185, 186, 187, 188, 189, 190, 195, 196] (by decide +kernel) (by decide +kernel)
set_option maxRecDepth 20000 in
theorem gX4_start_X4_undoAllOpen : GoodIn wsX4_start (wsV RX4 136 RX4 yX4_undoAllOpen wsX4_undoAllOpen) := goodIn_app (goodIn_of _ (by decide +kernel)) ggX4_start_X4_undoAllOpen
set_option maxRecDepth 20000 in
theorem ggX4_at_X3_byteOf : GoodIn wsX4_at wsX3_byteOf := goodIn_r _ [7, 8, 9, 27, 28] (by decide +kernel) (by decide +kernel)
set_option maxRecDepth 20000 in
theorem gX4_at_X3_byteOf : GoodIn wsX4_at (wsV RX4 139 RX3 yX3_byteOf wsX3_byteOf) := goodIn_app (goodIn_of _ (by decide +kernel)) ggX4_at_X3_byteOf
set_option maxRecDepth 20000 in
theorem ggX4_sound_X3_isSound : GoodIn wsX4_sound wsX3_isSound := goodIn_r _ [7, 8, 9, 10, 6, 11, 12, 13, 14, 15, 16, 17, 18, 19, 20, 21, 22, 40, 41] (by decide +kernel) (by decide +kernel)
set_option maxRecDepth 20000 in
theorem gX4_sound_X3_isSound : GoodIn wsX4_sound (wsV RX4 144 RX3 yX3_isSound wsX3_isSound) := goodIn_app (goodIn_of _ (by decide +kernel)) ggX4_sound_X3_isSound
set_option maxRecDepth 20000 in
theorem ggX4_poke_X3_byteOf : GoodIn wsX4_poke wsX3_byteOf := goodIn_r _ [7, 8, 9, 31, 32] (by decide +kernel) (by decide +kernel)
set_option maxRecDepth 20000 in
theorem gX4_poke_X3_byteOf : GoodIn wsX4_poke (wsV RX4 139 RX3 yX3_byteOf wsX3_byteOf) := goodIn_app (goodIn_of _ (by decide +kernel)) ggX4_poke_X3_byteOf
set_option maxRecDepth 20000 in
theorem ggX4_poke_X3_setByte : GoodIn wsX4_poke wsX3_setByte := goodIn_r _ [13, 8, 9, 31, 32] (by decide +kernel) (by decide +kernel)
set_option maxRecDepth 20000 in
theorem gX4_poke_X3_setByte : GoodIn wsX4_poke (wsV RX4 147 RX3 yX3_setByte wsX3_setByte) := goodIn_app (goodIn_of _ (by decide +kernel)) ggX4_poke_X3_setByte
set_option maxRecDepth 20000 in
theorem ggX4_count_X2_lastSerial : GoodIn wsX4_count wsX2_lastSerial := goodIn_r _ [9, 10, 49, 50, 51, 52, 53, 54, 55, 56, 57, 58, 59, 60] (by decide +kernel) (by decide +kernel)
set_option maxRecDepth 20000 in
theorem gX4_count_X2_lastSerial : GoodIn wsX4_count (wsV RX4 150 RX2 yX2_lastSerial wsX2_lastSerial) := goodIn_app (goodIn_of _ (by decide +kernel)) ggX4_count_X2_lastSerial
set_option maxRecDepth 20000 in
theorem ggX4_count_X2_lastSector : GoodIn wsX4_count wsX2_lastSector := goodIn_r _ [14, 15, 49, 50, 51, 52, 53, 54, 55, 56, 57, 58, 59, 60] (by decide +kernel) (by decide +kernel)
set_option maxRecDepth 20000 in
theorem gX4_count_X2_lastSector : GoodIn wsX4_count (wsV RX4 153 RX2 yX2_lastSector wsX2_lastSector) := goodIn_app (goodIn_of _ (by decide +kernel)) ggX4_count_X2_lastSector
set_option maxRecDepth 20000 in
theorem ggX4_count_X2_waiting : GoodIn wsX4_count wsX2_waiting := goodIn_r _ [19, 20, 49, 50, 51, 52, 53, 54, 55, 56, 57, 58, 59, 60] (by decide +kernel) (by decide +kernel)
set_option maxRecDepth 20000 in
theorem gX4_count_X2_waiting : GoodIn wsX4_count (wsV RX4 102 RX2 yX2_waiting wsX2_waiting) := goodIn_app (goodIn_of _ (by decide +kernel)) ggX4_count_X2_waiting
set_option maxRecDepth 20000 in
theorem ggX4_count_X2_entries : GoodIn wsX4_count wsX2_entries := goodIn_r _ [24, 25, 49, 50, 51, 52, 53, 54, 55, 56, 57, 58, 59, 60] (by decide +kernel) (by decide +kernel)
set_option maxRecDepth 20000 in
theorem gX4_count_X2_entries : GoodIn wsX4_count (wsV RX4 156 RX2 yX2_entries wsX2_entries) := goodIn_app (goodIn_of _ (by decide +kernel)) ggX4_count_X2_entries
set_option maxRecDepth 20000 in
theorem ggX4_count_X2_needed : GoodIn wsX4_count wsX2_needed := goodIn_r _ [29, 30, 31, 15, 32, 33, 34, 35, 36, 37, 49, 50, 51, 52, 53, 54, 55, 56, 57, 58, 59, 60, 61, 62] (by decide +kernel) (by decide +kernel)
set_option maxRecDepth 20000 in
theorem gX4_count_X2_needed : GoodIn wsX4_count (wsV RX4 159 RX2 yX2_needed wsX2_needed) := goodIn_app (goodIn_of _ (by decide +kernel)) ggX4_count_X2_needed
set_option maxRecDepth 20000 in
theorem ggX4_count_X0_openBits : GoodIn wsX4_count wsX0_openBits := goodIn_r _ [42, 43, 63, 64, 65, 66] (by decide +kernel) (by decide +kernel)
set_option maxRecDepth 20000 in
theorem gX4_count_X0_openBits : GoodIn wsX4_count (wsV RX4 92 RX0 yX0_openBits wsX0_openBits) := goodIn_app (goodIn_of _ (by decide +kernel)) ggX4_count_X0_openBits
set_option maxRecDepth 20000 in
theorem ggX4_holder_X0_holderOf : GoodIn wsX4_holder wsX0_holderOf := goodIn_r _ [7, 8, 9, 10, 11, 17, 18, 19, 20] (by decide +kernel) (by decide +kernel)
set_option maxRecDepth 20000 in
theorem gX4_holder_X0_holderOf : GoodIn wsX4_holder (wsV RX4 50 RX0 yX0_holderOf wsX0_holderOf) := goodIn_app (goodIn_of _ (by decide +kernel)) ggX4_holder_X0_holderOf
set_option maxRecDepth 20000 in
theorem ggX4_format_X2_beginAnew : GoodIn wsX4_format wsX2_beginAnew := goodIn_r _ [9, 10, 11, 12, 13, 14, 15, 16, 17, 18, 19, 20, 21, 22, 23, 24, 25, 26, 27, 28, 29, 30, 31, 32, 33, 34, 35, 36, 37, 38, 39, 40, 41, 42, 43, 44, 45, 8, 46, 47, 48, 49, 64, 65, 66, 67, 68, 69, 70, 71, 72, 73, 74, 75, 76, 77] (by decide +kernel) (by decide +kernel)
set_option maxRecDepth 20000 in
theorem gX4_format_X2_beginAnew : GoodIn wsX4_format (wsV RX4 162 RX2 yX2_beginAnew wsX2_beginAnew) := goodIn_app (goodIn_of _ (by decide +kernel)) ggX4_format_X2_beginAnew
set_option maxRecDepth 20000 in
theorem ggX4_format_X0_clear : GoodIn wsX4_format wsX0_clear := goodIn_r _ [54, 55, 56, 57, 58, 78, 79, 80, 81] (by decide +kernel) (by decide +kernel)
set_option maxRecDepth 20000 in
theorem gX4_format_X0_clear : GoodIn wsX4_format (wsV RX4 109 RX0 yX0_clear wsX0_clear) := goodIn_app (goodIn_of _ (by decide +kernel)) ggX4_format_X0_clear
set_option maxRecDepth 20000 in
theorem ggX4_endTransaction_X0_isOpen : GoodIn wsX4_endTransaction wsX0_isOpen := goodIn_r _ [8, 9, 10, 11, 12, 100, 101, 102, 103] (by decide +kernel) (by decide +kernel)
set_option maxRecDepth 20000 in
theorem gX4_endTransaction_X0_isOpen : GoodIn wsX4_endTransaction (wsV RX4 40 RX0 yX0_isOpen wsX0_isOpen) := goodIn_app (goodIn_of _ (by decide +kernel)) ggX4_endTransaction_X0_isOpen
set_option maxRecDepth 20000 in
theorem ggX4_endTransaction_X2_canTakeEntry : GoodIn wsX4_endTransaction wsX2_canTakeEntry := goodIn_r _ [17, 18, 19, 20, 21, 16, 22, 23, 24, 25, 26, 27, 28, 29, 30, 31, 32, 33, 34, 35, 36, 37, 38, 39, 104, 105, 106, 107, 108, 109, 110, 111, 112, 113, 114, 115, 116, 117] (by decide +kernel) (by decide +kernel)
set_option maxRecDepth 20000 in
theorem gX4_endTransaction_X2_canTakeEntry : GoodIn wsX4_endTransaction (wsV RX4 54 RX2 yX2_canTakeEntry wsX2_canTakeEntry) := goodIn_app (goodIn_of _ (by decide +kernel)) ggX4_endTransaction_X2_canTakeEntry
set_option maxRecDepth 20000 in
theorem ggX4_endTransaction_X2_takeEntry : GoodIn wsX4_endTransaction wsX2_takeEntry := goodIn_r _ [43, 18, 44, 45, 46, 47, 48, 49, 16, 50, 51, 29, 52, 53, 54, 55, 56, 23, 57, 58, 59, 60, 61, 33, 62, 35, 63, 64, 65, 66, 67, 68, 69, 70, 71, 72, 73, 74, 75, 76, 77, 78, 79, 80, 81, 82, 83, 84, 85, 86, 104, 105, 106, 107, 108, 109, 110, 111, 112, 113, 114, 115, 116, 117] (by decide +kernel) (by decide +kernel)
set_option maxRecDepth 20000 in
theorem gX4_endTransaction_X2_takeEntry : GoodIn wsX4_endTransaction (wsV RX4 62 RX2 yX2_takeEntry wsX2_takeEntry) := goodIn_app (goodIn_of _ (by decide +kernel)) ggX4_endTransaction_X2_takeEntry
set_option maxRecDepth 20000 in
theorem ggX4_endTransaction_X0_close : GoodIn wsX4_endTransaction wsX0_close := goodIn_r _ [90, 91, 92, 93, 9, 94, 5, 6, 7, 8, 10, 11, 12, 100, 101, 102, 103] (by decide +kernel) (by decide +kernel)
set_option maxRecDepth 20000 in
theorem gX4_endTransaction_X0_close : GoodIn wsX4_endTransaction (wsV RX4 165 RX0 yX0_close wsX0_close) := goodIn_app (goodIn_of _ (by decide +kernel)) ggX4_endTransaction_X0_close
set_option maxRecDepth 20000 in
theorem ggX4_undoAllOpen_X0_isOpen : GoodIn wsX4_undoAllOpen wsX0_isOpen := goodIn_r _ [7, 8, 9, 10, 11, 78, 79, 80, 81] (by decide +kernel) (by decide +kernel)
set_option maxRecDepth 20000 in
theorem gX4_undoAllOpen_X0_isOpen : GoodIn wsX4_undoAllOpen (wsV RX4 40 RX0 yX0_isOpen wsX0_isOpen) := goodIn_app (goodIn_of _ (by decide +kernel)) ggX4_undoAllOpen_X0_isOpen
set_option maxRecDepth 20000 in
theorem ggX4_undoAllOpen_X2_takeEntry : GoodIn wsX4_undoAllOpen wsX2_takeEntry := goodIn_r _ [16, 17, 18, 19, 20, 21, 22, 23, 15, 24, 25, 26, 27, 28, 29, 30, 31, 32, 33, 34, 35, 36, 37, 38, 39, 40, 41, 42, 43, 44, 45, 46, 47, 48, 49, 50, 51, 52, 53, 54, 55, 56, 57, 58, 59, 60, 61, 62, 63, 64, 82, 83, 84, 85, 86, 87, 88, 89, 90, 91, 92, 93, 94, 95] (by decide +kernel) (by decide +kernel)
set_option maxRecDepth 20000 in
theorem gX4_undoAllOpen_X2_takeEntry : GoodIn wsX4_undoAllOpen (wsV RX4 62 RX2 yX2_takeEntry wsX2_takeEntry) := goodIn_app (goodIn_of _ (by decide +kernel)) ggX4_undoAllOpen_X2_takeEntry
set_option maxRecDepth 20000 in
theorem ggX4_undoAllOpen_X0_close : GoodIn wsX4_undoAllOpen wsX0_close := goodIn_r _ [68, 69, 70, 71, 8, 72, 4, 5, 6, 7, 9, 10, 11, 78, 79, 80, 81] (by decide +kernel) (by decide +kernel)
set_option maxRecDepth 20000 in
theorem gX4_undoAllOpen_X0_close : GoodIn wsX4_undoAllOpen (wsV RX4 165 RX0 yX0_close wsX0_close) := goodIn_app (goodIn_of _ (by decide +kernel)) ggX4_undoAllOpen_X0_close
set_option maxRecDepth 20000 in
theorem ggX5_init_X5_begin0 : GoodIn wsX5_init wsX5_begin0 := goodIn_r _ [23, 24, 18, 5, 25, 26, 27, 28, 17, 29, 30, 31, 22, 32, 33, 34, 35, 14, 12, 15, 36, 37, 38, 39, 40, 41, 42, 43, 44, 45, 46, 47, 48, 49, 50, 51, 52, 53, 54, 55, 56, 57, 58, 59, 60, 61, 62, 63, 64, 65, 66, 67, 68, 69, 70, 71] (by decide +kernel) (by decide +kernel)
set_option maxRecDepth 20000 in
theorem gX5_init_X5_begin0 : GoodIn wsX5_init (wsV RX5 49 RX5 yX5_begin0 wsX5_begin0) := goodIn_app (goodIn_of _ (by decide +kernel)) ggX5_init_X5_begin0
set_option maxRecDepth 20000 in
theorem ggX5_begin0_X5_forget : GoodIn wsX5_begin0 wsX5_forget := goodIn_r _ [13, 14, 15, 16, 17, 18, 19, 36, 37, 38, 39, 40, 41, 42, 43, 44, 45, 46, 47, 48, 49, 50, 51, 52, 53, 54, 55] (by decide +kernel) (by decide +kernel)
set_option maxRecDepth 20000 in
theorem gX5_begin0_X5_forget : GoodIn wsX5_begin0 (wsV RX5 61 RX5 yX5_forget wsX5_forget) := goodIn_app (goodIn_of _ (by decide +kernel)) ggX5_begin0_X5_forget
set_option maxRecDepth 20000 in
theorem ggX5_begin0_X5_clearRow : GoodIn wsX5_begin0 wsX5_clearRow := goodIn_r _ [23, 8, 24, 25, 26, 12, 27, 36, 37, 38, 39, 40, 41, 42, 43, 44, 45, 46, 47, 48, 49, 50, 51, 52, 53, 54, 55] (by decide +kernel) (by decide +kernel)
set_option maxRecDepth 20000 in
theorem gX5_begin0_X5_clearRow : GoodIn wsX5_begin0 (wsV RX5 80 RX5 yX5_clearRow wsX5_clearRow) := goodIn_app (goodIn_of _ (by decide +kernel)) ggX5_begin0_X5_clearRow
set_option maxRecDepth 20000 in
theorem ggX5_begin0_X5_seal : GoodIn wsX5_begin0 wsX5_seal := goodIn_r _ [31, 8, 32, 33, 12, 34, 35, 24, 25, 26, 27, 36, 37, 38, 39, 40, 41, 42, 43, 44, 45, 46, 47, 48, 49, 50, 51, 52, 53, 54, 55] (by decide +kernel) (by decide +kernel)
set_option maxRecDepth 20000 in
theorem gX5_begin0_X5_seal : GoodIn wsX5_begin0 (wsV RX5 84 RX5 yX5_seal wsX5_seal) := goodIn_app (goodIn_of _ (by decide +kernel)) ggX5_begin0_X5_seal
set_option maxRecDepth 20000 in
theorem ggX5_clearRow_X5_number : GoodIn wsX5_clearRow wsX5_number := goodIn_r _ [6, 1, 7, 8, 9, 10, 11, 12, 13, 14, 15, 16, 17, 18, 19, 20, 21, 22, 23, 24, 25, 26] (by decide +kernel) (by decide +kernel)
set_option maxRecDepth 20000 in
theorem gX5_clearRow_X5_number : GoodIn wsX5_clearRow (wsV RX5 88 RX5 yX5_number wsX5_number) := goodIn_app (goodIn_of _ (by decide +kernel)) ggX5_clearRow_X5_number
set_option maxRecDepth 20000 in
theorem ggX5_seal_X5_step : GoodIn wsX5_seal wsX5_step := goodIn_r _ [5, 6] (by decide +kernel) (by decide +kernel)
set_option maxRecDepth 20000 in
theorem gX5_seal_X5_step : GoodIn wsX5_seal (va_wsS RX5 93 yX5_step wsX5_step) := goodIn_app (goodIn_of _ (by decide +kernel)) ggX5_seal_X5_step
set_option maxRecDepth 20000 in
theorem ggX5_seal_X5_number : GoodIn wsX5_seal wsX5_number := goodIn_r _ [10, 1, 11, 12, 13, 14, 15, 16, 17, 18, 19, 20, 21, 22, 23, 24, 25, 26, 27, 28, 29, 30] (by decide +kernel) (by decide +kernel)
set_option maxRecDepth 20000 in
theorem gX5_seal_X5_number : GoodIn wsX5_seal (wsV RX5 88 RX5 yX5_number wsX5_number) := goodIn_app (goodIn_of _ (by decide +kernel)) ggX5_seal_X5_number
set_option maxRecDepth 20000 in
theorem ggX5_mayWrite_X5_needed : GoodIn wsX5_mayWrite wsX5_needed := goodIn_r _ [6, 7, 8, 9, 10, 11, 12, 13, 14, 15, 16, 17, 18, 19, 20, 21, 22, 23, 24, 25, 26, 27, 28] (by decide +kernel) (by decide +kernel)
set_option maxRecDepth 20000 in
theorem gX5_mayWrite_X5_needed : GoodIn wsX5_mayWrite (wsV RX5 97 RX5 yX5_needed wsX5_needed) := goodIn_app (goodIn_of _ (by decide +kernel)) ggX5_mayWrite_X5_needed
set_option maxRecDepth 20000 in
theorem ggX5_write_X5_seal : GoodIn wsX5_write wsX5_seal := goodIn_r _ [12, 6, 13, 14, 11, 15, 16, 17, 18, 19, 20, 21, 22, 23, 24, 25, 26, 27, 28, 29, 30, 31, 32, 33, 34, 35, 36, 37, 38, 39, 40] (by decide +kernel) (by decide +kernel)
set_option maxRecDepth 20000 in
theorem gX5_write_X5_seal : GoodIn wsX5_write (wsV RX5 84 RX5 yX5_seal wsX5_seal) := goodIn_app (goodIn_of _ (by decide +kernel)) ggX5_write_X5_seal
set_option maxRecDepth 20000 in
theorem ggX5_writeEntries_X5_clearRow : GoodIn wsX5_writeEntries wsX5_clearRow := goodIn_r _ [11, 2, 12, 13, 14, 10, 15, 33, 34, 35, 36, 37, 38, 39, 40, 41, 42, 43, 44, 45, 46, 47, 48, 49, 50, 51, 52] (by decide +kernel) (by decide +kernel)
set_option maxRecDepth 20000 in
theorem gX5_writeEntries_X5_clearRow : GoodIn wsX5_writeEntries (wsV RX5 80 RX5 yX5_clearRow wsX5_clearRow) := goodIn_app (goodIn_of _ (by decide +kernel)) ggX5_writeEntries_X5_clearRow
set_option maxRecDepth 20000 in
theorem ggX5_writeEntries_X5_number : GoodIn wsX5_writeEntries wsX5_number := goodIn_r _ [15, 2, 33, 34, 35, 36, 37, 38, 39, 40, 41, 42, 43, 44, 45, 46, 47, 48, 49, 50, 51, 52] (by decide +kernel) (by decide +kernel)
set_option maxRecDepth 20000 in
theorem gX5_writeEntries_X5_number : GoodIn wsX5_writeEntries (wsV RX5 88 RX5 yX5_number wsX5_number) := goodIn_app (goodIn_of _ (by decide +kernel)) ggX5_writeEntries_X5_number
set_option maxRecDepth 20000 in
theorem ggX5_writeEntries_X5_write : GoodIn wsX5_writeEntries wsX5_write := goodIn_r _ [19, 20, 21, 22, 23, 24, 2, 1, 25, 26, 27, 10, 28, 29, 30, 31, 32, 12, 13, 14, 15, 33, 34, 35, 36, 37, 38, 39, 40, 41, 42, 43, 44, 45, 46, 47, 48, 49, 50, 51, 52] (by decide +kernel) (by decide +kernel)
set_option maxRecDepth 20000 in
theorem gX5_writeEntries_X5_write : GoodIn wsX5_writeEntries (wsV RX5 101 RX5 yX5_write wsX5_write) := goodIn_app (goodIn_of _ (by decide +kernel)) ggX5_writeEntries_X5_write
set_option maxRecDepth 20000 in
theorem ggX5_add_X5_writeEntries : GoodIn wsX5_add wsX5_writeEntries := goodIn_r _ [9, 10, 11, 2, 1, 3, 4, 12, 13, 14, 8, 15, 16, 17, 18, 19, 20, 21, 22, 23, 24, 25, 26, 27, 28, 29, 30, 31, 32, 33, 34, 35, 36, 37, 38, 39, 40, 41, 42, 43, 44, 45, 46, 47, 48, 49, 50, 51, 52, 53, 54, 55, 56] (by decide +kernel) (by decide +kernel)
set_option maxRecDepth 20000 in
theorem gX5_add_X5_writeEntries : GoodIn wsX5_add (wsV RX5 104 RX5 yX5_writeEntries wsX5_writeEntries) := goodIn_app (goodIn_of _ (by decide +kernel)) ggX5_add_X5_writeEntries
set_option maxRecDepth 20000 in
theorem ggX5_mayAdd_X5_mayWrite : GoodIn wsX5_mayAdd wsX5_mayWrite := goodIn_r _ [6, 7, 8, 9, 10, 5, 11, 12, 13, 14, 15, 16, 17, 18, 19, 20, 21, 22, 23, 24, 25, 26, 27, 28, 29, 30, 31, 32, 33] (by decide +kernel) (by decide +kernel)
set_option maxRecDepth 20000 in
theorem gX5_mayAdd_X5_mayWrite : GoodIn wsX5_mayAdd (wsV RX5 107 RX5 yX5_mayWrite wsX5_mayWrite) := goodIn_app (goodIn_of _ (by decide +kernel)) ggX5_mayAdd_X5_mayWrite
set_option maxRecDepth 20000 in
theorem ggX5_isOpenOne_X5_isIn : GoodIn wsX5_isOpenOne wsX5_isIn := goodIn_r _ [5] (by decide +kernel) (by decide +kernel)
set_option maxRecDepth 20000 in
theorem gX5_isOpenOne_X5_isIn : GoodIn wsX5_isOpenOne (va_wsS RX5 111 yX5_isIn wsX5_isIn) := goodIn_app (goodIn_of _ (by decide +kernel)) ggX5_isOpenOne_X5_isIn
set_option maxRecDepth 20000 in
theorem ggX5_isKey_X5_isIn : GoodIn wsX5_isKey wsX5_isIn := goodIn_r _ [4] (by decide +kernel) (by decide +kernel)
set_option maxRecDepth 20000 in
theorem gX5_isKey_X5_isIn : GoodIn wsX5_isKey (va_wsS RX5 111 yX5_isIn wsX5_isIn) := goodIn_app (goodIn_of _ (by decide +kernel)) ggX5_isKey_X5_isIn
set_option maxRecDepth 20000 in
theorem ggX5_put_X5_isOpenOne : GoodIn wsX5_put wsX5_isOpenOne := goodIn_r _ [9, 10, 11, 12, 8, 13, 69, 70, 71, 72, 73, 74, 75, 76, 77, 78, 79, 80, 81, 82, 83, 84, 85, 86, 87, 88] (by decide +kernel) (by decide +kernel)
set_option maxRecDepth 20000 in
theorem gX5_put_X5_isOpenOne : GoodIn wsX5_put (wsV RX5 115 RX5 yX5_isOpenOne wsX5_isOpenOne) := goodIn_app (goodIn_of _ (by decide +kernel)) ggX5_put_X5_isOpenOne
set_option maxRecDepth 20000 in
theorem ggX5_put_X5_isKey : GoodIn wsX5_put wsX5_isKey := goodIn_r _ [16, 11, 12, 8, 13] (by decide +kernel) (by decide +kernel)
set_option maxRecDepth 20000 in
theorem gX5_put_X5_isKey : GoodIn wsX5_put (va_wsS RX5 118 yX5_isKey wsX5_isKey) := goodIn_app (goodIn_of _ (by decide +kernel)) ggX5_put_X5_isKey
set_option maxRecDepth 20000 in
theorem ggX5_put_X5_isIn : GoodIn wsX5_put wsX5_isIn := goodIn_r _ [13] (by decide +kernel) (by decide +kernel)
set_option maxRecDepth 20000 in
theorem gX5_put_X5_isIn : GoodIn wsX5_put (va_wsS RX5 111 yX5_isIn wsX5_isIn) := goodIn_app (goodIn_of _ (by decide +kernel)) ggX5_put_X5_isIn
set_option maxRecDepth 20000 in
theorem ggX5_put_X5_mayAdd : GoodIn wsX5_put wsX5_mayAdd := goodIn_r _ [20, 21, 22, 23, 24, 8, 25, 26, 27, 28, 29, 30, 31, 32, 69, 70, 71, 72, 73, 74, 75, 76, 77, 78, 79, 80, 81, 82, 83, 84, 85, 86, 87, 88] (by decide +kernel) (by decide +kernel)
set_option maxRecDepth 20000 in
theorem gX5_put_X5_mayAdd : GoodIn wsX5_put (wsV RX5 122 RX5 yX5_mayAdd wsX5_mayAdd) := goodIn_app (goodIn_of _ (by decide +kernel)) ggX5_put_X5_mayAdd
set_option maxRecDepth 20000 in
theorem ggX5_put_X5_add : GoodIn wsX5_put wsX5_add := goodIn_r _ [36, 37, 21, 38, 39, 40, 41, 42, 8, 43, 31, 44, 45, 46, 47, 48, 49, 50, 51, 52, 53, 54, 55, 56, 57, 26, 58, 59, 60, 61, 62, 63, 64, 65, 66, 67, 68, 69, 70, 71, 72, 73, 74, 75, 76, 77, 78, 79, 80, 81, 82, 83, 84, 85, 86, 87, 88] (by decide +kernel) (by decide +kernel)
set_option maxRecDepth 20000 in
theorem gX5_put_X5_add : GoodIn wsX5_put (wsV RX5 126 RX5 yX5_add wsX5_add) := goodIn_app (goodIn_of _ (by decide +kernel)) ggX5_put_X5_add
set_option maxRecDepth 20000 in
theorem ggX5_finish_X5_isOpenOne : GoodIn wsX5_finish wsX5_isOpenOne := goodIn_r _ [7, 8, 9, 10, 6, 11, 71, 72, 73, 74, 75, 76, 77, 78, 79, 80, 81, 82, 83, 84, 85, 86, 87, 88, 89, 90] (by decide +kernel) (by decide +kernel)
set_option maxRecDepth 20000 in
theorem gX5_finish_X5_isOpenOne : GoodIn wsX5_finish (wsV RX5 115 RX5 yX5_isOpenOne wsX5_isOpenOne) := goodIn_app (goodIn_of _ (by decide +kernel)) ggX5_finish_X5_isOpenOne
set_option maxRecDepth 20000 in
theorem ggX5_finish_X5_mayAdd : GoodIn wsX5_finish wsX5_mayAdd := goodIn_r _ [15, 16, 17, 18, 19, 6, 20, 21, 22, 23, 24, 25, 26, 27, 71, 72, 73, 74, 75, 76, 77, 78, 79, 80, 81, 82, 83, 84, 85, 86, 87, 88, 89, 90] (by decide +kernel) (by decide +kernel)
set_option maxRecDepth 20000 in
theorem gX5_finish_X5_mayAdd : GoodIn wsX5_finish (wsV RX5 122 RX5 yX5_mayAdd wsX5_mayAdd) := goodIn_app (goodIn_of _ (by decide +kernel)) ggX5_finish_X5_mayAdd
set_option maxRecDepth 20000 in
theorem ggX5_finish_X5_add : GoodIn wsX5_finish wsX5_add := goodIn_r _ [31, 32, 16, 33, 34, 35, 36, 37, 6, 38, 26, 39, 40, 41, 42, 43, 44, 45, 46, 47, 48, 49, 50, 51, 52, 21, 53, 54, 55, 56, 57, 58, 59, 60, 61, 62, 63, 71, 72, 73, 74, 75, 76, 77, 78, 79, 80, 81, 82, 83, 84, 85, 86, 87, 88, 89, 90] (by decide +kernel) (by decide +kernel)
set_option maxRecDepth 20000 in
theorem gX5_finish_X5_add : GoodIn wsX5_finish (wsV RX5 126 RX5 yX5_add wsX5_add) := goodIn_app (goodIn_of _ (by decide +kernel)) ggX5_finish_X5_add
set_option maxRecDepth 20000 in
theorem ggX5_finish_X5_release : GoodIn wsX5_finish wsX5_release := goodIn_r _ [67, 68, 69, 70, 8, 71, 72, 73, 74, 75, 76, 77, 78, 79, 80, 81, 82, 83, 84, 85, 86, 87, 88, 89, 90] (by decide +kernel) (by decide +kernel)
set_option maxRecDepth 20000 in
theorem gX5_finish_X5_release : GoodIn wsX5_finish (wsV RX5 129 RX5 yX5_release wsX5_release) := goodIn_app (goodIn_of _ (by decide +kernel)) ggX5_finish_X5_release
set_option maxRecDepth 20000 in
theorem ggX5_commit_X5_finish : GoodIn wsX5_commit wsX5_finish := goodIn_r _ [5, 6, 7, 8, 9, 10, 4, 11, 12, 13, 14, 15, 16, 17, 18, 19, 20, 21, 22, 23, 24, 25, 26, 27, 28, 29, 30, 31, 32, 33, 34, 35, 36, 37, 38, 39, 40, 41, 42, 43, 44, 45, 46, 47, 48, 49, 50, 51, 52, 53, 54, 55, 56, 57, 58, 59, 60, 61, 62, 63, 64, 65, 66, 67, 68, 69, 70, 71, 72, 73, 74, 75, 76, 77, 78, 79, 80, 81, 82, 83, 84, 85, 86, 87, 88, 89, 90, 91, 92, 93, 94] (by decide +kernel) (by decide +kernel)
set_option maxRecDepth 20000 in
theorem gX5_commit_X5_finish : GoodIn wsX5_commit (wsV RX5 133 RX5 yX5_finish wsX5_finish) := goodIn_app (goodIn_of _ (by decide +kernel)) ggX5_commit_X5_finish
set_option maxRecDepth 20000 in
theorem ggX5_undo_X5_finish : GoodIn wsX5_undo wsX5_finish := goodIn_r _ [5, 6, 7, 8, 9, 10, 4, 11, 12, 13, 14, 15, 16, 17, 18, 19, 20, 21, 22, 23, 24, 25, 26, 27, 28, 29, 30, 31, 32, 33, 34, 35, 36, 37, 38, 39, 40, 41, 42, 43, 44, 45, 46, 47, 48, 49, 50, 51, 52, 53, 54, 55, 56, 57, 58, 59, 60, 61, 62, 63, 64, 65, 66, 67, 68, 69, 70, 71, 72, 73, 74, 75, 76, 77, 78, 79, 80, 81, 82, 83, 84, 85, 86, 87, 88, 89, 90, 91, 92, 93, 94] (by decide +kernel) (by decide +kernel)
set_option maxRecDepth 20000 in
theorem gX5_undo_X5_finish : GoodIn wsX5_undo (wsV RX5 133 RX5 yX5_finish wsX5_finish) := goodIn_app (goodIn_of _ (by decide +kernel)) ggX5_undo_X5_finish
set_option maxRecDepth 20000 in
theorem ggX5_get_X5_isKey : GoodIn wsX5_get wsX5_isKey := goodIn_r _ [6, 7, 8, 5, 9] (by decide +kernel) (by decide +kernel)
set_option maxRecDepth 20000 in
theorem gX5_get_X5_isKey : GoodIn wsX5_get (va_wsS RX5 118 yX5_isKey wsX5_isKey) := goodIn_app (goodIn_of _ (by decide +kernel)) ggX5_get_X5_isKey
set_option maxRecDepth 20000 in
theorem ggX5_seen_X5_isOpenOne : GoodIn wsX5_seen wsX5_isOpenOne := goodIn_r _ [9, 10, 11, 12, 8, 13, 17, 18, 19, 20, 21, 22, 23, 24, 25, 26, 27, 28, 29, 30, 31, 32, 33, 34, 35, 36] (by decide +kernel) (by decide +kernel)
set_option maxRecDepth 20000 in
theorem gX5_seen_X5_isOpenOne : GoodIn wsX5_seen (wsV RX5 115 RX5 yX5_isOpenOne wsX5_isOpenOne) := goodIn_app (goodIn_of _ (by decide +kernel)) ggX5_seen_X5_isOpenOne
set_option maxRecDepth 20000 in
theorem ggX5_seen_X5_isKey : GoodIn wsX5_seen wsX5_isKey := goodIn_r _ [16, 11, 12, 8, 13] (by decide +kernel) (by decide +kernel)
set_option maxRecDepth 20000 in
theorem gX5_seen_X5_isKey : GoodIn wsX5_seen (va_wsS RX5 118 yX5_isKey wsX5_isKey) := goodIn_app (goodIn_of _ (by decide +kernel)) ggX5_seen_X5_isKey
set_option maxRecDepth 20000 in
theorem ggX5_sync_X5_mayWrite : GoodIn wsX5_sync wsX5_mayWrite := goodIn_r _ [10, 11, 12, 13, 14, 9, 15, 16, 5, 53, 54, 55, 56, 57, 58, 59, 60, 61, 62, 63, 64, 65, 66, 67, 68, 69, 70, 71, 72] (by decide +kernel) (by decide +kernel)
set_option maxRecDepth 20000 in
theorem gX5_sync_X5_mayWrite : GoodIn wsX5_sync (wsV RX5 107 RX5 yX5_mayWrite wsX5_mayWrite) := goodIn_app (goodIn_of _ (by decide +kernel)) ggX5_sync_X5_mayWrite
set_option maxRecDepth 20000 in
theorem ggX5_sync_X5_writeEntries : GoodIn wsX5_sync wsX5_writeEntries := goodIn_r _ [20, 16, 21, 2, 22, 23, 24, 25, 26, 27, 9, 28, 29, 30, 31, 32, 33, 34, 35, 36, 37, 11, 38, 3, 39, 40, 41, 42, 43, 44, 45, 46, 47, 53, 54, 55, 56, 57, 58, 59, 60, 61, 62, 63, 64, 65, 66, 67, 68, 69, 70, 71, 72] (by decide +kernel) (by decide +kernel)
set_option maxRecDepth 20000 in
theorem gX5_sync_X5_writeEntries : GoodIn wsX5_sync (wsV RX5 104 RX5 yX5_writeEntries wsX5_writeEntries) := goodIn_app (goodIn_of _ (by decide +kernel)) ggX5_sync_X5_writeEntries
set_option maxRecDepth 20000 in
theorem ggX5_sync_X5_lay : GoodIn wsX5_sync wsX5_lay := goodIn_r _ [51, 52, 38, 39, 53, 54, 55, 56, 57, 58, 59, 60, 61, 62, 63, 64, 65, 66, 67, 68, 69, 70, 71, 72] (by decide +kernel) (by decide +kernel)
set_option maxRecDepth 20000 in
theorem gX5_sync_X5_lay : GoodIn wsX5_sync (wsV RX5 136 RX5 yX5_lay wsX5_lay) := goodIn_app (goodIn_of _ (by decide +kernel)) ggX5_sync_X5_lay
set_option maxRecDepth 20000 in
theorem ggX5_checkpoint_X5_mayWrite : GoodIn wsX5_checkpoint wsX5_mayWrite := goodIn_r _ [12, 13, 14, 15, 16, 11, 17, 5, 18, 50, 51, 52, 53, 54, 55, 56, 57, 58, 59, 60, 61, 62, 63, 64, 65, 66, 67, 68, 69] (by decide +kernel) (by decide +kernel)
set_option maxRecDepth 20000 in
theorem gX5_checkpoint_X5_mayWrite : GoodIn wsX5_checkpoint (wsV RX5 107 RX5 yX5_mayWrite wsX5_mayWrite) := goodIn_app (goodIn_of _ (by decide +kernel)) ggX5_checkpoint_X5_mayWrite
set_option maxRecDepth 20000 in
theorem ggX5_checkpoint_X5_writeEntries : GoodIn wsX5_checkpoint wsX5_writeEntries := goodIn_r _ [22, 5, 7, 4, 23, 24, 25, 26, 27, 28, 11, 29, 30, 31, 32, 33, 34, 35, 36, 37, 38, 13, 39, 40, 41, 42, 43, 44, 45, 46, 47, 48, 49, 50, 51, 52, 53, 54, 55, 56, 57, 58, 59, 60, 61, 62, 63, 64, 65, 66, 67, 68, 69] (by decide +kernel) (by decide +kernel)
set_option maxRecDepth 20000 in
theorem gX5_checkpoint_X5_writeEntries : GoodIn wsX5_checkpoint (wsV RX5 104 RX5 yX5_writeEntries wsX5_writeEntries) := goodIn_app (goodIn_of _ (by decide +kernel)) ggX5_checkpoint_X5_writeEntries
set_option maxRecDepth 20000 in
theorem ggX5_checkpoint_X5_clearRow : GoodIn wsX5_checkpoint wsX5_clearRow := goodIn_r _ [29, 7, 30, 31, 32, 11, 33, 50, 51, 52, 53, 54, 55, 56, 57, 58, 59, 60, 61, 62, 63, 64, 65, 66, 67, 68, 69] (by decide +kernel) (by decide +kernel)
set_option maxRecDepth 20000 in
theorem gX5_checkpoint_X5_clearRow : GoodIn wsX5_checkpoint (wsV RX5 80 RX5 yX5_clearRow wsX5_clearRow) := goodIn_app (goodIn_of _ (by decide +kernel)) ggX5_checkpoint_X5_clearRow
set_option maxRecDepth 20000 in
theorem ggX5_checkpoint_X5_number : GoodIn wsX5_checkpoint wsX5_number := goodIn_r _ [33, 7, 50, 51, 52, 53, 54, 55, 56, 57, 58, 59, 60, 61, 62, 63, 64, 65, 66, 67, 68, 69] (by decide +kernel) (by decide +kernel)
set_option maxRecDepth 20000 in
theorem gX5_checkpoint_X5_number : GoodIn wsX5_checkpoint (wsV RX5 88 RX5 yX5_number wsX5_number) := goodIn_app (goodIn_of _ (by decide +kernel)) ggX5_checkpoint_X5_number
set_option maxRecDepth 20000 in
theorem ggX5_checkpoint_X5_write : GoodIn wsX5_checkpoint wsX5_write := goodIn_r _ [37, 38, 13, 39, 40, 41, 7, 5, 42, 43, 44, 11, 45, 46, 47, 48, 49, 30, 31, 32, 33, 50, 51, 52, 53, 54, 55, 56, 57, 58, 59, 60, 61, 62, 63, 64, 65, 66, 67, 68, 69] (by decide +kernel) (by decide +kernel)
set_option maxRecDepth 20000 in
theorem gX5_checkpoint_X5_write : GoodIn wsX5_checkpoint (wsV RX5 101 RX5 yX5_write wsX5_write) := goodIn_app (goodIn_of _ (by decide +kernel)) ggX5_checkpoint_X5_write
set_option maxRecDepth 20000 in
theorem ggX5_cut_X5_isIn : GoodIn wsX5_cut wsX5_isIn := goodIn_r _ [6] (by decide +kernel) (by decide +kernel)
set_option maxRecDepth 20000 in
theorem gX5_cut_X5_isIn : GoodIn wsX5_cut (va_wsS RX5 111 yX5_isIn wsX5_isIn) := goodIn_app (goodIn_of _ (by decide +kernel)) ggX5_cut_X5_isIn
set_option maxRecDepth 20000 in
theorem ggX5_cut_X5_lay : GoodIn wsX5_cut wsX5_lay := goodIn_r _ [10, 11, 12, 13, 23, 24, 25, 26, 27, 28, 29, 30, 31, 32, 33, 34, 35, 36, 37, 38, 39, 40, 41, 42] (by decide +kernel) (by decide +kernel)
set_option maxRecDepth 20000 in
theorem gX5_cut_X5_lay : GoodIn wsX5_cut (wsV RX5 136 RX5 yX5_lay wsX5_lay) := goodIn_app (goodIn_of _ (by decide +kernel)) ggX5_cut_X5_lay
set_option maxRecDepth 20000 in
theorem ggX5_cut_X5_forget : GoodIn wsX5_cut wsX5_forget := goodIn_r _ [17, 2, 18, 19, 20, 21, 22, 23, 24, 25, 26, 27, 28, 29, 30, 31, 32, 33, 34, 35, 36, 37, 38, 39, 40, 41, 42] (by decide +kernel) (by decide +kernel)
set_option maxRecDepth 20000 in
theorem gX5_cut_X5_forget : GoodIn wsX5_cut (wsV RX5 61 RX5 yX5_forget wsX5_forget) := goodIn_app (goodIn_of _ (by decide +kernel)) ggX5_cut_X5_forget
set_option maxRecDepth 20000 in
theorem ggX5_numberAt_X5_byteAt : GoodIn wsX5_numberAt wsX5_byteAt := goodIn_r _ [5, 6, 7, 8, 9, 10, 11, 12, 13, 14, 15, 16, 17, 18, 19, 20, 21, 22, 23, 24, 25, 26] (by decide +kernel) (by decide +kernel)
set_option maxRecDepth 20000 in
theorem gX5_numberAt_X5_byteAt : GoodIn wsX5_numberAt (wsV RX5 139 RX5 yX5_byteAt wsX5_byteAt) := goodIn_app (goodIn_of _ (by decide +kernel)) ggX5_numberAt_X5_byteAt
set_option maxRecDepth 20000 in
theorem ggX5_isSound_X5_byteAt : GoodIn wsX5_isSound wsX5_byteAt := goodIn_r _ [5, 6, 15, 16, 17, 18, 19, 20, 21, 22, 23, 24, 25, 26, 27, 28, 29, 30, 31, 32, 33, 34] (by decide +kernel) (by decide +kernel)
set_option maxRecDepth 20000 in
theorem gX5_isSound_X5_byteAt : GoodIn wsX5_isSound (wsV RX5 139 RX5 yX5_byteAt wsX5_byteAt) := goodIn_app (goodIn_of _ (by decide +kernel)) ggX5_isSound_X5_byteAt
set_option maxRecDepth 20000 in
theorem ggX5_isSound_X5_step : GoodIn wsX5_isSound wsX5_step := goodIn_r _ [9, 10] (by decide +kernel) (by decide +kernel)
set_option maxRecDepth 20000 in
theorem gX5_isSound_X5_step : GoodIn wsX5_isSound (va_wsS RX5 93 yX5_step wsX5_step) := goodIn_app (goodIn_of _ (by decide +kernel)) ggX5_isSound_X5_step
set_option maxRecDepth 20000 in
theorem ggX5_isSound_X5_numberAt : GoodIn wsX5_isSound wsX5_numberAt := goodIn_r _ [14, 1, 2, 3, 4, 5, 6, 15, 16, 17, 18, 19, 20, 21, 22, 23, 24, 25, 26, 27, 28, 29, 30, 31, 32, 33, 34] (by decide +kernel) (by decide +kernel)
set_option maxRecDepth 20000 in
theorem gX5_isSound_X5_numberAt : GoodIn wsX5_isSound (wsV RX5 142 RX5 yX5_numberAt wsX5_numberAt) := goodIn_app (goodIn_of _ (by decide +kernel)) ggX5_isSound_X5_numberAt
set_option maxRecDepth 20000 in
theorem ggX5_tells_X5_byteAt : GoodIn wsX5_tells wsX5_byteAt := goodIn_r _ [5, 6, 19, 20, 21, 22, 23, 24, 25, 26, 27, 28, 29, 30, 31, 32, 33, 34, 35, 36, 37, 38] (by decide +kernel) (by decide +kernel)
set_option maxRecDepth 20000 in
theorem gX5_tells_X5_byteAt : GoodIn wsX5_tells (wsV RX5 139 RX5 yX5_byteAt wsX5_byteAt) := goodIn_app (goodIn_of _ (by decide +kernel)) ggX5_tells_X5_byteAt
set_option maxRecDepth 20000 in
theorem ggX5_tells_X5_isSound : GoodIn wsX5_tells wsX5_isSound := goodIn_r _ [10, 1, 2, 3, 4, 5, 6, 11, 12, 13, 14, 15, 16, 17, 18, 19, 20, 21, 22, 23, 24, 25, 26, 27, 28, 29, 30, 31, 32, 33, 34, 35, 36, 37, 38] (by decide +kernel) (by decide +kernel)
set_option maxRecDepth 20000 in
theorem gX5_tells_X5_isSound : GoodIn wsX5_tells (wsV RX5 146 RX5 yX5_isSound wsX5_isSound) := goodIn_app (goodIn_of _ (by decide +kernel)) ggX5_tells_X5_isSound
set_option maxRecDepth 20000 in
theorem ggX5_serialAt_X5_numberAt : GoodIn wsX5_serialAt wsX5_numberAt := goodIn_r _ [5, 6, 7, 8, 4, 9, 10, 11, 12, 13, 14, 15, 16, 17, 18, 19, 20, 21, 22, 23, 24, 25, 26, 27, 28, 29, 30] (by decide +kernel) (by decide +kernel)
set_option maxRecDepth 20000 in
theorem gX5_serialAt_X5_numberAt : GoodIn wsX5_serialAt (wsV RX5 142 RX5 yX5_numberAt wsX5_numberAt) := goodIn_app (goodIn_of _ (by decide +kernel)) ggX5_serialAt_X5_numberAt
set_option maxRecDepth 20000 in
theorem ggX5_pagesFrom_X5_byteAt : GoodIn wsX5_pagesFrom wsX5_byteAt := goodIn_r _ [6, 7, 28, 29, 30, 31, 32, 33, 34, 35, 36, 37, 38, 39, 40, 41, 42, 43, 44, 45, 46, 47] (by decide +kernel) (by decide +kernel)
set_option maxRecDepth 20000 in
theorem gX5_pagesFrom_X5_byteAt : GoodIn wsX5_pagesFrom (wsV RX5 139 RX5 yX5_byteAt wsX5_byteAt) := goodIn_app (goodIn_of _ (by decide +kernel)) ggX5_pagesFrom_X5_byteAt
set_option maxRecDepth 20000 in
theorem ggX5_pagesFrom_X5_tells : GoodIn wsX5_pagesFrom wsX5_tells := goodIn_r _ [11, 2, 3, 4, 5, 6, 7, 12, 13, 14, 15, 16, 17, 18, 19, 20, 21, 22, 23, 28, 29, 30, 31, 32, 33, 34, 35, 36, 37, 38, 39, 40, 41, 42, 43, 44, 45, 46, 47] (by decide +kernel) (by decide +kernel)
set_option maxRecDepth 20000 in
theorem gX5_pagesFrom_X5_tells : GoodIn wsX5_pagesFrom (wsV RX5 149 RX5 yX5_tells wsX5_tells) := goodIn_app (goodIn_of _ (by decide +kernel)) ggX5_pagesFrom_X5_tells
set_option maxRecDepth 20000 in
theorem ggX5_pagesFrom_X5_serialAt : GoodIn wsX5_pagesFrom wsX5_serialAt := goodIn_r _ [27, 20, 21, 22, 5, 23, 2, 3, 4, 6, 7, 28, 29, 30, 31, 32, 33, 34, 35, 36, 37, 38, 39, 40, 41, 42, 43, 44, 45, 46, 47] (by decide +kernel) (by decide +kernel)
set_option maxRecDepth 20000 in
theorem gX5_pagesFrom_X5_serialAt : GoodIn wsX5_pagesFrom (wsV RX5 152 RX5 yX5_serialAt wsX5_serialAt) := goodIn_app (goodIn_of _ (by decide +kernel)) ggX5_pagesFrom_X5_serialAt
set_option maxRecDepth 20000 in
theorem ggX5_redo_X5_byteAt : GoodIn wsX5_redo wsX5_byteAt := goodIn_r _ [8, 9, 19, 20, 21, 22, 23, 24, 25, 26, 27, 28, 29, 30, 31, 32, 33, 34, 35, 36, 37, 38] (by decide +kernel) (by decide +kernel)
set_option maxRecDepth 20000 in
theorem gX5_redo_X5_byteAt : GoodIn wsX5_redo (wsV RX5 139 RX5 yX5_byteAt wsX5_byteAt) := goodIn_app (goodIn_of _ (by decide +kernel)) ggX5_redo_X5_byteAt
set_option maxRecDepth 20000 in
theorem ggX5_redo_X5_numberAt : GoodIn wsX5_redo wsX5_numberAt := goodIn_r _ [13, 4, 5, 6, 7, 8, 9, 19, 20, 21, 22, 23, 24, 25, 26, 27, 28, 29, 30, 31, 32, 33, 34, 35, 36, 37, 38] (by decide +kernel) (by decide +kernel)
set_option maxRecDepth 20000 in
theorem gX5_redo_X5_numberAt : GoodIn wsX5_redo (wsV RX5 142 RX5 yX5_numberAt wsX5_numberAt) := goodIn_app (goodIn_of _ (by decide +kernel)) ggX5_redo_X5_numberAt
set_option maxRecDepth 20000 in
theorem ggX5_redo_X5_release : GoodIn wsX5_redo wsX5_release := goodIn_r _ [17, 2, 18, 3, 1, 19, 20, 21, 22, 23, 24, 25, 26, 27, 28, 29, 30, 31, 32, 33, 34, 35, 36, 37, 38] (by decide +kernel) (by decide +kernel)
set_option maxRecDepth 20000 in
theorem gX5_redo_X5_release : GoodIn wsX5_redo (wsV RX5 129 RX5 yX5_release wsX5_release) := goodIn_app (goodIn_of _ (by decide +kernel)) ggX5_redo_X5_release
set_option maxRecDepth 20000 in
theorem ggX5_start_X5_serialAt : GoodIn wsX5_start wsX5_serialAt := goodIn_r _ [14, 15, 16, 17, 13, 18, 19, 20, 21, 22, 23, 87, 88, 89, 90, 91, 92, 93, 94, 95, 96, 97, 98, 99, 100, 101, 102, 103, 104, 105, 106] (by decide +kernel) (by decide +kernel)
set_option maxRecDepth 20000 in
theorem gX5_start_X5_serialAt : GoodIn wsX5_start (wsV RX5 152 RX5 yX5_serialAt wsX5_serialAt) := goodIn_app (goodIn_of _ (by decide +kernel)) ggX5_start_X5_serialAt
set_option maxRecDepth 20000 in
theorem ggX5_start_X5_pagesFrom : GoodIn wsX5_start wsX5_pagesFrom := goodIn_r _ [27, 2, 19, 20, 21, 13, 22, 23, 28, 29, 30, 31, 32, 33, 34, 35, 36, 37, 38, 39, 15, 16, 17, 18, 10, 11, 12, 14, 87, 88, 89, 90, 91, 92, 93, 94, 95, 96, 97, 98, 99, 100, 101, 102, 103, 104, 105, 106] (by decide +kernel) (by decide +kernel)
set_option maxRecDepth 20000 in
theorem gX5_start_X5_pagesFrom : GoodIn wsX5_start (wsV RX5 157 RX5 yX5_pagesFrom wsX5_pagesFrom) := goodIn_app (goodIn_of _ (by decide +kernel)) ggX5_start_X5_pagesFrom
set_option maxRecDepth 20000 in
theorem ggX5_start_X5_forget : GoodIn wsX5_start wsX5_forget := goodIn_r _ [43, 44, 45, 46, 9, 4, 47, 87, 88, 89, 90, 91, 92, 93, 94, 95, 96, 97, 98, 99, 100, 101, 102, 103, 104, 105, 106] (by decide +kernel) (by decide +kernel)
set_option maxRecDepth 20000 in
theorem gX5_start_X5_forget : GoodIn wsX5_start (wsV RX5 61 RX5 yX5_forget wsX5_forget) := goodIn_app (goodIn_of _ (by decide +kernel)) ggX5_start_X5_forget
set_option maxRecDepth 20000 in
theorem ggX5_start_X5_byteAt : GoodIn wsX5_start wsX5_byteAt := goodIn_r _ [22, 23, 87, 88, 89, 90, 91, 92, 93, 94, 95, 96, 97, 98, 99, 100, 101, 102, 103, 104, 105, 106] (by decide +kernel) (by decide +kernel)
set_option maxRecDepth 20000 in
theorem gX5_start_X5_byteAt : GoodIn wsX5_start (wsV RX5 139 RX5 yX5_byteAt wsX5_byteAt) := goodIn_app (goodIn_of _ (by decide +kernel)) ggX5_start_X5_byteAt
set_option maxRecDepth 20000 in
theorem ggX5_start_X5_numberAt : GoodIn wsX5_start wsX5_numberAt := goodIn_r _ [18, 19, 20, 21, 13, 22, 23, 87, 88, 89, 90, 91, 92, 93, 94, 95, 96, 97, 98, 99, 100, 101, 102, 103, 104, 105, 106] (by decide +kernel) (by decide +kernel)
set_option maxRecDepth 20000 in
theorem gX5_start_X5_numberAt : GoodIn wsX5_start (wsV RX5 142 RX5 yX5_numberAt wsX5_numberAt) := goodIn_app (goodIn_of _ (by decide +kernel)) ggX5_start_X5_numberAt
set_option maxRecDepth 20000 in
theorem ggX5_start_X5_tells : GoodIn wsX5_start wsX5_tells := goodIn_r _ [31, 19, 20, 21, 13, 22, 23, 32, 33, 34, 35, 36, 37, 38, 39, 15, 16, 17, 18, 87, 88, 89, 90, 91, 92, 93, 94, 95, 96, 97, 98, 99, 100, 101, 102, 103, 104, 105, 106] (by decide +kernel) (by decide +kernel)
set_option maxRecDepth 20000 in
theorem gX5_start_X5_tells : GoodIn wsX5_start (wsV RX5 149 RX5 yX5_tells wsX5_tells) := goodIn_app (goodIn_of _ (by decide +kernel)) ggX5_start_X5_tells
set_option maxRecDepth 20000 in
theorem ggX5_start_X5_redo : GoodIn wsX5_start wsX5_redo := goodIn_r _ [51, 9, 47, 52, 19, 20, 21, 13, 22, 23, 15, 16, 17, 18, 53, 54, 55, 56, 4, 87, 88, 89, 90, 91, 92, 93, 94, 95, 96, 97, 98, 99, 100, 101, 102, 103, 104, 105, 106] (by decide +kernel) (by decide +kernel)
set_option maxRecDepth 20000 in
theorem gX5_start_X5_redo : GoodIn wsX5_start (wsV RX5 160 RX5 yX5_redo wsX5_redo) := goodIn_app (goodIn_of _ (by decide +kernel)) ggX5_start_X5_redo
set_option maxRecDepth 20000 in
theorem ggX5_start_X5_release : GoodIn wsX5_start wsX5_release := goodIn_r _ [56, 47, 4, 52, 9, 87, 88, 89, 90, 91, 92, 93, 94, 95, 96, 97, 98, 99, 100, 101, 102, 103, 104, 105, 106] (by decide +kernel) (by decide +kernel)
set_option maxRecDepth 20000 in
theorem gX5_start_X5_release : GoodIn wsX5_start (wsV RX5 129 RX5 yX5_release wsX5_release) := goodIn_app (goodIn_of _ (by decide +kernel)) ggX5_start_X5_release
set_option maxRecDepth 20000 in
theorem ggX5_start_X5_add : GoodIn wsX5_start wsX5_add := goodIn_r _ [60, 61, 45, 62, 63, 64, 65, 66, 13, 67, 7, 68, 69, 70, 71, 72, 73, 74, 75, 76, 77, 78, 79, 80, 8, 2, 81, 44, 82, 83, 84, 85, 86, 36, 37, 38, 39, 87, 88, 89, 90, 91, 92, 93, 94, 95, 96, 97, 98, 99, 100, 101, 102, 103, 104, 105, 106] (by decide +kernel) (by decide +kernel)
set_option maxRecDepth 20000 in
theorem gX5_start_X5_add : GoodIn wsX5_start (wsV RX5 126 RX5 yX5_add wsX5_add) := goodIn_app (goodIn_of _ (by decide +kernel)) ggX5_start_X5_add
set_option maxRecDepth 20000 in
theorem ggX5_at_X5_isIn : GoodIn wsX5_at wsX5_isIn := goodIn_r _ [5] (by decide +kernel) (by decide +kernel)
set_option maxRecDepth 20000 in
theorem gX5_at_X5_isIn : GoodIn wsX5_at (va_wsS RX5 111 yX5_isIn wsX5_isIn) := goodIn_app (goodIn_of _ (by decide +kernel)) ggX5_at_X5_isIn
set_option maxRecDepth 20000 in
theorem ggX5_at_X5_byteAt : GoodIn wsX5_at wsX5_byteAt := goodIn_r _ [9, 10, 11, 12, 13, 14, 15, 16, 17, 18, 19, 20, 21, 22, 23, 24, 25, 26, 27, 28, 29, 30] (by decide +kernel) (by decide +kernel)
set_option maxRecDepth 20000 in
theorem gX5_at_X5_byteAt : GoodIn wsX5_at (wsV RX5 139 RX5 yX5_byteAt wsX5_byteAt) := goodIn_app (goodIn_of _ (by decide +kernel)) ggX5_at_X5_byteAt
set_option maxRecDepth 20000 in
theorem ggX5_sound_X5_isIn : GoodIn wsX5_sound wsX5_isIn := goodIn_r _ [5] (by decide +kernel) (by decide +kernel)
set_option maxRecDepth 20000 in
theorem gX5_sound_X5_isIn : GoodIn wsX5_sound (va_wsS RX5 111 yX5_isIn wsX5_isIn) := goodIn_app (goodIn_of _ (by decide +kernel)) ggX5_sound_X5_isIn
set_option maxRecDepth 20000 in
theorem ggX5_sound_X5_isSound : GoodIn wsX5_sound wsX5_isSound := goodIn_r _ [9, 10, 11, 12, 4, 13, 14, 15, 16, 17, 18, 19, 20, 21, 22, 23, 24, 25, 26, 27, 28, 29, 30, 31, 32, 33, 34, 35, 36, 37, 38, 39, 40, 41, 42] (by decide +kernel) (by decide +kernel)
set_option maxRecDepth 20000 in
theorem gX5_sound_X5_isSound : GoodIn wsX5_sound (wsV RX5 146 RX5 yX5_isSound wsX5_isSound) := goodIn_app (goodIn_of _ (by decide +kernel)) ggX5_sound_X5_isSound
set_option maxRecDepth 20000 in
theorem ggX5_poke_X5_isIn : GoodIn wsX5_poke wsX5_isIn := goodIn_r _ [6] (by decide +kernel) (by decide +kernel)
set_option maxRecDepth 20000 in
theorem gX5_poke_X5_isIn : GoodIn wsX5_poke (va_wsS RX5 111 yX5_isIn wsX5_isIn) := goodIn_app (goodIn_of _ (by decide +kernel)) ggX5_poke_X5_isIn
set_option maxRecDepth 20000 in
theorem ggX5_count_X5_needed : GoodIn wsX5_count wsX5_needed := goodIn_r _ [12, 2, 13, 14, 15, 16, 17, 18, 19, 20, 21, 22, 23, 24, 25, 26, 27, 28, 29, 30, 31, 32, 33] (by decide +kernel) (by decide +kernel)
set_option maxRecDepth 20000 in
theorem gX5_count_X5_needed : GoodIn wsX5_count (wsV RX5 97 RX5 yX5_needed wsX5_needed) := goodIn_app (goodIn_of _ (by decide +kernel)) ggX5_count_X5_needed
set_option maxRecDepth 20000 in
theorem ggX5_holder_X5_isKey : GoodIn wsX5_holder wsX5_isKey := goodIn_r _ [6, 7, 8, 5, 9] (by decide +kernel) (by decide +kernel)
set_option maxRecDepth 20000 in
theorem gX5_holder_X5_isKey : GoodIn wsX5_holder (va_wsS RX5 118 yX5_isKey wsX5_isKey) := goodIn_app (goodIn_of _ (by decide +kernel)) ggX5_holder_X5_isKey
set_option maxRecDepth 20000 in
theorem ggX5_format_X5_begin0 : GoodIn wsX5_format wsX5_begin0 := goodIn_r _ [7, 1, 8, 9, 10, 11, 12, 13, 14, 15, 16, 17, 6, 18, 19, 20, 2, 21, 22, 23, 24, 25, 26, 27, 28, 29, 30, 31, 32, 33, 34, 35, 36, 37, 38, 39, 40, 41, 42, 43, 44, 45, 46, 47, 48, 49, 50, 51, 52, 53, 54, 55, 56, 57, 58, 59] (by decide +kernel) (by decide +kernel)
set_option maxRecDepth 20000 in
theorem gX5_format_X5_begin0 : GoodIn wsX5_format (wsV RX5 49 RX5 yX5_begin0 wsX5_begin0) := goodIn_app (goodIn_of _ (by decide +kernel)) ggX5_format_X5_begin0
end
section
theorem dX0_init_0 : decode cX0_init 0 = .ok (.aload_n 0, 1) := by decide +kernel
theorem dX0_init_1 : decode cX0_init 1 = .ok (.invokespecial 3, 3) := by decide +kernel
theorem dX0_init_4 : decode cX0_init 4 = .ok (.aload_n 0, 1) := by decide +kernel
theorem dX0_init_5 : decode cX0_init 5 = .ok (.bipush 32, 2) := by decide +kernel
theorem dX0_init_7 : decode cX0_init 7 = .ok (.newarray .int, 2) := by decide +kernel
theorem dX0_init_9 : decode cX0_init 9 = .ok (.putfield 9, 3) := by decide +kernel
theorem dX0_init_12 : decode cX0_init 12 = .ok (.aload_n 0, 1) := by decide +kernel
theorem dX0_init_13 : decode cX0_init 13 = .ok (.bipush 32, 2) := by decide +kernel
theorem dX0_init_15 : decode cX0_init 15 = .ok (.newarray .int, 2) := by decide +kernel
theorem dX0_init_17 : decode cX0_init 17 = .ok (.putfield 15, 3) := by decide +kernel
theorem dX0_init_20 : decode cX0_init 20 = .ok (.aload_n 0, 1) := by decide +kernel
theorem dX0_init_21 : decode cX0_init 21 = .ok (.bipush 32, 2) := by decide +kernel
theorem dX0_init_23 : decode cX0_init 23 = .ok (.newarray .int, 2) := by decide +kernel
theorem dX0_init_25 : decode cX0_init 25 = .ok (.putfield 18, 3) := by decide +kernel
theorem dX0_init_28 : decode cX0_init 28 = .ok (.aload_n 0, 1) := by decide +kernel
theorem dX0_init_29 : decode cX0_init 29 = .ok (.invokevirtual 21, 3) := by decide +kernel
theorem dX0_init_32 : decode cX0_init 32 = .ok (.return_, 1) := by decide +kernel
theorem dX0_clear_0 : decode cX0_clear 0 = .ok (.iconst 0, 1) := by decide +kernel
theorem dX0_clear_1 : decode cX0_clear 1 = .ok (.istore_n 1, 1) := by decide +kernel
theorem dX0_clear_2 : decode cX0_clear 2 = .ok (.iload_n 1, 1) := by decide +kernel
theorem dX0_clear_3 : decode cX0_clear 3 = .ok (.bipush 32, 2) := by decide +kernel
theorem dX0_clear_5 : decode cX0_clear 5 = .ok (.if_icmp .ge 30, 3) := by decide +kernel
theorem dX0_clear_8 : decode cX0_clear 8 = .ok (.aload_n 0, 1) := by decide +kernel
theorem dX0_clear_9 : decode cX0_clear 9 = .ok (.getfield 9, 3) := by decide +kernel
theorem dX0_clear_12 : decode cX0_clear 12 = .ok (.iload_n 1, 1) := by decide +kernel
theorem dX0_clear_13 : decode cX0_clear 13 = .ok (.iconst (-1), 1) := by decide +kernel
theorem dX0_clear_14 : decode cX0_clear 14 = .ok (.iastore, 1) := by decide +kernel
theorem dX0_clear_15 : decode cX0_clear 15 = .ok (.aload_n 0, 1) := by decide +kernel
theorem dX0_clear_16 : decode cX0_clear 16 = .ok (.getfield 15, 3) := by decide +kernel
theorem dX0_clear_19 : decode cX0_clear 19 = .ok (.iload_n 1, 1) := by decide +kernel
theorem dX0_clear_20 : decode cX0_clear 20 = .ok (.iconst (-1), 1) := by decide +kernel
theorem dX0_clear_21 : decode cX0_clear 21 = .ok (.iastore, 1) := by decide +kernel
theorem dX0_clear_22 : decode cX0_clear 22 = .ok (.aload_n 0, 1) := by decide +kernel
theorem dX0_clear_23 : decode cX0_clear 23 = .ok (.getfield 18, 3) := by decide +kernel
theorem dX0_clear_26 : decode cX0_clear 26 = .ok (.iload_n 1, 1) := by decide +kernel
theorem dX0_clear_27 : decode cX0_clear 27 = .ok (.iconst (-1), 1) := by decide +kernel
theorem dX0_clear_28 : decode cX0_clear 28 = .ok (.iastore, 1) := by decide +kernel
theorem dX0_clear_29 : decode cX0_clear 29 = .ok (.iinc 1 1, 3) := by decide +kernel
theorem dX0_clear_32 : decode cX0_clear 32 = .ok (.goto (-30), 3) := by decide +kernel
theorem dX0_clear_35 : decode cX0_clear 35 = .ok (.aload_n 0, 1) := by decide +kernel
theorem dX0_clear_36 : decode cX0_clear 36 = .ok (.iconst 0, 1) := by decide +kernel
theorem dX0_clear_37 : decode cX0_clear 37 = .ok (.putfield 24, 3) := by decide +kernel
theorem dX0_clear_40 : decode cX0_clear 40 = .ok (.return_, 1) := by decide +kernel
theorem dX0_openLeast_0 : decode cX0_openLeast 0 = .ok (.iconst 0, 1) := by decide +kernel
theorem dX0_openLeast_1 : decode cX0_openLeast 1 = .ok (.istore_n 1, 1) := by decide +kernel
theorem dX0_openLeast_2 : decode cX0_openLeast 2 = .ok (.iload_n 1, 1) := by decide +kernel
theorem dX0_openLeast_3 : decode cX0_openLeast 3 = .ok (.iconst 3, 1) := by decide +kernel
theorem dX0_openLeast_4 : decode cX0_openLeast 4 = .ok (.if_icmp .ge 31, 3) := by decide +kernel
theorem dX0_openLeast_7 : decode cX0_openLeast 7 = .ok (.aload_n 0, 1) := by decide +kernel
theorem dX0_openLeast_8 : decode cX0_openLeast 8 = .ok (.iload_n 1, 1) := by decide +kernel
theorem dX0_openLeast_9 : decode cX0_openLeast 9 = .ok (.invokevirtual 28, 3) := by decide +kernel
theorem dX0_openLeast_12 : decode cX0_openLeast 12 = .ok (.ifCond .ne 17, 3) := by decide +kernel
theorem dX0_openLeast_15 : decode cX0_openLeast 15 = .ok (.aload_n 0, 1) := by decide +kernel
theorem dX0_openLeast_16 : decode cX0_openLeast 16 = .ok (.dup, 1) := by decide +kernel
theorem dX0_openLeast_17 : decode cX0_openLeast 17 = .ok (.getfield 24, 3) := by decide +kernel
theorem dX0_openLeast_20 : decode cX0_openLeast 20 = .ok (.iconst 1, 1) := by decide +kernel
theorem dX0_openLeast_21 : decode cX0_openLeast 21 = .ok (.iload_n 1, 1) := by decide +kernel
theorem dX0_openLeast_22 : decode cX0_openLeast 22 = .ok (.ishl, 1) := by decide +kernel
theorem dX0_openLeast_23 : decode cX0_openLeast 23 = .ok (.ior, 1) := by decide +kernel
theorem dX0_openLeast_24 : decode cX0_openLeast 24 = .ok (.putfield 24, 3) := by decide +kernel
theorem dX0_openLeast_27 : decode cX0_openLeast 27 = .ok (.iload_n 1, 1) := by decide +kernel
theorem dX0_openLeast_28 : decode cX0_openLeast 28 = .ok (.ireturn, 1) := by decide +kernel
theorem dX0_openLeast_29 : decode cX0_openLeast 29 = .ok (.iinc 1 1, 3) := by decide +kernel
theorem dX0_openLeast_32 : decode cX0_openLeast 32 = .ok (.goto (-30), 3) := by decide +kernel
theorem dX0_openLeast_35 : decode cX0_openLeast 35 = .ok (.iconst (-1), 1) := by decide +kernel
theorem dX0_openLeast_36 : decode cX0_openLeast 36 = .ok (.ireturn, 1) := by decide +kernel
theorem dX0_isOpen_0 : decode cX0_isOpen 0 = .ok (.iload_n 1, 1) := by decide +kernel
theorem dX0_isOpen_1 : decode cX0_isOpen 1 = .ok (.invokestatic 32, 3) := by decide +kernel
theorem dX0_isOpen_4 : decode cX0_isOpen 4 = .ok (.ifCond .eq 19, 3) := by decide +kernel
theorem dX0_isOpen_7 : decode cX0_isOpen 7 = .ok (.aload_n 0, 1) := by decide +kernel
theorem dX0_isOpen_8 : decode cX0_isOpen 8 = .ok (.getfield 24, 3) := by decide +kernel
theorem dX0_isOpen_11 : decode cX0_isOpen 11 = .ok (.iload_n 1, 1) := by decide +kernel
theorem dX0_isOpen_12 : decode cX0_isOpen 12 = .ok (.ishr, 1) := by decide +kernel
theorem dX0_isOpen_13 : decode cX0_isOpen 13 = .ok (.iconst 1, 1) := by decide +kernel
theorem dX0_isOpen_14 : decode cX0_isOpen 14 = .ok (.iand, 1) := by decide +kernel
theorem dX0_isOpen_15 : decode cX0_isOpen 15 = .ok (.iconst 1, 1) := by decide +kernel
theorem dX0_isOpen_16 : decode cX0_isOpen 16 = .ok (.if_icmp .ne 7, 3) := by decide +kernel
theorem dX0_isOpen_19 : decode cX0_isOpen 19 = .ok (.iconst 1, 1) := by decide +kernel
theorem dX0_isOpen_20 : decode cX0_isOpen 20 = .ok (.goto 4, 3) := by decide +kernel
theorem dX0_isOpen_23 : decode cX0_isOpen 23 = .ok (.iconst 0, 1) := by decide +kernel
theorem dX0_isOpen_24 : decode cX0_isOpen 24 = .ok (.ireturn, 1) := by decide +kernel
theorem dX0_openBits_0 : decode cX0_openBits 0 = .ok (.aload_n 0, 1) := by decide +kernel
theorem dX0_openBits_1 : decode cX0_openBits 1 = .ok (.getfield 24, 3) := by decide +kernel
theorem dX0_openBits_4 : decode cX0_openBits 4 = .ok (.ireturn, 1) := by decide +kernel
theorem dX0_holderOf_0 : decode cX0_holderOf 0 = .ok (.iload_n 1, 1) := by decide +kernel
theorem dX0_holderOf_1 : decode cX0_holderOf 1 = .ok (.invokestatic 35, 3) := by decide +kernel
theorem dX0_holderOf_4 : decode cX0_holderOf 4 = .ok (.ifCond .eq 12, 3) := by decide +kernel
theorem dX0_holderOf_7 : decode cX0_holderOf 7 = .ok (.aload_n 0, 1) := by decide +kernel
theorem dX0_holderOf_8 : decode cX0_holderOf 8 = .ok (.getfield 18, 3) := by decide +kernel
theorem dX0_holderOf_11 : decode cX0_holderOf 11 = .ok (.iload_n 1, 1) := by decide +kernel
theorem dX0_holderOf_12 : decode cX0_holderOf 12 = .ok (.iaload, 1) := by decide +kernel
theorem dX0_holderOf_13 : decode cX0_holderOf 13 = .ok (.goto 4, 3) := by decide +kernel
theorem dX0_holderOf_16 : decode cX0_holderOf 16 = .ok (.iconst (-1), 1) := by decide +kernel
theorem dX0_holderOf_17 : decode cX0_holderOf 17 = .ok (.ireturn, 1) := by decide +kernel
theorem dX0_committedValue_0 : decode cX0_committedValue 0 = .ok (.iload_n 1, 1) := by decide +kernel
theorem dX0_committedValue_1 : decode cX0_committedValue 1 = .ok (.invokestatic 35, 3) := by decide +kernel
theorem dX0_committedValue_4 : decode cX0_committedValue 4 = .ok (.ifCond .eq 12, 3) := by decide +kernel
theorem dX0_committedValue_7 : decode cX0_committedValue 7 = .ok (.aload_n 0, 1) := by decide +kernel
theorem dX0_committedValue_8 : decode cX0_committedValue 8 = .ok (.getfield 9, 3) := by decide +kernel
theorem dX0_committedValue_11 : decode cX0_committedValue 11 = .ok (.iload_n 1, 1) := by decide +kernel
theorem dX0_committedValue_12 : decode cX0_committedValue 12 = .ok (.iaload, 1) := by decide +kernel
theorem dX0_committedValue_13 : decode cX0_committedValue 13 = .ok (.goto 4, 3) := by decide +kernel
theorem dX0_committedValue_16 : decode cX0_committedValue 16 = .ok (.iconst (-1), 1) := by decide +kernel
theorem dX0_committedValue_17 : decode cX0_committedValue 17 = .ok (.ireturn, 1) := by decide +kernel
theorem dX0_valueFor_0 : decode cX0_valueFor 0 = .ok (.iload_n 2, 1) := by decide +kernel
theorem dX0_valueFor_1 : decode cX0_valueFor 1 = .ok (.invokestatic 35, 3) := by decide +kernel
theorem dX0_valueFor_4 : decode cX0_valueFor 4 = .ok (.ifCond .ne 5, 3) := by decide +kernel
theorem dX0_valueFor_7 : decode cX0_valueFor 7 = .ok (.iconst (-1), 1) := by decide +kernel
theorem dX0_valueFor_8 : decode cX0_valueFor 8 = .ok (.ireturn, 1) := by decide +kernel
theorem dX0_valueFor_9 : decode cX0_valueFor 9 = .ok (.aload_n 0, 1) := by decide +kernel
theorem dX0_valueFor_10 : decode cX0_valueFor 10 = .ok (.getfield 18, 3) := by decide +kernel
theorem dX0_valueFor_13 : decode cX0_valueFor 13 = .ok (.iload_n 2, 1) := by decide +kernel
theorem dX0_valueFor_14 : decode cX0_valueFor 14 = .ok (.iaload, 1) := by decide +kernel
theorem dX0_valueFor_15 : decode cX0_valueFor 15 = .ok (.iload_n 1, 1) := by decide +kernel
theorem dX0_valueFor_16 : decode cX0_valueFor 16 = .ok (.if_icmp .ne 12, 3) := by decide +kernel
theorem dX0_valueFor_19 : decode cX0_valueFor 19 = .ok (.aload_n 0, 1) := by decide +kernel
theorem dX0_valueFor_20 : decode cX0_valueFor 20 = .ok (.getfield 15, 3) := by decide +kernel
theorem dX0_valueFor_23 : decode cX0_valueFor 23 = .ok (.iload_n 2, 1) := by decide +kernel
theorem dX0_valueFor_24 : decode cX0_valueFor 24 = .ok (.iaload, 1) := by decide +kernel
theorem dX0_valueFor_25 : decode cX0_valueFor 25 = .ok (.goto 9, 3) := by decide +kernel
theorem dX0_valueFor_28 : decode cX0_valueFor 28 = .ok (.aload_n 0, 1) := by decide +kernel
theorem dX0_valueFor_29 : decode cX0_valueFor 29 = .ok (.getfield 9, 3) := by decide +kernel
theorem dX0_valueFor_32 : decode cX0_valueFor 32 = .ok (.iload_n 2, 1) := by decide +kernel
theorem dX0_valueFor_33 : decode cX0_valueFor 33 = .ok (.iaload, 1) := by decide +kernel
theorem dX0_valueFor_34 : decode cX0_valueFor 34 = .ok (.ireturn, 1) := by decide +kernel
theorem dX0_setCommitted_0 : decode cX0_setCommitted 0 = .ok (.iload_n 1, 1) := by decide +kernel
theorem dX0_setCommitted_1 : decode cX0_setCommitted 1 = .ok (.invokestatic 35, 3) := by decide +kernel
theorem dX0_setCommitted_4 : decode cX0_setCommitted 4 = .ok (.ifCond .eq 10, 3) := by decide +kernel
theorem dX0_setCommitted_7 : decode cX0_setCommitted 7 = .ok (.aload_n 0, 1) := by decide +kernel
theorem dX0_setCommitted_8 : decode cX0_setCommitted 8 = .ok (.getfield 9, 3) := by decide +kernel
theorem dX0_setCommitted_11 : decode cX0_setCommitted 11 = .ok (.iload_n 1, 1) := by decide +kernel
theorem dX0_setCommitted_12 : decode cX0_setCommitted 12 = .ok (.iload_n 2, 1) := by decide +kernel
theorem dX0_setCommitted_13 : decode cX0_setCommitted 13 = .ok (.iastore, 1) := by decide +kernel
theorem dX0_setCommitted_14 : decode cX0_setCommitted 14 = .ok (.return_, 1) := by decide +kernel
theorem dX0_change_0 : decode cX0_change 0 = .ok (.iload_n 1, 1) := by decide +kernel
theorem dX0_change_1 : decode cX0_change 1 = .ok (.invokestatic 32, 3) := by decide +kernel
theorem dX0_change_4 : decode cX0_change 4 = .ok (.ifCond .eq 36, 3) := by decide +kernel
theorem dX0_change_7 : decode cX0_change 7 = .ok (.iload_n 2, 1) := by decide +kernel
theorem dX0_change_8 : decode cX0_change 8 = .ok (.invokestatic 35, 3) := by decide +kernel
theorem dX0_change_11 : decode cX0_change 11 = .ok (.ifCond .eq 29, 3) := by decide +kernel
theorem dX0_change_14 : decode cX0_change 14 = .ok (.aload_n 0, 1) := by decide +kernel
theorem dX0_change_15 : decode cX0_change 15 = .ok (.dup, 1) := by decide +kernel
theorem dX0_change_16 : decode cX0_change 16 = .ok (.getfield 24, 3) := by decide +kernel
theorem dX0_change_19 : decode cX0_change 19 = .ok (.iconst 1, 1) := by decide +kernel
theorem dX0_change_20 : decode cX0_change 20 = .ok (.iload_n 1, 1) := by decide +kernel
theorem dX0_change_21 : decode cX0_change 21 = .ok (.ishl, 1) := by decide +kernel
theorem dX0_change_22 : decode cX0_change 22 = .ok (.ior, 1) := by decide +kernel
theorem dX0_change_23 : decode cX0_change 23 = .ok (.putfield 24, 3) := by decide +kernel
theorem dX0_change_26 : decode cX0_change 26 = .ok (.aload_n 0, 1) := by decide +kernel
theorem dX0_change_27 : decode cX0_change 27 = .ok (.getfield 18, 3) := by decide +kernel
theorem dX0_change_30 : decode cX0_change 30 = .ok (.iload_n 2, 1) := by decide +kernel
theorem dX0_change_31 : decode cX0_change 31 = .ok (.iload_n 1, 1) := by decide +kernel
theorem dX0_change_32 : decode cX0_change 32 = .ok (.iastore, 1) := by decide +kernel
theorem dX0_change_33 : decode cX0_change 33 = .ok (.aload_n 0, 1) := by decide +kernel
theorem dX0_change_34 : decode cX0_change 34 = .ok (.getfield 15, 3) := by decide +kernel
theorem dX0_change_37 : decode cX0_change 37 = .ok (.iload_n 2, 1) := by decide +kernel
theorem dX0_change_38 : decode cX0_change 38 = .ok (.iload_n 3, 1) := by decide +kernel
theorem dX0_change_39 : decode cX0_change 39 = .ok (.iastore, 1) := by decide +kernel
theorem dX0_change_40 : decode cX0_change 40 = .ok (.return_, 1) := by decide +kernel
theorem dX0_close_0 : decode cX0_close 0 = .ok (.aload_n 0, 1) := by decide +kernel
theorem dX0_close_1 : decode cX0_close 1 = .ok (.iload_n 1, 1) := by decide +kernel
theorem dX0_close_2 : decode cX0_close 2 = .ok (.invokevirtual 28, 3) := by decide +kernel
theorem dX0_close_5 : decode cX0_close 5 = .ok (.ifCond .ne 5, 3) := by decide +kernel
theorem dX0_close_8 : decode cX0_close 8 = .ok (.iconst 0, 1) := by decide +kernel
theorem dX0_close_9 : decode cX0_close 9 = .ok (.ireturn, 1) := by decide +kernel
theorem dX0_close_10 : decode cX0_close 10 = .ok (.iconst 0, 1) := by decide +kernel
theorem dX0_close_11 : decode cX0_close 11 = .ok (.istore_n 3, 1) := by decide +kernel
theorem dX0_close_12 : decode cX0_close 12 = .ok (.iconst 0, 1) := by decide +kernel
theorem dX0_close_13 : decode cX0_close 13 = .ok (.istore 4, 2) := by decide +kernel
theorem dX0_close_15 : decode cX0_close 15 = .ok (.iload 4, 2) := by decide +kernel
theorem dX0_close_17 : decode cX0_close 17 = .ok (.bipush 32, 2) := by decide +kernel
theorem dX0_close_19 : decode cX0_close 19 = .ok (.if_icmp .ge 59, 3) := by decide +kernel
theorem dX0_close_22 : decode cX0_close 22 = .ok (.aload_n 0, 1) := by decide +kernel
theorem dX0_close_23 : decode cX0_close 23 = .ok (.getfield 18, 3) := by decide +kernel
theorem dX0_close_26 : decode cX0_close 26 = .ok (.iload 4, 2) := by decide +kernel
theorem dX0_close_28 : decode cX0_close 28 = .ok (.iaload, 1) := by decide +kernel
theorem dX0_close_29 : decode cX0_close 29 = .ok (.iload_n 1, 1) := by decide +kernel
theorem dX0_close_30 : decode cX0_close 30 = .ok (.if_icmp .ne 42, 3) := by decide +kernel
theorem dX0_close_33 : decode cX0_close 33 = .ok (.iinc 3 1, 3) := by decide +kernel
theorem dX0_close_36 : decode cX0_close 36 = .ok (.aload_n 0, 1) := by decide +kernel
theorem dX0_close_37 : decode cX0_close 37 = .ok (.getfield 18, 3) := by decide +kernel
theorem dX0_close_40 : decode cX0_close 40 = .ok (.iload 4, 2) := by decide +kernel
theorem dX0_close_42 : decode cX0_close 42 = .ok (.iconst (-1), 1) := by decide +kernel
theorem dX0_close_43 : decode cX0_close 43 = .ok (.iastore, 1) := by decide +kernel
theorem dX0_close_44 : decode cX0_close 44 = .ok (.aload_n 0, 1) := by decide +kernel
theorem dX0_close_45 : decode cX0_close 45 = .ok (.getfield 9, 3) := by decide +kernel
theorem dX0_close_48 : decode cX0_close 48 = .ok (.iload 4, 2) := by decide +kernel
theorem dX0_close_50 : decode cX0_close 50 = .ok (.iload_n 2, 1) := by decide +kernel
theorem dX0_close_51 : decode cX0_close 51 = .ok (.ifCond .eq 13, 3) := by decide +kernel
theorem dX0_close_54 : decode cX0_close 54 = .ok (.aload_n 0, 1) := by decide +kernel
theorem dX0_close_55 : decode cX0_close 55 = .ok (.getfield 15, 3) := by decide +kernel
theorem dX0_close_58 : decode cX0_close 58 = .ok (.iload 4, 2) := by decide +kernel
theorem dX0_close_60 : decode cX0_close 60 = .ok (.iaload, 1) := by decide +kernel
theorem dX0_close_61 : decode cX0_close 61 = .ok (.goto 10, 3) := by decide +kernel
theorem dX0_close_64 : decode cX0_close 64 = .ok (.aload_n 0, 1) := by decide +kernel
theorem dX0_close_65 : decode cX0_close 65 = .ok (.getfield 9, 3) := by decide +kernel
theorem dX0_close_68 : decode cX0_close 68 = .ok (.iload 4, 2) := by decide +kernel
theorem dX0_close_70 : decode cX0_close 70 = .ok (.iaload, 1) := by decide +kernel
theorem dX0_close_71 : decode cX0_close 71 = .ok (.iastore, 1) := by decide +kernel
theorem dX0_close_72 : decode cX0_close 72 = .ok (.iinc 4 1, 3) := by decide +kernel
theorem dX0_close_75 : decode cX0_close 75 = .ok (.goto (-60), 3) := by decide +kernel
theorem dX0_close_78 : decode cX0_close 78 = .ok (.aload_n 0, 1) := by decide +kernel
theorem dX0_close_79 : decode cX0_close 79 = .ok (.dup, 1) := by decide +kernel
theorem dX0_close_80 : decode cX0_close 80 = .ok (.getfield 24, 3) := by decide +kernel
theorem dX0_close_83 : decode cX0_close 83 = .ok (.iconst 1, 1) := by decide +kernel
theorem dX0_close_84 : decode cX0_close 84 = .ok (.iload_n 1, 1) := by decide +kernel
theorem dX0_close_85 : decode cX0_close 85 = .ok (.ishl, 1) := by decide +kernel
theorem dX0_close_86 : decode cX0_close 86 = .ok (.iconst (-1), 1) := by decide +kernel
theorem dX0_close_87 : decode cX0_close 87 = .ok (.ixor, 1) := by decide +kernel
theorem dX0_close_88 : decode cX0_close 88 = .ok (.iand, 1) := by decide +kernel
theorem dX0_close_89 : decode cX0_close 89 = .ok (.putfield 24, 3) := by decide +kernel
theorem dX0_close_92 : decode cX0_close 92 = .ok (.iload_n 3, 1) := by decide +kernel
theorem dX0_close_93 : decode cX0_close 93 = .ok (.ireturn, 1) := by decide +kernel
theorem dX0_pagesDue_0 : decode cX0_pagesDue 0 = .ok (.iconst 0, 1) := by decide +kernel
theorem dX0_pagesDue_1 : decode cX0_pagesDue 1 = .ok (.istore_n 1, 1) := by decide +kernel
theorem dX0_pagesDue_2 : decode cX0_pagesDue 2 = .ok (.iconst 1, 1) := by decide +kernel
theorem dX0_pagesDue_3 : decode cX0_pagesDue 3 = .ok (.istore_n 2, 1) := by decide +kernel
theorem dX0_pagesDue_4 : decode cX0_pagesDue 4 = .ok (.iconst 0, 1) := by decide +kernel
theorem dX0_pagesDue_5 : decode cX0_pagesDue 5 = .ok (.istore_n 3, 1) := by decide +kernel
theorem dX0_pagesDue_6 : decode cX0_pagesDue 6 = .ok (.iload_n 3, 1) := by decide +kernel
theorem dX0_pagesDue_7 : decode cX0_pagesDue 7 = .ok (.bipush 32, 2) := by decide +kernel
theorem dX0_pagesDue_9 : decode cX0_pagesDue 9 = .ok (.if_icmp .ge 32, 3) := by decide +kernel
theorem dX0_pagesDue_12 : decode cX0_pagesDue 12 = .ok (.aload_n 0, 1) := by decide +kernel
theorem dX0_pagesDue_13 : decode cX0_pagesDue 13 = .ok (.getfield 9, 3) := by decide +kernel
theorem dX0_pagesDue_16 : decode cX0_pagesDue 16 = .ok (.iload_n 3, 1) := by decide +kernel
theorem dX0_pagesDue_17 : decode cX0_pagesDue 17 = .ok (.iaload, 1) := by decide +kernel
theorem dX0_pagesDue_18 : decode cX0_pagesDue 18 = .ok (.iconst (-1), 1) := by decide +kernel
theorem dX0_pagesDue_19 : decode cX0_pagesDue 19 = .ok (.if_icmp .eq 16, 3) := by decide +kernel
theorem dX0_pagesDue_22 : decode cX0_pagesDue 22 = .ok (.iinc 1 1, 3) := by decide +kernel
theorem dX0_pagesDue_25 : decode cX0_pagesDue 25 = .ok (.iload_n 1, 1) := by decide +kernel
theorem dX0_pagesDue_26 : decode cX0_pagesDue 26 = .ok (.iload_n 2, 1) := by decide +kernel
theorem dX0_pagesDue_27 : decode cX0_pagesDue 27 = .ok (.iconst 5, 1) := by decide +kernel
theorem dX0_pagesDue_28 : decode cX0_pagesDue 28 = .ok (.imul, 1) := by decide +kernel
theorem dX0_pagesDue_29 : decode cX0_pagesDue 29 = .ok (.if_icmp .le 6, 3) := by decide +kernel
theorem dX0_pagesDue_32 : decode cX0_pagesDue 32 = .ok (.iinc 2 1, 3) := by decide +kernel
theorem dX0_pagesDue_35 : decode cX0_pagesDue 35 = .ok (.iinc 3 1, 3) := by decide +kernel
theorem dX0_pagesDue_38 : decode cX0_pagesDue 38 = .ok (.goto (-32), 3) := by decide +kernel
theorem dX0_pagesDue_41 : decode cX0_pagesDue 41 = .ok (.iload_n 2, 1) := by decide +kernel
theorem dX0_pagesDue_42 : decode cX0_pagesDue 42 = .ok (.ireturn, 1) := by decide +kernel
theorem dX0_nextWithValue_0 : decode cX0_nextWithValue 0 = .ok (.iload_n 1, 1) := by decide +kernel
theorem dX0_nextWithValue_1 : decode cX0_nextWithValue 1 = .ok (.iconst 0, 1) := by decide +kernel
theorem dX0_nextWithValue_2 : decode cX0_nextWithValue 2 = .ok (.invokestatic 38, 3) := by decide +kernel
theorem dX0_nextWithValue_5 : decode cX0_nextWithValue 5 = .ok (.istore_n 2, 1) := by decide +kernel
theorem dX0_nextWithValue_6 : decode cX0_nextWithValue 6 = .ok (.iload_n 2, 1) := by decide +kernel
theorem dX0_nextWithValue_7 : decode cX0_nextWithValue 7 = .ok (.bipush 32, 2) := by decide +kernel
theorem dX0_nextWithValue_9 : decode cX0_nextWithValue 9 = .ok (.if_icmp .ge 21, 3) := by decide +kernel
theorem dX0_nextWithValue_12 : decode cX0_nextWithValue 12 = .ok (.aload_n 0, 1) := by decide +kernel
theorem dX0_nextWithValue_13 : decode cX0_nextWithValue 13 = .ok (.getfield 9, 3) := by decide +kernel
theorem dX0_nextWithValue_16 : decode cX0_nextWithValue 16 = .ok (.iload_n 2, 1) := by decide +kernel
theorem dX0_nextWithValue_17 : decode cX0_nextWithValue 17 = .ok (.iaload, 1) := by decide +kernel
theorem dX0_nextWithValue_18 : decode cX0_nextWithValue 18 = .ok (.iconst (-1), 1) := by decide +kernel
theorem dX0_nextWithValue_19 : decode cX0_nextWithValue 19 = .ok (.if_icmp .eq 5, 3) := by decide +kernel
theorem dX0_nextWithValue_22 : decode cX0_nextWithValue 22 = .ok (.iload_n 2, 1) := by decide +kernel
theorem dX0_nextWithValue_23 : decode cX0_nextWithValue 23 = .ok (.ireturn, 1) := by decide +kernel
theorem dX0_nextWithValue_24 : decode cX0_nextWithValue 24 = .ok (.iinc 2 1, 3) := by decide +kernel
theorem dX0_nextWithValue_27 : decode cX0_nextWithValue 27 = .ok (.goto (-21), 3) := by decide +kernel
theorem dX0_nextWithValue_30 : decode cX0_nextWithValue 30 = .ok (.bipush 32, 2) := by decide +kernel
theorem dX0_nextWithValue_32 : decode cX0_nextWithValue 32 = .ok (.ireturn, 1) := by decide +kernel
theorem dX1_init_0 : decode cX1_init 0 = .ok (.aload_n 0, 1) := by decide +kernel
theorem dX1_init_1 : decode cX1_init 1 = .ok (.invokespecial 3, 3) := by decide +kernel
theorem dX1_init_4 : decode cX1_init 4 = .ok (.aload_n 0, 1) := by decide +kernel
theorem dX1_init_5 : decode cX1_init 5 = .ok (.bipush 64, 2) := by decide +kernel
theorem dX1_init_7 : decode cX1_init 7 = .ok (.newarray .boolean, 2) := by decide +kernel
theorem dX1_init_9 : decode cX1_init 9 = .ok (.putfield 9, 3) := by decide +kernel
theorem dX1_init_12 : decode cX1_init 12 = .ok (.return_, 1) := by decide +kernel
theorem dX1_firstPage_0 : decode cX1_firstPage 0 = .ok (.aload_n 0, 1) := by decide +kernel
theorem dX1_firstPage_1 : decode cX1_firstPage 1 = .ok (.getfield 15, 3) := by decide +kernel
theorem dX1_firstPage_4 : decode cX1_firstPage 4 = .ok (.ireturn, 1) := by decide +kernel
theorem dX1_runEnd_0 : decode cX1_runEnd 0 = .ok (.aload_n 0, 1) := by decide +kernel
theorem dX1_runEnd_1 : decode cX1_runEnd 1 = .ok (.getfield 19, 3) := by decide +kernel
theorem dX1_runEnd_4 : decode cX1_runEnd 4 = .ok (.ireturn, 1) := by decide +kernel
theorem dX1_findCheckpoint_0 : decode cX1_findCheckpoint 0 = .ok (.aload_n 0, 1) := by decide +kernel
theorem dX1_findCheckpoint_1 : decode cX1_findCheckpoint 1 = .ok (.aload_n 1, 1) := by decide +kernel
theorem dX1_findCheckpoint_2 : decode cX1_findCheckpoint 2 = .ok (.invokevirtual 22, 3) := by decide +kernel
theorem dX1_findCheckpoint_5 : decode cX1_findCheckpoint 5 = .ok (.aload_n 0, 1) := by decide +kernel
theorem dX1_findCheckpoint_6 : decode cX1_findCheckpoint 6 = .ok (.iconst 0, 1) := by decide +kernel
theorem dX1_findCheckpoint_7 : decode cX1_findCheckpoint 7 = .ok (.putfield 26, 3) := by decide +kernel
theorem dX1_findCheckpoint_10 : decode cX1_findCheckpoint 10 = .ok (.iconst 0, 1) := by decide +kernel
theorem dX1_findCheckpoint_11 : decode cX1_findCheckpoint 11 = .ok (.istore_n 2, 1) := by decide +kernel
theorem dX1_findCheckpoint_12 : decode cX1_findCheckpoint 12 = .ok (.iload_n 2, 1) := by decide +kernel
theorem dX1_findCheckpoint_13 : decode cX1_findCheckpoint 13 = .ok (.aload_n 1, 1) := by decide +kernel
theorem dX1_findCheckpoint_14 : decode cX1_findCheckpoint 14 = .ok (.invokevirtual 29, 3) := by decide +kernel
theorem dX1_findCheckpoint_17 : decode cX1_findCheckpoint 17 = .ok (.if_icmp .ge 56, 3) := by decide +kernel
theorem dX1_findCheckpoint_20 : decode cX1_findCheckpoint 20 = .ok (.aload_n 0, 1) := by decide +kernel
theorem dX1_findCheckpoint_21 : decode cX1_findCheckpoint 21 = .ok (.aload_n 1, 1) := by decide +kernel
theorem dX1_findCheckpoint_22 : decode cX1_findCheckpoint 22 = .ok (.iload_n 2, 1) := by decide +kernel
theorem dX1_findCheckpoint_23 : decode cX1_findCheckpoint 23 = .ok (.invokevirtual 35, 3) := by decide +kernel
theorem dX1_findCheckpoint_26 : decode cX1_findCheckpoint 26 = .ok (.istore_n 3, 1) := by decide +kernel
theorem dX1_findCheckpoint_27 : decode cX1_findCheckpoint 27 = .ok (.iload_n 3, 1) := by decide +kernel
theorem dX1_findCheckpoint_28 : decode cX1_findCheckpoint 28 = .ok (.ifCond .le 39, 3) := by decide +kernel
theorem dX1_findCheckpoint_31 : decode cX1_findCheckpoint 31 = .ok (.aload_n 0, 1) := by decide +kernel
theorem dX1_findCheckpoint_32 : decode cX1_findCheckpoint 32 = .ok (.getfield 26, 3) := by decide +kernel
theorem dX1_findCheckpoint_35 : decode cX1_findCheckpoint 35 = .ok (.ifCond .eq 22, 3) := by decide +kernel
theorem dX1_findCheckpoint_38 : decode cX1_findCheckpoint 38 = .ok (.aload_n 1, 1) := by decide +kernel
theorem dX1_findCheckpoint_39 : decode cX1_findCheckpoint 39 = .ok (.iload_n 2, 1) := by decide +kernel
theorem dX1_findCheckpoint_40 : decode cX1_findCheckpoint 40 = .ok (.invokevirtual 39, 3) := by decide +kernel
theorem dX1_findCheckpoint_43 : decode cX1_findCheckpoint 43 = .ok (.aload_n 1, 1) := by decide +kernel
theorem dX1_findCheckpoint_44 : decode cX1_findCheckpoint 44 = .ok (.aload_n 0, 1) := by decide +kernel
theorem dX1_findCheckpoint_45 : decode cX1_findCheckpoint 45 = .ok (.getfield 15, 3) := by decide +kernel
theorem dX1_findCheckpoint_48 : decode cX1_findCheckpoint 48 = .ok (.invokevirtual 39, 3) := by decide +kernel
theorem dX1_findCheckpoint_51 : decode cX1_findCheckpoint 51 = .ok (.invokestatic 43, 3) := by decide +kernel
theorem dX1_findCheckpoint_54 : decode cX1_findCheckpoint 54 = .ok (.ifCond .eq 13, 3) := by decide +kernel
theorem dX1_findCheckpoint_57 : decode cX1_findCheckpoint 57 = .ok (.aload_n 0, 1) := by decide +kernel
theorem dX1_findCheckpoint_58 : decode cX1_findCheckpoint 58 = .ok (.iload_n 2, 1) := by decide +kernel
theorem dX1_findCheckpoint_59 : decode cX1_findCheckpoint 59 = .ok (.putfield 15, 3) := by decide +kernel
theorem dX1_findCheckpoint_62 : decode cX1_findCheckpoint 62 = .ok (.aload_n 0, 1) := by decide +kernel
theorem dX1_findCheckpoint_63 : decode cX1_findCheckpoint 63 = .ok (.iload_n 3, 1) := by decide +kernel
theorem dX1_findCheckpoint_64 : decode cX1_findCheckpoint 64 = .ok (.putfield 26, 3) := by decide +kernel
theorem dX1_findCheckpoint_67 : decode cX1_findCheckpoint 67 = .ok (.iinc 2 1, 3) := by decide +kernel
theorem dX1_findCheckpoint_70 : decode cX1_findCheckpoint 70 = .ok (.goto (-58), 3) := by decide +kernel
theorem dX1_findCheckpoint_73 : decode cX1_findCheckpoint 73 = .ok (.aload_n 0, 1) := by decide +kernel
theorem dX1_findCheckpoint_74 : decode cX1_findCheckpoint 74 = .ok (.getfield 26, 3) := by decide +kernel
theorem dX1_findCheckpoint_77 : decode cX1_findCheckpoint 77 = .ok (.ifCond .le 7, 3) := by decide +kernel
theorem dX1_findCheckpoint_80 : decode cX1_findCheckpoint 80 = .ok (.iconst 1, 1) := by decide +kernel
theorem dX1_findCheckpoint_81 : decode cX1_findCheckpoint 81 = .ok (.goto 4, 3) := by decide +kernel
theorem dX1_findCheckpoint_84 : decode cX1_findCheckpoint 84 = .ok (.iconst 0, 1) := by decide +kernel
theorem dX1_findCheckpoint_85 : decode cX1_findCheckpoint 85 = .ok (.ireturn, 1) := by decide +kernel
theorem dX1_readPages_0 : decode cX1_readPages 0 = .ok (.aload_n 0, 1) := by decide +kernel
theorem dX1_readPages_1 : decode cX1_readPages 1 = .ok (.getfield 15, 3) := by decide +kernel
theorem dX1_readPages_4 : decode cX1_readPages 4 = .ok (.istore_n 3, 1) := by decide +kernel
theorem dX1_readPages_5 : decode cX1_readPages 5 = .ok (.iconst 0, 1) := by decide +kernel
theorem dX1_readPages_6 : decode cX1_readPages 6 = .ok (.istore 4, 2) := by decide +kernel
theorem dX1_readPages_8 : decode cX1_readPages 8 = .ok (.iload 4, 2) := by decide +kernel
theorem dX1_readPages_10 : decode cX1_readPages 10 = .ok (.aload_n 0, 1) := by decide +kernel
theorem dX1_readPages_11 : decode cX1_readPages 11 = .ok (.getfield 26, 3) := by decide +kernel
theorem dX1_readPages_14 : decode cX1_readPages 14 = .ok (.if_icmp .ge 26, 3) := by decide +kernel
theorem dX1_readPages_17 : decode cX1_readPages 17 = .ok (.aload_n 1, 1) := by decide +kernel
theorem dX1_readPages_18 : decode cX1_readPages 18 = .ok (.iload_n 3, 1) := by decide +kernel
theorem dX1_readPages_19 : decode cX1_readPages 19 = .ok (.aload_n 2, 1) := by decide +kernel
theorem dX1_readPages_20 : decode cX1_readPages 20 = .ok (.invokestatic 47, 3) := by decide +kernel
theorem dX1_readPages_23 : decode cX1_readPages 23 = .ok (.aload_n 0, 1) := by decide +kernel
theorem dX1_readPages_24 : decode cX1_readPages 24 = .ok (.iload_n 3, 1) := by decide +kernel
theorem dX1_readPages_25 : decode cX1_readPages 25 = .ok (.putfield 19, 3) := by decide +kernel
theorem dX1_readPages_28 : decode cX1_readPages 28 = .ok (.aload_n 1, 1) := by decide +kernel
theorem dX1_readPages_29 : decode cX1_readPages 29 = .ok (.iload_n 3, 1) := by decide +kernel
theorem dX1_readPages_30 : decode cX1_readPages 30 = .ok (.invokevirtual 51, 3) := by decide +kernel
theorem dX1_readPages_33 : decode cX1_readPages 33 = .ok (.istore_n 3, 1) := by decide +kernel
theorem dX1_readPages_34 : decode cX1_readPages 34 = .ok (.iinc 4 1, 3) := by decide +kernel
theorem dX1_readPages_37 : decode cX1_readPages 37 = .ok (.goto (-29), 3) := by decide +kernel
theorem dX1_readPages_40 : decode cX1_readPages 40 = .ok (.return_, 1) := by decide +kernel
theorem dX1_goOverRun_0 : decode cX1_goOverRun 0 = .ok (.iconst 0, 1) := by decide +kernel
theorem dX1_goOverRun_1 : decode cX1_goOverRun 1 = .ok (.istore_n 3, 1) := by decide +kernel
theorem dX1_goOverRun_2 : decode cX1_goOverRun 2 = .ok (.iload_n 3, 1) := by decide +kernel
theorem dX1_goOverRun_3 : decode cX1_goOverRun 3 = .ok (.aload_n 1, 1) := by decide +kernel
theorem dX1_goOverRun_4 : decode cX1_goOverRun 4 = .ok (.invokevirtual 29, 3) := by decide +kernel
theorem dX1_goOverRun_7 : decode cX1_goOverRun 7 = .ok (.if_icmp .ge 72, 3) := by decide +kernel
theorem dX1_goOverRun_10 : decode cX1_goOverRun 10 = .ok (.aload_n 1, 1) := by decide +kernel
theorem dX1_goOverRun_11 : decode cX1_goOverRun 11 = .ok (.aload_n 0, 1) := by decide +kernel
theorem dX1_goOverRun_12 : decode cX1_goOverRun 12 = .ok (.getfield 19, 3) := by decide +kernel
theorem dX1_goOverRun_15 : decode cX1_goOverRun 15 = .ok (.invokevirtual 51, 3) := by decide +kernel
theorem dX1_goOverRun_18 : decode cX1_goOverRun 18 = .ok (.istore 4, 2) := by decide +kernel
theorem dX1_goOverRun_20 : decode cX1_goOverRun 20 = .ok (.aload_n 0, 1) := by decide +kernel
theorem dX1_goOverRun_21 : decode cX1_goOverRun 21 = .ok (.iload 4, 2) := by decide +kernel
theorem dX1_goOverRun_23 : decode cX1_goOverRun 23 = .ok (.invokevirtual 54, 3) := by decide +kernel
theorem dX1_goOverRun_26 : decode cX1_goOverRun 26 = .ok (.ifCond .eq 22, 3) := by decide +kernel
theorem dX1_goOverRun_29 : decode cX1_goOverRun 29 = .ok (.aload_n 1, 1) := by decide +kernel
theorem dX1_goOverRun_30 : decode cX1_goOverRun 30 = .ok (.iload 4, 2) := by decide +kernel
theorem dX1_goOverRun_32 : decode cX1_goOverRun 32 = .ok (.invokevirtual 39, 3) := by decide +kernel
theorem dX1_goOverRun_35 : decode cX1_goOverRun 35 = .ok (.aload_n 1, 1) := by decide +kernel
theorem dX1_goOverRun_36 : decode cX1_goOverRun 36 = .ok (.aload_n 0, 1) := by decide +kernel
theorem dX1_goOverRun_37 : decode cX1_goOverRun 37 = .ok (.getfield 19, 3) := by decide +kernel
theorem dX1_goOverRun_40 : decode cX1_goOverRun 40 = .ok (.invokevirtual 39, 3) := by decide +kernel
theorem dX1_goOverRun_43 : decode cX1_goOverRun 43 = .ok (.iconst 1, 1) := by decide +kernel
theorem dX1_goOverRun_44 : decode cX1_goOverRun 44 = .ok (.iadd, 1) := by decide +kernel
theorem dX1_goOverRun_45 : decode cX1_goOverRun 45 = .ok (.if_icmp .eq 4, 3) := by decide +kernel
theorem dX1_goOverRun_48 : decode cX1_goOverRun 48 = .ok (.return_, 1) := by decide +kernel
theorem dX1_goOverRun_49 : decode cX1_goOverRun 49 = .ok (.aload_n 1, 1) := by decide +kernel
theorem dX1_goOverRun_50 : decode cX1_goOverRun 50 = .ok (.iload 4, 2) := by decide +kernel
theorem dX1_goOverRun_52 : decode cX1_goOverRun 52 = .ok (.iconst 0, 1) := by decide +kernel
theorem dX1_goOverRun_53 : decode cX1_goOverRun 53 = .ok (.invokevirtual 58, 3) := by decide +kernel
theorem dX1_goOverRun_56 : decode cX1_goOverRun 56 = .ok (.iconst 1, 1) := by decide +kernel
theorem dX1_goOverRun_57 : decode cX1_goOverRun 57 = .ok (.if_icmp .ne 10, 3) := by decide +kernel
theorem dX1_goOverRun_60 : decode cX1_goOverRun 60 = .ok (.aload_n 1, 1) := by decide +kernel
theorem dX1_goOverRun_61 : decode cX1_goOverRun 61 = .ok (.iload 4, 2) := by decide +kernel
theorem dX1_goOverRun_63 : decode cX1_goOverRun 63 = .ok (.aload_n 2, 1) := by decide +kernel
theorem dX1_goOverRun_64 : decode cX1_goOverRun 64 = .ok (.invokestatic 62, 3) := by decide +kernel
theorem dX1_goOverRun_67 : decode cX1_goOverRun 67 = .ok (.aload_n 0, 1) := by decide +kernel
theorem dX1_goOverRun_68 : decode cX1_goOverRun 68 = .ok (.iload 4, 2) := by decide +kernel
theorem dX1_goOverRun_70 : decode cX1_goOverRun 70 = .ok (.putfield 19, 3) := by decide +kernel
theorem dX1_goOverRun_73 : decode cX1_goOverRun 73 = .ok (.iinc 3 1, 3) := by decide +kernel
theorem dX1_goOverRun_76 : decode cX1_goOverRun 76 = .ok (.goto (-74), 3) := by decide +kernel
theorem dX1_goOverRun_79 : decode cX1_goOverRun 79 = .ok (.return_, 1) := by decide +kernel
theorem dX1_lookAt_0 : decode cX1_lookAt 0 = .ok (.iconst 0, 1) := by decide +kernel
theorem dX1_lookAt_1 : decode cX1_lookAt 1 = .ok (.istore_n 2, 1) := by decide +kernel
theorem dX1_lookAt_2 : decode cX1_lookAt 2 = .ok (.iload_n 2, 1) := by decide +kernel
theorem dX1_lookAt_3 : decode cX1_lookAt 3 = .ok (.aload_n 0, 1) := by decide +kernel
theorem dX1_lookAt_4 : decode cX1_lookAt 4 = .ok (.getfield 9, 3) := by decide +kernel
theorem dX1_lookAt_7 : decode cX1_lookAt 7 = .ok (.arraylength, 1) := by decide +kernel
theorem dX1_lookAt_8 : decode cX1_lookAt 8 = .ok (.if_icmp .ge 44, 3) := by decide +kernel
theorem dX1_lookAt_11 : decode cX1_lookAt 11 = .ok (.aload_n 0, 1) := by decide +kernel
theorem dX1_lookAt_12 : decode cX1_lookAt 12 = .ok (.getfield 9, 3) := by decide +kernel
theorem dX1_lookAt_15 : decode cX1_lookAt 15 = .ok (.iload_n 2, 1) := by decide +kernel
theorem dX1_lookAt_16 : decode cX1_lookAt 16 = .ok (.aload_n 1, 1) := by decide +kernel
theorem dX1_lookAt_17 : decode cX1_lookAt 17 = .ok (.iload_n 2, 1) := by decide +kernel
theorem dX1_lookAt_18 : decode cX1_lookAt 18 = .ok (.invokestatic 65, 3) := by decide +kernel
theorem dX1_lookAt_21 : decode cX1_lookAt 21 = .ok (.ifCond .ne 11, 3) := by decide +kernel
theorem dX1_lookAt_24 : decode cX1_lookAt 24 = .ok (.aload_n 1, 1) := by decide +kernel
theorem dX1_lookAt_25 : decode cX1_lookAt 25 = .ok (.iload_n 2, 1) := by decide +kernel
theorem dX1_lookAt_26 : decode cX1_lookAt 26 = .ok (.invokestatic 69, 3) := by decide +kernel
theorem dX1_lookAt_29 : decode cX1_lookAt 29 = .ok (.ifCond .eq 15, 3) := by decide +kernel
theorem dX1_lookAt_32 : decode cX1_lookAt 32 = .ok (.aload_n 1, 1) := by decide +kernel
theorem dX1_lookAt_33 : decode cX1_lookAt 33 = .ok (.iload_n 2, 1) := by decide +kernel
theorem dX1_lookAt_34 : decode cX1_lookAt 34 = .ok (.invokevirtual 72, 3) := by decide +kernel
theorem dX1_lookAt_37 : decode cX1_lookAt 37 = .ok (.ifCond .eq 7, 3) := by decide +kernel
theorem dX1_lookAt_40 : decode cX1_lookAt 40 = .ok (.iconst 1, 1) := by decide +kernel
theorem dX1_lookAt_41 : decode cX1_lookAt 41 = .ok (.goto 4, 3) := by decide +kernel
theorem dX1_lookAt_44 : decode cX1_lookAt 44 = .ok (.iconst 0, 1) := by decide +kernel
theorem dX1_lookAt_45 : decode cX1_lookAt 45 = .ok (.bastore, 1) := by decide +kernel
theorem dX1_lookAt_46 : decode cX1_lookAt 46 = .ok (.iinc 2 1, 3) := by decide +kernel
theorem dX1_lookAt_49 : decode cX1_lookAt 49 = .ok (.goto (-47), 3) := by decide +kernel
theorem dX1_lookAt_52 : decode cX1_lookAt 52 = .ok (.return_, 1) := by decide +kernel
theorem dX1_isTelling_0 : decode cX1_isTelling 0 = .ok (.iload_n 1, 1) := by decide +kernel
theorem dX1_isTelling_1 : decode cX1_isTelling 1 = .ok (.ifCond .lt 25, 3) := by decide +kernel
theorem dX1_isTelling_4 : decode cX1_isTelling 4 = .ok (.iload_n 1, 1) := by decide +kernel
theorem dX1_isTelling_5 : decode cX1_isTelling 5 = .ok (.aload_n 0, 1) := by decide +kernel
theorem dX1_isTelling_6 : decode cX1_isTelling 6 = .ok (.getfield 9, 3) := by decide +kernel
theorem dX1_isTelling_9 : decode cX1_isTelling 9 = .ok (.arraylength, 1) := by decide +kernel
theorem dX1_isTelling_10 : decode cX1_isTelling 10 = .ok (.if_icmp .ge 16, 3) := by decide +kernel
theorem dX1_isTelling_13 : decode cX1_isTelling 13 = .ok (.aload_n 0, 1) := by decide +kernel
theorem dX1_isTelling_14 : decode cX1_isTelling 14 = .ok (.getfield 9, 3) := by decide +kernel
theorem dX1_isTelling_17 : decode cX1_isTelling 17 = .ok (.iload_n 1, 1) := by decide +kernel
theorem dX1_isTelling_18 : decode cX1_isTelling 18 = .ok (.baload, 1) := by decide +kernel
theorem dX1_isTelling_19 : decode cX1_isTelling 19 = .ok (.ifCond .eq 7, 3) := by decide +kernel
theorem dX1_isTelling_22 : decode cX1_isTelling 22 = .ok (.iconst 1, 1) := by decide +kernel
theorem dX1_isTelling_23 : decode cX1_isTelling 23 = .ok (.goto 4, 3) := by decide +kernel
theorem dX1_isTelling_26 : decode cX1_isTelling 26 = .ok (.iconst 0, 1) := by decide +kernel
theorem dX1_isTelling_27 : decode cX1_isTelling 27 = .ok (.ireturn, 1) := by decide +kernel
theorem dX1_pagesFrom_0 : decode cX1_pagesFrom 0 = .ok (.aload_n 1, 1) := by decide +kernel
theorem dX1_pagesFrom_1 : decode cX1_pagesFrom 1 = .ok (.iload_n 2, 1) := by decide +kernel
theorem dX1_pagesFrom_2 : decode cX1_pagesFrom 2 = .ok (.bipush 27, 2) := by decide +kernel
theorem dX1_pagesFrom_4 : decode cX1_pagesFrom 4 = .ok (.invokevirtual 58, 3) := by decide +kernel
theorem dX1_pagesFrom_7 : decode cX1_pagesFrom 7 = .ok (.istore_n 3, 1) := by decide +kernel
theorem dX1_pagesFrom_8 : decode cX1_pagesFrom 8 = .ok (.iload_n 2, 1) := by decide +kernel
theorem dX1_pagesFrom_9 : decode cX1_pagesFrom 9 = .ok (.istore 4, 2) := by decide +kernel
theorem dX1_pagesFrom_11 : decode cX1_pagesFrom 11 = .ok (.iconst 0, 1) := by decide +kernel
theorem dX1_pagesFrom_12 : decode cX1_pagesFrom 12 = .ok (.istore 5, 2) := by decide +kernel
theorem dX1_pagesFrom_14 : decode cX1_pagesFrom 14 = .ok (.iload 5, 2) := by decide +kernel
theorem dX1_pagesFrom_16 : decode cX1_pagesFrom 16 = .ok (.iload_n 3, 1) := by decide +kernel
theorem dX1_pagesFrom_17 : decode cX1_pagesFrom 17 = .ok (.if_icmp .ge 81, 3) := by decide +kernel
theorem dX1_pagesFrom_20 : decode cX1_pagesFrom 20 = .ok (.aload_n 0, 1) := by decide +kernel
theorem dX1_pagesFrom_21 : decode cX1_pagesFrom 21 = .ok (.iload 4, 2) := by decide +kernel
theorem dX1_pagesFrom_23 : decode cX1_pagesFrom 23 = .ok (.invokevirtual 54, 3) := by decide +kernel
theorem dX1_pagesFrom_26 : decode cX1_pagesFrom 26 = .ok (.ifCond .eq 56, 3) := by decide +kernel
theorem dX1_pagesFrom_29 : decode cX1_pagesFrom 29 = .ok (.aload_n 1, 1) := by decide +kernel
theorem dX1_pagesFrom_30 : decode cX1_pagesFrom 30 = .ok (.iload 4, 2) := by decide +kernel
theorem dX1_pagesFrom_32 : decode cX1_pagesFrom 32 = .ok (.iconst 0, 1) := by decide +kernel
theorem dX1_pagesFrom_33 : decode cX1_pagesFrom 33 = .ok (.invokevirtual 58, 3) := by decide +kernel
theorem dX1_pagesFrom_36 : decode cX1_pagesFrom 36 = .ok (.iconst 2, 1) := by decide +kernel
theorem dX1_pagesFrom_37 : decode cX1_pagesFrom 37 = .ok (.if_icmp .ne 45, 3) := by decide +kernel
theorem dX1_pagesFrom_40 : decode cX1_pagesFrom 40 = .ok (.aload_n 1, 1) := by decide +kernel
theorem dX1_pagesFrom_41 : decode cX1_pagesFrom 41 = .ok (.iload 4, 2) := by decide +kernel
theorem dX1_pagesFrom_43 : decode cX1_pagesFrom 43 = .ok (.bipush 26, 2) := by decide +kernel
theorem dX1_pagesFrom_45 : decode cX1_pagesFrom 45 = .ok (.invokevirtual 58, 3) := by decide +kernel
theorem dX1_pagesFrom_48 : decode cX1_pagesFrom 48 = .ok (.iload 5, 2) := by decide +kernel
theorem dX1_pagesFrom_50 : decode cX1_pagesFrom 50 = .ok (.if_icmp .ne 32, 3) := by decide +kernel
theorem dX1_pagesFrom_53 : decode cX1_pagesFrom 53 = .ok (.aload_n 1, 1) := by decide +kernel
theorem dX1_pagesFrom_54 : decode cX1_pagesFrom 54 = .ok (.iload 4, 2) := by decide +kernel
theorem dX1_pagesFrom_56 : decode cX1_pagesFrom 56 = .ok (.bipush 27, 2) := by decide +kernel
theorem dX1_pagesFrom_58 : decode cX1_pagesFrom 58 = .ok (.invokevirtual 58, 3) := by decide +kernel
theorem dX1_pagesFrom_61 : decode cX1_pagesFrom 61 = .ok (.iload_n 3, 1) := by decide +kernel
theorem dX1_pagesFrom_62 : decode cX1_pagesFrom 62 = .ok (.if_icmp .ne 20, 3) := by decide +kernel
theorem dX1_pagesFrom_65 : decode cX1_pagesFrom 65 = .ok (.aload_n 1, 1) := by decide +kernel
theorem dX1_pagesFrom_66 : decode cX1_pagesFrom 66 = .ok (.iload 4, 2) := by decide +kernel
theorem dX1_pagesFrom_68 : decode cX1_pagesFrom 68 = .ok (.invokevirtual 39, 3) := by decide +kernel
theorem dX1_pagesFrom_71 : decode cX1_pagesFrom 71 = .ok (.aload_n 1, 1) := by decide +kernel
theorem dX1_pagesFrom_72 : decode cX1_pagesFrom 72 = .ok (.iload_n 2, 1) := by decide +kernel
theorem dX1_pagesFrom_73 : decode cX1_pagesFrom 73 = .ok (.invokevirtual 39, 3) := by decide +kernel
theorem dX1_pagesFrom_76 : decode cX1_pagesFrom 76 = .ok (.iload 5, 2) := by decide +kernel
theorem dX1_pagesFrom_78 : decode cX1_pagesFrom 78 = .ok (.iadd, 1) := by decide +kernel
theorem dX1_pagesFrom_79 : decode cX1_pagesFrom 79 = .ok (.if_icmp .eq 5, 3) := by decide +kernel
theorem dX1_pagesFrom_82 : decode cX1_pagesFrom 82 = .ok (.iconst 0, 1) := by decide +kernel
theorem dX1_pagesFrom_83 : decode cX1_pagesFrom 83 = .ok (.ireturn, 1) := by decide +kernel
theorem dX1_pagesFrom_84 : decode cX1_pagesFrom 84 = .ok (.aload_n 1, 1) := by decide +kernel
theorem dX1_pagesFrom_85 : decode cX1_pagesFrom 85 = .ok (.iload 4, 2) := by decide +kernel
theorem dX1_pagesFrom_87 : decode cX1_pagesFrom 87 = .ok (.invokevirtual 51, 3) := by decide +kernel
theorem dX1_pagesFrom_90 : decode cX1_pagesFrom 90 = .ok (.istore 4, 2) := by decide +kernel
theorem dX1_pagesFrom_92 : decode cX1_pagesFrom 92 = .ok (.iinc 5 1, 3) := by decide +kernel
theorem dX1_pagesFrom_95 : decode cX1_pagesFrom 95 = .ok (.goto (-81), 3) := by decide +kernel
theorem dX1_pagesFrom_98 : decode cX1_pagesFrom 98 = .ok (.iload_n 3, 1) := by decide +kernel
theorem dX1_pagesFrom_99 : decode cX1_pagesFrom 99 = .ok (.ireturn, 1) := by decide +kernel
theorem dX1_isLater_0 : decode cX1_isLater 0 = .ok (.iload_n 0, 1) := by decide +kernel
theorem dX1_isLater_1 : decode cX1_isLater 1 = .ok (.i2l, 1) := by decide +kernel
theorem dX1_isLater_2 : decode cX1_isLater 2 = .ok (.ldc2_w 75, 3) := by decide +kernel
theorem dX1_isLater_5 : decode cX1_isLater 5 = .ok (.land, 1) := by decide +kernel
theorem dX1_isLater_6 : decode cX1_isLater 6 = .ok (.iload_n 1, 1) := by decide +kernel
theorem dX1_isLater_7 : decode cX1_isLater 7 = .ok (.i2l, 1) := by decide +kernel
theorem dX1_isLater_8 : decode cX1_isLater 8 = .ok (.ldc2_w 75, 3) := by decide +kernel
theorem dX1_isLater_11 : decode cX1_isLater 11 = .ok (.land, 1) := by decide +kernel
theorem dX1_isLater_12 : decode cX1_isLater 12 = .ok (.lcmp, 1) := by decide +kernel
theorem dX1_isLater_13 : decode cX1_isLater 13 = .ok (.ifCond .le 7, 3) := by decide +kernel
theorem dX1_isLater_16 : decode cX1_isLater 16 = .ok (.iconst 1, 1) := by decide +kernel
theorem dX1_isLater_17 : decode cX1_isLater 17 = .ok (.goto 4, 3) := by decide +kernel
theorem dX1_isLater_20 : decode cX1_isLater 20 = .ok (.iconst 0, 1) := by decide +kernel
theorem dX1_isLater_21 : decode cX1_isLater 21 = .ok (.ireturn, 1) := by decide +kernel
theorem dX1_isLog_0 : decode cX1_isLog 0 = .ok (.aload_n 0, 1) := by decide +kernel
theorem dX1_isLog_1 : decode cX1_isLog 1 = .ok (.iload_n 1, 1) := by decide +kernel
theorem dX1_isLog_2 : decode cX1_isLog 2 = .ok (.iconst 5, 1) := by decide +kernel
theorem dX1_isLog_3 : decode cX1_isLog 3 = .ok (.invokevirtual 58, 3) := by decide +kernel
theorem dX1_isLog_6 : decode cX1_isLog 6 = .ok (.istore_n 2, 1) := by decide +kernel
theorem dX1_isLog_7 : decode cX1_isLog 7 = .ok (.aload_n 0, 1) := by decide +kernel
theorem dX1_isLog_8 : decode cX1_isLog 8 = .ok (.iload_n 1, 1) := by decide +kernel
theorem dX1_isLog_9 : decode cX1_isLog 9 = .ok (.iconst 0, 1) := by decide +kernel
theorem dX1_isLog_10 : decode cX1_isLog 10 = .ok (.invokevirtual 58, 3) := by decide +kernel
theorem dX1_isLog_13 : decode cX1_isLog 13 = .ok (.iconst 1, 1) := by decide +kernel
theorem dX1_isLog_14 : decode cX1_isLog 14 = .ok (.if_icmp .ne 13, 3) := by decide +kernel
theorem dX1_isLog_17 : decode cX1_isLog 17 = .ok (.iload_n 2, 1) := by decide +kernel
theorem dX1_isLog_18 : decode cX1_isLog 18 = .ok (.iconst 1, 1) := by decide +kernel
theorem dX1_isLog_19 : decode cX1_isLog 19 = .ok (.if_icmp .lt 8, 3) := by decide +kernel
theorem dX1_isLog_22 : decode cX1_isLog 22 = .ok (.iload_n 2, 1) := by decide +kernel
theorem dX1_isLog_23 : decode cX1_isLog 23 = .ok (.iconst 4, 1) := by decide +kernel
theorem dX1_isLog_24 : decode cX1_isLog 24 = .ok (.if_icmp .le 5, 3) := by decide +kernel
theorem dX1_isLog_27 : decode cX1_isLog 27 = .ok (.iconst 0, 1) := by decide +kernel
theorem dX1_isLog_28 : decode cX1_isLog 28 = .ok (.ireturn, 1) := by decide +kernel
theorem dX1_isLog_29 : decode cX1_isLog 29 = .ok (.iconst 0, 1) := by decide +kernel
theorem dX1_isLog_30 : decode cX1_isLog 30 = .ok (.istore_n 3, 1) := by decide +kernel
theorem dX1_isLog_31 : decode cX1_isLog 31 = .ok (.iload_n 3, 1) := by decide +kernel
theorem dX1_isLog_32 : decode cX1_isLog 32 = .ok (.iload_n 2, 1) := by decide +kernel
theorem dX1_isLog_33 : decode cX1_isLog 33 = .ok (.if_icmp .ge 49, 3) := by decide +kernel
theorem dX1_isLog_36 : decode cX1_isLog 36 = .ok (.bipush 6, 2) := by decide +kernel
theorem dX1_isLog_38 : decode cX1_isLog 38 = .ok (.iload_n 3, 1) := by decide +kernel
theorem dX1_isLog_39 : decode cX1_isLog 39 = .ok (.iconst 5, 1) := by decide +kernel
theorem dX1_isLog_40 : decode cX1_isLog 40 = .ok (.imul, 1) := by decide +kernel
theorem dX1_isLog_41 : decode cX1_isLog 41 = .ok (.iadd, 1) := by decide +kernel
theorem dX1_isLog_42 : decode cX1_isLog 42 = .ok (.istore 4, 2) := by decide +kernel
theorem dX1_isLog_44 : decode cX1_isLog 44 = .ok (.aload_n 0, 1) := by decide +kernel
theorem dX1_isLog_45 : decode cX1_isLog 45 = .ok (.iload_n 1, 1) := by decide +kernel
theorem dX1_isLog_46 : decode cX1_isLog 46 = .ok (.iload 4, 2) := by decide +kernel
theorem dX1_isLog_48 : decode cX1_isLog 48 = .ok (.invokevirtual 58, 3) := by decide +kernel
theorem dX1_isLog_51 : decode cX1_isLog 51 = .ok (.iconst 2, 1) := by decide +kernel
theorem dX1_isLog_52 : decode cX1_isLog 52 = .ok (.ishr, 1) := by decide +kernel
theorem dX1_isLog_53 : decode cX1_isLog 53 = .ok (.invokestatic 77, 3) := by decide +kernel
theorem dX1_isLog_56 : decode cX1_isLog 56 = .ok (.ifCond .eq 18, 3) := by decide +kernel
theorem dX1_isLog_59 : decode cX1_isLog 59 = .ok (.aload_n 0, 1) := by decide +kernel
theorem dX1_isLog_60 : decode cX1_isLog 60 = .ok (.iload_n 1, 1) := by decide +kernel
theorem dX1_isLog_61 : decode cX1_isLog 61 = .ok (.iload 4, 2) := by decide +kernel
theorem dX1_isLog_63 : decode cX1_isLog 63 = .ok (.iconst 1, 1) := by decide +kernel
theorem dX1_isLog_64 : decode cX1_isLog 64 = .ok (.iadd, 1) := by decide +kernel
theorem dX1_isLog_65 : decode cX1_isLog 65 = .ok (.invokevirtual 58, 3) := by decide +kernel
theorem dX1_isLog_68 : decode cX1_isLog 68 = .ok (.invokestatic 80, 3) := by decide +kernel
theorem dX1_isLog_71 : decode cX1_isLog 71 = .ok (.ifCond .ne 5, 3) := by decide +kernel
theorem dX1_isLog_74 : decode cX1_isLog 74 = .ok (.iconst 0, 1) := by decide +kernel
theorem dX1_isLog_75 : decode cX1_isLog 75 = .ok (.ireturn, 1) := by decide +kernel
theorem dX1_isLog_76 : decode cX1_isLog 76 = .ok (.iinc 3 1, 3) := by decide +kernel
theorem dX1_isLog_79 : decode cX1_isLog 79 = .ok (.goto (-48), 3) := by decide +kernel
theorem dX1_isLog_82 : decode cX1_isLog 82 = .ok (.iconst 1, 1) := by decide +kernel
theorem dX1_isLog_83 : decode cX1_isLog 83 = .ok (.ireturn, 1) := by decide +kernel
theorem dX1_isPage_0 : decode cX1_isPage 0 = .ok (.aload_n 0, 1) := by decide +kernel
theorem dX1_isPage_1 : decode cX1_isPage 1 = .ok (.iload_n 1, 1) := by decide +kernel
theorem dX1_isPage_2 : decode cX1_isPage 2 = .ok (.iconst 5, 1) := by decide +kernel
theorem dX1_isPage_3 : decode cX1_isPage 3 = .ok (.invokevirtual 58, 3) := by decide +kernel
theorem dX1_isPage_6 : decode cX1_isPage 6 = .ok (.istore_n 2, 1) := by decide +kernel
theorem dX1_isPage_7 : decode cX1_isPage 7 = .ok (.aload_n 0, 1) := by decide +kernel
theorem dX1_isPage_8 : decode cX1_isPage 8 = .ok (.iload_n 1, 1) := by decide +kernel
theorem dX1_isPage_9 : decode cX1_isPage 9 = .ok (.iconst 0, 1) := by decide +kernel
theorem dX1_isPage_10 : decode cX1_isPage 10 = .ok (.invokevirtual 58, 3) := by decide +kernel
theorem dX1_isPage_13 : decode cX1_isPage 13 = .ok (.iconst 2, 1) := by decide +kernel
theorem dX1_isPage_14 : decode cX1_isPage 14 = .ok (.if_icmp .ne 8, 3) := by decide +kernel
theorem dX1_isPage_17 : decode cX1_isPage 17 = .ok (.iload_n 2, 1) := by decide +kernel
theorem dX1_isPage_18 : decode cX1_isPage 18 = .ok (.iconst 5, 1) := by decide +kernel
theorem dX1_isPage_19 : decode cX1_isPage 19 = .ok (.if_icmp .le 5, 3) := by decide +kernel
theorem dX1_isPage_22 : decode cX1_isPage 22 = .ok (.iconst 0, 1) := by decide +kernel
theorem dX1_isPage_23 : decode cX1_isPage 23 = .ok (.ireturn, 1) := by decide +kernel
theorem dX1_isPage_24 : decode cX1_isPage 24 = .ok (.iconst 0, 1) := by decide +kernel
theorem dX1_isPage_25 : decode cX1_isPage 25 = .ok (.istore_n 3, 1) := by decide +kernel
theorem dX1_isPage_26 : decode cX1_isPage 26 = .ok (.iload_n 3, 1) := by decide +kernel
theorem dX1_isPage_27 : decode cX1_isPage 27 = .ok (.iload_n 2, 1) := by decide +kernel
theorem dX1_isPage_28 : decode cX1_isPage 28 = .ok (.if_icmp .ge 28, 3) := by decide +kernel
theorem dX1_isPage_31 : decode cX1_isPage 31 = .ok (.aload_n 0, 1) := by decide +kernel
theorem dX1_isPage_32 : decode cX1_isPage 32 = .ok (.iload_n 1, 1) := by decide +kernel
theorem dX1_isPage_33 : decode cX1_isPage 33 = .ok (.bipush 6, 2) := by decide +kernel
theorem dX1_isPage_35 : decode cX1_isPage 35 = .ok (.iload_n 3, 1) := by decide +kernel
theorem dX1_isPage_36 : decode cX1_isPage 36 = .ok (.iconst 4, 1) := by decide +kernel
theorem dX1_isPage_37 : decode cX1_isPage 37 = .ok (.imul, 1) := by decide +kernel
theorem dX1_isPage_38 : decode cX1_isPage 38 = .ok (.iadd, 1) := by decide +kernel
theorem dX1_isPage_39 : decode cX1_isPage 39 = .ok (.invokevirtual 58, 3) := by decide +kernel
theorem dX1_isPage_42 : decode cX1_isPage 42 = .ok (.invokestatic 80, 3) := by decide +kernel
theorem dX1_isPage_45 : decode cX1_isPage 45 = .ok (.ifCond .ne 5, 3) := by decide +kernel
theorem dX1_isPage_48 : decode cX1_isPage 48 = .ok (.iconst 0, 1) := by decide +kernel
theorem dX1_isPage_49 : decode cX1_isPage 49 = .ok (.ireturn, 1) := by decide +kernel
theorem dX1_isPage_50 : decode cX1_isPage 50 = .ok (.iinc 3 1, 3) := by decide +kernel
theorem dX1_isPage_53 : decode cX1_isPage 53 = .ok (.goto (-27), 3) := by decide +kernel
theorem dX1_isPage_56 : decode cX1_isPage 56 = .ok (.aload_n 0, 1) := by decide +kernel
theorem dX1_isPage_57 : decode cX1_isPage 57 = .ok (.iload_n 1, 1) := by decide +kernel
theorem dX1_isPage_58 : decode cX1_isPage 58 = .ok (.bipush 26, 2) := by decide +kernel
theorem dX1_isPage_60 : decode cX1_isPage 60 = .ok (.invokevirtual 58, 3) := by decide +kernel
theorem dX1_isPage_63 : decode cX1_isPage 63 = .ok (.aload_n 0, 1) := by decide +kernel
theorem dX1_isPage_64 : decode cX1_isPage 64 = .ok (.iload_n 1, 1) := by decide +kernel
theorem dX1_isPage_65 : decode cX1_isPage 65 = .ok (.bipush 27, 2) := by decide +kernel
theorem dX1_isPage_67 : decode cX1_isPage 67 = .ok (.invokevirtual 58, 3) := by decide +kernel
theorem dX1_isPage_70 : decode cX1_isPage 70 = .ok (.if_icmp .ge 7, 3) := by decide +kernel
theorem dX1_isPage_73 : decode cX1_isPage 73 = .ok (.iconst 1, 1) := by decide +kernel
theorem dX1_isPage_74 : decode cX1_isPage 74 = .ok (.goto 4, 3) := by decide +kernel
theorem dX1_isPage_77 : decode cX1_isPage 77 = .ok (.iconst 0, 1) := by decide +kernel
theorem dX1_isPage_78 : decode cX1_isPage 78 = .ok (.ireturn, 1) := by decide +kernel
theorem dX1_readPage_0 : decode cX1_readPage 0 = .ok (.aload_n 0, 1) := by decide +kernel
theorem dX1_readPage_1 : decode cX1_readPage 1 = .ok (.iload_n 1, 1) := by decide +kernel
theorem dX1_readPage_2 : decode cX1_readPage 2 = .ok (.iconst 5, 1) := by decide +kernel
theorem dX1_readPage_3 : decode cX1_readPage 3 = .ok (.invokevirtual 58, 3) := by decide +kernel
theorem dX1_readPage_6 : decode cX1_readPage 6 = .ok (.istore_n 3, 1) := by decide +kernel
theorem dX1_readPage_7 : decode cX1_readPage 7 = .ok (.iconst 0, 1) := by decide +kernel
theorem dX1_readPage_8 : decode cX1_readPage 8 = .ok (.istore 4, 2) := by decide +kernel
theorem dX1_readPage_10 : decode cX1_readPage 10 = .ok (.iload 4, 2) := by decide +kernel
theorem dX1_readPage_12 : decode cX1_readPage 12 = .ok (.iload_n 3, 1) := by decide +kernel
theorem dX1_readPage_13 : decode cX1_readPage 13 = .ok (.if_icmp .ge 39, 3) := by decide +kernel
theorem dX1_readPage_16 : decode cX1_readPage 16 = .ok (.bipush 6, 2) := by decide +kernel
theorem dX1_readPage_18 : decode cX1_readPage 18 = .ok (.iload 4, 2) := by decide +kernel
theorem dX1_readPage_20 : decode cX1_readPage 20 = .ok (.iconst 4, 1) := by decide +kernel
theorem dX1_readPage_21 : decode cX1_readPage 21 = .ok (.imul, 1) := by decide +kernel
theorem dX1_readPage_22 : decode cX1_readPage 22 = .ok (.iadd, 1) := by decide +kernel
theorem dX1_readPage_23 : decode cX1_readPage 23 = .ok (.istore 5, 2) := by decide +kernel
theorem dX1_readPage_25 : decode cX1_readPage 25 = .ok (.aload_n 2, 1) := by decide +kernel
theorem dX1_readPage_26 : decode cX1_readPage 26 = .ok (.aload_n 0, 1) := by decide +kernel
theorem dX1_readPage_27 : decode cX1_readPage 27 = .ok (.iload_n 1, 1) := by decide +kernel
theorem dX1_readPage_28 : decode cX1_readPage 28 = .ok (.iload 5, 2) := by decide +kernel
theorem dX1_readPage_30 : decode cX1_readPage 30 = .ok (.invokevirtual 58, 3) := by decide +kernel
theorem dX1_readPage_33 : decode cX1_readPage 33 = .ok (.aload_n 0, 1) := by decide +kernel
theorem dX1_readPage_34 : decode cX1_readPage 34 = .ok (.iload_n 1, 1) := by decide +kernel
theorem dX1_readPage_35 : decode cX1_readPage 35 = .ok (.iload 5, 2) := by decide +kernel
theorem dX1_readPage_37 : decode cX1_readPage 37 = .ok (.iconst 1, 1) := by decide +kernel
theorem dX1_readPage_38 : decode cX1_readPage 38 = .ok (.iadd, 1) := by decide +kernel
theorem dX1_readPage_39 : decode cX1_readPage 39 = .ok (.iconst 3, 1) := by decide +kernel
theorem dX1_readPage_40 : decode cX1_readPage 40 = .ok (.invokevirtual 83, 3) := by decide +kernel
theorem dX1_readPage_43 : decode cX1_readPage 43 = .ok (.invokevirtual 87, 3) := by decide +kernel
theorem dX1_readPage_46 : decode cX1_readPage 46 = .ok (.iinc 4 1, 3) := by decide +kernel
theorem dX1_readPage_49 : decode cX1_readPage 49 = .ok (.goto (-39), 3) := by decide +kernel
theorem dX1_readPage_52 : decode cX1_readPage 52 = .ok (.return_, 1) := by decide +kernel
theorem dX1_goOverLog_0 : decode cX1_goOverLog 0 = .ok (.aload_n 0, 1) := by decide +kernel
theorem dX1_goOverLog_1 : decode cX1_goOverLog 1 = .ok (.iload_n 1, 1) := by decide +kernel
theorem dX1_goOverLog_2 : decode cX1_goOverLog 2 = .ok (.iconst 5, 1) := by decide +kernel
theorem dX1_goOverLog_3 : decode cX1_goOverLog 3 = .ok (.invokevirtual 58, 3) := by decide +kernel
theorem dX1_goOverLog_6 : decode cX1_goOverLog 6 = .ok (.istore_n 3, 1) := by decide +kernel
theorem dX1_goOverLog_7 : decode cX1_goOverLog 7 = .ok (.iconst 0, 1) := by decide +kernel
theorem dX1_goOverLog_8 : decode cX1_goOverLog 8 = .ok (.istore 4, 2) := by decide +kernel
theorem dX1_goOverLog_10 : decode cX1_goOverLog 10 = .ok (.iload 4, 2) := by decide +kernel
theorem dX1_goOverLog_12 : decode cX1_goOverLog 12 = .ok (.iload_n 3, 1) := by decide +kernel
theorem dX1_goOverLog_13 : decode cX1_goOverLog 13 = .ok (.if_icmp .ge 113, 3) := by decide +kernel
theorem dX1_goOverLog_16 : decode cX1_goOverLog 16 = .ok (.bipush 6, 2) := by decide +kernel
theorem dX1_goOverLog_18 : decode cX1_goOverLog 18 = .ok (.iload 4, 2) := by decide +kernel
theorem dX1_goOverLog_20 : decode cX1_goOverLog 20 = .ok (.iconst 5, 1) := by decide +kernel
theorem dX1_goOverLog_21 : decode cX1_goOverLog 21 = .ok (.imul, 1) := by decide +kernel
theorem dX1_goOverLog_22 : decode cX1_goOverLog 22 = .ok (.iadd, 1) := by decide +kernel
theorem dX1_goOverLog_23 : decode cX1_goOverLog 23 = .ok (.istore 5, 2) := by decide +kernel
theorem dX1_goOverLog_25 : decode cX1_goOverLog 25 = .ok (.aload_n 0, 1) := by decide +kernel
theorem dX1_goOverLog_26 : decode cX1_goOverLog 26 = .ok (.iload_n 1, 1) := by decide +kernel
theorem dX1_goOverLog_27 : decode cX1_goOverLog 27 = .ok (.iload 5, 2) := by decide +kernel
theorem dX1_goOverLog_29 : decode cX1_goOverLog 29 = .ok (.invokevirtual 58, 3) := by decide +kernel
theorem dX1_goOverLog_32 : decode cX1_goOverLog 32 = .ok (.iconst 2, 1) := by decide +kernel
theorem dX1_goOverLog_33 : decode cX1_goOverLog 33 = .ok (.ishr, 1) := by decide +kernel
theorem dX1_goOverLog_34 : decode cX1_goOverLog 34 = .ok (.istore 6, 2) := by decide +kernel
theorem dX1_goOverLog_36 : decode cX1_goOverLog 36 = .ok (.aload_n 0, 1) := by decide +kernel
theorem dX1_goOverLog_37 : decode cX1_goOverLog 37 = .ok (.iload_n 1, 1) := by decide +kernel
theorem dX1_goOverLog_38 : decode cX1_goOverLog 38 = .ok (.iload 5, 2) := by decide +kernel
theorem dX1_goOverLog_40 : decode cX1_goOverLog 40 = .ok (.invokevirtual 58, 3) := by decide +kernel
theorem dX1_goOverLog_43 : decode cX1_goOverLog 43 = .ok (.iconst 3, 1) := by decide +kernel
theorem dX1_goOverLog_44 : decode cX1_goOverLog 44 = .ok (.iand, 1) := by decide +kernel
theorem dX1_goOverLog_45 : decode cX1_goOverLog 45 = .ok (.istore 7, 2) := by decide +kernel
theorem dX1_goOverLog_47 : decode cX1_goOverLog 47 = .ok (.aload_n 0, 1) := by decide +kernel
theorem dX1_goOverLog_48 : decode cX1_goOverLog 48 = .ok (.iload_n 1, 1) := by decide +kernel
theorem dX1_goOverLog_49 : decode cX1_goOverLog 49 = .ok (.iload 5, 2) := by decide +kernel
theorem dX1_goOverLog_51 : decode cX1_goOverLog 51 = .ok (.iconst 1, 1) := by decide +kernel
theorem dX1_goOverLog_52 : decode cX1_goOverLog 52 = .ok (.iadd, 1) := by decide +kernel
theorem dX1_goOverLog_53 : decode cX1_goOverLog 53 = .ok (.invokevirtual 58, 3) := by decide +kernel
theorem dX1_goOverLog_56 : decode cX1_goOverLog 56 = .ok (.istore 8, 2) := by decide +kernel
theorem dX1_goOverLog_58 : decode cX1_goOverLog 58 = .ok (.iload 7, 2) := by decide +kernel
theorem dX1_goOverLog_60 : decode cX1_goOverLog 60 = .ok (.ifCond .ne 24, 3) := by decide +kernel
theorem dX1_goOverLog_63 : decode cX1_goOverLog 63 = .ok (.aload_n 2, 1) := by decide +kernel
theorem dX1_goOverLog_64 : decode cX1_goOverLog 64 = .ok (.iload 6, 2) := by decide +kernel
theorem dX1_goOverLog_66 : decode cX1_goOverLog 66 = .ok (.iload 8, 2) := by decide +kernel
theorem dX1_goOverLog_68 : decode cX1_goOverLog 68 = .ok (.aload_n 0, 1) := by decide +kernel
theorem dX1_goOverLog_69 : decode cX1_goOverLog 69 = .ok (.iload_n 1, 1) := by decide +kernel
theorem dX1_goOverLog_70 : decode cX1_goOverLog 70 = .ok (.iload 5, 2) := by decide +kernel
theorem dX1_goOverLog_72 : decode cX1_goOverLog 72 = .ok (.iconst 2, 1) := by decide +kernel
theorem dX1_goOverLog_73 : decode cX1_goOverLog 73 = .ok (.iadd, 1) := by decide +kernel
theorem dX1_goOverLog_74 : decode cX1_goOverLog 74 = .ok (.iconst 3, 1) := by decide +kernel
theorem dX1_goOverLog_75 : decode cX1_goOverLog 75 = .ok (.invokevirtual 83, 3) := by decide +kernel
theorem dX1_goOverLog_78 : decode cX1_goOverLog 78 = .ok (.invokevirtual 93, 3) := by decide +kernel
theorem dX1_goOverLog_81 : decode cX1_goOverLog 81 = .ok (.goto 39, 3) := by decide +kernel
theorem dX1_goOverLog_84 : decode cX1_goOverLog 84 = .ok (.iload 7, 2) := by decide +kernel
theorem dX1_goOverLog_86 : decode cX1_goOverLog 86 = .ok (.iconst 1, 1) := by decide +kernel
theorem dX1_goOverLog_87 : decode cX1_goOverLog 87 = .ok (.if_icmp .ne 15, 3) := by decide +kernel
theorem dX1_goOverLog_90 : decode cX1_goOverLog 90 = .ok (.aload_n 2, 1) := by decide +kernel
theorem dX1_goOverLog_91 : decode cX1_goOverLog 91 = .ok (.iload 6, 2) := by decide +kernel
theorem dX1_goOverLog_93 : decode cX1_goOverLog 93 = .ok (.iload 8, 2) := by decide +kernel
theorem dX1_goOverLog_95 : decode cX1_goOverLog 95 = .ok (.iconst (-1), 1) := by decide +kernel
theorem dX1_goOverLog_96 : decode cX1_goOverLog 96 = .ok (.invokevirtual 93, 3) := by decide +kernel
theorem dX1_goOverLog_99 : decode cX1_goOverLog 99 = .ok (.goto 21, 3) := by decide +kernel
theorem dX1_goOverLog_102 : decode cX1_goOverLog 102 = .ok (.aload_n 2, 1) := by decide +kernel
theorem dX1_goOverLog_103 : decode cX1_goOverLog 103 = .ok (.iload 6, 2) := by decide +kernel
theorem dX1_goOverLog_105 : decode cX1_goOverLog 105 = .ok (.iload 7, 2) := by decide +kernel
theorem dX1_goOverLog_107 : decode cX1_goOverLog 107 = .ok (.iconst 2, 1) := by decide +kernel
theorem dX1_goOverLog_108 : decode cX1_goOverLog 108 = .ok (.if_icmp .ne 7, 3) := by decide +kernel
theorem dX1_goOverLog_111 : decode cX1_goOverLog 111 = .ok (.iconst 1, 1) := by decide +kernel
theorem dX1_goOverLog_112 : decode cX1_goOverLog 112 = .ok (.goto 4, 3) := by decide +kernel
theorem dX1_goOverLog_115 : decode cX1_goOverLog 115 = .ok (.iconst 0, 1) := by decide +kernel
theorem dX1_goOverLog_116 : decode cX1_goOverLog 116 = .ok (.invokevirtual 97, 3) := by decide +kernel
theorem dX1_goOverLog_119 : decode cX1_goOverLog 119 = .ok (.pop, 1) := by decide +kernel
theorem dX1_goOverLog_120 : decode cX1_goOverLog 120 = .ok (.iinc 4 1, 3) := by decide +kernel
theorem dX1_goOverLog_123 : decode cX1_goOverLog 123 = .ok (.goto (-113), 3) := by decide +kernel
theorem dX1_goOverLog_126 : decode cX1_goOverLog 126 = .ok (.return_, 1) := by decide +kernel
theorem dX3_init_0 : decode cX3_init 0 = .ok (.aload_n 0, 1) := by decide +kernel
end
section
theorem dX3_init_1 : decode cX3_init 1 = .ok (.invokespecial 3, 3) := by decide +kernel
theorem dX3_init_4 : decode cX3_init 4 = .ok (.aload_n 0, 1) := by decide +kernel
theorem dX3_init_5 : decode cX3_init 5 = .ok (.bipush 16, 2) := by decide +kernel
theorem dX3_init_7 : decode cX3_init 7 = .ok (.bipush 64, 2) := by decide +kernel
theorem dX3_init_9 : decode cX3_init 9 = .ok (.iload_n 1, 1) := by decide +kernel
theorem dX3_init_10 : decode cX3_init 10 = .ok (.invokestatic 9, 3) := by decide +kernel
theorem dX3_init_13 : decode cX3_init 13 = .ok (.invokestatic 15, 3) := by decide +kernel
theorem dX3_init_16 : decode cX3_init 16 = .ok (.putfield 18, 3) := by decide +kernel
theorem dX3_init_19 : decode cX3_init 19 = .ok (.aload_n 0, 1) := by decide +kernel
theorem dX3_init_20 : decode cX3_init 20 = .ok (.aload_n 0, 1) := by decide +kernel
theorem dX3_init_21 : decode cX3_init 21 = .ok (.getfield 18, 3) := by decide +kernel
theorem dX3_init_24 : decode cX3_init 24 = .ok (.bipush 32, 2) := by decide +kernel
theorem dX3_init_26 : decode cX3_init 26 = .ok (.imul, 1) := by decide +kernel
theorem dX3_init_27 : decode cX3_init 27 = .ok (.newarray .byte, 2) := by decide +kernel
theorem dX3_init_29 : decode cX3_init 29 = .ok (.putfield 24, 3) := by decide +kernel
theorem dX3_init_32 : decode cX3_init 32 = .ok (.return_, 1) := by decide +kernel
theorem dX3_size_0 : decode cX3_size 0 = .ok (.aload_n 0, 1) := by decide +kernel
theorem dX3_size_1 : decode cX3_size 1 = .ok (.getfield 18, 3) := by decide +kernel
theorem dX3_size_4 : decode cX3_size 4 = .ok (.ireturn, 1) := by decide +kernel
theorem dX3_behind_0 : decode cX3_behind 0 = .ok (.iload_n 1, 1) := by decide +kernel
theorem dX3_behind_1 : decode cX3_behind 1 = .ok (.ifCond .lt 19, 3) := by decide +kernel
theorem dX3_behind_4 : decode cX3_behind 4 = .ok (.iload_n 1, 1) := by decide +kernel
theorem dX3_behind_5 : decode cX3_behind 5 = .ok (.aload_n 0, 1) := by decide +kernel
theorem dX3_behind_6 : decode cX3_behind 6 = .ok (.getfield 18, 3) := by decide +kernel
theorem dX3_behind_9 : decode cX3_behind 9 = .ok (.iconst 1, 1) := by decide +kernel
theorem dX3_behind_10 : decode cX3_behind 10 = .ok (.isub, 1) := by decide +kernel
theorem dX3_behind_11 : decode cX3_behind 11 = .ok (.if_icmp .ge 9, 3) := by decide +kernel
theorem dX3_behind_14 : decode cX3_behind 14 = .ok (.iload_n 1, 1) := by decide +kernel
theorem dX3_behind_15 : decode cX3_behind 15 = .ok (.iconst 1, 1) := by decide +kernel
theorem dX3_behind_16 : decode cX3_behind 16 = .ok (.iadd, 1) := by decide +kernel
theorem dX3_behind_17 : decode cX3_behind 17 = .ok (.goto 4, 3) := by decide +kernel
theorem dX3_behind_20 : decode cX3_behind 20 = .ok (.iconst 0, 1) := by decide +kernel
theorem dX3_behind_21 : decode cX3_behind 21 = .ok (.ireturn, 1) := by decide +kernel
theorem dX3_stepsBetween_0 : decode cX3_stepsBetween 0 = .ok (.iload_n 2, 1) := by decide +kernel
theorem dX3_stepsBetween_1 : decode cX3_stepsBetween 1 = .ok (.iload_n 1, 1) := by decide +kernel
theorem dX3_stepsBetween_2 : decode cX3_stepsBetween 2 = .ok (.if_icmp .lt 9, 3) := by decide +kernel
theorem dX3_stepsBetween_5 : decode cX3_stepsBetween 5 = .ok (.iload_n 2, 1) := by decide +kernel
theorem dX3_stepsBetween_6 : decode cX3_stepsBetween 6 = .ok (.iload_n 1, 1) := by decide +kernel
theorem dX3_stepsBetween_7 : decode cX3_stepsBetween 7 = .ok (.isub, 1) := by decide +kernel
theorem dX3_stepsBetween_8 : decode cX3_stepsBetween 8 = .ok (.goto 11, 3) := by decide +kernel
theorem dX3_stepsBetween_11 : decode cX3_stepsBetween 11 = .ok (.iload_n 2, 1) := by decide +kernel
theorem dX3_stepsBetween_12 : decode cX3_stepsBetween 12 = .ok (.iload_n 1, 1) := by decide +kernel
theorem dX3_stepsBetween_13 : decode cX3_stepsBetween 13 = .ok (.isub, 1) := by decide +kernel
theorem dX3_stepsBetween_14 : decode cX3_stepsBetween 14 = .ok (.aload_n 0, 1) := by decide +kernel
theorem dX3_stepsBetween_15 : decode cX3_stepsBetween 15 = .ok (.getfield 18, 3) := by decide +kernel
theorem dX3_stepsBetween_18 : decode cX3_stepsBetween 18 = .ok (.iadd, 1) := by decide +kernel
theorem dX3_stepsBetween_19 : decode cX3_stepsBetween 19 = .ok (.ireturn, 1) := by decide +kernel
theorem dX3_byteOf_0 : decode cX3_byteOf 0 = .ok (.iload_n 1, 1) := by decide +kernel
theorem dX3_byteOf_1 : decode cX3_byteOf 1 = .ok (.ifCond .lt 21, 3) := by decide +kernel
theorem dX3_byteOf_4 : decode cX3_byteOf 4 = .ok (.iload_n 1, 1) := by decide +kernel
theorem dX3_byteOf_5 : decode cX3_byteOf 5 = .ok (.aload_n 0, 1) := by decide +kernel
theorem dX3_byteOf_6 : decode cX3_byteOf 6 = .ok (.getfield 18, 3) := by decide +kernel
theorem dX3_byteOf_9 : decode cX3_byteOf 9 = .ok (.if_icmp .ge 13, 3) := by decide +kernel
theorem dX3_byteOf_12 : decode cX3_byteOf 12 = .ok (.iload_n 2, 1) := by decide +kernel
theorem dX3_byteOf_13 : decode cX3_byteOf 13 = .ok (.ifCond .lt 9, 3) := by decide +kernel
theorem dX3_byteOf_16 : decode cX3_byteOf 16 = .ok (.iload_n 2, 1) := by decide +kernel
theorem dX3_byteOf_17 : decode cX3_byteOf 17 = .ok (.bipush 32, 2) := by decide +kernel
theorem dX3_byteOf_19 : decode cX3_byteOf 19 = .ok (.if_icmp .lt 5, 3) := by decide +kernel
theorem dX3_byteOf_22 : decode cX3_byteOf 22 = .ok (.iconst (-1), 1) := by decide +kernel
theorem dX3_byteOf_23 : decode cX3_byteOf 23 = .ok (.ireturn, 1) := by decide +kernel
theorem dX3_byteOf_24 : decode cX3_byteOf 24 = .ok (.aload_n 0, 1) := by decide +kernel
theorem dX3_byteOf_25 : decode cX3_byteOf 25 = .ok (.getfield 24, 3) := by decide +kernel
theorem dX3_byteOf_28 : decode cX3_byteOf 28 = .ok (.iload_n 1, 1) := by decide +kernel
theorem dX3_byteOf_29 : decode cX3_byteOf 29 = .ok (.bipush 32, 2) := by decide +kernel
theorem dX3_byteOf_31 : decode cX3_byteOf 31 = .ok (.imul, 1) := by decide +kernel
theorem dX3_byteOf_32 : decode cX3_byteOf 32 = .ok (.iload_n 2, 1) := by decide +kernel
theorem dX3_byteOf_33 : decode cX3_byteOf 33 = .ok (.iadd, 1) := by decide +kernel
theorem dX3_byteOf_34 : decode cX3_byteOf 34 = .ok (.baload, 1) := by decide +kernel
theorem dX3_byteOf_35 : decode cX3_byteOf 35 = .ok (.sipush 255, 3) := by decide +kernel
theorem dX3_byteOf_38 : decode cX3_byteOf 38 = .ok (.iand, 1) := by decide +kernel
theorem dX3_byteOf_39 : decode cX3_byteOf 39 = .ok (.ireturn, 1) := by decide +kernel
theorem dX3_setByte_0 : decode cX3_setByte 0 = .ok (.iload_n 1, 1) := by decide +kernel
theorem dX3_setByte_1 : decode cX3_setByte 1 = .ok (.ifCond .lt 21, 3) := by decide +kernel
theorem dX3_setByte_4 : decode cX3_setByte 4 = .ok (.iload_n 1, 1) := by decide +kernel
theorem dX3_setByte_5 : decode cX3_setByte 5 = .ok (.aload_n 0, 1) := by decide +kernel
theorem dX3_setByte_6 : decode cX3_setByte 6 = .ok (.getfield 18, 3) := by decide +kernel
theorem dX3_setByte_9 : decode cX3_setByte 9 = .ok (.if_icmp .ge 13, 3) := by decide +kernel
theorem dX3_setByte_12 : decode cX3_setByte 12 = .ok (.iload_n 2, 1) := by decide +kernel
theorem dX3_setByte_13 : decode cX3_setByte 13 = .ok (.ifCond .lt 9, 3) := by decide +kernel
theorem dX3_setByte_16 : decode cX3_setByte 16 = .ok (.iload_n 2, 1) := by decide +kernel
theorem dX3_setByte_17 : decode cX3_setByte 17 = .ok (.bipush 32, 2) := by decide +kernel
theorem dX3_setByte_19 : decode cX3_setByte 19 = .ok (.if_icmp .lt 4, 3) := by decide +kernel
theorem dX3_setByte_22 : decode cX3_setByte 22 = .ok (.return_, 1) := by decide +kernel
theorem dX3_setByte_23 : decode cX3_setByte 23 = .ok (.aload_n 0, 1) := by decide +kernel
theorem dX3_setByte_24 : decode cX3_setByte 24 = .ok (.getfield 24, 3) := by decide +kernel
theorem dX3_setByte_27 : decode cX3_setByte 27 = .ok (.iload_n 1, 1) := by decide +kernel
theorem dX3_setByte_28 : decode cX3_setByte 28 = .ok (.bipush 32, 2) := by decide +kernel
theorem dX3_setByte_30 : decode cX3_setByte 30 = .ok (.imul, 1) := by decide +kernel
theorem dX3_setByte_31 : decode cX3_setByte 31 = .ok (.iload_n 2, 1) := by decide +kernel
theorem dX3_setByte_32 : decode cX3_setByte 32 = .ok (.iadd, 1) := by decide +kernel
theorem dX3_setByte_33 : decode cX3_setByte 33 = .ok (.iload_n 3, 1) := by decide +kernel
theorem dX3_setByte_34 : decode cX3_setByte 34 = .ok (.i2b, 1) := by decide +kernel
theorem dX3_setByte_35 : decode cX3_setByte 35 = .ok (.bastore, 1) := by decide +kernel
theorem dX3_setByte_36 : decode cX3_setByte 36 = .ok (.return_, 1) := by decide +kernel
theorem dX3_numberOf_0 : decode cX3_numberOf 0 = .ok (.iconst 0, 1) := by decide +kernel
theorem dX3_numberOf_1 : decode cX3_numberOf 1 = .ok (.istore 4, 2) := by decide +kernel
theorem dX3_numberOf_3 : decode cX3_numberOf 3 = .ok (.iconst 0, 1) := by decide +kernel
theorem dX3_numberOf_4 : decode cX3_numberOf 4 = .ok (.istore 5, 2) := by decide +kernel
theorem dX3_numberOf_6 : decode cX3_numberOf 6 = .ok (.iload 5, 2) := by decide +kernel
theorem dX3_numberOf_8 : decode cX3_numberOf 8 = .ok (.iload_n 3, 1) := by decide +kernel
theorem dX3_numberOf_9 : decode cX3_numberOf 9 = .ok (.if_icmp .ge 26, 3) := by decide +kernel
theorem dX3_numberOf_12 : decode cX3_numberOf 12 = .ok (.iload 4, 2) := by decide +kernel
theorem dX3_numberOf_14 : decode cX3_numberOf 14 = .ok (.bipush 8, 2) := by decide +kernel
theorem dX3_numberOf_16 : decode cX3_numberOf 16 = .ok (.ishl, 1) := by decide +kernel
theorem dX3_numberOf_17 : decode cX3_numberOf 17 = .ok (.aload_n 0, 1) := by decide +kernel
theorem dX3_numberOf_18 : decode cX3_numberOf 18 = .ok (.iload_n 1, 1) := by decide +kernel
theorem dX3_numberOf_19 : decode cX3_numberOf 19 = .ok (.iload_n 2, 1) := by decide +kernel
theorem dX3_numberOf_20 : decode cX3_numberOf 20 = .ok (.iload 5, 2) := by decide +kernel
theorem dX3_numberOf_22 : decode cX3_numberOf 22 = .ok (.iadd, 1) := by decide +kernel
theorem dX3_numberOf_23 : decode cX3_numberOf 23 = .ok (.invokevirtual 28, 3) := by decide +kernel
theorem dX3_numberOf_26 : decode cX3_numberOf 26 = .ok (.ior, 1) := by decide +kernel
theorem dX3_numberOf_27 : decode cX3_numberOf 27 = .ok (.istore 4, 2) := by decide +kernel
theorem dX3_numberOf_29 : decode cX3_numberOf 29 = .ok (.iinc 5 1, 3) := by decide +kernel
theorem dX3_numberOf_32 : decode cX3_numberOf 32 = .ok (.goto (-26), 3) := by decide +kernel
theorem dX3_numberOf_35 : decode cX3_numberOf 35 = .ok (.iload 4, 2) := by decide +kernel
theorem dX3_numberOf_37 : decode cX3_numberOf 37 = .ok (.ireturn, 1) := by decide +kernel
theorem dX3_setNumber_0 : decode cX3_setNumber 0 = .ok (.iload 4, 2) := by decide +kernel
theorem dX3_setNumber_2 : decode cX3_setNumber 2 = .ok (.istore 5, 2) := by decide +kernel
theorem dX3_setNumber_4 : decode cX3_setNumber 4 = .ok (.iload_n 3, 1) := by decide +kernel
theorem dX3_setNumber_5 : decode cX3_setNumber 5 = .ok (.iconst 1, 1) := by decide +kernel
theorem dX3_setNumber_6 : decode cX3_setNumber 6 = .ok (.isub, 1) := by decide +kernel
theorem dX3_setNumber_7 : decode cX3_setNumber 7 = .ok (.istore 6, 2) := by decide +kernel
theorem dX3_setNumber_9 : decode cX3_setNumber 9 = .ok (.iload 6, 2) := by decide +kernel
theorem dX3_setNumber_11 : decode cX3_setNumber 11 = .ok (.ifCond .lt 27, 3) := by decide +kernel
theorem dX3_setNumber_14 : decode cX3_setNumber 14 = .ok (.aload_n 0, 1) := by decide +kernel
theorem dX3_setNumber_15 : decode cX3_setNumber 15 = .ok (.iload_n 1, 1) := by decide +kernel
theorem dX3_setNumber_16 : decode cX3_setNumber 16 = .ok (.iload_n 2, 1) := by decide +kernel
theorem dX3_setNumber_17 : decode cX3_setNumber 17 = .ok (.iload 6, 2) := by decide +kernel
theorem dX3_setNumber_19 : decode cX3_setNumber 19 = .ok (.iadd, 1) := by decide +kernel
theorem dX3_setNumber_20 : decode cX3_setNumber 20 = .ok (.iload 5, 2) := by decide +kernel
theorem dX3_setNumber_22 : decode cX3_setNumber 22 = .ok (.invokevirtual 31, 3) := by decide +kernel
theorem dX3_setNumber_25 : decode cX3_setNumber 25 = .ok (.iload 5, 2) := by decide +kernel
theorem dX3_setNumber_27 : decode cX3_setNumber 27 = .ok (.bipush 8, 2) := by decide +kernel
theorem dX3_setNumber_29 : decode cX3_setNumber 29 = .ok (.iushr, 1) := by decide +kernel
theorem dX3_setNumber_30 : decode cX3_setNumber 30 = .ok (.istore 5, 2) := by decide +kernel
theorem dX3_setNumber_32 : decode cX3_setNumber 32 = .ok (.iinc 6 (-1), 3) := by decide +kernel
theorem dX3_setNumber_35 : decode cX3_setNumber 35 = .ok (.goto (-26), 3) := by decide +kernel
theorem dX3_setNumber_38 : decode cX3_setNumber 38 = .ok (.return_, 1) := by decide +kernel
theorem dX3_serialOf_0 : decode cX3_serialOf 0 = .ok (.aload_n 0, 1) := by decide +kernel
theorem dX3_serialOf_1 : decode cX3_serialOf 1 = .ok (.iload_n 1, 1) := by decide +kernel
theorem dX3_serialOf_2 : decode cX3_serialOf 2 = .ok (.iconst 1, 1) := by decide +kernel
theorem dX3_serialOf_3 : decode cX3_serialOf 3 = .ok (.iconst 4, 1) := by decide +kernel
theorem dX3_serialOf_4 : decode cX3_serialOf 4 = .ok (.invokevirtual 35, 3) := by decide +kernel
theorem dX3_serialOf_7 : decode cX3_serialOf 7 = .ok (.ireturn, 1) := by decide +kernel
theorem dX3_isSound_0 : decode cX3_isSound 0 = .ok (.aload_n 0, 1) := by decide +kernel
theorem dX3_isSound_1 : decode cX3_isSound 1 = .ok (.iload_n 1, 1) := by decide +kernel
theorem dX3_isSound_2 : decode cX3_isSound 2 = .ok (.bipush 28, 2) := by decide +kernel
theorem dX3_isSound_4 : decode cX3_isSound 4 = .ok (.invokevirtual 28, 3) := by decide +kernel
theorem dX3_isSound_7 : decode cX3_isSound 7 = .ok (.iconst (-1), 1) := by decide +kernel
theorem dX3_isSound_8 : decode cX3_isSound 8 = .ok (.if_icmp .eq 23, 3) := by decide +kernel
theorem dX3_isSound_11 : decode cX3_isSound 11 = .ok (.aload_n 0, 1) := by decide +kernel
theorem dX3_isSound_12 : decode cX3_isSound 12 = .ok (.iload_n 1, 1) := by decide +kernel
theorem dX3_isSound_13 : decode cX3_isSound 13 = .ok (.bipush 28, 2) := by decide +kernel
theorem dX3_isSound_15 : decode cX3_isSound 15 = .ok (.iconst 4, 1) := by decide +kernel
theorem dX3_isSound_16 : decode cX3_isSound 16 = .ok (.invokevirtual 35, 3) := by decide +kernel
theorem dX3_isSound_19 : decode cX3_isSound 19 = .ok (.aload_n 0, 1) := by decide +kernel
theorem dX3_isSound_20 : decode cX3_isSound 20 = .ok (.iload_n 1, 1) := by decide +kernel
theorem dX3_isSound_21 : decode cX3_isSound 21 = .ok (.invokevirtual 39, 3) := by decide +kernel
theorem dX3_isSound_24 : decode cX3_isSound 24 = .ok (.if_icmp .ne 7, 3) := by decide +kernel
theorem dX3_isSound_27 : decode cX3_isSound 27 = .ok (.iconst 1, 1) := by decide +kernel
theorem dX3_isSound_28 : decode cX3_isSound 28 = .ok (.goto 4, 3) := by decide +kernel
theorem dX3_isSound_31 : decode cX3_isSound 31 = .ok (.iconst 0, 1) := by decide +kernel
theorem dX3_isSound_32 : decode cX3_isSound 32 = .ok (.ireturn, 1) := by decide +kernel
theorem dX3_prepare_0 : decode cX3_prepare 0 = .ok (.iconst 0, 1) := by decide +kernel
theorem dX3_prepare_1 : decode cX3_prepare 1 = .ok (.istore 5, 2) := by decide +kernel
theorem dX3_prepare_3 : decode cX3_prepare 3 = .ok (.iload 5, 2) := by decide +kernel
theorem dX3_prepare_5 : decode cX3_prepare 5 = .ok (.bipush 32, 2) := by decide +kernel
theorem dX3_prepare_7 : decode cX3_prepare 7 = .ok (.if_icmp .ge 17, 3) := by decide +kernel
theorem dX3_prepare_10 : decode cX3_prepare 10 = .ok (.aload_n 0, 1) := by decide +kernel
theorem dX3_prepare_11 : decode cX3_prepare 11 = .ok (.iload_n 1, 1) := by decide +kernel
theorem dX3_prepare_12 : decode cX3_prepare 12 = .ok (.iload 5, 2) := by decide +kernel
theorem dX3_prepare_14 : decode cX3_prepare 14 = .ok (.iconst 0, 1) := by decide +kernel
theorem dX3_prepare_15 : decode cX3_prepare 15 = .ok (.invokevirtual 31, 3) := by decide +kernel
theorem dX3_prepare_18 : decode cX3_prepare 18 = .ok (.iinc 5 1, 3) := by decide +kernel
theorem dX3_prepare_21 : decode cX3_prepare 21 = .ok (.goto (-18), 3) := by decide +kernel
theorem dX3_prepare_24 : decode cX3_prepare 24 = .ok (.aload_n 0, 1) := by decide +kernel
theorem dX3_prepare_25 : decode cX3_prepare 25 = .ok (.iload_n 1, 1) := by decide +kernel
theorem dX3_prepare_26 : decode cX3_prepare 26 = .ok (.iconst 0, 1) := by decide +kernel
theorem dX3_prepare_27 : decode cX3_prepare 27 = .ok (.iload_n 2, 1) := by decide +kernel
theorem dX3_prepare_28 : decode cX3_prepare 28 = .ok (.invokevirtual 31, 3) := by decide +kernel
theorem dX3_prepare_31 : decode cX3_prepare 31 = .ok (.aload_n 0, 1) := by decide +kernel
theorem dX3_prepare_32 : decode cX3_prepare 32 = .ok (.iload_n 1, 1) := by decide +kernel
theorem dX3_prepare_33 : decode cX3_prepare 33 = .ok (.iconst 1, 1) := by decide +kernel
theorem dX3_prepare_34 : decode cX3_prepare 34 = .ok (.iconst 4, 1) := by decide +kernel
theorem dX3_prepare_35 : decode cX3_prepare 35 = .ok (.iload_n 3, 1) := by decide +kernel
theorem dX3_prepare_36 : decode cX3_prepare 36 = .ok (.invokevirtual 43, 3) := by decide +kernel
theorem dX3_prepare_39 : decode cX3_prepare 39 = .ok (.aload_n 0, 1) := by decide +kernel
theorem dX3_prepare_40 : decode cX3_prepare 40 = .ok (.iload_n 1, 1) := by decide +kernel
theorem dX3_prepare_41 : decode cX3_prepare 41 = .ok (.iconst 5, 1) := by decide +kernel
theorem dX3_prepare_42 : decode cX3_prepare 42 = .ok (.iload 4, 2) := by decide +kernel
theorem dX3_prepare_44 : decode cX3_prepare 44 = .ok (.invokevirtual 31, 3) := by decide +kernel
theorem dX3_prepare_47 : decode cX3_prepare 47 = .ok (.return_, 1) := by decide +kernel
theorem dX3_seal_0 : decode cX3_seal 0 = .ok (.aload_n 0, 1) := by decide +kernel
theorem dX3_seal_1 : decode cX3_seal 1 = .ok (.iload_n 1, 1) := by decide +kernel
theorem dX3_seal_2 : decode cX3_seal 2 = .ok (.bipush 28, 2) := by decide +kernel
theorem dX3_seal_4 : decode cX3_seal 4 = .ok (.iconst 4, 1) := by decide +kernel
theorem dX3_seal_5 : decode cX3_seal 5 = .ok (.aload_n 0, 1) := by decide +kernel
theorem dX3_seal_6 : decode cX3_seal 6 = .ok (.iload_n 1, 1) := by decide +kernel
theorem dX3_seal_7 : decode cX3_seal 7 = .ok (.invokevirtual 39, 3) := by decide +kernel
theorem dX3_seal_10 : decode cX3_seal 10 = .ok (.invokevirtual 43, 3) := by decide +kernel
theorem dX3_seal_13 : decode cX3_seal 13 = .ok (.return_, 1) := by decide +kernel
theorem dX3_copyStart_0 : decode cX3_copyStart 0 = .ok (.iconst 0, 1) := by decide +kernel
theorem dX3_copyStart_1 : decode cX3_copyStart 1 = .ok (.istore 4, 2) := by decide +kernel
theorem dX3_copyStart_3 : decode cX3_copyStart 3 = .ok (.iload 4, 2) := by decide +kernel
theorem dX3_copyStart_5 : decode cX3_copyStart 5 = .ok (.iload_n 3, 1) := by decide +kernel
theorem dX3_copyStart_6 : decode cX3_copyStart 6 = .ok (.if_icmp .ge 30, 3) := by decide +kernel
theorem dX3_copyStart_9 : decode cX3_copyStart 9 = .ok (.iload 4, 2) := by decide +kernel
theorem dX3_copyStart_11 : decode cX3_copyStart 11 = .ok (.bipush 32, 2) := by decide +kernel
theorem dX3_copyStart_13 : decode cX3_copyStart 13 = .ok (.if_icmp .ge 23, 3) := by decide +kernel
theorem dX3_copyStart_16 : decode cX3_copyStart 16 = .ok (.aload_n 0, 1) := by decide +kernel
theorem dX3_copyStart_17 : decode cX3_copyStart 17 = .ok (.iload_n 2, 1) := by decide +kernel
theorem dX3_copyStart_18 : decode cX3_copyStart 18 = .ok (.iload 4, 2) := by decide +kernel
theorem dX3_copyStart_20 : decode cX3_copyStart 20 = .ok (.aload_n 1, 1) := by decide +kernel
theorem dX3_copyStart_21 : decode cX3_copyStart 21 = .ok (.iload_n 2, 1) := by decide +kernel
theorem dX3_copyStart_22 : decode cX3_copyStart 22 = .ok (.iload 4, 2) := by decide +kernel
theorem dX3_copyStart_24 : decode cX3_copyStart 24 = .ok (.invokevirtual 28, 3) := by decide +kernel
theorem dX3_copyStart_27 : decode cX3_copyStart 27 = .ok (.invokevirtual 31, 3) := by decide +kernel
theorem dX3_copyStart_30 : decode cX3_copyStart 30 = .ok (.iinc 4 1, 3) := by decide +kernel
theorem dX3_copyStart_33 : decode cX3_copyStart 33 = .ok (.goto (-30), 3) := by decide +kernel
theorem dX3_copyStart_36 : decode cX3_copyStart 36 = .ok (.return_, 1) := by decide +kernel
theorem dX3_clear_0 : decode cX3_clear 0 = .ok (.iconst 0, 1) := by decide +kernel
theorem dX3_clear_1 : decode cX3_clear 1 = .ok (.istore_n 1, 1) := by decide +kernel
theorem dX3_clear_2 : decode cX3_clear 2 = .ok (.iload_n 1, 1) := by decide +kernel
theorem dX3_clear_3 : decode cX3_clear 3 = .ok (.aload_n 0, 1) := by decide +kernel
theorem dX3_clear_4 : decode cX3_clear 4 = .ok (.getfield 24, 3) := by decide +kernel
theorem dX3_clear_7 : decode cX3_clear 7 = .ok (.arraylength, 1) := by decide +kernel
theorem dX3_clear_8 : decode cX3_clear 8 = .ok (.if_icmp .ge 16, 3) := by decide +kernel
theorem dX3_clear_11 : decode cX3_clear 11 = .ok (.aload_n 0, 1) := by decide +kernel
theorem dX3_clear_12 : decode cX3_clear 12 = .ok (.getfield 24, 3) := by decide +kernel
theorem dX3_clear_15 : decode cX3_clear 15 = .ok (.iload_n 1, 1) := by decide +kernel
theorem dX3_clear_16 : decode cX3_clear 16 = .ok (.iconst 0, 1) := by decide +kernel
theorem dX3_clear_17 : decode cX3_clear 17 = .ok (.bastore, 1) := by decide +kernel
theorem dX3_clear_18 : decode cX3_clear 18 = .ok (.iinc 1 1, 3) := by decide +kernel
theorem dX3_clear_21 : decode cX3_clear 21 = .ok (.goto (-19), 3) := by decide +kernel
theorem dX3_clear_24 : decode cX3_clear 24 = .ok (.return_, 1) := by decide +kernel
theorem dX3_sumOf_0 : decode cX3_sumOf 0 = .ok (.iload_n 1, 1) := by decide +kernel
theorem dX3_sumOf_1 : decode cX3_sumOf 1 = .ok (.ifCond .lt 11, 3) := by decide +kernel
theorem dX3_sumOf_4 : decode cX3_sumOf 4 = .ok (.iload_n 1, 1) := by decide +kernel
theorem dX3_sumOf_5 : decode cX3_sumOf 5 = .ok (.aload_n 0, 1) := by decide +kernel
theorem dX3_sumOf_6 : decode cX3_sumOf 6 = .ok (.getfield 18, 3) := by decide +kernel
theorem dX3_sumOf_9 : decode cX3_sumOf 9 = .ok (.if_icmp .lt 5, 3) := by decide +kernel
theorem dX3_sumOf_12 : decode cX3_sumOf 12 = .ok (.iconst 0, 1) := by decide +kernel
theorem dX3_sumOf_13 : decode cX3_sumOf 13 = .ok (.ireturn, 1) := by decide +kernel
theorem dX3_sumOf_14 : decode cX3_sumOf 14 = .ok (.iload_n 1, 1) := by decide +kernel
theorem dX3_sumOf_15 : decode cX3_sumOf 15 = .ok (.bipush 32, 2) := by decide +kernel
theorem dX3_sumOf_17 : decode cX3_sumOf 17 = .ok (.imul, 1) := by decide +kernel
theorem dX3_sumOf_18 : decode cX3_sumOf 18 = .ok (.istore_n 2, 1) := by decide +kernel
theorem dX3_sumOf_19 : decode cX3_sumOf 19 = .ok (.iload_n 1, 1) := by decide +kernel
theorem dX3_sumOf_20 : decode cX3_sumOf 20 = .ok (.iconst 1, 1) := by decide +kernel
theorem dX3_sumOf_21 : decode cX3_sumOf 21 = .ok (.iadd, 1) := by decide +kernel
theorem dX3_sumOf_22 : decode cX3_sumOf 22 = .ok (.istore_n 3, 1) := by decide +kernel
theorem dX3_sumOf_23 : decode cX3_sumOf 23 = .ok (.iconst 0, 1) := by decide +kernel
theorem dX3_sumOf_24 : decode cX3_sumOf 24 = .ok (.istore 4, 2) := by decide +kernel
theorem dX3_sumOf_26 : decode cX3_sumOf 26 = .ok (.iload 4, 2) := by decide +kernel
theorem dX3_sumOf_28 : decode cX3_sumOf 28 = .ok (.bipush 28, 2) := by decide +kernel
theorem dX3_sumOf_30 : decode cX3_sumOf 30 = .ok (.if_icmp .ge 41, 3) := by decide +kernel
theorem dX3_sumOf_33 : decode cX3_sumOf 33 = .ok (.iload_n 3, 1) := by decide +kernel
theorem dX3_sumOf_34 : decode cX3_sumOf 34 = .ok (.aload_n 0, 1) := by decide +kernel
theorem dX3_sumOf_35 : decode cX3_sumOf 35 = .ok (.getfield 24, 3) := by decide +kernel
theorem dX3_sumOf_38 : decode cX3_sumOf 38 = .ok (.iload_n 2, 1) := by decide +kernel
theorem dX3_sumOf_39 : decode cX3_sumOf 39 = .ok (.iload 4, 2) := by decide +kernel
theorem dX3_sumOf_41 : decode cX3_sumOf 41 = .ok (.iadd, 1) := by decide +kernel
theorem dX3_sumOf_42 : decode cX3_sumOf 42 = .ok (.baload, 1) := by decide +kernel
theorem dX3_sumOf_43 : decode cX3_sumOf 43 = .ok (.sipush 255, 3) := by decide +kernel
theorem dX3_sumOf_46 : decode cX3_sumOf 46 = .ok (.iand, 1) := by decide +kernel
theorem dX3_sumOf_47 : decode cX3_sumOf 47 = .ok (.ixor, 1) := by decide +kernel
theorem dX3_sumOf_48 : decode cX3_sumOf 48 = .ok (.istore 5, 2) := by decide +kernel
theorem dX3_sumOf_50 : decode cX3_sumOf 50 = .ok (.iload 5, 2) := by decide +kernel
theorem dX3_sumOf_52 : decode cX3_sumOf 52 = .ok (.bipush 11, 2) := by decide +kernel
theorem dX3_sumOf_54 : decode cX3_sumOf 54 = .ok (.ishl, 1) := by decide +kernel
theorem dX3_sumOf_55 : decode cX3_sumOf 55 = .ok (.iload 5, 2) := by decide +kernel
theorem dX3_sumOf_57 : decode cX3_sumOf 57 = .ok (.bipush 21, 2) := by decide +kernel
theorem dX3_sumOf_59 : decode cX3_sumOf 59 = .ok (.iushr, 1) := by decide +kernel
theorem dX3_sumOf_60 : decode cX3_sumOf 60 = .ok (.ior, 1) := by decide +kernel
theorem dX3_sumOf_61 : decode cX3_sumOf 61 = .ok (.ldc 47, 2) := by decide +kernel
theorem dX3_sumOf_63 : decode cX3_sumOf 63 = .ok (.imul, 1) := by decide +kernel
theorem dX3_sumOf_64 : decode cX3_sumOf 64 = .ok (.istore_n 3, 1) := by decide +kernel
theorem dX3_sumOf_65 : decode cX3_sumOf 65 = .ok (.iinc 4 1, 3) := by decide +kernel
theorem dX3_sumOf_68 : decode cX3_sumOf 68 = .ok (.goto (-42), 3) := by decide +kernel
theorem dX3_sumOf_71 : decode cX3_sumOf 71 = .ok (.iload_n 3, 1) := by decide +kernel
theorem dX3_sumOf_72 : decode cX3_sumOf 72 = .ok (.ireturn, 1) := by decide +kernel
theorem dJ9_max_7cf53_0 : decode cJ9_max_7cf53 0 = .ok (.iload_n 0, 1) := by decide +kernel
theorem dJ9_max_7cf53_1 : decode cJ9_max_7cf53 1 = .ok (.iload_n 1, 1) := by decide +kernel
theorem dJ9_max_7cf53_2 : decode cJ9_max_7cf53 2 = .ok (.if_icmp .lt 7, 3) := by decide +kernel
theorem dJ9_max_7cf53_5 : decode cJ9_max_7cf53 5 = .ok (.iload_n 0, 1) := by decide +kernel
theorem dJ9_max_7cf53_6 : decode cJ9_max_7cf53 6 = .ok (.goto 4, 3) := by decide +kernel
theorem dJ9_max_7cf53_9 : decode cJ9_max_7cf53 9 = .ok (.iload_n 1, 1) := by decide +kernel
theorem dJ9_max_7cf53_10 : decode cJ9_max_7cf53 10 = .ok (.ireturn, 1) := by decide +kernel
theorem dJ9_min_7cf53_0 : decode cJ9_min_7cf53 0 = .ok (.iload_n 0, 1) := by decide +kernel
theorem dJ9_min_7cf53_1 : decode cJ9_min_7cf53 1 = .ok (.iload_n 1, 1) := by decide +kernel
theorem dJ9_min_7cf53_2 : decode cJ9_min_7cf53 2 = .ok (.if_icmp .gt 7, 3) := by decide +kernel
theorem dJ9_min_7cf53_5 : decode cJ9_min_7cf53 5 = .ok (.iload_n 0, 1) := by decide +kernel
theorem dJ9_min_7cf53_6 : decode cJ9_min_7cf53 6 = .ok (.goto 4, 3) := by decide +kernel
theorem dJ9_min_7cf53_9 : decode cJ9_min_7cf53 9 = .ok (.iload_n 1, 1) := by decide +kernel
theorem dJ9_min_7cf53_10 : decode cJ9_min_7cf53 10 = .ok (.ireturn, 1) := by decide +kernel
theorem dX2_init_0 : decode cX2_init 0 = .ok (.aload_n 0, 1) := by decide +kernel
theorem dX2_init_1 : decode cX2_init 1 = .ok (.invokespecial 3, 3) := by decide +kernel
theorem dX2_init_4 : decode cX2_init 4 = .ok (.aload_n 0, 1) := by decide +kernel
theorem dX2_init_5 : decode cX2_init 5 = .ok (.iconst 4, 1) := by decide +kernel
theorem dX2_init_6 : decode cX2_init 6 = .ok (.newarray .int, 2) := by decide +kernel
theorem dX2_init_8 : decode cX2_init 8 = .ok (.putfield 9, 3) := by decide +kernel
theorem dX2_init_11 : decode cX2_init 11 = .ok (.aload_n 0, 1) := by decide +kernel
theorem dX2_init_12 : decode cX2_init 12 = .ok (.iconst 4, 1) := by decide +kernel
theorem dX2_init_13 : decode cX2_init 13 = .ok (.newarray .int, 2) := by decide +kernel
theorem dX2_init_15 : decode cX2_init 15 = .ok (.putfield 15, 3) := by decide +kernel
theorem dX2_init_18 : decode cX2_init 18 = .ok (.aload_n 0, 1) := by decide +kernel
theorem dX2_init_19 : decode cX2_init 19 = .ok (.iconst 4, 1) := by decide +kernel
theorem dX2_init_20 : decode cX2_init 20 = .ok (.newarray .int, 2) := by decide +kernel
theorem dX2_init_22 : decode cX2_init 22 = .ok (.putfield 18, 3) := by decide +kernel
theorem dX2_init_25 : decode cX2_init 25 = .ok (.aload_n 0, 1) := by decide +kernel
theorem dX2_init_26 : decode cX2_init 26 = .ok (.new 21, 3) := by decide +kernel
theorem dX2_init_29 : decode cX2_init 29 = .ok (.dup, 1) := by decide +kernel
theorem dX2_init_30 : decode cX2_init 30 = .ok (.iload_n 1, 1) := by decide +kernel
theorem dX2_init_31 : decode cX2_init 31 = .ok (.invokespecial 23, 3) := by decide +kernel
theorem dX2_init_34 : decode cX2_init 34 = .ok (.putfield 26, 3) := by decide +kernel
theorem dX2_init_37 : decode cX2_init 37 = .ok (.aload_n 0, 1) := by decide +kernel
theorem dX2_init_38 : decode cX2_init 38 = .ok (.new 21, 3) := by decide +kernel
theorem dX2_init_41 : decode cX2_init 41 = .ok (.dup, 1) := by decide +kernel
theorem dX2_init_42 : decode cX2_init 42 = .ok (.iload_n 1, 1) := by decide +kernel
theorem dX2_init_43 : decode cX2_init 43 = .ok (.invokespecial 23, 3) := by decide +kernel
theorem dX2_init_46 : decode cX2_init 46 = .ok (.putfield 30, 3) := by decide +kernel
theorem dX2_init_49 : decode cX2_init 49 = .ok (.aload_n 0, 1) := by decide +kernel
theorem dX2_init_50 : decode cX2_init 50 = .ok (.invokevirtual 33, 3) := by decide +kernel
theorem dX2_init_53 : decode cX2_init 53 = .ok (.return_, 1) := by decide +kernel
theorem dX2_beginAnew_0 : decode cX2_beginAnew 0 = .ok (.aload_n 0, 1) := by decide +kernel
theorem dX2_beginAnew_1 : decode cX2_beginAnew 1 = .ok (.getfield 26, 3) := by decide +kernel
theorem dX2_beginAnew_4 : decode cX2_beginAnew 4 = .ok (.invokevirtual 36, 3) := by decide +kernel
theorem dX2_beginAnew_7 : decode cX2_beginAnew 7 = .ok (.aload_n 0, 1) := by decide +kernel
theorem dX2_beginAnew_8 : decode cX2_beginAnew 8 = .ok (.getfield 26, 3) := by decide +kernel
theorem dX2_beginAnew_11 : decode cX2_beginAnew 11 = .ok (.iconst 0, 1) := by decide +kernel
theorem dX2_beginAnew_12 : decode cX2_beginAnew 12 = .ok (.iconst 2, 1) := by decide +kernel
theorem dX2_beginAnew_13 : decode cX2_beginAnew 13 = .ok (.iconst 1, 1) := by decide +kernel
theorem dX2_beginAnew_14 : decode cX2_beginAnew 14 = .ok (.iconst 0, 1) := by decide +kernel
theorem dX2_beginAnew_15 : decode cX2_beginAnew 15 = .ok (.invokevirtual 39, 3) := by decide +kernel
theorem dX2_beginAnew_18 : decode cX2_beginAnew 18 = .ok (.aload_n 0, 1) := by decide +kernel
theorem dX2_beginAnew_19 : decode cX2_beginAnew 19 = .ok (.getfield 26, 3) := by decide +kernel
theorem dX2_beginAnew_22 : decode cX2_beginAnew 22 = .ok (.iconst 0, 1) := by decide +kernel
theorem dX2_beginAnew_23 : decode cX2_beginAnew 23 = .ok (.bipush 27, 2) := by decide +kernel
theorem dX2_beginAnew_25 : decode cX2_beginAnew 25 = .ok (.iconst 1, 1) := by decide +kernel
theorem dX2_beginAnew_26 : decode cX2_beginAnew 26 = .ok (.invokevirtual 43, 3) := by decide +kernel
theorem dX2_beginAnew_29 : decode cX2_beginAnew 29 = .ok (.aload_n 0, 1) := by decide +kernel
theorem dX2_beginAnew_30 : decode cX2_beginAnew 30 = .ok (.getfield 26, 3) := by decide +kernel
theorem dX2_beginAnew_33 : decode cX2_beginAnew 33 = .ok (.iconst 0, 1) := by decide +kernel
theorem dX2_beginAnew_34 : decode cX2_beginAnew 34 = .ok (.invokevirtual 47, 3) := by decide +kernel
theorem dX2_beginAnew_37 : decode cX2_beginAnew 37 = .ok (.aload_n 0, 1) := by decide +kernel
theorem dX2_beginAnew_38 : decode cX2_beginAnew 38 = .ok (.iconst 1, 1) := by decide +kernel
theorem dX2_beginAnew_39 : decode cX2_beginAnew 39 = .ok (.putfield 50, 3) := by decide +kernel
theorem dX2_beginAnew_42 : decode cX2_beginAnew 42 = .ok (.aload_n 0, 1) := by decide +kernel
theorem dX2_beginAnew_43 : decode cX2_beginAnew 43 = .ok (.iconst 0, 1) := by decide +kernel
theorem dX2_beginAnew_44 : decode cX2_beginAnew 44 = .ok (.putfield 54, 3) := by decide +kernel
theorem dX2_beginAnew_47 : decode cX2_beginAnew 47 = .ok (.aload_n 0, 1) := by decide +kernel
theorem dX2_beginAnew_48 : decode cX2_beginAnew 48 = .ok (.iconst 0, 1) := by decide +kernel
theorem dX2_beginAnew_49 : decode cX2_beginAnew 49 = .ok (.putfield 57, 3) := by decide +kernel
theorem dX2_beginAnew_52 : decode cX2_beginAnew 52 = .ok (.aload_n 0, 1) := by decide +kernel
theorem dX2_beginAnew_53 : decode cX2_beginAnew 53 = .ok (.invokevirtual 60, 3) := by decide +kernel
theorem dX2_beginAnew_56 : decode cX2_beginAnew 56 = .ok (.return_, 1) := by decide +kernel
theorem dX2_entries_0 : decode cX2_entries 0 = .ok (.aload_n 0, 1) := by decide +kernel
theorem dX2_entries_1 : decode cX2_entries 1 = .ok (.getfield 63, 3) := by decide +kernel
theorem dX2_entries_4 : decode cX2_entries 4 = .ok (.ireturn, 1) := by decide +kernel
theorem dX2_waiting_0 : decode cX2_waiting 0 = .ok (.aload_n 0, 1) := by decide +kernel
theorem dX2_waiting_1 : decode cX2_waiting 1 = .ok (.getfield 66, 3) := by decide +kernel
theorem dX2_waiting_4 : decode cX2_waiting 4 = .ok (.ireturn, 1) := by decide +kernel
theorem dX2_lastSerial_0 : decode cX2_lastSerial 0 = .ok (.aload_n 0, 1) := by decide +kernel
theorem dX2_lastSerial_1 : decode cX2_lastSerial 1 = .ok (.getfield 50, 3) := by decide +kernel
theorem dX2_lastSerial_4 : decode cX2_lastSerial 4 = .ok (.ireturn, 1) := by decide +kernel
theorem dX2_lastSector_0 : decode cX2_lastSector 0 = .ok (.aload_n 0, 1) := by decide +kernel
theorem dX2_lastSector_1 : decode cX2_lastSector 1 = .ok (.getfield 54, 3) := by decide +kernel
theorem dX2_lastSector_4 : decode cX2_lastSector 4 = .ok (.ireturn, 1) := by decide +kernel
theorem dX2_needed_0 : decode cX2_needed 0 = .ok (.aload_n 0, 1) := by decide +kernel
theorem dX2_needed_1 : decode cX2_needed 1 = .ok (.getfield 26, 3) := by decide +kernel
theorem dX2_needed_4 : decode cX2_needed 4 = .ok (.aload_n 0, 1) := by decide +kernel
theorem dX2_needed_5 : decode cX2_needed 5 = .ok (.getfield 57, 3) := by decide +kernel
theorem dX2_needed_8 : decode cX2_needed 8 = .ok (.aload_n 0, 1) := by decide +kernel
theorem dX2_needed_9 : decode cX2_needed 9 = .ok (.getfield 54, 3) := by decide +kernel
theorem dX2_needed_12 : decode cX2_needed 12 = .ok (.invokevirtual 69, 3) := by decide +kernel
theorem dX2_needed_15 : decode cX2_needed 15 = .ok (.iconst 1, 1) := by decide +kernel
theorem dX2_needed_16 : decode cX2_needed 16 = .ok (.iadd, 1) := by decide +kernel
theorem dX2_needed_17 : decode cX2_needed 17 = .ok (.ireturn, 1) := by decide +kernel
theorem dX2_hasRoom_0 : decode cX2_hasRoom 0 = .ok (.aload_n 0, 1) := by decide +kernel
theorem dX2_hasRoom_1 : decode cX2_hasRoom 1 = .ok (.invokevirtual 73, 3) := by decide +kernel
theorem dX2_hasRoom_4 : decode cX2_hasRoom 4 = .ok (.iload_n 1, 1) := by decide +kernel
theorem dX2_hasRoom_5 : decode cX2_hasRoom 5 = .ok (.iadd, 1) := by decide +kernel
theorem dX2_hasRoom_6 : decode cX2_hasRoom 6 = .ok (.aload_n 0, 1) := by decide +kernel
theorem dX2_hasRoom_7 : decode cX2_hasRoom 7 = .ok (.getfield 26, 3) := by decide +kernel
theorem dX2_hasRoom_10 : decode cX2_hasRoom 10 = .ok (.invokevirtual 77, 3) := by decide +kernel
theorem dX2_hasRoom_13 : decode cX2_hasRoom 13 = .ok (.if_icmp .gt 7, 3) := by decide +kernel
theorem dX2_hasRoom_16 : decode cX2_hasRoom 16 = .ok (.iconst 1, 1) := by decide +kernel
theorem dX2_hasRoom_17 : decode cX2_hasRoom 17 = .ok (.goto 4, 3) := by decide +kernel
theorem dX2_hasRoom_20 : decode cX2_hasRoom 20 = .ok (.iconst 0, 1) := by decide +kernel
theorem dX2_hasRoom_21 : decode cX2_hasRoom 21 = .ok (.ireturn, 1) := by decide +kernel
theorem dX2_logsDue_0 : decode cX2_logsDue 0 = .ok (.aload_n 0, 1) := by decide +kernel
theorem dX2_logsDue_1 : decode cX2_logsDue 1 = .ok (.getfield 63, 3) := by decide +kernel
theorem dX2_logsDue_4 : decode cX2_logsDue 4 = .ok (.ifCond .le 7, 3) := by decide +kernel
theorem dX2_logsDue_7 : decode cX2_logsDue 7 = .ok (.iconst 1, 1) := by decide +kernel
theorem dX2_logsDue_8 : decode cX2_logsDue 8 = .ok (.goto 4, 3) := by decide +kernel
theorem dX2_logsDue_11 : decode cX2_logsDue 11 = .ok (.iconst 0, 1) := by decide +kernel
theorem dX2_logsDue_12 : decode cX2_logsDue 12 = .ok (.ireturn, 1) := by decide +kernel
theorem dX2_canTakeEntry_0 : decode cX2_canTakeEntry 0 = .ok (.aload_n 0, 1) := by decide +kernel
theorem dX2_canTakeEntry_1 : decode cX2_canTakeEntry 1 = .ok (.getfield 63, 3) := by decide +kernel
theorem dX2_canTakeEntry_4 : decode cX2_canTakeEntry 4 = .ok (.iconst 3, 1) := by decide +kernel
theorem dX2_canTakeEntry_5 : decode cX2_canTakeEntry 5 = .ok (.if_icmp .lt 11, 3) := by decide +kernel
theorem dX2_canTakeEntry_8 : decode cX2_canTakeEntry 8 = .ok (.aload_n 0, 1) := by decide +kernel
theorem dX2_canTakeEntry_9 : decode cX2_canTakeEntry 9 = .ok (.iconst 1, 1) := by decide +kernel
theorem dX2_canTakeEntry_10 : decode cX2_canTakeEntry 10 = .ok (.invokevirtual 80, 3) := by decide +kernel
theorem dX2_canTakeEntry_13 : decode cX2_canTakeEntry 13 = .ok (.ifCond .eq 7, 3) := by decide +kernel
theorem dX2_canTakeEntry_16 : decode cX2_canTakeEntry 16 = .ok (.iconst 1, 1) := by decide +kernel
theorem dX2_canTakeEntry_17 : decode cX2_canTakeEntry 17 = .ok (.goto 4, 3) := by decide +kernel
theorem dX2_canTakeEntry_20 : decode cX2_canTakeEntry 20 = .ok (.iconst 0, 1) := by decide +kernel
theorem dX2_canTakeEntry_21 : decode cX2_canTakeEntry 21 = .ok (.ireturn, 1) := by decide +kernel
theorem dX2_takeEntry_0 : decode cX2_takeEntry 0 = .ok (.aload_n 0, 1) := by decide +kernel
theorem dX2_takeEntry_1 : decode cX2_takeEntry 1 = .ok (.getfield 63, 3) := by decide +kernel
theorem dX2_takeEntry_4 : decode cX2_takeEntry 4 = .ok (.ifCond .lt 11, 3) := by decide +kernel
theorem dX2_takeEntry_7 : decode cX2_takeEntry 7 = .ok (.aload_n 0, 1) := by decide +kernel
theorem dX2_takeEntry_8 : decode cX2_takeEntry 8 = .ok (.getfield 63, 3) := by decide +kernel
theorem dX2_takeEntry_11 : decode cX2_takeEntry 11 = .ok (.iconst 4, 1) := by decide +kernel
theorem dX2_takeEntry_12 : decode cX2_takeEntry 12 = .ok (.if_icmp .lt 4, 3) := by decide +kernel
theorem dX2_takeEntry_15 : decode cX2_takeEntry 15 = .ok (.return_, 1) := by decide +kernel
theorem dX2_takeEntry_16 : decode cX2_takeEntry 16 = .ok (.aload_n 0, 1) := by decide +kernel
theorem dX2_takeEntry_17 : decode cX2_takeEntry 17 = .ok (.getfield 9, 3) := by decide +kernel
theorem dX2_takeEntry_20 : decode cX2_takeEntry 20 = .ok (.aload_n 0, 1) := by decide +kernel
theorem dX2_takeEntry_21 : decode cX2_takeEntry 21 = .ok (.getfield 63, 3) := by decide +kernel
theorem dX2_takeEntry_24 : decode cX2_takeEntry 24 = .ok (.iconst 4, 1) := by decide +kernel
theorem dX2_takeEntry_25 : decode cX2_takeEntry 25 = .ok (.iload_n 1, 1) := by decide +kernel
theorem dX2_takeEntry_26 : decode cX2_takeEntry 26 = .ok (.imul, 1) := by decide +kernel
theorem dX2_takeEntry_27 : decode cX2_takeEntry 27 = .ok (.iload_n 2, 1) := by decide +kernel
theorem dX2_takeEntry_28 : decode cX2_takeEntry 28 = .ok (.iadd, 1) := by decide +kernel
theorem dX2_takeEntry_29 : decode cX2_takeEntry 29 = .ok (.iastore, 1) := by decide +kernel
theorem dX2_takeEntry_30 : decode cX2_takeEntry 30 = .ok (.aload_n 0, 1) := by decide +kernel
theorem dX2_takeEntry_31 : decode cX2_takeEntry 31 = .ok (.getfield 15, 3) := by decide +kernel
theorem dX2_takeEntry_34 : decode cX2_takeEntry 34 = .ok (.aload_n 0, 1) := by decide +kernel
theorem dX2_takeEntry_35 : decode cX2_takeEntry 35 = .ok (.getfield 63, 3) := by decide +kernel
theorem dX2_takeEntry_38 : decode cX2_takeEntry 38 = .ok (.iload_n 3, 1) := by decide +kernel
theorem dX2_takeEntry_39 : decode cX2_takeEntry 39 = .ok (.iastore, 1) := by decide +kernel
theorem dX2_takeEntry_40 : decode cX2_takeEntry 40 = .ok (.aload_n 0, 1) := by decide +kernel
theorem dX2_takeEntry_41 : decode cX2_takeEntry 41 = .ok (.getfield 18, 3) := by decide +kernel
theorem dX2_takeEntry_44 : decode cX2_takeEntry 44 = .ok (.aload_n 0, 1) := by decide +kernel
theorem dX2_takeEntry_45 : decode cX2_takeEntry 45 = .ok (.getfield 63, 3) := by decide +kernel
theorem dX2_takeEntry_48 : decode cX2_takeEntry 48 = .ok (.iload 4, 2) := by decide +kernel
theorem dX2_takeEntry_50 : decode cX2_takeEntry 50 = .ok (.iastore, 1) := by decide +kernel
theorem dX2_takeEntry_51 : decode cX2_takeEntry 51 = .ok (.aload_n 0, 1) := by decide +kernel
theorem dX2_takeEntry_52 : decode cX2_takeEntry 52 = .ok (.dup, 1) := by decide +kernel
theorem dX2_takeEntry_53 : decode cX2_takeEntry 53 = .ok (.getfield 63, 3) := by decide +kernel
theorem dX2_takeEntry_56 : decode cX2_takeEntry 56 = .ok (.iconst 1, 1) := by decide +kernel
theorem dX2_takeEntry_57 : decode cX2_takeEntry 57 = .ok (.iadd, 1) := by decide +kernel
theorem dX2_takeEntry_58 : decode cX2_takeEntry 58 = .ok (.putfield 63, 3) := by decide +kernel
theorem dX2_takeEntry_61 : decode cX2_takeEntry 61 = .ok (.aload_n 0, 1) := by decide +kernel
theorem dX2_takeEntry_62 : decode cX2_takeEntry 62 = .ok (.getfield 63, 3) := by decide +kernel
theorem dX2_takeEntry_65 : decode cX2_takeEntry 65 = .ok (.iconst 4, 1) := by decide +kernel
theorem dX2_takeEntry_66 : decode cX2_takeEntry 66 = .ok (.if_icmp .ne 7, 3) := by decide +kernel
theorem dX2_takeEntry_69 : decode cX2_takeEntry 69 = .ok (.aload_n 0, 1) := by decide +kernel
theorem dX2_takeEntry_70 : decode cX2_takeEntry 70 = .ok (.invokevirtual 84, 3) := by decide +kernel
theorem dX2_takeEntry_73 : decode cX2_takeEntry 73 = .ok (.return_, 1) := by decide +kernel
theorem dX2_writeLog_0 : decode cX2_writeLog 0 = .ok (.aload_n 0, 1) := by decide +kernel
theorem dX2_writeLog_1 : decode cX2_writeLog 1 = .ok (.getfield 63, 3) := by decide +kernel
theorem dX2_writeLog_4 : decode cX2_writeLog 4 = .ok (.ifCond .ne 4, 3) := by decide +kernel
theorem dX2_writeLog_7 : decode cX2_writeLog 7 = .ok (.return_, 1) := by decide +kernel
theorem dX2_writeLog_8 : decode cX2_writeLog 8 = .ok (.aload_n 0, 1) := by decide +kernel
theorem dX2_writeLog_9 : decode cX2_writeLog 9 = .ok (.invokevirtual 87, 3) := by decide +kernel
theorem dX2_writeLog_12 : decode cX2_writeLog 12 = .ok (.aload_n 0, 1) := by decide +kernel
theorem dX2_writeLog_13 : decode cX2_writeLog 13 = .ok (.getfield 30, 3) := by decide +kernel
theorem dX2_writeLog_16 : decode cX2_writeLog 16 = .ok (.aload_n 0, 1) := by decide +kernel
theorem dX2_writeLog_17 : decode cX2_writeLog 17 = .ok (.getfield 54, 3) := by decide +kernel
theorem dX2_writeLog_20 : decode cX2_writeLog 20 = .ok (.iconst 1, 1) := by decide +kernel
theorem dX2_writeLog_21 : decode cX2_writeLog 21 = .ok (.aload_n 0, 1) := by decide +kernel
theorem dX2_writeLog_22 : decode cX2_writeLog 22 = .ok (.getfield 50, 3) := by decide +kernel
theorem dX2_writeLog_25 : decode cX2_writeLog 25 = .ok (.aload_n 0, 1) := by decide +kernel
theorem dX2_writeLog_26 : decode cX2_writeLog 26 = .ok (.getfield 63, 3) := by decide +kernel
theorem dX2_writeLog_29 : decode cX2_writeLog 29 = .ok (.invokevirtual 39, 3) := by decide +kernel
theorem dX2_writeLog_32 : decode cX2_writeLog 32 = .ok (.iconst 0, 1) := by decide +kernel
theorem dX2_writeLog_33 : decode cX2_writeLog 33 = .ok (.istore_n 1, 1) := by decide +kernel
theorem dX2_writeLog_34 : decode cX2_writeLog 34 = .ok (.iload_n 1, 1) := by decide +kernel
theorem dX2_writeLog_35 : decode cX2_writeLog 35 = .ok (.aload_n 0, 1) := by decide +kernel
theorem dX2_writeLog_36 : decode cX2_writeLog 36 = .ok (.getfield 63, 3) := by decide +kernel
theorem dX2_writeLog_39 : decode cX2_writeLog 39 = .ok (.if_icmp .ge 80, 3) := by decide +kernel
theorem dX2_writeLog_42 : decode cX2_writeLog 42 = .ok (.iload_n 1, 1) := by decide +kernel
theorem dX2_writeLog_43 : decode cX2_writeLog 43 = .ok (.iconst 4, 1) := by decide +kernel
theorem dX2_writeLog_44 : decode cX2_writeLog 44 = .ok (.if_icmp .ge 75, 3) := by decide +kernel
theorem dX2_writeLog_47 : decode cX2_writeLog 47 = .ok (.bipush 6, 2) := by decide +kernel
theorem dX2_writeLog_49 : decode cX2_writeLog 49 = .ok (.iload_n 1, 1) := by decide +kernel
theorem dX2_writeLog_50 : decode cX2_writeLog 50 = .ok (.iconst 5, 1) := by decide +kernel
theorem dX2_writeLog_51 : decode cX2_writeLog 51 = .ok (.imul, 1) := by decide +kernel
theorem dX2_writeLog_52 : decode cX2_writeLog 52 = .ok (.iadd, 1) := by decide +kernel
theorem dX2_writeLog_53 : decode cX2_writeLog 53 = .ok (.istore_n 2, 1) := by decide +kernel
theorem dX2_writeLog_54 : decode cX2_writeLog 54 = .ok (.aload_n 0, 1) := by decide +kernel
theorem dX2_writeLog_55 : decode cX2_writeLog 55 = .ok (.getfield 30, 3) := by decide +kernel
theorem dX2_writeLog_58 : decode cX2_writeLog 58 = .ok (.aload_n 0, 1) := by decide +kernel
theorem dX2_writeLog_59 : decode cX2_writeLog 59 = .ok (.getfield 54, 3) := by decide +kernel
theorem dX2_writeLog_62 : decode cX2_writeLog 62 = .ok (.iload_n 2, 1) := by decide +kernel
theorem dX2_writeLog_63 : decode cX2_writeLog 63 = .ok (.aload_n 0, 1) := by decide +kernel
theorem dX2_writeLog_64 : decode cX2_writeLog 64 = .ok (.getfield 9, 3) := by decide +kernel
theorem dX2_writeLog_67 : decode cX2_writeLog 67 = .ok (.iload_n 1, 1) := by decide +kernel
theorem dX2_writeLog_68 : decode cX2_writeLog 68 = .ok (.iaload, 1) := by decide +kernel
theorem dX2_writeLog_69 : decode cX2_writeLog 69 = .ok (.invokevirtual 43, 3) := by decide +kernel
theorem dX2_writeLog_72 : decode cX2_writeLog 72 = .ok (.aload_n 0, 1) := by decide +kernel
theorem dX2_writeLog_73 : decode cX2_writeLog 73 = .ok (.getfield 30, 3) := by decide +kernel
theorem dX2_writeLog_76 : decode cX2_writeLog 76 = .ok (.aload_n 0, 1) := by decide +kernel
theorem dX2_writeLog_77 : decode cX2_writeLog 77 = .ok (.getfield 54, 3) := by decide +kernel
theorem dX2_writeLog_80 : decode cX2_writeLog 80 = .ok (.iload_n 2, 1) := by decide +kernel
theorem dX2_writeLog_81 : decode cX2_writeLog 81 = .ok (.iconst 1, 1) := by decide +kernel
theorem dX2_writeLog_82 : decode cX2_writeLog 82 = .ok (.iadd, 1) := by decide +kernel
theorem dX2_writeLog_83 : decode cX2_writeLog 83 = .ok (.aload_n 0, 1) := by decide +kernel
theorem dX2_writeLog_84 : decode cX2_writeLog 84 = .ok (.getfield 15, 3) := by decide +kernel
theorem dX2_writeLog_87 : decode cX2_writeLog 87 = .ok (.iload_n 1, 1) := by decide +kernel
theorem dX2_writeLog_88 : decode cX2_writeLog 88 = .ok (.iaload, 1) := by decide +kernel
theorem dX2_writeLog_89 : decode cX2_writeLog 89 = .ok (.invokevirtual 43, 3) := by decide +kernel
theorem dX2_writeLog_92 : decode cX2_writeLog 92 = .ok (.aload_n 0, 1) := by decide +kernel
theorem dX2_writeLog_93 : decode cX2_writeLog 93 = .ok (.getfield 30, 3) := by decide +kernel
theorem dX2_writeLog_96 : decode cX2_writeLog 96 = .ok (.aload_n 0, 1) := by decide +kernel
theorem dX2_writeLog_97 : decode cX2_writeLog 97 = .ok (.getfield 54, 3) := by decide +kernel
theorem dX2_writeLog_100 : decode cX2_writeLog 100 = .ok (.iload_n 2, 1) := by decide +kernel
theorem dX2_writeLog_101 : decode cX2_writeLog 101 = .ok (.iconst 2, 1) := by decide +kernel
theorem dX2_writeLog_102 : decode cX2_writeLog 102 = .ok (.iadd, 1) := by decide +kernel
theorem dX2_writeLog_103 : decode cX2_writeLog 103 = .ok (.iconst 3, 1) := by decide +kernel
theorem dX2_writeLog_104 : decode cX2_writeLog 104 = .ok (.aload_n 0, 1) := by decide +kernel
theorem dX2_writeLog_105 : decode cX2_writeLog 105 = .ok (.getfield 18, 3) := by decide +kernel
theorem dX2_writeLog_108 : decode cX2_writeLog 108 = .ok (.iload_n 1, 1) := by decide +kernel
theorem dX2_writeLog_109 : decode cX2_writeLog 109 = .ok (.iaload, 1) := by decide +kernel
theorem dX2_writeLog_110 : decode cX2_writeLog 110 = .ok (.invokevirtual 90, 3) := by decide +kernel
theorem dX2_writeLog_113 : decode cX2_writeLog 113 = .ok (.iinc 1 1, 3) := by decide +kernel
theorem dX2_writeLog_116 : decode cX2_writeLog 116 = .ok (.goto (-82), 3) := by decide +kernel
theorem dX2_writeLog_119 : decode cX2_writeLog 119 = .ok (.aload_n 0, 1) := by decide +kernel
theorem dX2_writeLog_120 : decode cX2_writeLog 120 = .ok (.getfield 30, 3) := by decide +kernel
theorem dX2_writeLog_123 : decode cX2_writeLog 123 = .ok (.aload_n 0, 1) := by decide +kernel
theorem dX2_writeLog_124 : decode cX2_writeLog 124 = .ok (.getfield 54, 3) := by decide +kernel
theorem dX2_writeLog_127 : decode cX2_writeLog 127 = .ok (.invokevirtual 47, 3) := by decide +kernel
theorem dX2_writeLog_130 : decode cX2_writeLog 130 = .ok (.aload_n 0, 1) := by decide +kernel
theorem dX2_writeLog_131 : decode cX2_writeLog 131 = .ok (.iconst 0, 1) := by decide +kernel
theorem dX2_writeLog_132 : decode cX2_writeLog 132 = .ok (.putfield 63, 3) := by decide +kernel
theorem dX2_writeLog_135 : decode cX2_writeLog 135 = .ok (.return_, 1) := by decide +kernel
theorem dX2_writePages_0 : decode cX2_writePages 0 = .ok (.aload_n 1, 1) := by decide +kernel
theorem dX2_writePages_1 : decode cX2_writePages 1 = .ok (.iconst 0, 1) := by decide +kernel
theorem dX2_writePages_2 : decode cX2_writePages 2 = .ok (.invokevirtual 93, 3) := by decide +kernel
theorem dX2_writePages_5 : decode cX2_writePages 5 = .ok (.istore_n 3, 1) := by decide +kernel
theorem dX2_writePages_6 : decode cX2_writePages 6 = .ok (.iconst 0, 1) := by decide +kernel
theorem dX2_writePages_7 : decode cX2_writePages 7 = .ok (.istore 4, 2) := by decide +kernel
theorem dX2_writePages_9 : decode cX2_writePages 9 = .ok (.iload 4, 2) := by decide +kernel
theorem dX2_writePages_11 : decode cX2_writePages 11 = .ok (.iload_n 2, 1) := by decide +kernel
theorem dX2_writePages_12 : decode cX2_writePages 12 = .ok (.if_icmp .ge 73, 3) := by decide +kernel
theorem dX2_writePages_15 : decode cX2_writePages 15 = .ok (.aload_n 0, 1) := by decide +kernel
theorem dX2_writePages_16 : decode cX2_writePages 16 = .ok (.invokevirtual 87, 3) := by decide +kernel
theorem dX2_writePages_19 : decode cX2_writePages 19 = .ok (.iload 4, 2) := by decide +kernel
theorem dX2_writePages_21 : decode cX2_writePages 21 = .ok (.ifCond .ne 11, 3) := by decide +kernel
theorem dX2_writePages_24 : decode cX2_writePages 24 = .ok (.aload_n 0, 1) := by decide +kernel
theorem dX2_writePages_25 : decode cX2_writePages 25 = .ok (.aload_n 0, 1) := by decide +kernel
theorem dX2_writePages_26 : decode cX2_writePages 26 = .ok (.getfield 54, 3) := by decide +kernel
theorem dX2_writePages_29 : decode cX2_writePages 29 = .ok (.putfield 99, 3) := by decide +kernel
theorem dX2_writePages_32 : decode cX2_writePages 32 = .ok (.aload_n 0, 1) := by decide +kernel
theorem dX2_writePages_33 : decode cX2_writePages 33 = .ok (.aload_n 1, 1) := by decide +kernel
theorem dX2_writePages_34 : decode cX2_writePages 34 = .ok (.iload_n 3, 1) := by decide +kernel
theorem dX2_writePages_35 : decode cX2_writePages 35 = .ok (.invokevirtual 102, 3) := by decide +kernel
theorem dX2_writePages_38 : decode cX2_writePages 38 = .ok (.istore_n 3, 1) := by decide +kernel
theorem dX2_writePages_39 : decode cX2_writePages 39 = .ok (.aload_n 0, 1) := by decide +kernel
theorem dX2_writePages_40 : decode cX2_writePages 40 = .ok (.getfield 30, 3) := by decide +kernel
theorem dX2_writePages_43 : decode cX2_writePages 43 = .ok (.aload_n 0, 1) := by decide +kernel
theorem dX2_writePages_44 : decode cX2_writePages 44 = .ok (.getfield 54, 3) := by decide +kernel
theorem dX2_writePages_47 : decode cX2_writePages 47 = .ok (.bipush 26, 2) := by decide +kernel
theorem dX2_writePages_49 : decode cX2_writePages 49 = .ok (.iload 4, 2) := by decide +kernel
theorem dX2_writePages_51 : decode cX2_writePages 51 = .ok (.invokevirtual 43, 3) := by decide +kernel
theorem dX2_writePages_54 : decode cX2_writePages 54 = .ok (.aload_n 0, 1) := by decide +kernel
theorem dX2_writePages_55 : decode cX2_writePages 55 = .ok (.getfield 30, 3) := by decide +kernel
theorem dX2_writePages_58 : decode cX2_writePages 58 = .ok (.aload_n 0, 1) := by decide +kernel
theorem dX2_writePages_59 : decode cX2_writePages 59 = .ok (.getfield 54, 3) := by decide +kernel
theorem dX2_writePages_62 : decode cX2_writePages 62 = .ok (.bipush 27, 2) := by decide +kernel
theorem dX2_writePages_64 : decode cX2_writePages 64 = .ok (.iload_n 2, 1) := by decide +kernel
theorem dX2_writePages_65 : decode cX2_writePages 65 = .ok (.invokevirtual 43, 3) := by decide +kernel
theorem dX2_writePages_68 : decode cX2_writePages 68 = .ok (.aload_n 0, 1) := by decide +kernel
theorem dX2_writePages_69 : decode cX2_writePages 69 = .ok (.getfield 30, 3) := by decide +kernel
theorem dX2_writePages_72 : decode cX2_writePages 72 = .ok (.aload_n 0, 1) := by decide +kernel
theorem dX2_writePages_73 : decode cX2_writePages 73 = .ok (.getfield 54, 3) := by decide +kernel
theorem dX2_writePages_76 : decode cX2_writePages 76 = .ok (.invokevirtual 47, 3) := by decide +kernel
theorem dX2_writePages_79 : decode cX2_writePages 79 = .ok (.iinc 4 1, 3) := by decide +kernel
theorem dX2_writePages_82 : decode cX2_writePages 82 = .ok (.goto (-73), 3) := by decide +kernel
theorem dX2_writePages_85 : decode cX2_writePages 85 = .ok (.return_, 1) := by decide +kernel
theorem dX2_putAllOnDisk_0 : decode cX2_putAllOnDisk 0 = .ok (.aload_n 0, 1) := by decide +kernel
theorem dX2_putAllOnDisk_1 : decode cX2_putAllOnDisk 1 = .ok (.getfield 66, 3) := by decide +kernel
theorem dX2_putAllOnDisk_4 : decode cX2_putAllOnDisk 4 = .ok (.istore_n 1, 1) := by decide +kernel
theorem dX2_putAllOnDisk_5 : decode cX2_putAllOnDisk 5 = .ok (.aload_n 0, 1) := by decide +kernel
theorem dX2_putAllOnDisk_6 : decode cX2_putAllOnDisk 6 = .ok (.aload_n 0, 1) := by decide +kernel
theorem dX2_putAllOnDisk_7 : decode cX2_putAllOnDisk 7 = .ok (.getfield 66, 3) := by decide +kernel
theorem dX2_putAllOnDisk_10 : decode cX2_putAllOnDisk 10 = .ok (.invokevirtual 106, 3) := by decide +kernel
theorem dX2_putAllOnDisk_13 : decode cX2_putAllOnDisk 13 = .ok (.pop, 1) := by decide +kernel
theorem dX2_putAllOnDisk_14 : decode cX2_putAllOnDisk 14 = .ok (.aload_n 0, 1) := by decide +kernel
theorem dX2_putAllOnDisk_15 : decode cX2_putAllOnDisk 15 = .ok (.iconst 0, 1) := by decide +kernel
theorem dX2_putAllOnDisk_16 : decode cX2_putAllOnDisk 16 = .ok (.putfield 66, 3) := by decide +kernel
theorem dX2_putAllOnDisk_19 : decode cX2_putAllOnDisk 19 = .ok (.aload_n 0, 1) := by decide +kernel
theorem dX2_putAllOnDisk_20 : decode cX2_putAllOnDisk 20 = .ok (.getfield 99, 3) := by decide +kernel
theorem dX2_putAllOnDisk_23 : decode cX2_putAllOnDisk 23 = .ok (.iconst (-1), 1) := by decide +kernel
theorem dX2_putAllOnDisk_24 : decode cX2_putAllOnDisk 24 = .ok (.if_icmp .eq 16, 3) := by decide +kernel
theorem dX2_putAllOnDisk_27 : decode cX2_putAllOnDisk 27 = .ok (.aload_n 0, 1) := by decide +kernel
theorem dX2_putAllOnDisk_28 : decode cX2_putAllOnDisk 28 = .ok (.aload_n 0, 1) := by decide +kernel
theorem dX2_putAllOnDisk_29 : decode cX2_putAllOnDisk 29 = .ok (.getfield 99, 3) := by decide +kernel
theorem dX2_putAllOnDisk_32 : decode cX2_putAllOnDisk 32 = .ok (.putfield 57, 3) := by decide +kernel
theorem dX2_putAllOnDisk_35 : decode cX2_putAllOnDisk 35 = .ok (.aload_n 0, 1) := by decide +kernel
theorem dX2_putAllOnDisk_36 : decode cX2_putAllOnDisk 36 = .ok (.iconst (-1), 1) := by decide +kernel
theorem dX2_putAllOnDisk_37 : decode cX2_putAllOnDisk 37 = .ok (.putfield 99, 3) := by decide +kernel
theorem dX2_putAllOnDisk_40 : decode cX2_putAllOnDisk 40 = .ok (.iload_n 1, 1) := by decide +kernel
theorem dX2_putAllOnDisk_41 : decode cX2_putAllOnDisk 41 = .ok (.ireturn, 1) := by decide +kernel
theorem dX2_loseMemory_0 : decode cX2_loseMemory 0 = .ok (.aload_n 0, 1) := by decide +kernel
theorem dX2_loseMemory_1 : decode cX2_loseMemory 1 = .ok (.iload_n 1, 1) := by decide +kernel
theorem dX2_loseMemory_2 : decode cX2_loseMemory 2 = .ok (.invokevirtual 106, 3) := by decide +kernel
theorem dX2_loseMemory_5 : decode cX2_loseMemory 5 = .ok (.istore_n 3, 1) := by decide +kernel
theorem dX2_loseMemory_6 : decode cX2_loseMemory 6 = .ok (.iload_n 1, 1) := by decide +kernel
theorem dX2_loseMemory_7 : decode cX2_loseMemory 7 = .ok (.aload_n 0, 1) := by decide +kernel
theorem dX2_loseMemory_8 : decode cX2_loseMemory 8 = .ok (.getfield 66, 3) := by decide +kernel
theorem dX2_loseMemory_11 : decode cX2_loseMemory 11 = .ok (.if_icmp .ge 16, 3) := by decide +kernel
theorem dX2_loseMemory_14 : decode cX2_loseMemory 14 = .ok (.aload_n 0, 1) := by decide +kernel
theorem dX2_loseMemory_15 : decode cX2_loseMemory 15 = .ok (.getfield 26, 3) := by decide +kernel
theorem dX2_loseMemory_18 : decode cX2_loseMemory 18 = .ok (.aload_n 0, 1) := by decide +kernel
theorem dX2_loseMemory_19 : decode cX2_loseMemory 19 = .ok (.getfield 30, 3) := by decide +kernel
theorem dX2_loseMemory_22 : decode cX2_loseMemory 22 = .ok (.iload_n 3, 1) := by decide +kernel
theorem dX2_loseMemory_23 : decode cX2_loseMemory 23 = .ok (.iload_n 2, 1) := by decide +kernel
theorem dX2_loseMemory_24 : decode cX2_loseMemory 24 = .ok (.invokevirtual 109, 3) := by decide +kernel
theorem dX2_loseMemory_27 : decode cX2_loseMemory 27 = .ok (.aload_n 0, 1) := by decide +kernel
theorem dX2_loseMemory_28 : decode cX2_loseMemory 28 = .ok (.invokevirtual 60, 3) := by decide +kernel
theorem dX2_loseMemory_31 : decode cX2_loseMemory 31 = .ok (.return_, 1) := by decide +kernel
theorem dX2_goOn_0 : decode cX2_goOn 0 = .ok (.aload_n 0, 1) := by decide +kernel
theorem dX2_goOn_1 : decode cX2_goOn 1 = .ok (.iload_n 1, 1) := by decide +kernel
theorem dX2_goOn_2 : decode cX2_goOn 2 = .ok (.putfield 57, 3) := by decide +kernel
theorem dX2_goOn_5 : decode cX2_goOn 5 = .ok (.aload_n 0, 1) := by decide +kernel
theorem dX2_goOn_6 : decode cX2_goOn 6 = .ok (.iload_n 2, 1) := by decide +kernel
theorem dX2_goOn_7 : decode cX2_goOn 7 = .ok (.putfield 54, 3) := by decide +kernel
theorem dX2_goOn_10 : decode cX2_goOn 10 = .ok (.aload_n 0, 1) := by decide +kernel
theorem dX2_goOn_11 : decode cX2_goOn 11 = .ok (.aload_n 0, 1) := by decide +kernel
theorem dX2_goOn_12 : decode cX2_goOn 12 = .ok (.getfield 26, 3) := by decide +kernel
theorem dX2_goOn_15 : decode cX2_goOn 15 = .ok (.iload_n 2, 1) := by decide +kernel
theorem dX2_goOn_16 : decode cX2_goOn 16 = .ok (.invokevirtual 113, 3) := by decide +kernel
theorem dX2_goOn_19 : decode cX2_goOn 19 = .ok (.putfield 50, 3) := by decide +kernel
theorem dX2_goOn_22 : decode cX2_goOn 22 = .ok (.return_, 1) := by decide +kernel
theorem dX2_writePairs_0 : decode cX2_writePairs 0 = .ok (.aload_n 0, 1) := by decide +kernel
theorem dX2_writePairs_1 : decode cX2_writePairs 1 = .ok (.getfield 30, 3) := by decide +kernel
theorem dX2_writePairs_4 : decode cX2_writePairs 4 = .ok (.aload_n 0, 1) := by decide +kernel
theorem dX2_writePairs_5 : decode cX2_writePairs 5 = .ok (.getfield 54, 3) := by decide +kernel
theorem dX2_writePairs_8 : decode cX2_writePairs 8 = .ok (.iconst 2, 1) := by decide +kernel
theorem dX2_writePairs_9 : decode cX2_writePairs 9 = .ok (.aload_n 0, 1) := by decide +kernel
theorem dX2_writePairs_10 : decode cX2_writePairs 10 = .ok (.getfield 50, 3) := by decide +kernel
theorem dX2_writePairs_13 : decode cX2_writePairs 13 = .ok (.iconst 0, 1) := by decide +kernel
theorem dX2_writePairs_14 : decode cX2_writePairs 14 = .ok (.invokevirtual 39, 3) := by decide +kernel
theorem dX2_writePairs_17 : decode cX2_writePairs 17 = .ok (.iload_n 2, 1) := by decide +kernel
theorem dX2_writePairs_18 : decode cX2_writePairs 18 = .ok (.istore_n 3, 1) := by decide +kernel
theorem dX2_writePairs_19 : decode cX2_writePairs 19 = .ok (.iconst 0, 1) := by decide +kernel
theorem dX2_writePairs_20 : decode cX2_writePairs 20 = .ok (.istore 4, 2) := by decide +kernel
theorem dX2_writePairs_22 : decode cX2_writePairs 22 = .ok (.iload 4, 2) := by decide +kernel
theorem dX2_writePairs_24 : decode cX2_writePairs 24 = .ok (.iconst 5, 1) := by decide +kernel
theorem dX2_writePairs_25 : decode cX2_writePairs 25 = .ok (.if_icmp .ge 67, 3) := by decide +kernel
theorem dX2_writePairs_28 : decode cX2_writePairs 28 = .ok (.iload_n 3, 1) := by decide +kernel
theorem dX2_writePairs_29 : decode cX2_writePairs 29 = .ok (.bipush 32, 2) := by decide +kernel
theorem dX2_writePairs_31 : decode cX2_writePairs 31 = .ok (.if_icmp .ge 61, 3) := by decide +kernel
theorem dX2_writePairs_34 : decode cX2_writePairs 34 = .ok (.bipush 6, 2) := by decide +kernel
theorem dX2_writePairs_36 : decode cX2_writePairs 36 = .ok (.iload 4, 2) := by decide +kernel
theorem dX2_writePairs_38 : decode cX2_writePairs 38 = .ok (.iconst 4, 1) := by decide +kernel
theorem dX2_writePairs_39 : decode cX2_writePairs 39 = .ok (.imul, 1) := by decide +kernel
theorem dX2_writePairs_40 : decode cX2_writePairs 40 = .ok (.iadd, 1) := by decide +kernel
theorem dX2_writePairs_41 : decode cX2_writePairs 41 = .ok (.istore 5, 2) := by decide +kernel
theorem dX2_writePairs_43 : decode cX2_writePairs 43 = .ok (.aload_n 0, 1) := by decide +kernel
theorem dX2_writePairs_44 : decode cX2_writePairs 44 = .ok (.getfield 30, 3) := by decide +kernel
theorem dX2_writePairs_47 : decode cX2_writePairs 47 = .ok (.aload_n 0, 1) := by decide +kernel
theorem dX2_writePairs_48 : decode cX2_writePairs 48 = .ok (.getfield 54, 3) := by decide +kernel
theorem dX2_writePairs_51 : decode cX2_writePairs 51 = .ok (.iload 5, 2) := by decide +kernel
theorem dX2_writePairs_53 : decode cX2_writePairs 53 = .ok (.iload_n 3, 1) := by decide +kernel
theorem dX2_writePairs_54 : decode cX2_writePairs 54 = .ok (.invokevirtual 43, 3) := by decide +kernel
theorem dX2_writePairs_57 : decode cX2_writePairs 57 = .ok (.aload_n 0, 1) := by decide +kernel
theorem dX2_writePairs_58 : decode cX2_writePairs 58 = .ok (.getfield 30, 3) := by decide +kernel
theorem dX2_writePairs_61 : decode cX2_writePairs 61 = .ok (.aload_n 0, 1) := by decide +kernel
theorem dX2_writePairs_62 : decode cX2_writePairs 62 = .ok (.getfield 54, 3) := by decide +kernel
theorem dX2_writePairs_65 : decode cX2_writePairs 65 = .ok (.iload 5, 2) := by decide +kernel
theorem dX2_writePairs_67 : decode cX2_writePairs 67 = .ok (.iconst 1, 1) := by decide +kernel
theorem dX2_writePairs_68 : decode cX2_writePairs 68 = .ok (.iadd, 1) := by decide +kernel
theorem dX2_writePairs_69 : decode cX2_writePairs 69 = .ok (.iconst 3, 1) := by decide +kernel
theorem dX2_writePairs_70 : decode cX2_writePairs 70 = .ok (.aload_n 1, 1) := by decide +kernel
theorem dX2_writePairs_71 : decode cX2_writePairs 71 = .ok (.iload_n 3, 1) := by decide +kernel
theorem dX2_writePairs_72 : decode cX2_writePairs 72 = .ok (.invokevirtual 116, 3) := by decide +kernel
theorem dX2_writePairs_75 : decode cX2_writePairs 75 = .ok (.invokevirtual 90, 3) := by decide +kernel
theorem dX2_writePairs_78 : decode cX2_writePairs 78 = .ok (.iinc 4 1, 3) := by decide +kernel
theorem dX2_writePairs_81 : decode cX2_writePairs 81 = .ok (.aload_n 1, 1) := by decide +kernel
theorem dX2_writePairs_82 : decode cX2_writePairs 82 = .ok (.iload_n 3, 1) := by decide +kernel
theorem dX2_writePairs_83 : decode cX2_writePairs 83 = .ok (.iconst 1, 1) := by decide +kernel
theorem dX2_writePairs_84 : decode cX2_writePairs 84 = .ok (.iadd, 1) := by decide +kernel
theorem dX2_writePairs_85 : decode cX2_writePairs 85 = .ok (.invokevirtual 93, 3) := by decide +kernel
theorem dX2_writePairs_88 : decode cX2_writePairs 88 = .ok (.istore_n 3, 1) := by decide +kernel
theorem dX2_writePairs_89 : decode cX2_writePairs 89 = .ok (.goto (-67), 3) := by decide +kernel
theorem dX2_writePairs_92 : decode cX2_writePairs 92 = .ok (.aload_n 0, 1) := by decide +kernel
theorem dX2_writePairs_93 : decode cX2_writePairs 93 = .ok (.getfield 30, 3) := by decide +kernel
theorem dX2_writePairs_96 : decode cX2_writePairs 96 = .ok (.aload_n 0, 1) := by decide +kernel
theorem dX2_writePairs_97 : decode cX2_writePairs 97 = .ok (.getfield 54, 3) := by decide +kernel
theorem dX2_writePairs_100 : decode cX2_writePairs 100 = .ok (.iconst 5, 1) := by decide +kernel
theorem dX2_writePairs_101 : decode cX2_writePairs 101 = .ok (.iload 4, 2) := by decide +kernel
theorem dX2_writePairs_103 : decode cX2_writePairs 103 = .ok (.invokevirtual 43, 3) := by decide +kernel
theorem dX2_writePairs_106 : decode cX2_writePairs 106 = .ok (.iload_n 3, 1) := by decide +kernel
theorem dX2_writePairs_107 : decode cX2_writePairs 107 = .ok (.ireturn, 1) := by decide +kernel
theorem dX2_goToNext_0 : decode cX2_goToNext 0 = .ok (.aload_n 0, 1) := by decide +kernel
theorem dX2_goToNext_1 : decode cX2_goToNext 1 = .ok (.dup, 1) := by decide +kernel
theorem dX2_goToNext_2 : decode cX2_goToNext 2 = .ok (.getfield 50, 3) := by decide +kernel
theorem dX2_goToNext_5 : decode cX2_goToNext 5 = .ok (.iconst 1, 1) := by decide +kernel
theorem dX2_goToNext_6 : decode cX2_goToNext 6 = .ok (.iadd, 1) := by decide +kernel
theorem dX2_goToNext_7 : decode cX2_goToNext 7 = .ok (.putfield 50, 3) := by decide +kernel
theorem dX2_goToNext_10 : decode cX2_goToNext 10 = .ok (.aload_n 0, 1) := by decide +kernel
theorem dX2_goToNext_11 : decode cX2_goToNext 11 = .ok (.aload_n 0, 1) := by decide +kernel
theorem dX2_goToNext_12 : decode cX2_goToNext 12 = .ok (.getfield 26, 3) := by decide +kernel
theorem dX2_goToNext_15 : decode cX2_goToNext 15 = .ok (.aload_n 0, 1) := by decide +kernel
theorem dX2_goToNext_16 : decode cX2_goToNext 16 = .ok (.getfield 54, 3) := by decide +kernel
end
section
theorem dX2_goToNext_19 : decode cX2_goToNext 19 = .ok (.invokevirtual 119, 3) := by decide +kernel
theorem dX2_goToNext_22 : decode cX2_goToNext 22 = .ok (.putfield 54, 3) := by decide +kernel
theorem dX2_goToNext_25 : decode cX2_goToNext 25 = .ok (.aload_n 0, 1) := by decide +kernel
theorem dX2_goToNext_26 : decode cX2_goToNext 26 = .ok (.getfield 66, 3) := by decide +kernel
theorem dX2_goToNext_29 : decode cX2_goToNext 29 = .ok (.ifCond .ne 11, 3) := by decide +kernel
theorem dX2_goToNext_32 : decode cX2_goToNext 32 = .ok (.aload_n 0, 1) := by decide +kernel
theorem dX2_goToNext_33 : decode cX2_goToNext 33 = .ok (.aload_n 0, 1) := by decide +kernel
theorem dX2_goToNext_34 : decode cX2_goToNext 34 = .ok (.getfield 54, 3) := by decide +kernel
theorem dX2_goToNext_37 : decode cX2_goToNext 37 = .ok (.putfield 122, 3) := by decide +kernel
theorem dX2_goToNext_40 : decode cX2_goToNext 40 = .ok (.aload_n 0, 1) := by decide +kernel
theorem dX2_goToNext_41 : decode cX2_goToNext 41 = .ok (.dup, 1) := by decide +kernel
theorem dX2_goToNext_42 : decode cX2_goToNext 42 = .ok (.getfield 66, 3) := by decide +kernel
theorem dX2_goToNext_45 : decode cX2_goToNext 45 = .ok (.iconst 1, 1) := by decide +kernel
theorem dX2_goToNext_46 : decode cX2_goToNext 46 = .ok (.iadd, 1) := by decide +kernel
theorem dX2_goToNext_47 : decode cX2_goToNext 47 = .ok (.putfield 66, 3) := by decide +kernel
theorem dX2_goToNext_50 : decode cX2_goToNext 50 = .ok (.return_, 1) := by decide +kernel
theorem dX2_putOnDisk_0 : decode cX2_putOnDisk 0 = .ok (.aload_n 0, 1) := by decide +kernel
theorem dX2_putOnDisk_1 : decode cX2_putOnDisk 1 = .ok (.getfield 122, 3) := by decide +kernel
theorem dX2_putOnDisk_4 : decode cX2_putOnDisk 4 = .ok (.istore_n 2, 1) := by decide +kernel
theorem dX2_putOnDisk_5 : decode cX2_putOnDisk 5 = .ok (.iconst 0, 1) := by decide +kernel
theorem dX2_putOnDisk_6 : decode cX2_putOnDisk 6 = .ok (.istore_n 3, 1) := by decide +kernel
theorem dX2_putOnDisk_7 : decode cX2_putOnDisk 7 = .ok (.iload_n 3, 1) := by decide +kernel
theorem dX2_putOnDisk_8 : decode cX2_putOnDisk 8 = .ok (.iload_n 1, 1) := by decide +kernel
theorem dX2_putOnDisk_9 : decode cX2_putOnDisk 9 = .ok (.if_icmp .ge 32, 3) := by decide +kernel
theorem dX2_putOnDisk_12 : decode cX2_putOnDisk 12 = .ok (.aload_n 0, 1) := by decide +kernel
theorem dX2_putOnDisk_13 : decode cX2_putOnDisk 13 = .ok (.getfield 26, 3) := by decide +kernel
theorem dX2_putOnDisk_16 : decode cX2_putOnDisk 16 = .ok (.aload_n 0, 1) := by decide +kernel
theorem dX2_putOnDisk_17 : decode cX2_putOnDisk 17 = .ok (.getfield 30, 3) := by decide +kernel
theorem dX2_putOnDisk_20 : decode cX2_putOnDisk 20 = .ok (.iload_n 2, 1) := by decide +kernel
theorem dX2_putOnDisk_21 : decode cX2_putOnDisk 21 = .ok (.bipush 32, 2) := by decide +kernel
theorem dX2_putOnDisk_23 : decode cX2_putOnDisk 23 = .ok (.invokevirtual 109, 3) := by decide +kernel
theorem dX2_putOnDisk_26 : decode cX2_putOnDisk 26 = .ok (.aload_n 0, 1) := by decide +kernel
theorem dX2_putOnDisk_27 : decode cX2_putOnDisk 27 = .ok (.getfield 26, 3) := by decide +kernel
theorem dX2_putOnDisk_30 : decode cX2_putOnDisk 30 = .ok (.iload_n 2, 1) := by decide +kernel
theorem dX2_putOnDisk_31 : decode cX2_putOnDisk 31 = .ok (.invokevirtual 119, 3) := by decide +kernel
theorem dX2_putOnDisk_34 : decode cX2_putOnDisk 34 = .ok (.istore_n 2, 1) := by decide +kernel
theorem dX2_putOnDisk_35 : decode cX2_putOnDisk 35 = .ok (.iinc 3 1, 3) := by decide +kernel
theorem dX2_putOnDisk_38 : decode cX2_putOnDisk 38 = .ok (.goto (-31), 3) := by decide +kernel
theorem dX2_putOnDisk_41 : decode cX2_putOnDisk 41 = .ok (.iload_n 2, 1) := by decide +kernel
theorem dX2_putOnDisk_42 : decode cX2_putOnDisk 42 = .ok (.ireturn, 1) := by decide +kernel
theorem dX2_forgetMemory_0 : decode cX2_forgetMemory 0 = .ok (.aload_n 0, 1) := by decide +kernel
theorem dX2_forgetMemory_1 : decode cX2_forgetMemory 1 = .ok (.iconst 0, 1) := by decide +kernel
theorem dX2_forgetMemory_2 : decode cX2_forgetMemory 2 = .ok (.putfield 63, 3) := by decide +kernel
theorem dX2_forgetMemory_5 : decode cX2_forgetMemory 5 = .ok (.aload_n 0, 1) := by decide +kernel
theorem dX2_forgetMemory_6 : decode cX2_forgetMemory 6 = .ok (.iconst 0, 1) := by decide +kernel
theorem dX2_forgetMemory_7 : decode cX2_forgetMemory 7 = .ok (.putfield 66, 3) := by decide +kernel
theorem dX2_forgetMemory_10 : decode cX2_forgetMemory 10 = .ok (.aload_n 0, 1) := by decide +kernel
theorem dX2_forgetMemory_11 : decode cX2_forgetMemory 11 = .ok (.iconst (-1), 1) := by decide +kernel
theorem dX2_forgetMemory_12 : decode cX2_forgetMemory 12 = .ok (.putfield 99, 3) := by decide +kernel
theorem dX2_forgetMemory_15 : decode cX2_forgetMemory 15 = .ok (.return_, 1) := by decide +kernel
theorem dX4_init_0 : decode cX4_init 0 = .ok (.aload_n 0, 1) := by decide +kernel
theorem dX4_init_1 : decode cX4_init 1 = .ok (.invokespecial 1, 3) := by decide +kernel
theorem dX4_init_4 : decode cX4_init 4 = .ok (.aload_n 0, 1) := by decide +kernel
theorem dX4_init_5 : decode cX4_init 5 = .ok (.new 7, 3) := by decide +kernel
theorem dX4_init_8 : decode cX4_init 8 = .ok (.dup, 1) := by decide +kernel
theorem dX4_init_9 : decode cX4_init 9 = .ok (.iload_n 1, 1) := by decide +kernel
theorem dX4_init_10 : decode cX4_init 10 = .ok (.invokespecial 9, 3) := by decide +kernel
theorem dX4_init_13 : decode cX4_init 13 = .ok (.putfield 12, 3) := by decide +kernel
theorem dX4_init_16 : decode cX4_init 16 = .ok (.aload_n 0, 1) := by decide +kernel
theorem dX4_init_17 : decode cX4_init 17 = .ok (.new 18, 3) := by decide +kernel
theorem dX4_init_20 : decode cX4_init 20 = .ok (.dup, 1) := by decide +kernel
theorem dX4_init_21 : decode cX4_init 21 = .ok (.invokespecial 20, 3) := by decide +kernel
theorem dX4_init_24 : decode cX4_init 24 = .ok (.putfield 21, 3) := by decide +kernel
theorem dX4_init_27 : decode cX4_init 27 = .ok (.aload_n 0, 1) := by decide +kernel
theorem dX4_init_28 : decode cX4_init 28 = .ok (.new 25, 3) := by decide +kernel
theorem dX4_init_31 : decode cX4_init 31 = .ok (.dup, 1) := by decide +kernel
theorem dX4_init_32 : decode cX4_init 32 = .ok (.invokespecial 27, 3) := by decide +kernel
theorem dX4_init_35 : decode cX4_init 35 = .ok (.putfield 28, 3) := by decide +kernel
theorem dX4_init_38 : decode cX4_init 38 = .ok (.return_, 1) := by decide +kernel
theorem dX4_begin_0 : decode cX4_begin 0 = .ok (.aload_n 0, 1) := by decide +kernel
theorem dX4_begin_1 : decode cX4_begin 1 = .ok (.getfield 32, 3) := by decide +kernel
theorem dX4_begin_4 : decode cX4_begin 4 = .ok (.ifCond .eq 8, 3) := by decide +kernel
theorem dX4_begin_7 : decode cX4_begin 7 = .ok (.bipush (-3), 2) := by decide +kernel
theorem dX4_begin_9 : decode cX4_begin 9 = .ok (.goto 10, 3) := by decide +kernel
theorem dX4_begin_12 : decode cX4_begin 12 = .ok (.aload_n 0, 1) := by decide +kernel
theorem dX4_begin_13 : decode cX4_begin 13 = .ok (.getfield 21, 3) := by decide +kernel
theorem dX4_begin_16 : decode cX4_begin 16 = .ok (.invokevirtual 36, 3) := by decide +kernel
theorem dX4_begin_19 : decode cX4_begin 19 = .ok (.ireturn, 1) := by decide +kernel
theorem dX4_put_0 : decode cX4_put 0 = .ok (.aload_n 0, 1) := by decide +kernel
theorem dX4_put_1 : decode cX4_put 1 = .ok (.getfield 32, 3) := by decide +kernel
theorem dX4_put_4 : decode cX4_put 4 = .ok (.ifCond .eq 6, 3) := by decide +kernel
theorem dX4_put_7 : decode cX4_put 7 = .ok (.bipush (-3), 2) := by decide +kernel
theorem dX4_put_9 : decode cX4_put 9 = .ok (.ireturn, 1) := by decide +kernel
theorem dX4_put_10 : decode cX4_put 10 = .ok (.aload_n 0, 1) := by decide +kernel
theorem dX4_put_11 : decode cX4_put 11 = .ok (.getfield 21, 3) := by decide +kernel
theorem dX4_put_14 : decode cX4_put 14 = .ok (.iload_n 1, 1) := by decide +kernel
theorem dX4_put_15 : decode cX4_put 15 = .ok (.invokevirtual 40, 3) := by decide +kernel
theorem dX4_put_18 : decode cX4_put 18 = .ok (.ifCond .eq 22, 3) := by decide +kernel
theorem dX4_put_21 : decode cX4_put 21 = .ok (.iload_n 2, 1) := by decide +kernel
theorem dX4_put_22 : decode cX4_put 22 = .ok (.invokestatic 44, 3) := by decide +kernel
theorem dX4_put_25 : decode cX4_put 25 = .ok (.ifCond .eq 15, 3) := by decide +kernel
theorem dX4_put_28 : decode cX4_put 28 = .ok (.iload_n 3, 1) := by decide +kernel
theorem dX4_put_29 : decode cX4_put 29 = .ok (.invokestatic 47, 3) := by decide +kernel
theorem dX4_put_32 : decode cX4_put 32 = .ok (.ifCond .ne 10, 3) := by decide +kernel
theorem dX4_put_35 : decode cX4_put 35 = .ok (.iload_n 3, 1) := by decide +kernel
theorem dX4_put_36 : decode cX4_put 36 = .ok (.iconst (-1), 1) := by decide +kernel
theorem dX4_put_37 : decode cX4_put 37 = .ok (.if_icmp .eq 5, 3) := by decide +kernel
theorem dX4_put_40 : decode cX4_put 40 = .ok (.iconst (-1), 1) := by decide +kernel
theorem dX4_put_41 : decode cX4_put 41 = .ok (.ireturn, 1) := by decide +kernel
theorem dX4_put_42 : decode cX4_put 42 = .ok (.aload_n 0, 1) := by decide +kernel
theorem dX4_put_43 : decode cX4_put 43 = .ok (.getfield 21, 3) := by decide +kernel
theorem dX4_put_46 : decode cX4_put 46 = .ok (.iload_n 2, 1) := by decide +kernel
theorem dX4_put_47 : decode cX4_put 47 = .ok (.invokevirtual 50, 3) := by decide +kernel
theorem dX4_put_50 : decode cX4_put 50 = .ok (.istore 4, 2) := by decide +kernel
theorem dX4_put_52 : decode cX4_put 52 = .ok (.iload 4, 2) := by decide +kernel
theorem dX4_put_54 : decode cX4_put 54 = .ok (.iconst (-1), 1) := by decide +kernel
theorem dX4_put_55 : decode cX4_put 55 = .ok (.if_icmp .eq 11, 3) := by decide +kernel
theorem dX4_put_58 : decode cX4_put 58 = .ok (.iload 4, 2) := by decide +kernel
theorem dX4_put_60 : decode cX4_put 60 = .ok (.iload_n 1, 1) := by decide +kernel
theorem dX4_put_61 : decode cX4_put 61 = .ok (.if_icmp .eq 5, 3) := by decide +kernel
theorem dX4_put_64 : decode cX4_put 64 = .ok (.iconst 0, 1) := by decide +kernel
theorem dX4_put_65 : decode cX4_put 65 = .ok (.ireturn, 1) := by decide +kernel
theorem dX4_put_66 : decode cX4_put 66 = .ok (.aload_n 0, 1) := by decide +kernel
theorem dX4_put_67 : decode cX4_put 67 = .ok (.getfield 12, 3) := by decide +kernel
theorem dX4_put_70 : decode cX4_put 70 = .ok (.invokevirtual 54, 3) := by decide +kernel
theorem dX4_put_73 : decode cX4_put 73 = .ok (.ifCond .ne 6, 3) := by decide +kernel
theorem dX4_put_76 : decode cX4_put 76 = .ok (.bipush (-2), 2) := by decide +kernel
theorem dX4_put_78 : decode cX4_put 78 = .ok (.ireturn, 1) := by decide +kernel
theorem dX4_put_79 : decode cX4_put 79 = .ok (.aload_n 0, 1) := by decide +kernel
theorem dX4_put_80 : decode cX4_put 80 = .ok (.getfield 21, 3) := by decide +kernel
theorem dX4_put_83 : decode cX4_put 83 = .ok (.iload_n 1, 1) := by decide +kernel
theorem dX4_put_84 : decode cX4_put 84 = .ok (.iload_n 2, 1) := by decide +kernel
theorem dX4_put_85 : decode cX4_put 85 = .ok (.iload_n 3, 1) := by decide +kernel
theorem dX4_put_86 : decode cX4_put 86 = .ok (.invokevirtual 58, 3) := by decide +kernel
theorem dX4_put_89 : decode cX4_put 89 = .ok (.iload_n 3, 1) := by decide +kernel
theorem dX4_put_90 : decode cX4_put 90 = .ok (.iconst (-1), 1) := by decide +kernel
theorem dX4_put_91 : decode cX4_put 91 = .ok (.if_icmp .ne 17, 3) := by decide +kernel
theorem dX4_put_94 : decode cX4_put 94 = .ok (.aload_n 0, 1) := by decide +kernel
theorem dX4_put_95 : decode cX4_put 95 = .ok (.getfield 12, 3) := by decide +kernel
theorem dX4_put_98 : decode cX4_put 98 = .ok (.iload_n 1, 1) := by decide +kernel
theorem dX4_put_99 : decode cX4_put 99 = .ok (.iconst 1, 1) := by decide +kernel
theorem dX4_put_100 : decode cX4_put 100 = .ok (.iload_n 2, 1) := by decide +kernel
theorem dX4_put_101 : decode cX4_put 101 = .ok (.iconst 0, 1) := by decide +kernel
theorem dX4_put_102 : decode cX4_put 102 = .ok (.invokevirtual 62, 3) := by decide +kernel
theorem dX4_put_105 : decode cX4_put 105 = .ok (.goto 14, 3) := by decide +kernel
theorem dX4_put_108 : decode cX4_put 108 = .ok (.aload_n 0, 1) := by decide +kernel
theorem dX4_put_109 : decode cX4_put 109 = .ok (.getfield 12, 3) := by decide +kernel
theorem dX4_put_112 : decode cX4_put 112 = .ok (.iload_n 1, 1) := by decide +kernel
theorem dX4_put_113 : decode cX4_put 113 = .ok (.iconst 0, 1) := by decide +kernel
theorem dX4_put_114 : decode cX4_put 114 = .ok (.iload_n 2, 1) := by decide +kernel
theorem dX4_put_115 : decode cX4_put 115 = .ok (.iload_n 3, 1) := by decide +kernel
theorem dX4_put_116 : decode cX4_put 116 = .ok (.invokevirtual 62, 3) := by decide +kernel
theorem dX4_put_119 : decode cX4_put 119 = .ok (.iconst 1, 1) := by decide +kernel
theorem dX4_put_120 : decode cX4_put 120 = .ok (.ireturn, 1) := by decide +kernel
theorem dX4_commit_0 : decode cX4_commit 0 = .ok (.aload_n 0, 1) := by decide +kernel
theorem dX4_commit_1 : decode cX4_commit 1 = .ok (.iload_n 1, 1) := by decide +kernel
theorem dX4_commit_2 : decode cX4_commit 2 = .ok (.iconst 2, 1) := by decide +kernel
theorem dX4_commit_3 : decode cX4_commit 3 = .ok (.invokevirtual 66, 3) := by decide +kernel
theorem dX4_commit_6 : decode cX4_commit 6 = .ok (.istore_n 2, 1) := by decide +kernel
theorem dX4_commit_7 : decode cX4_commit 7 = .ok (.iload_n 2, 1) := by decide +kernel
theorem dX4_commit_8 : decode cX4_commit 8 = .ok (.ifCond .lt 13, 3) := by decide +kernel
theorem dX4_commit_11 : decode cX4_commit 11 = .ok (.aload_n 0, 1) := by decide +kernel
theorem dX4_commit_12 : decode cX4_commit 12 = .ok (.dup, 1) := by decide +kernel
theorem dX4_commit_13 : decode cX4_commit 13 = .ok (.getfield 70, 3) := by decide +kernel
theorem dX4_commit_16 : decode cX4_commit 16 = .ok (.iconst 1, 1) := by decide +kernel
theorem dX4_commit_17 : decode cX4_commit 17 = .ok (.iadd, 1) := by decide +kernel
theorem dX4_commit_18 : decode cX4_commit 18 = .ok (.putfield 70, 3) := by decide +kernel
theorem dX4_commit_21 : decode cX4_commit 21 = .ok (.iload_n 2, 1) := by decide +kernel
theorem dX4_commit_22 : decode cX4_commit 22 = .ok (.ireturn, 1) := by decide +kernel
theorem dX4_undo_0 : decode cX4_undo 0 = .ok (.aload_n 0, 1) := by decide +kernel
theorem dX4_undo_1 : decode cX4_undo 1 = .ok (.iload_n 1, 1) := by decide +kernel
theorem dX4_undo_2 : decode cX4_undo 2 = .ok (.iconst 3, 1) := by decide +kernel
theorem dX4_undo_3 : decode cX4_undo 3 = .ok (.invokevirtual 66, 3) := by decide +kernel
theorem dX4_undo_6 : decode cX4_undo 6 = .ok (.ireturn, 1) := by decide +kernel
theorem dX4_get_0 : decode cX4_get 0 = .ok (.aload_n 0, 1) := by decide +kernel
theorem dX4_get_1 : decode cX4_get 1 = .ok (.getfield 32, 3) := by decide +kernel
theorem dX4_get_4 : decode cX4_get 4 = .ok (.ifCond .eq 8, 3) := by decide +kernel
theorem dX4_get_7 : decode cX4_get 7 = .ok (.bipush (-3), 2) := by decide +kernel
theorem dX4_get_9 : decode cX4_get 9 = .ok (.goto 11, 3) := by decide +kernel
theorem dX4_get_12 : decode cX4_get 12 = .ok (.aload_n 0, 1) := by decide +kernel
theorem dX4_get_13 : decode cX4_get 13 = .ok (.getfield 21, 3) := by decide +kernel
theorem dX4_get_16 : decode cX4_get 16 = .ok (.iload_n 1, 1) := by decide +kernel
theorem dX4_get_17 : decode cX4_get 17 = .ok (.invokevirtual 74, 3) := by decide +kernel
theorem dX4_get_20 : decode cX4_get 20 = .ok (.ireturn, 1) := by decide +kernel
theorem dX4_seen_0 : decode cX4_seen 0 = .ok (.aload_n 0, 1) := by decide +kernel
theorem dX4_seen_1 : decode cX4_seen 1 = .ok (.getfield 32, 3) := by decide +kernel
theorem dX4_seen_4 : decode cX4_seen 4 = .ok (.ifCond .eq 6, 3) := by decide +kernel
theorem dX4_seen_7 : decode cX4_seen 7 = .ok (.bipush (-3), 2) := by decide +kernel
theorem dX4_seen_9 : decode cX4_seen 9 = .ok (.ireturn, 1) := by decide +kernel
theorem dX4_seen_10 : decode cX4_seen 10 = .ok (.aload_n 0, 1) := by decide +kernel
theorem dX4_seen_11 : decode cX4_seen 11 = .ok (.getfield 21, 3) := by decide +kernel
theorem dX4_seen_14 : decode cX4_seen 14 = .ok (.iload_n 1, 1) := by decide +kernel
theorem dX4_seen_15 : decode cX4_seen 15 = .ok (.invokevirtual 40, 3) := by decide +kernel
theorem dX4_seen_18 : decode cX4_seen 18 = .ok (.ifCond .eq 15, 3) := by decide +kernel
theorem dX4_seen_21 : decode cX4_seen 21 = .ok (.aload_n 0, 1) := by decide +kernel
theorem dX4_seen_22 : decode cX4_seen 22 = .ok (.getfield 21, 3) := by decide +kernel
theorem dX4_seen_25 : decode cX4_seen 25 = .ok (.iload_n 1, 1) := by decide +kernel
theorem dX4_seen_26 : decode cX4_seen 26 = .ok (.iload_n 2, 1) := by decide +kernel
theorem dX4_seen_27 : decode cX4_seen 27 = .ok (.invokevirtual 77, 3) := by decide +kernel
theorem dX4_seen_30 : decode cX4_seen 30 = .ok (.goto 4, 3) := by decide +kernel
theorem dX4_seen_33 : decode cX4_seen 33 = .ok (.iconst (-1), 1) := by decide +kernel
theorem dX4_seen_34 : decode cX4_seen 34 = .ok (.ireturn, 1) := by decide +kernel
theorem dX4_sync_0 : decode cX4_sync 0 = .ok (.aload_n 0, 1) := by decide +kernel
theorem dX4_sync_1 : decode cX4_sync 1 = .ok (.getfield 32, 3) := by decide +kernel
theorem dX4_sync_4 : decode cX4_sync 4 = .ok (.ifCond .eq 6, 3) := by decide +kernel
theorem dX4_sync_7 : decode cX4_sync 7 = .ok (.bipush (-3), 2) := by decide +kernel
theorem dX4_sync_9 : decode cX4_sync 9 = .ok (.ireturn, 1) := by decide +kernel
theorem dX4_sync_10 : decode cX4_sync 10 = .ok (.aload_n 0, 1) := by decide +kernel
theorem dX4_sync_11 : decode cX4_sync 11 = .ok (.getfield 12, 3) := by decide +kernel
theorem dX4_sync_14 : decode cX4_sync 14 = .ok (.aload_n 0, 1) := by decide +kernel
theorem dX4_sync_15 : decode cX4_sync 15 = .ok (.getfield 12, 3) := by decide +kernel
theorem dX4_sync_18 : decode cX4_sync 18 = .ok (.invokevirtual 80, 3) := by decide +kernel
theorem dX4_sync_21 : decode cX4_sync 21 = .ok (.invokevirtual 83, 3) := by decide +kernel
theorem dX4_sync_24 : decode cX4_sync 24 = .ok (.ifCond .ne 6, 3) := by decide +kernel
theorem dX4_sync_27 : decode cX4_sync 27 = .ok (.bipush (-2), 2) := by decide +kernel
theorem dX4_sync_29 : decode cX4_sync 29 = .ok (.ireturn, 1) := by decide +kernel
theorem dX4_sync_30 : decode cX4_sync 30 = .ok (.aload_n 0, 1) := by decide +kernel
theorem dX4_sync_31 : decode cX4_sync 31 = .ok (.getfield 12, 3) := by decide +kernel
theorem dX4_sync_34 : decode cX4_sync 34 = .ok (.invokevirtual 86, 3) := by decide +kernel
theorem dX4_sync_37 : decode cX4_sync 37 = .ok (.aload_n 0, 1) := by decide +kernel
theorem dX4_sync_38 : decode cX4_sync 38 = .ok (.getfield 12, 3) := by decide +kernel
theorem dX4_sync_41 : decode cX4_sync 41 = .ok (.invokevirtual 89, 3) := by decide +kernel
theorem dX4_sync_44 : decode cX4_sync 44 = .ok (.ireturn, 1) := by decide +kernel
theorem dX4_checkpoint_0 : decode cX4_checkpoint 0 = .ok (.aload_n 0, 1) := by decide +kernel
theorem dX4_checkpoint_1 : decode cX4_checkpoint 1 = .ok (.getfield 32, 3) := by decide +kernel
theorem dX4_checkpoint_4 : decode cX4_checkpoint 4 = .ok (.ifCond .eq 6, 3) := by decide +kernel
theorem dX4_checkpoint_7 : decode cX4_checkpoint 7 = .ok (.bipush (-3), 2) := by decide +kernel
theorem dX4_checkpoint_9 : decode cX4_checkpoint 9 = .ok (.ireturn, 1) := by decide +kernel
theorem dX4_checkpoint_10 : decode cX4_checkpoint 10 = .ok (.aload_n 0, 1) := by decide +kernel
theorem dX4_checkpoint_11 : decode cX4_checkpoint 11 = .ok (.getfield 21, 3) := by decide +kernel
theorem dX4_checkpoint_14 : decode cX4_checkpoint 14 = .ok (.invokevirtual 92, 3) := by decide +kernel
theorem dX4_checkpoint_17 : decode cX4_checkpoint 17 = .ok (.ifCond .eq 5, 3) := by decide +kernel
theorem dX4_checkpoint_20 : decode cX4_checkpoint 20 = .ok (.iconst (-1), 1) := by decide +kernel
theorem dX4_checkpoint_21 : decode cX4_checkpoint 21 = .ok (.ireturn, 1) := by decide +kernel
theorem dX4_checkpoint_22 : decode cX4_checkpoint 22 = .ok (.aload_n 0, 1) := by decide +kernel
theorem dX4_checkpoint_23 : decode cX4_checkpoint 23 = .ok (.getfield 21, 3) := by decide +kernel
theorem dX4_checkpoint_26 : decode cX4_checkpoint 26 = .ok (.invokevirtual 95, 3) := by decide +kernel
theorem dX4_checkpoint_29 : decode cX4_checkpoint 29 = .ok (.istore_n 1, 1) := by decide +kernel
theorem dX4_checkpoint_30 : decode cX4_checkpoint 30 = .ok (.aload_n 0, 1) := by decide +kernel
theorem dX4_checkpoint_31 : decode cX4_checkpoint 31 = .ok (.getfield 12, 3) := by decide +kernel
theorem dX4_checkpoint_34 : decode cX4_checkpoint 34 = .ok (.aload_n 0, 1) := by decide +kernel
theorem dX4_checkpoint_35 : decode cX4_checkpoint 35 = .ok (.getfield 12, 3) := by decide +kernel
theorem dX4_checkpoint_38 : decode cX4_checkpoint 38 = .ok (.invokevirtual 80, 3) := by decide +kernel
theorem dX4_checkpoint_41 : decode cX4_checkpoint 41 = .ok (.iload_n 1, 1) := by decide +kernel
theorem dX4_checkpoint_42 : decode cX4_checkpoint 42 = .ok (.iadd, 1) := by decide +kernel
theorem dX4_checkpoint_43 : decode cX4_checkpoint 43 = .ok (.invokevirtual 83, 3) := by decide +kernel
theorem dX4_checkpoint_46 : decode cX4_checkpoint 46 = .ok (.ifCond .ne 6, 3) := by decide +kernel
theorem dX4_checkpoint_49 : decode cX4_checkpoint 49 = .ok (.bipush (-2), 2) := by decide +kernel
theorem dX4_checkpoint_51 : decode cX4_checkpoint 51 = .ok (.ireturn, 1) := by decide +kernel
theorem dX4_checkpoint_52 : decode cX4_checkpoint 52 = .ok (.aload_n 0, 1) := by decide +kernel
theorem dX4_checkpoint_53 : decode cX4_checkpoint 53 = .ok (.getfield 12, 3) := by decide +kernel
theorem dX4_checkpoint_56 : decode cX4_checkpoint 56 = .ok (.invokevirtual 86, 3) := by decide +kernel
theorem dX4_checkpoint_59 : decode cX4_checkpoint 59 = .ok (.aload_n 0, 1) := by decide +kernel
theorem dX4_checkpoint_60 : decode cX4_checkpoint 60 = .ok (.getfield 12, 3) := by decide +kernel
theorem dX4_checkpoint_63 : decode cX4_checkpoint 63 = .ok (.aload_n 0, 1) := by decide +kernel
theorem dX4_checkpoint_64 : decode cX4_checkpoint 64 = .ok (.getfield 21, 3) := by decide +kernel
theorem dX4_checkpoint_67 : decode cX4_checkpoint 67 = .ok (.iload_n 1, 1) := by decide +kernel
theorem dX4_checkpoint_68 : decode cX4_checkpoint 68 = .ok (.invokevirtual 98, 3) := by decide +kernel
theorem dX4_checkpoint_71 : decode cX4_checkpoint 71 = .ok (.iload_n 1, 1) := by decide +kernel
theorem dX4_checkpoint_72 : decode cX4_checkpoint 72 = .ok (.ireturn, 1) := by decide +kernel
theorem dX4_cut_0 : decode cX4_cut 0 = .ok (.aload_n 0, 1) := by decide +kernel
theorem dX4_cut_1 : decode cX4_cut 1 = .ok (.getfield 32, 3) := by decide +kernel
theorem dX4_cut_4 : decode cX4_cut 4 = .ok (.ifCond .eq 6, 3) := by decide +kernel
theorem dX4_cut_7 : decode cX4_cut 7 = .ok (.bipush (-3), 2) := by decide +kernel
theorem dX4_cut_9 : decode cX4_cut 9 = .ok (.ireturn, 1) := by decide +kernel
theorem dX4_cut_10 : decode cX4_cut 10 = .ok (.aload_n 0, 1) := by decide +kernel
theorem dX4_cut_11 : decode cX4_cut 11 = .ok (.getfield 12, 3) := by decide +kernel
theorem dX4_cut_14 : decode cX4_cut 14 = .ok (.invokevirtual 102, 3) := by decide +kernel
theorem dX4_cut_17 : decode cX4_cut 17 = .ok (.istore_n 3, 1) := by decide +kernel
theorem dX4_cut_18 : decode cX4_cut 18 = .ok (.iload_n 1, 1) := by decide +kernel
theorem dX4_cut_19 : decode cX4_cut 19 = .ok (.ifCond .lt 18, 3) := by decide +kernel
theorem dX4_cut_22 : decode cX4_cut 22 = .ok (.iload_n 1, 1) := by decide +kernel
theorem dX4_cut_23 : decode cX4_cut 23 = .ok (.iload_n 3, 1) := by decide +kernel
theorem dX4_cut_24 : decode cX4_cut 24 = .ok (.if_icmp .gt 13, 3) := by decide +kernel
theorem dX4_cut_27 : decode cX4_cut 27 = .ok (.iload_n 2, 1) := by decide +kernel
theorem dX4_cut_28 : decode cX4_cut 28 = .ok (.ifCond .lt 9, 3) := by decide +kernel
theorem dX4_cut_31 : decode cX4_cut 31 = .ok (.iload_n 2, 1) := by decide +kernel
theorem dX4_cut_32 : decode cX4_cut 32 = .ok (.bipush 32, 2) := by decide +kernel
theorem dX4_cut_34 : decode cX4_cut 34 = .ok (.if_icmp .le 5, 3) := by decide +kernel
theorem dX4_cut_37 : decode cX4_cut 37 = .ok (.iconst (-1), 1) := by decide +kernel
theorem dX4_cut_38 : decode cX4_cut 38 = .ok (.ireturn, 1) := by decide +kernel
theorem dX4_cut_39 : decode cX4_cut 39 = .ok (.aload_n 0, 1) := by decide +kernel
theorem dX4_cut_40 : decode cX4_cut 40 = .ok (.getfield 12, 3) := by decide +kernel
theorem dX4_cut_43 : decode cX4_cut 43 = .ok (.iload_n 1, 1) := by decide +kernel
theorem dX4_cut_44 : decode cX4_cut 44 = .ok (.iload_n 2, 1) := by decide +kernel
theorem dX4_cut_45 : decode cX4_cut 45 = .ok (.invokevirtual 105, 3) := by decide +kernel
theorem dX4_cut_48 : decode cX4_cut 48 = .ok (.aload_n 0, 1) := by decide +kernel
theorem dX4_cut_49 : decode cX4_cut 49 = .ok (.getfield 21, 3) := by decide +kernel
theorem dX4_cut_52 : decode cX4_cut 52 = .ok (.invokevirtual 109, 3) := by decide +kernel
theorem dX4_cut_55 : decode cX4_cut 55 = .ok (.aload_n 0, 1) := by decide +kernel
theorem dX4_cut_56 : decode cX4_cut 56 = .ok (.iconst 1, 1) := by decide +kernel
theorem dX4_cut_57 : decode cX4_cut 57 = .ok (.putfield 32, 3) := by decide +kernel
theorem dX4_cut_60 : decode cX4_cut 60 = .ok (.iload_n 3, 1) := by decide +kernel
theorem dX4_cut_61 : decode cX4_cut 61 = .ok (.ireturn, 1) := by decide +kernel
theorem dX4_start_0 : decode cX4_start 0 = .ok (.aload_n 0, 1) := by decide +kernel
theorem dX4_start_1 : decode cX4_start 1 = .ok (.getfield 32, 3) := by decide +kernel
theorem dX4_start_4 : decode cX4_start 4 = .ok (.ifCond .ne 5, 3) := by decide +kernel
theorem dX4_start_7 : decode cX4_start 7 = .ok (.iconst (-1), 1) := by decide +kernel
theorem dX4_start_8 : decode cX4_start 8 = .ok (.ireturn, 1) := by decide +kernel
theorem dX4_start_9 : decode cX4_start 9 = .ok (.aload_n 0, 1) := by decide +kernel
theorem dX4_start_10 : decode cX4_start 10 = .ok (.getfield 28, 3) := by decide +kernel
theorem dX4_start_13 : decode cX4_start 13 = .ok (.aload_n 0, 1) := by decide +kernel
theorem dX4_start_14 : decode cX4_start 14 = .ok (.getfield 12, 3) := by decide +kernel
theorem dX4_start_17 : decode cX4_start 17 = .ok (.getfield 112, 3) := by decide +kernel
theorem dX4_start_20 : decode cX4_start 20 = .ok (.invokevirtual 116, 3) := by decide +kernel
theorem dX4_start_23 : decode cX4_start 23 = .ok (.ifCond .ne 6, 3) := by decide +kernel
theorem dX4_start_26 : decode cX4_start 26 = .ok (.bipush (-4), 2) := by decide +kernel
theorem dX4_start_28 : decode cX4_start 28 = .ok (.ireturn, 1) := by decide +kernel
theorem dX4_start_29 : decode cX4_start 29 = .ok (.aload_n 0, 1) := by decide +kernel
theorem dX4_start_30 : decode cX4_start 30 = .ok (.getfield 28, 3) := by decide +kernel
theorem dX4_start_33 : decode cX4_start 33 = .ok (.aload_n 0, 1) := by decide +kernel
theorem dX4_start_34 : decode cX4_start 34 = .ok (.getfield 12, 3) := by decide +kernel
theorem dX4_start_37 : decode cX4_start 37 = .ok (.getfield 112, 3) := by decide +kernel
theorem dX4_start_40 : decode cX4_start 40 = .ok (.aload_n 0, 1) := by decide +kernel
theorem dX4_start_41 : decode cX4_start 41 = .ok (.getfield 21, 3) := by decide +kernel
theorem dX4_start_44 : decode cX4_start 44 = .ok (.invokevirtual 120, 3) := by decide +kernel
theorem dX4_start_47 : decode cX4_start 47 = .ok (.aload_n 0, 1) := by decide +kernel
theorem dX4_start_48 : decode cX4_start 48 = .ok (.getfield 28, 3) := by decide +kernel
theorem dX4_start_51 : decode cX4_start 51 = .ok (.aload_n 0, 1) := by decide +kernel
theorem dX4_start_52 : decode cX4_start 52 = .ok (.getfield 12, 3) := by decide +kernel
theorem dX4_start_55 : decode cX4_start 55 = .ok (.getfield 112, 3) := by decide +kernel
theorem dX4_start_58 : decode cX4_start 58 = .ok (.aload_n 0, 1) := by decide +kernel
theorem dX4_start_59 : decode cX4_start 59 = .ok (.getfield 21, 3) := by decide +kernel
theorem dX4_start_62 : decode cX4_start 62 = .ok (.invokevirtual 124, 3) := by decide +kernel
theorem dX4_start_65 : decode cX4_start 65 = .ok (.aload_n 0, 1) := by decide +kernel
theorem dX4_start_66 : decode cX4_start 66 = .ok (.getfield 12, 3) := by decide +kernel
theorem dX4_start_69 : decode cX4_start 69 = .ok (.aload_n 0, 1) := by decide +kernel
theorem dX4_start_70 : decode cX4_start 70 = .ok (.getfield 28, 3) := by decide +kernel
theorem dX4_start_73 : decode cX4_start 73 = .ok (.invokevirtual 127, 3) := by decide +kernel
theorem dX4_start_76 : decode cX4_start 76 = .ok (.aload_n 0, 1) := by decide +kernel
theorem dX4_start_77 : decode cX4_start 77 = .ok (.getfield 28, 3) := by decide +kernel
theorem dX4_start_80 : decode cX4_start 80 = .ok (.invokevirtual 130, 3) := by decide +kernel
theorem dX4_start_83 : decode cX4_start 83 = .ok (.invokevirtual 133, 3) := by decide +kernel
theorem dX4_start_86 : decode cX4_start 86 = .ok (.aload_n 0, 1) := by decide +kernel
theorem dX4_start_87 : decode cX4_start 87 = .ok (.iconst 0, 1) := by decide +kernel
theorem dX4_start_88 : decode cX4_start 88 = .ok (.putfield 70, 3) := by decide +kernel
theorem dX4_start_91 : decode cX4_start 91 = .ok (.aload_n 0, 1) := by decide +kernel
theorem dX4_start_92 : decode cX4_start 92 = .ok (.iconst 0, 1) := by decide +kernel
theorem dX4_start_93 : decode cX4_start 93 = .ok (.putfield 32, 3) := by decide +kernel
theorem dX4_start_96 : decode cX4_start 96 = .ok (.aload_n 0, 1) := by decide +kernel
theorem dX4_start_97 : decode cX4_start 97 = .ok (.invokevirtual 136, 3) := by decide +kernel
theorem dX4_start_100 : decode cX4_start 100 = .ok (.ireturn, 1) := by decide +kernel
theorem dX4_at_0 : decode cX4_at 0 = .ok (.aload_n 0, 1) := by decide +kernel
theorem dX4_at_1 : decode cX4_at 1 = .ok (.getfield 12, 3) := by decide +kernel
theorem dX4_at_4 : decode cX4_at 4 = .ok (.getfield 112, 3) := by decide +kernel
theorem dX4_at_7 : decode cX4_at 7 = .ok (.iload_n 1, 1) := by decide +kernel
theorem dX4_at_8 : decode cX4_at 8 = .ok (.iload_n 2, 1) := by decide +kernel
theorem dX4_at_9 : decode cX4_at 9 = .ok (.invokevirtual 139, 3) := by decide +kernel
theorem dX4_at_12 : decode cX4_at 12 = .ok (.ireturn, 1) := by decide +kernel
theorem dX4_sound_0 : decode cX4_sound 0 = .ok (.aload_n 0, 1) := by decide +kernel
theorem dX4_sound_1 : decode cX4_sound 1 = .ok (.getfield 12, 3) := by decide +kernel
theorem dX4_sound_4 : decode cX4_sound 4 = .ok (.getfield 112, 3) := by decide +kernel
theorem dX4_sound_7 : decode cX4_sound 7 = .ok (.iload_n 1, 1) := by decide +kernel
theorem dX4_sound_8 : decode cX4_sound 8 = .ok (.invokevirtual 144, 3) := by decide +kernel
theorem dX4_sound_11 : decode cX4_sound 11 = .ok (.ireturn, 1) := by decide +kernel
theorem dX4_poke_0 : decode cX4_poke 0 = .ok (.aload_n 0, 1) := by decide +kernel
theorem dX4_poke_1 : decode cX4_poke 1 = .ok (.getfield 12, 3) := by decide +kernel
theorem dX4_poke_4 : decode cX4_poke 4 = .ok (.getfield 112, 3) := by decide +kernel
theorem dX4_poke_7 : decode cX4_poke 7 = .ok (.iload_n 1, 1) := by decide +kernel
theorem dX4_poke_8 : decode cX4_poke 8 = .ok (.iload_n 2, 1) := by decide +kernel
theorem dX4_poke_9 : decode cX4_poke 9 = .ok (.invokevirtual 139, 3) := by decide +kernel
theorem dX4_poke_12 : decode cX4_poke 12 = .ok (.istore 4, 2) := by decide +kernel
theorem dX4_poke_14 : decode cX4_poke 14 = .ok (.iload 4, 2) := by decide +kernel
theorem dX4_poke_16 : decode cX4_poke 16 = .ok (.iconst (-1), 1) := by decide +kernel
theorem dX4_poke_17 : decode cX4_poke 17 = .ok (.if_icmp .eq 15, 3) := by decide +kernel
theorem dX4_poke_20 : decode cX4_poke 20 = .ok (.iload_n 3, 1) := by decide +kernel
theorem dX4_poke_21 : decode cX4_poke 21 = .ok (.iconst 1, 1) := by decide +kernel
theorem dX4_poke_22 : decode cX4_poke 22 = .ok (.if_icmp .lt 10, 3) := by decide +kernel
theorem dX4_poke_25 : decode cX4_poke 25 = .ok (.iload_n 3, 1) := by decide +kernel
theorem dX4_poke_26 : decode cX4_poke 26 = .ok (.sipush 255, 3) := by decide +kernel
theorem dX4_poke_29 : decode cX4_poke 29 = .ok (.if_icmp .le 5, 3) := by decide +kernel
theorem dX4_poke_32 : decode cX4_poke 32 = .ok (.iconst 0, 1) := by decide +kernel
theorem dX4_poke_33 : decode cX4_poke 33 = .ok (.ireturn, 1) := by decide +kernel
theorem dX4_poke_34 : decode cX4_poke 34 = .ok (.aload_n 0, 1) := by decide +kernel
theorem dX4_poke_35 : decode cX4_poke 35 = .ok (.getfield 12, 3) := by decide +kernel
theorem dX4_poke_38 : decode cX4_poke 38 = .ok (.getfield 112, 3) := by decide +kernel
theorem dX4_poke_41 : decode cX4_poke 41 = .ok (.iload_n 1, 1) := by decide +kernel
theorem dX4_poke_42 : decode cX4_poke 42 = .ok (.iload_n 2, 1) := by decide +kernel
theorem dX4_poke_43 : decode cX4_poke 43 = .ok (.iload 4, 2) := by decide +kernel
theorem dX4_poke_45 : decode cX4_poke 45 = .ok (.iload_n 3, 1) := by decide +kernel
theorem dX4_poke_46 : decode cX4_poke 46 = .ok (.ixor, 1) := by decide +kernel
theorem dX4_poke_47 : decode cX4_poke 47 = .ok (.invokevirtual 147, 3) := by decide +kernel
theorem dX4_poke_50 : decode cX4_poke 50 = .ok (.iconst 1, 1) := by decide +kernel
theorem dX4_poke_51 : decode cX4_poke 51 = .ok (.ireturn, 1) := by decide +kernel
theorem dX4_count_0 : decode cX4_count 0 = .ok (.aload_n 0, 1) := by decide +kernel
theorem dX4_count_1 : decode cX4_count 1 = .ok (.getfield 32, 3) := by decide +kernel
theorem dX4_count_4 : decode cX4_count 4 = .ok (.ifCond .eq 6, 3) := by decide +kernel
theorem dX4_count_7 : decode cX4_count 7 = .ok (.bipush (-3), 2) := by decide +kernel
theorem dX4_count_9 : decode cX4_count 9 = .ok (.ireturn, 1) := by decide +kernel
theorem dX4_count_10 : decode cX4_count 10 = .ok (.iload_n 1, 1) := by decide +kernel
theorem dX4_count_11 : decode cX4_count 11 = .ok (.tableswitch 94 0 6 #[41, 49, 57, 65, 73, 81, 89], 41) := by decide +kernel
theorem dX4_count_52 : decode cX4_count 52 = .ok (.aload_n 0, 1) := by decide +kernel
theorem dX4_count_53 : decode cX4_count 53 = .ok (.getfield 12, 3) := by decide +kernel
theorem dX4_count_56 : decode cX4_count 56 = .ok (.invokevirtual 150, 3) := by decide +kernel
theorem dX4_count_59 : decode cX4_count 59 = .ok (.ireturn, 1) := by decide +kernel
theorem dX4_count_60 : decode cX4_count 60 = .ok (.aload_n 0, 1) := by decide +kernel
theorem dX4_count_61 : decode cX4_count 61 = .ok (.getfield 12, 3) := by decide +kernel
theorem dX4_count_64 : decode cX4_count 64 = .ok (.invokevirtual 153, 3) := by decide +kernel
theorem dX4_count_67 : decode cX4_count 67 = .ok (.ireturn, 1) := by decide +kernel
theorem dX4_count_68 : decode cX4_count 68 = .ok (.aload_n 0, 1) := by decide +kernel
theorem dX4_count_69 : decode cX4_count 69 = .ok (.getfield 12, 3) := by decide +kernel
theorem dX4_count_72 : decode cX4_count 72 = .ok (.invokevirtual 102, 3) := by decide +kernel
theorem dX4_count_75 : decode cX4_count 75 = .ok (.ireturn, 1) := by decide +kernel
theorem dX4_count_76 : decode cX4_count 76 = .ok (.aload_n 0, 1) := by decide +kernel
theorem dX4_count_77 : decode cX4_count 77 = .ok (.getfield 12, 3) := by decide +kernel
theorem dX4_count_80 : decode cX4_count 80 = .ok (.invokevirtual 156, 3) := by decide +kernel
theorem dX4_count_83 : decode cX4_count 83 = .ok (.ireturn, 1) := by decide +kernel
theorem dX4_count_84 : decode cX4_count 84 = .ok (.aload_n 0, 1) := by decide +kernel
theorem dX4_count_85 : decode cX4_count 85 = .ok (.getfield 12, 3) := by decide +kernel
theorem dX4_count_88 : decode cX4_count 88 = .ok (.invokevirtual 159, 3) := by decide +kernel
theorem dX4_count_91 : decode cX4_count 91 = .ok (.ireturn, 1) := by decide +kernel
theorem dX4_count_92 : decode cX4_count 92 = .ok (.aload_n 0, 1) := by decide +kernel
theorem dX4_count_93 : decode cX4_count 93 = .ok (.getfield 21, 3) := by decide +kernel
theorem dX4_count_96 : decode cX4_count 96 = .ok (.invokevirtual 92, 3) := by decide +kernel
theorem dX4_count_99 : decode cX4_count 99 = .ok (.ireturn, 1) := by decide +kernel
theorem dX4_count_100 : decode cX4_count 100 = .ok (.aload_n 0, 1) := by decide +kernel
theorem dX4_count_101 : decode cX4_count 101 = .ok (.getfield 70, 3) := by decide +kernel
theorem dX4_count_104 : decode cX4_count 104 = .ok (.ireturn, 1) := by decide +kernel
theorem dX4_count_105 : decode cX4_count 105 = .ok (.iconst (-1), 1) := by decide +kernel
theorem dX4_count_106 : decode cX4_count 106 = .ok (.ireturn, 1) := by decide +kernel
theorem dX4_holder_0 : decode cX4_holder 0 = .ok (.aload_n 0, 1) := by decide +kernel
theorem dX4_holder_1 : decode cX4_holder 1 = .ok (.getfield 32, 3) := by decide +kernel
theorem dX4_holder_4 : decode cX4_holder 4 = .ok (.ifCond .eq 8, 3) := by decide +kernel
theorem dX4_holder_7 : decode cX4_holder 7 = .ok (.bipush (-3), 2) := by decide +kernel
theorem dX4_holder_9 : decode cX4_holder 9 = .ok (.goto 11, 3) := by decide +kernel
theorem dX4_holder_12 : decode cX4_holder 12 = .ok (.aload_n 0, 1) := by decide +kernel
theorem dX4_holder_13 : decode cX4_holder 13 = .ok (.getfield 21, 3) := by decide +kernel
theorem dX4_holder_16 : decode cX4_holder 16 = .ok (.iload_n 1, 1) := by decide +kernel
theorem dX4_holder_17 : decode cX4_holder 17 = .ok (.invokevirtual 50, 3) := by decide +kernel
theorem dX4_holder_20 : decode cX4_holder 20 = .ok (.ireturn, 1) := by decide +kernel
theorem dX4_format_0 : decode cX4_format 0 = .ok (.aload_n 0, 1) := by decide +kernel
theorem dX4_format_1 : decode cX4_format 1 = .ok (.getfield 32, 3) := by decide +kernel
theorem dX4_format_4 : decode cX4_format 4 = .ok (.ifCond .eq 7, 3) := by decide +kernel
theorem dX4_format_7 : decode cX4_format 7 = .ok (.iconst 0, 1) := by decide +kernel
theorem dX4_format_8 : decode cX4_format 8 = .ok (.goto 7, 3) := by decide +kernel
theorem dX4_format_11 : decode cX4_format 11 = .ok (.aload_n 0, 1) := by decide +kernel
theorem dX4_format_12 : decode cX4_format 12 = .ok (.getfield 70, 3) := by decide +kernel
theorem dX4_format_15 : decode cX4_format 15 = .ok (.istore_n 1, 1) := by decide +kernel
theorem dX4_format_16 : decode cX4_format 16 = .ok (.aload_n 0, 1) := by decide +kernel
theorem dX4_format_17 : decode cX4_format 17 = .ok (.getfield 12, 3) := by decide +kernel
theorem dX4_format_20 : decode cX4_format 20 = .ok (.invokevirtual 162, 3) := by decide +kernel
theorem dX4_format_23 : decode cX4_format 23 = .ok (.aload_n 0, 1) := by decide +kernel
theorem dX4_format_24 : decode cX4_format 24 = .ok (.getfield 21, 3) := by decide +kernel
theorem dX4_format_27 : decode cX4_format 27 = .ok (.invokevirtual 109, 3) := by decide +kernel
theorem dX4_format_30 : decode cX4_format 30 = .ok (.aload_n 0, 1) := by decide +kernel
theorem dX4_format_31 : decode cX4_format 31 = .ok (.iconst 0, 1) := by decide +kernel
theorem dX4_format_32 : decode cX4_format 32 = .ok (.putfield 70, 3) := by decide +kernel
theorem dX4_format_35 : decode cX4_format 35 = .ok (.aload_n 0, 1) := by decide +kernel
theorem dX4_format_36 : decode cX4_format 36 = .ok (.iconst 0, 1) := by decide +kernel
theorem dX4_format_37 : decode cX4_format 37 = .ok (.putfield 32, 3) := by decide +kernel
theorem dX4_format_40 : decode cX4_format 40 = .ok (.iload_n 1, 1) := by decide +kernel
theorem dX4_format_41 : decode cX4_format 41 = .ok (.ireturn, 1) := by decide +kernel
theorem dX4_endTransaction_0 : decode cX4_endTransaction 0 = .ok (.aload_n 0, 1) := by decide +kernel
theorem dX4_endTransaction_1 : decode cX4_endTransaction 1 = .ok (.getfield 32, 3) := by decide +kernel
theorem dX4_endTransaction_4 : decode cX4_endTransaction 4 = .ok (.ifCond .eq 6, 3) := by decide +kernel
theorem dX4_endTransaction_7 : decode cX4_endTransaction 7 = .ok (.bipush (-3), 2) := by decide +kernel
theorem dX4_endTransaction_9 : decode cX4_endTransaction 9 = .ok (.ireturn, 1) := by decide +kernel
theorem dX4_endTransaction_10 : decode cX4_endTransaction 10 = .ok (.aload_n 0, 1) := by decide +kernel
theorem dX4_endTransaction_11 : decode cX4_endTransaction 11 = .ok (.getfield 21, 3) := by decide +kernel
theorem dX4_endTransaction_14 : decode cX4_endTransaction 14 = .ok (.iload_n 1, 1) := by decide +kernel
theorem dX4_endTransaction_15 : decode cX4_endTransaction 15 = .ok (.invokevirtual 40, 3) := by decide +kernel
theorem dX4_endTransaction_18 : decode cX4_endTransaction 18 = .ok (.ifCond .ne 5, 3) := by decide +kernel
theorem dX4_endTransaction_21 : decode cX4_endTransaction 21 = .ok (.iconst (-1), 1) := by decide +kernel
theorem dX4_endTransaction_22 : decode cX4_endTransaction 22 = .ok (.ireturn, 1) := by decide +kernel
theorem dX4_endTransaction_23 : decode cX4_endTransaction 23 = .ok (.aload_n 0, 1) := by decide +kernel
theorem dX4_endTransaction_24 : decode cX4_endTransaction 24 = .ok (.getfield 12, 3) := by decide +kernel
theorem dX4_endTransaction_27 : decode cX4_endTransaction 27 = .ok (.invokevirtual 54, 3) := by decide +kernel
theorem dX4_endTransaction_30 : decode cX4_endTransaction 30 = .ok (.ifCond .ne 6, 3) := by decide +kernel
theorem dX4_endTransaction_33 : decode cX4_endTransaction 33 = .ok (.bipush (-2), 2) := by decide +kernel
theorem dX4_endTransaction_35 : decode cX4_endTransaction 35 = .ok (.ireturn, 1) := by decide +kernel
theorem dX4_endTransaction_36 : decode cX4_endTransaction 36 = .ok (.aload_n 0, 1) := by decide +kernel
theorem dX4_endTransaction_37 : decode cX4_endTransaction 37 = .ok (.getfield 12, 3) := by decide +kernel
theorem dX4_endTransaction_40 : decode cX4_endTransaction 40 = .ok (.iload_n 1, 1) := by decide +kernel
theorem dX4_endTransaction_41 : decode cX4_endTransaction 41 = .ok (.iload_n 2, 1) := by decide +kernel
theorem dX4_endTransaction_42 : decode cX4_endTransaction 42 = .ok (.iconst 0, 1) := by decide +kernel
theorem dX4_endTransaction_43 : decode cX4_endTransaction 43 = .ok (.iconst 0, 1) := by decide +kernel
theorem dX4_endTransaction_44 : decode cX4_endTransaction 44 = .ok (.invokevirtual 62, 3) := by decide +kernel
theorem dX4_endTransaction_47 : decode cX4_endTransaction 47 = .ok (.aload_n 0, 1) := by decide +kernel
theorem dX4_endTransaction_48 : decode cX4_endTransaction 48 = .ok (.getfield 21, 3) := by decide +kernel
theorem dX4_endTransaction_51 : decode cX4_endTransaction 51 = .ok (.iload_n 1, 1) := by decide +kernel
theorem dX4_endTransaction_52 : decode cX4_endTransaction 52 = .ok (.iload_n 2, 1) := by decide +kernel
theorem dX4_endTransaction_53 : decode cX4_endTransaction 53 = .ok (.iconst 2, 1) := by decide +kernel
theorem dX4_endTransaction_54 : decode cX4_endTransaction 54 = .ok (.if_icmp .ne 7, 3) := by decide +kernel
theorem dX4_endTransaction_57 : decode cX4_endTransaction 57 = .ok (.iconst 1, 1) := by decide +kernel
theorem dX4_endTransaction_58 : decode cX4_endTransaction 58 = .ok (.goto 4, 3) := by decide +kernel
theorem dX4_endTransaction_61 : decode cX4_endTransaction 61 = .ok (.iconst 0, 1) := by decide +kernel
theorem dX4_endTransaction_62 : decode cX4_endTransaction 62 = .ok (.invokevirtual 165, 3) := by decide +kernel
theorem dX4_endTransaction_65 : decode cX4_endTransaction 65 = .ok (.ireturn, 1) := by decide +kernel
theorem dX4_undoAllOpen_0 : decode cX4_undoAllOpen 0 = .ok (.iconst 0, 1) := by decide +kernel
theorem dX4_undoAllOpen_1 : decode cX4_undoAllOpen 1 = .ok (.istore_n 1, 1) := by decide +kernel
theorem dX4_undoAllOpen_2 : decode cX4_undoAllOpen 2 = .ok (.iconst 0, 1) := by decide +kernel
theorem dX4_undoAllOpen_3 : decode cX4_undoAllOpen 3 = .ok (.istore_n 2, 1) := by decide +kernel
theorem dX4_undoAllOpen_4 : decode cX4_undoAllOpen 4 = .ok (.iload_n 2, 1) := by decide +kernel
theorem dX4_undoAllOpen_5 : decode cX4_undoAllOpen 5 = .ok (.iconst 3, 1) := by decide +kernel
theorem dX4_undoAllOpen_6 : decode cX4_undoAllOpen 6 = .ok (.if_icmp .ge 44, 3) := by decide +kernel
theorem dX4_undoAllOpen_9 : decode cX4_undoAllOpen 9 = .ok (.aload_n 0, 1) := by decide +kernel
theorem dX4_undoAllOpen_10 : decode cX4_undoAllOpen 10 = .ok (.getfield 21, 3) := by decide +kernel
theorem dX4_undoAllOpen_13 : decode cX4_undoAllOpen 13 = .ok (.iload_n 2, 1) := by decide +kernel
theorem dX4_undoAllOpen_14 : decode cX4_undoAllOpen 14 = .ok (.invokevirtual 40, 3) := by decide +kernel
theorem dX4_undoAllOpen_17 : decode cX4_undoAllOpen 17 = .ok (.ifCond .eq 27, 3) := by decide +kernel
theorem dX4_undoAllOpen_20 : decode cX4_undoAllOpen 20 = .ok (.aload_n 0, 1) := by decide +kernel
theorem dX4_undoAllOpen_21 : decode cX4_undoAllOpen 21 = .ok (.getfield 12, 3) := by decide +kernel
theorem dX4_undoAllOpen_24 : decode cX4_undoAllOpen 24 = .ok (.iload_n 2, 1) := by decide +kernel
theorem dX4_undoAllOpen_25 : decode cX4_undoAllOpen 25 = .ok (.iconst 3, 1) := by decide +kernel
theorem dX4_undoAllOpen_26 : decode cX4_undoAllOpen 26 = .ok (.iconst 0, 1) := by decide +kernel
theorem dX4_undoAllOpen_27 : decode cX4_undoAllOpen 27 = .ok (.iconst 0, 1) := by decide +kernel
theorem dX4_undoAllOpen_28 : decode cX4_undoAllOpen 28 = .ok (.invokevirtual 62, 3) := by decide +kernel
theorem dX4_undoAllOpen_31 : decode cX4_undoAllOpen 31 = .ok (.aload_n 0, 1) := by decide +kernel
theorem dX4_undoAllOpen_32 : decode cX4_undoAllOpen 32 = .ok (.getfield 21, 3) := by decide +kernel
theorem dX4_undoAllOpen_35 : decode cX4_undoAllOpen 35 = .ok (.iload_n 2, 1) := by decide +kernel
theorem dX4_undoAllOpen_36 : decode cX4_undoAllOpen 36 = .ok (.iconst 0, 1) := by decide +kernel
theorem dX4_undoAllOpen_37 : decode cX4_undoAllOpen 37 = .ok (.invokevirtual 165, 3) := by decide +kernel
theorem dX4_undoAllOpen_40 : decode cX4_undoAllOpen 40 = .ok (.pop, 1) := by decide +kernel
theorem dX4_undoAllOpen_41 : decode cX4_undoAllOpen 41 = .ok (.iinc 1 1, 3) := by decide +kernel
theorem dX4_undoAllOpen_44 : decode cX4_undoAllOpen 44 = .ok (.iinc 2 1, 3) := by decide +kernel
theorem dX4_undoAllOpen_47 : decode cX4_undoAllOpen 47 = .ok (.goto (-43), 3) := by decide +kernel
theorem dX4_undoAllOpen_50 : decode cX4_undoAllOpen 50 = .ok (.iload_n 1, 1) := by decide +kernel
theorem dX4_undoAllOpen_51 : decode cX4_undoAllOpen 51 = .ok (.ireturn, 1) := by decide +kernel
theorem dX4_isTransaction_0 : decode cX4_isTransaction 0 = .ok (.iload_n 0, 1) := by decide +kernel
theorem dX4_isTransaction_1 : decode cX4_isTransaction 1 = .ok (.ifCond .lt 12, 3) := by decide +kernel
theorem dX4_isTransaction_4 : decode cX4_isTransaction 4 = .ok (.iload_n 0, 1) := by decide +kernel
theorem dX4_isTransaction_5 : decode cX4_isTransaction 5 = .ok (.iconst 3, 1) := by decide +kernel
theorem dX4_isTransaction_6 : decode cX4_isTransaction 6 = .ok (.if_icmp .ge 7, 3) := by decide +kernel
theorem dX4_isTransaction_9 : decode cX4_isTransaction 9 = .ok (.iconst 1, 1) := by decide +kernel
theorem dX4_isTransaction_10 : decode cX4_isTransaction 10 = .ok (.goto 4, 3) := by decide +kernel
theorem dX4_isTransaction_13 : decode cX4_isTransaction 13 = .ok (.iconst 0, 1) := by decide +kernel
theorem dX4_isTransaction_14 : decode cX4_isTransaction 14 = .ok (.ireturn, 1) := by decide +kernel
theorem dX4_isKey_0 : decode cX4_isKey 0 = .ok (.iload_n 0, 1) := by decide +kernel
theorem dX4_isKey_1 : decode cX4_isKey 1 = .ok (.ifCond .lt 13, 3) := by decide +kernel
theorem dX4_isKey_4 : decode cX4_isKey 4 = .ok (.iload_n 0, 1) := by decide +kernel
theorem dX4_isKey_5 : decode cX4_isKey 5 = .ok (.bipush 32, 2) := by decide +kernel
theorem dX4_isKey_7 : decode cX4_isKey 7 = .ok (.if_icmp .ge 7, 3) := by decide +kernel
theorem dX4_isKey_10 : decode cX4_isKey 10 = .ok (.iconst 1, 1) := by decide +kernel
theorem dX4_isKey_11 : decode cX4_isKey 11 = .ok (.goto 4, 3) := by decide +kernel
theorem dX4_isKey_14 : decode cX4_isKey 14 = .ok (.iconst 0, 1) := by decide +kernel
theorem dX4_isKey_15 : decode cX4_isKey 15 = .ok (.ireturn, 1) := by decide +kernel
theorem dX4_isValue_0 : decode cX4_isValue 0 = .ok (.iload_n 0, 1) := by decide +kernel
theorem dX4_isValue_1 : decode cX4_isValue 1 = .ok (.ifCond .lt 13, 3) := by decide +kernel
theorem dX4_isValue_4 : decode cX4_isValue 4 = .ok (.iload_n 0, 1) := by decide +kernel
theorem dX4_isValue_5 : decode cX4_isValue 5 = .ok (.ldc 169, 2) := by decide +kernel
theorem dX4_isValue_7 : decode cX4_isValue 7 = .ok (.if_icmp .gt 7, 3) := by decide +kernel
theorem dX4_isValue_10 : decode cX4_isValue 10 = .ok (.iconst 1, 1) := by decide +kernel
theorem dX4_isValue_11 : decode cX4_isValue 11 = .ok (.goto 4, 3) := by decide +kernel
theorem dX4_isValue_14 : decode cX4_isValue 14 = .ok (.iconst 0, 1) := by decide +kernel
theorem dX4_isValue_15 : decode cX4_isValue 15 = .ok (.ireturn, 1) := by decide +kernel
end
section
theorem dX5_init_0 : decode cX5_init 0 = .ok (.aload_n 0, 1) := by decide +kernel
theorem dX5_init_1 : decode cX5_init 1 = .ok (.invokespecial 1, 3) := by decide +kernel
theorem dX5_init_4 : decode cX5_init 4 = .ok (.aload_n 0, 1) := by decide +kernel
theorem dX5_init_5 : decode cX5_init 5 = .ok (.sipush 2048, 3) := by decide +kernel
theorem dX5_init_8 : decode cX5_init 8 = .ok (.newarray .byte, 2) := by decide +kernel
theorem dX5_init_10 : decode cX5_init 10 = .ok (.putfield 7, 3) := by decide +kernel
theorem dX5_init_13 : decode cX5_init 13 = .ok (.aload_n 0, 1) := by decide +kernel
theorem dX5_init_14 : decode cX5_init 14 = .ok (.bipush 64, 2) := by decide +kernel
theorem dX5_init_16 : decode cX5_init 16 = .ok (.newarray .int, 2) := by decide +kernel
theorem dX5_init_18 : decode cX5_init 18 = .ok (.putfield 13, 3) := by decide +kernel
theorem dX5_init_21 : decode cX5_init 21 = .ok (.aload_n 0, 1) := by decide +kernel
theorem dX5_init_22 : decode cX5_init 22 = .ok (.sipush 2048, 3) := by decide +kernel
theorem dX5_init_25 : decode cX5_init 25 = .ok (.newarray .byte, 2) := by decide +kernel
theorem dX5_init_27 : decode cX5_init 27 = .ok (.putfield 17, 3) := by decide +kernel
theorem dX5_init_30 : decode cX5_init 30 = .ok (.aload_n 0, 1) := by decide +kernel
theorem dX5_init_31 : decode cX5_init 31 = .ok (.iconst 4, 1) := by decide +kernel
theorem dX5_init_32 : decode cX5_init 32 = .ok (.newarray .int, 2) := by decide +kernel
theorem dX5_init_34 : decode cX5_init 34 = .ok (.putfield 20, 3) := by decide +kernel
theorem dX5_init_37 : decode cX5_init 37 = .ok (.aload_n 0, 1) := by decide +kernel
theorem dX5_init_38 : decode cX5_init 38 = .ok (.iconst 4, 1) := by decide +kernel
theorem dX5_init_39 : decode cX5_init 39 = .ok (.newarray .int, 2) := by decide +kernel
theorem dX5_init_41 : decode cX5_init 41 = .ok (.putfield 23, 3) := by decide +kernel
theorem dX5_init_44 : decode cX5_init 44 = .ok (.aload_n 0, 1) := by decide +kernel
theorem dX5_init_45 : decode cX5_init 45 = .ok (.iconst 4, 1) := by decide +kernel
theorem dX5_init_46 : decode cX5_init 46 = .ok (.newarray .int, 2) := by decide +kernel
theorem dX5_init_48 : decode cX5_init 48 = .ok (.putfield 26, 3) := by decide +kernel
theorem dX5_init_51 : decode cX5_init 51 = .ok (.aload_n 0, 1) := by decide +kernel
theorem dX5_init_52 : decode cX5_init 52 = .ok (.bipush 32, 2) := by decide +kernel
theorem dX5_init_54 : decode cX5_init 54 = .ok (.newarray .int, 2) := by decide +kernel
theorem dX5_init_56 : decode cX5_init 56 = .ok (.putfield 29, 3) := by decide +kernel
theorem dX5_init_59 : decode cX5_init 59 = .ok (.aload_n 0, 1) := by decide +kernel
theorem dX5_init_60 : decode cX5_init 60 = .ok (.iconst 3, 1) := by decide +kernel
theorem dX5_init_61 : decode cX5_init 61 = .ok (.newarray .boolean, 2) := by decide +kernel
theorem dX5_init_63 : decode cX5_init 63 = .ok (.putfield 32, 3) := by decide +kernel
theorem dX5_init_66 : decode cX5_init 66 = .ok (.aload_n 0, 1) := by decide +kernel
theorem dX5_init_67 : decode cX5_init 67 = .ok (.bipush 32, 2) := by decide +kernel
theorem dX5_init_69 : decode cX5_init 69 = .ok (.newarray .int, 2) := by decide +kernel
theorem dX5_init_71 : decode cX5_init 71 = .ok (.putfield 36, 3) := by decide +kernel
theorem dX5_init_74 : decode cX5_init 74 = .ok (.aload_n 0, 1) := by decide +kernel
theorem dX5_init_75 : decode cX5_init 75 = .ok (.bipush 32, 2) := by decide +kernel
theorem dX5_init_77 : decode cX5_init 77 = .ok (.newarray .int, 2) := by decide +kernel
theorem dX5_init_79 : decode cX5_init 79 = .ok (.putfield 39, 3) := by decide +kernel
theorem dX5_init_82 : decode cX5_init 82 = .ok (.aload_n 0, 1) := by decide +kernel
theorem dX5_init_83 : decode cX5_init 83 = .ok (.bipush 32, 2) := by decide +kernel
theorem dX5_init_85 : decode cX5_init 85 = .ok (.newarray .byte, 2) := by decide +kernel
theorem dX5_init_87 : decode cX5_init 87 = .ok (.putfield 42, 3) := by decide +kernel
theorem dX5_init_90 : decode cX5_init 90 = .ok (.aload_n 0, 1) := by decide +kernel
theorem dX5_init_91 : decode cX5_init 91 = .ok (.iload_n 1, 1) := by decide +kernel
theorem dX5_init_92 : decode cX5_init 92 = .ok (.bipush 16, 2) := by decide +kernel
theorem dX5_init_94 : decode cX5_init 94 = .ok (.if_icmp .ge 8, 3) := by decide +kernel
theorem dX5_init_97 : decode cX5_init 97 = .ok (.bipush 16, 2) := by decide +kernel
theorem dX5_init_99 : decode cX5_init 99 = .ok (.goto 15, 3) := by decide +kernel
theorem dX5_init_102 : decode cX5_init 102 = .ok (.iload_n 1, 1) := by decide +kernel
theorem dX5_init_103 : decode cX5_init 103 = .ok (.bipush 64, 2) := by decide +kernel
theorem dX5_init_105 : decode cX5_init 105 = .ok (.if_icmp .le 8, 3) := by decide +kernel
theorem dX5_init_108 : decode cX5_init 108 = .ok (.bipush 64, 2) := by decide +kernel
theorem dX5_init_110 : decode cX5_init 110 = .ok (.goto 4, 3) := by decide +kernel
theorem dX5_init_113 : decode cX5_init 113 = .ok (.iload_n 1, 1) := by decide +kernel
theorem dX5_init_114 : decode cX5_init 114 = .ok (.putfield 45, 3) := by decide +kernel
theorem dX5_init_117 : decode cX5_init 117 = .ok (.aload_n 0, 1) := by decide +kernel
theorem dX5_init_118 : decode cX5_init 118 = .ok (.invokevirtual 49, 3) := by decide +kernel
theorem dX5_init_121 : decode cX5_init 121 = .ok (.return_, 1) := by decide +kernel
theorem dX5_forget_0 : decode cX5_forget 0 = .ok (.aload_n 0, 1) := by decide +kernel
theorem dX5_forget_1 : decode cX5_forget 1 = .ok (.iconst 0, 1) := by decide +kernel
theorem dX5_forget_2 : decode cX5_forget 2 = .ok (.putfield 52, 3) := by decide +kernel
theorem dX5_forget_5 : decode cX5_forget 5 = .ok (.aload_n 0, 1) := by decide +kernel
theorem dX5_forget_6 : decode cX5_forget 6 = .ok (.iconst 0, 1) := by decide +kernel
theorem dX5_forget_7 : decode cX5_forget 7 = .ok (.putfield 55, 3) := by decide +kernel
theorem dX5_forget_10 : decode cX5_forget 10 = .ok (.aload_n 0, 1) := by decide +kernel
theorem dX5_forget_11 : decode cX5_forget 11 = .ok (.iconst 0, 1) := by decide +kernel
theorem dX5_forget_12 : decode cX5_forget 12 = .ok (.putfield 58, 3) := by decide +kernel
theorem dX5_forget_15 : decode cX5_forget 15 = .ok (.iconst 0, 1) := by decide +kernel
theorem dX5_forget_16 : decode cX5_forget 16 = .ok (.istore_n 1, 1) := by decide +kernel
theorem dX5_forget_17 : decode cX5_forget 17 = .ok (.iload_n 1, 1) := by decide +kernel
theorem dX5_forget_18 : decode cX5_forget 18 = .ok (.iconst 3, 1) := by decide +kernel
theorem dX5_forget_19 : decode cX5_forget 19 = .ok (.if_icmp .ge 16, 3) := by decide +kernel
theorem dX5_forget_22 : decode cX5_forget 22 = .ok (.aload_n 0, 1) := by decide +kernel
theorem dX5_forget_23 : decode cX5_forget 23 = .ok (.getfield 32, 3) := by decide +kernel
theorem dX5_forget_26 : decode cX5_forget 26 = .ok (.iload_n 1, 1) := by decide +kernel
theorem dX5_forget_27 : decode cX5_forget 27 = .ok (.iconst 0, 1) := by decide +kernel
theorem dX5_forget_28 : decode cX5_forget 28 = .ok (.bastore, 1) := by decide +kernel
theorem dX5_forget_29 : decode cX5_forget 29 = .ok (.iinc 1 1, 3) := by decide +kernel
theorem dX5_forget_32 : decode cX5_forget 32 = .ok (.goto (-15), 3) := by decide +kernel
theorem dX5_forget_35 : decode cX5_forget 35 = .ok (.iconst 0, 1) := by decide +kernel
theorem dX5_forget_36 : decode cX5_forget 36 = .ok (.istore_n 1, 1) := by decide +kernel
theorem dX5_forget_37 : decode cX5_forget 37 = .ok (.iload_n 1, 1) := by decide +kernel
theorem dX5_forget_38 : decode cX5_forget 38 = .ok (.bipush 32, 2) := by decide +kernel
theorem dX5_forget_40 : decode cX5_forget 40 = .ok (.if_icmp .ge 23, 3) := by decide +kernel
theorem dX5_forget_43 : decode cX5_forget 43 = .ok (.aload_n 0, 1) := by decide +kernel
theorem dX5_forget_44 : decode cX5_forget 44 = .ok (.getfield 29, 3) := by decide +kernel
theorem dX5_forget_47 : decode cX5_forget 47 = .ok (.iload_n 1, 1) := by decide +kernel
theorem dX5_forget_48 : decode cX5_forget 48 = .ok (.iconst (-1), 1) := by decide +kernel
theorem dX5_forget_49 : decode cX5_forget 49 = .ok (.iastore, 1) := by decide +kernel
theorem dX5_forget_50 : decode cX5_forget 50 = .ok (.aload_n 0, 1) := by decide +kernel
theorem dX5_forget_51 : decode cX5_forget 51 = .ok (.getfield 36, 3) := by decide +kernel
theorem dX5_forget_54 : decode cX5_forget 54 = .ok (.iload_n 1, 1) := by decide +kernel
theorem dX5_forget_55 : decode cX5_forget 55 = .ok (.iconst (-1), 1) := by decide +kernel
theorem dX5_forget_56 : decode cX5_forget 56 = .ok (.iastore, 1) := by decide +kernel
theorem dX5_forget_57 : decode cX5_forget 57 = .ok (.iinc 1 1, 3) := by decide +kernel
theorem dX5_forget_60 : decode cX5_forget 60 = .ok (.goto (-23), 3) := by decide +kernel
theorem dX5_forget_63 : decode cX5_forget 63 = .ok (.return_, 1) := by decide +kernel
theorem dX5_begin0_0 : decode cX5_begin0 0 = .ok (.aload_n 0, 1) := by decide +kernel
theorem dX5_begin0_1 : decode cX5_begin0 1 = .ok (.invokevirtual 61, 3) := by decide +kernel
theorem dX5_begin0_4 : decode cX5_begin0 4 = .ok (.aload_n 0, 1) := by decide +kernel
theorem dX5_begin0_5 : decode cX5_begin0 5 = .ok (.iconst 0, 1) := by decide +kernel
theorem dX5_begin0_6 : decode cX5_begin0 6 = .ok (.putfield 64, 3) := by decide +kernel
theorem dX5_begin0_9 : decode cX5_begin0 9 = .ok (.iconst 0, 1) := by decide +kernel
theorem dX5_begin0_10 : decode cX5_begin0 10 = .ok (.istore_n 1, 1) := by decide +kernel
theorem dX5_begin0_11 : decode cX5_begin0 11 = .ok (.iload_n 1, 1) := by decide +kernel
theorem dX5_begin0_12 : decode cX5_begin0 12 = .ok (.bipush 32, 2) := by decide +kernel
theorem dX5_begin0_14 : decode cX5_begin0 14 = .ok (.aload_n 0, 1) := by decide +kernel
theorem dX5_begin0_15 : decode cX5_begin0 15 = .ok (.getfield 45, 3) := by decide +kernel
theorem dX5_begin0_18 : decode cX5_begin0 18 = .ok (.imul, 1) := by decide +kernel
theorem dX5_begin0_19 : decode cX5_begin0 19 = .ok (.if_icmp .ge 16, 3) := by decide +kernel
theorem dX5_begin0_22 : decode cX5_begin0 22 = .ok (.aload_n 0, 1) := by decide +kernel
theorem dX5_begin0_23 : decode cX5_begin0 23 = .ok (.getfield 7, 3) := by decide +kernel
theorem dX5_begin0_26 : decode cX5_begin0 26 = .ok (.iload_n 1, 1) := by decide +kernel
theorem dX5_begin0_27 : decode cX5_begin0 27 = .ok (.iconst 0, 1) := by decide +kernel
theorem dX5_begin0_28 : decode cX5_begin0 28 = .ok (.bastore, 1) := by decide +kernel
theorem dX5_begin0_29 : decode cX5_begin0 29 = .ok (.iinc 1 1, 3) := by decide +kernel
theorem dX5_begin0_32 : decode cX5_begin0 32 = .ok (.goto (-21), 3) := by decide +kernel
theorem dX5_begin0_35 : decode cX5_begin0 35 = .ok (.aload_n 0, 1) := by decide +kernel
theorem dX5_begin0_36 : decode cX5_begin0 36 = .ok (.iconst 0, 1) := by decide +kernel
theorem dX5_begin0_37 : decode cX5_begin0 37 = .ok (.putfield 68, 3) := by decide +kernel
theorem dX5_begin0_40 : decode cX5_begin0 40 = .ok (.aload_n 0, 1) := by decide +kernel
theorem dX5_begin0_41 : decode cX5_begin0 41 = .ok (.iconst 1, 1) := by decide +kernel
theorem dX5_begin0_42 : decode cX5_begin0 42 = .ok (.putfield 71, 3) := by decide +kernel
theorem dX5_begin0_45 : decode cX5_begin0 45 = .ok (.aload_n 0, 1) := by decide +kernel
theorem dX5_begin0_46 : decode cX5_begin0 46 = .ok (.iconst 1, 1) := by decide +kernel
theorem dX5_begin0_47 : decode cX5_begin0 47 = .ok (.putfield 74, 3) := by decide +kernel
theorem dX5_begin0_50 : decode cX5_begin0 50 = .ok (.aload_n 0, 1) := by decide +kernel
theorem dX5_begin0_51 : decode cX5_begin0 51 = .ok (.iconst 1, 1) := by decide +kernel
theorem dX5_begin0_52 : decode cX5_begin0 52 = .ok (.putfield 77, 3) := by decide +kernel
theorem dX5_begin0_55 : decode cX5_begin0 55 = .ok (.aload_n 0, 1) := by decide +kernel
theorem dX5_begin0_56 : decode cX5_begin0 56 = .ok (.iconst 2, 1) := by decide +kernel
theorem dX5_begin0_57 : decode cX5_begin0 57 = .ok (.iconst 1, 1) := by decide +kernel
theorem dX5_begin0_58 : decode cX5_begin0 58 = .ok (.invokevirtual 80, 3) := by decide +kernel
theorem dX5_begin0_61 : decode cX5_begin0 61 = .ok (.aload_n 0, 1) := by decide +kernel
theorem dX5_begin0_62 : decode cX5_begin0 62 = .ok (.getfield 42, 3) := by decide +kernel
theorem dX5_begin0_65 : decode cX5_begin0 65 = .ok (.bipush 27, 2) := by decide +kernel
theorem dX5_begin0_67 : decode cX5_begin0 67 = .ok (.iconst 1, 1) := by decide +kernel
theorem dX5_begin0_68 : decode cX5_begin0 68 = .ok (.bastore, 1) := by decide +kernel
theorem dX5_begin0_69 : decode cX5_begin0 69 = .ok (.aload_n 0, 1) := by decide +kernel
theorem dX5_begin0_70 : decode cX5_begin0 70 = .ok (.iconst 0, 1) := by decide +kernel
theorem dX5_begin0_71 : decode cX5_begin0 71 = .ok (.invokevirtual 84, 3) := by decide +kernel
theorem dX5_begin0_74 : decode cX5_begin0 74 = .ok (.iconst 0, 1) := by decide +kernel
theorem dX5_begin0_75 : decode cX5_begin0 75 = .ok (.istore_n 1, 1) := by decide +kernel
theorem dX5_begin0_76 : decode cX5_begin0 76 = .ok (.iload_n 1, 1) := by decide +kernel
theorem dX5_begin0_77 : decode cX5_begin0 77 = .ok (.bipush 32, 2) := by decide +kernel
theorem dX5_begin0_79 : decode cX5_begin0 79 = .ok (.if_icmp .ge 21, 3) := by decide +kernel
theorem dX5_begin0_82 : decode cX5_begin0 82 = .ok (.aload_n 0, 1) := by decide +kernel
theorem dX5_begin0_83 : decode cX5_begin0 83 = .ok (.getfield 7, 3) := by decide +kernel
theorem dX5_begin0_86 : decode cX5_begin0 86 = .ok (.iload_n 1, 1) := by decide +kernel
theorem dX5_begin0_87 : decode cX5_begin0 87 = .ok (.aload_n 0, 1) := by decide +kernel
theorem dX5_begin0_88 : decode cX5_begin0 88 = .ok (.getfield 42, 3) := by decide +kernel
theorem dX5_begin0_91 : decode cX5_begin0 91 = .ok (.iload_n 1, 1) := by decide +kernel
theorem dX5_begin0_92 : decode cX5_begin0 92 = .ok (.baload, 1) := by decide +kernel
theorem dX5_begin0_93 : decode cX5_begin0 93 = .ok (.bastore, 1) := by decide +kernel
theorem dX5_begin0_94 : decode cX5_begin0 94 = .ok (.iinc 1 1, 3) := by decide +kernel
theorem dX5_begin0_97 : decode cX5_begin0 97 = .ok (.goto (-21), 3) := by decide +kernel
theorem dX5_begin0_100 : decode cX5_begin0 100 = .ok (.return_, 1) := by decide +kernel
theorem dX5_isIn_0 : decode cX5_isIn 0 = .ok (.iload_n 0, 1) := by decide +kernel
theorem dX5_isIn_1 : decode cX5_isIn 1 = .ok (.iload_n 1, 1) := by decide +kernel
theorem dX5_isIn_2 : decode cX5_isIn 2 = .ok (.if_icmp .lt 12, 3) := by decide +kernel
theorem dX5_isIn_5 : decode cX5_isIn 5 = .ok (.iload_n 0, 1) := by decide +kernel
theorem dX5_isIn_6 : decode cX5_isIn 6 = .ok (.iload_n 2, 1) := by decide +kernel
theorem dX5_isIn_7 : decode cX5_isIn 7 = .ok (.if_icmp .gt 7, 3) := by decide +kernel
theorem dX5_isIn_10 : decode cX5_isIn 10 = .ok (.iconst 1, 1) := by decide +kernel
theorem dX5_isIn_11 : decode cX5_isIn 11 = .ok (.goto 4, 3) := by decide +kernel
theorem dX5_isIn_14 : decode cX5_isIn 14 = .ok (.iconst 0, 1) := by decide +kernel
theorem dX5_isIn_15 : decode cX5_isIn 15 = .ok (.ireturn, 1) := by decide +kernel
theorem dX5_clearRow_0 : decode cX5_clearRow 0 = .ok (.iconst 0, 1) := by decide +kernel
theorem dX5_clearRow_1 : decode cX5_clearRow 1 = .ok (.istore_n 3, 1) := by decide +kernel
theorem dX5_clearRow_2 : decode cX5_clearRow 2 = .ok (.iload_n 3, 1) := by decide +kernel
theorem dX5_clearRow_3 : decode cX5_clearRow 3 = .ok (.bipush 32, 2) := by decide +kernel
theorem dX5_clearRow_5 : decode cX5_clearRow 5 = .ok (.if_icmp .ge 16, 3) := by decide +kernel
theorem dX5_clearRow_8 : decode cX5_clearRow 8 = .ok (.aload_n 0, 1) := by decide +kernel
theorem dX5_clearRow_9 : decode cX5_clearRow 9 = .ok (.getfield 42, 3) := by decide +kernel
theorem dX5_clearRow_12 : decode cX5_clearRow 12 = .ok (.iload_n 3, 1) := by decide +kernel
theorem dX5_clearRow_13 : decode cX5_clearRow 13 = .ok (.iconst 0, 1) := by decide +kernel
theorem dX5_clearRow_14 : decode cX5_clearRow 14 = .ok (.bastore, 1) := by decide +kernel
theorem dX5_clearRow_15 : decode cX5_clearRow 15 = .ok (.iinc 3 1, 3) := by decide +kernel
theorem dX5_clearRow_18 : decode cX5_clearRow 18 = .ok (.goto (-16), 3) := by decide +kernel
theorem dX5_clearRow_21 : decode cX5_clearRow 21 = .ok (.aload_n 0, 1) := by decide +kernel
theorem dX5_clearRow_22 : decode cX5_clearRow 22 = .ok (.getfield 42, 3) := by decide +kernel
theorem dX5_clearRow_25 : decode cX5_clearRow 25 = .ok (.iconst 0, 1) := by decide +kernel
theorem dX5_clearRow_26 : decode cX5_clearRow 26 = .ok (.iload_n 1, 1) := by decide +kernel
theorem dX5_clearRow_27 : decode cX5_clearRow 27 = .ok (.i2b, 1) := by decide +kernel
theorem dX5_clearRow_28 : decode cX5_clearRow 28 = .ok (.bastore, 1) := by decide +kernel
theorem dX5_clearRow_29 : decode cX5_clearRow 29 = .ok (.aload_n 0, 1) := by decide +kernel
theorem dX5_clearRow_30 : decode cX5_clearRow 30 = .ok (.iconst 1, 1) := by decide +kernel
theorem dX5_clearRow_31 : decode cX5_clearRow 31 = .ok (.iload_n 2, 1) := by decide +kernel
theorem dX5_clearRow_32 : decode cX5_clearRow 32 = .ok (.iconst 4, 1) := by decide +kernel
theorem dX5_clearRow_33 : decode cX5_clearRow 33 = .ok (.invokevirtual 88, 3) := by decide +kernel
theorem dX5_clearRow_36 : decode cX5_clearRow 36 = .ok (.return_, 1) := by decide +kernel
theorem dX5_number_0 : decode cX5_number 0 = .ok (.iconst 0, 1) := by decide +kernel
theorem dX5_number_1 : decode cX5_number 1 = .ok (.istore 4, 2) := by decide +kernel
theorem dX5_number_3 : decode cX5_number 3 = .ok (.iload 4, 2) := by decide +kernel
theorem dX5_number_5 : decode cX5_number 5 = .ok (.iload_n 3, 1) := by decide +kernel
theorem dX5_number_6 : decode cX5_number 6 = .ok (.if_icmp .ge 30, 3) := by decide +kernel
theorem dX5_number_9 : decode cX5_number 9 = .ok (.aload_n 0, 1) := by decide +kernel
theorem dX5_number_10 : decode cX5_number 10 = .ok (.getfield 42, 3) := by decide +kernel
theorem dX5_number_13 : decode cX5_number 13 = .ok (.iload_n 1, 1) := by decide +kernel
theorem dX5_number_14 : decode cX5_number 14 = .ok (.iload 4, 2) := by decide +kernel
theorem dX5_number_16 : decode cX5_number 16 = .ok (.iadd, 1) := by decide +kernel
theorem dX5_number_17 : decode cX5_number 17 = .ok (.iload_n 2, 1) := by decide +kernel
theorem dX5_number_18 : decode cX5_number 18 = .ok (.bipush 8, 2) := by decide +kernel
theorem dX5_number_20 : decode cX5_number 20 = .ok (.iload_n 3, 1) := by decide +kernel
theorem dX5_number_21 : decode cX5_number 21 = .ok (.iconst 1, 1) := by decide +kernel
theorem dX5_number_22 : decode cX5_number 22 = .ok (.isub, 1) := by decide +kernel
theorem dX5_number_23 : decode cX5_number 23 = .ok (.iload 4, 2) := by decide +kernel
theorem dX5_number_25 : decode cX5_number 25 = .ok (.isub, 1) := by decide +kernel
theorem dX5_number_26 : decode cX5_number 26 = .ok (.imul, 1) := by decide +kernel
theorem dX5_number_27 : decode cX5_number 27 = .ok (.ishr, 1) := by decide +kernel
theorem dX5_number_28 : decode cX5_number 28 = .ok (.i2b, 1) := by decide +kernel
theorem dX5_number_29 : decode cX5_number 29 = .ok (.bastore, 1) := by decide +kernel
theorem dX5_number_30 : decode cX5_number 30 = .ok (.iinc 4 1, 3) := by decide +kernel
theorem dX5_number_33 : decode cX5_number 33 = .ok (.goto (-30), 3) := by decide +kernel
theorem dX5_number_36 : decode cX5_number 36 = .ok (.return_, 1) := by decide +kernel
theorem dX5_step_0 : decode cX5_step 0 = .ok (.iload_n 0, 1) := by decide +kernel
theorem dX5_step_1 : decode cX5_step 1 = .ok (.iload_n 1, 1) := by decide +kernel
theorem dX5_step_2 : decode cX5_step 2 = .ok (.ixor, 1) := by decide +kernel
theorem dX5_step_3 : decode cX5_step 3 = .ok (.istore_n 2, 1) := by decide +kernel
theorem dX5_step_4 : decode cX5_step 4 = .ok (.iload_n 2, 1) := by decide +kernel
theorem dX5_step_5 : decode cX5_step 5 = .ok (.bipush 11, 2) := by decide +kernel
theorem dX5_step_7 : decode cX5_step 7 = .ok (.ishl, 1) := by decide +kernel
theorem dX5_step_8 : decode cX5_step 8 = .ok (.iload_n 2, 1) := by decide +kernel
theorem dX5_step_9 : decode cX5_step 9 = .ok (.bipush 21, 2) := by decide +kernel
theorem dX5_step_11 : decode cX5_step 11 = .ok (.iushr, 1) := by decide +kernel
theorem dX5_step_12 : decode cX5_step 12 = .ok (.ior, 1) := by decide +kernel
theorem dX5_step_13 : decode cX5_step 13 = .ok (.ldc 92, 2) := by decide +kernel
theorem dX5_step_15 : decode cX5_step 15 = .ok (.imul, 1) := by decide +kernel
theorem dX5_step_16 : decode cX5_step 16 = .ok (.ireturn, 1) := by decide +kernel
theorem dX5_seal_0 : decode cX5_seal 0 = .ok (.iload_n 1, 1) := by decide +kernel
theorem dX5_seal_1 : decode cX5_seal 1 = .ok (.iconst 1, 1) := by decide +kernel
theorem dX5_seal_2 : decode cX5_seal 2 = .ok (.iadd, 1) := by decide +kernel
theorem dX5_seal_3 : decode cX5_seal 3 = .ok (.istore_n 2, 1) := by decide +kernel
theorem dX5_seal_4 : decode cX5_seal 4 = .ok (.iconst 0, 1) := by decide +kernel
theorem dX5_seal_5 : decode cX5_seal 5 = .ok (.istore_n 3, 1) := by decide +kernel
theorem dX5_seal_6 : decode cX5_seal 6 = .ok (.iload_n 3, 1) := by decide +kernel
theorem dX5_seal_7 : decode cX5_seal 7 = .ok (.bipush 28, 2) := by decide +kernel
theorem dX5_seal_9 : decode cX5_seal 9 = .ok (.if_icmp .ge 24, 3) := by decide +kernel
theorem dX5_seal_12 : decode cX5_seal 12 = .ok (.iload_n 2, 1) := by decide +kernel
theorem dX5_seal_13 : decode cX5_seal 13 = .ok (.aload_n 0, 1) := by decide +kernel
theorem dX5_seal_14 : decode cX5_seal 14 = .ok (.getfield 42, 3) := by decide +kernel
theorem dX5_seal_17 : decode cX5_seal 17 = .ok (.iload_n 3, 1) := by decide +kernel
theorem dX5_seal_18 : decode cX5_seal 18 = .ok (.baload, 1) := by decide +kernel
theorem dX5_seal_19 : decode cX5_seal 19 = .ok (.sipush 255, 3) := by decide +kernel
theorem dX5_seal_22 : decode cX5_seal 22 = .ok (.iand, 1) := by decide +kernel
theorem dX5_seal_23 : decode cX5_seal 23 = .ok (.invokestatic 93, 3) := by decide +kernel
theorem dX5_seal_26 : decode cX5_seal 26 = .ok (.istore_n 2, 1) := by decide +kernel
theorem dX5_seal_27 : decode cX5_seal 27 = .ok (.iinc 3 1, 3) := by decide +kernel
theorem dX5_seal_30 : decode cX5_seal 30 = .ok (.goto (-24), 3) := by decide +kernel
theorem dX5_seal_33 : decode cX5_seal 33 = .ok (.aload_n 0, 1) := by decide +kernel
theorem dX5_seal_34 : decode cX5_seal 34 = .ok (.bipush 28, 2) := by decide +kernel
theorem dX5_seal_36 : decode cX5_seal 36 = .ok (.iload_n 2, 1) := by decide +kernel
theorem dX5_seal_37 : decode cX5_seal 37 = .ok (.iconst 4, 1) := by decide +kernel
theorem dX5_seal_38 : decode cX5_seal 38 = .ok (.invokevirtual 88, 3) := by decide +kernel
theorem dX5_seal_41 : decode cX5_seal 41 = .ok (.return_, 1) := by decide +kernel
theorem dX5_needed_0 : decode cX5_needed 0 = .ok (.aload_n 0, 1) := by decide +kernel
theorem dX5_needed_1 : decode cX5_needed 1 = .ok (.getfield 71, 3) := by decide +kernel
theorem dX5_needed_4 : decode cX5_needed 4 = .ok (.aload_n 0, 1) := by decide +kernel
theorem dX5_needed_5 : decode cX5_needed 5 = .ok (.getfield 77, 3) := by decide +kernel
theorem dX5_needed_8 : decode cX5_needed 8 = .ok (.isub, 1) := by decide +kernel
theorem dX5_needed_9 : decode cX5_needed 9 = .ok (.iconst 1, 1) := by decide +kernel
theorem dX5_needed_10 : decode cX5_needed 10 = .ok (.iadd, 1) := by decide +kernel
theorem dX5_needed_11 : decode cX5_needed 11 = .ok (.ireturn, 1) := by decide +kernel
theorem dX5_mayWrite_0 : decode cX5_mayWrite 0 = .ok (.aload_n 0, 1) := by decide +kernel
theorem dX5_mayWrite_1 : decode cX5_mayWrite 1 = .ok (.invokevirtual 97, 3) := by decide +kernel
theorem dX5_mayWrite_4 : decode cX5_mayWrite 4 = .ok (.iload_n 1, 1) := by decide +kernel
theorem dX5_mayWrite_5 : decode cX5_mayWrite 5 = .ok (.iadd, 1) := by decide +kernel
theorem dX5_mayWrite_6 : decode cX5_mayWrite 6 = .ok (.aload_n 0, 1) := by decide +kernel
theorem dX5_mayWrite_7 : decode cX5_mayWrite 7 = .ok (.getfield 45, 3) := by decide +kernel
theorem dX5_mayWrite_10 : decode cX5_mayWrite 10 = .ok (.if_icmp .gt 7, 3) := by decide +kernel
theorem dX5_mayWrite_13 : decode cX5_mayWrite 13 = .ok (.iconst 1, 1) := by decide +kernel
theorem dX5_mayWrite_14 : decode cX5_mayWrite 14 = .ok (.goto 4, 3) := by decide +kernel
theorem dX5_mayWrite_17 : decode cX5_mayWrite 17 = .ok (.iconst 0, 1) := by decide +kernel
theorem dX5_mayWrite_18 : decode cX5_mayWrite 18 = .ok (.ireturn, 1) := by decide +kernel
theorem dX5_write_0 : decode cX5_write 0 = .ok (.aload_n 0, 1) := by decide +kernel
theorem dX5_write_1 : decode cX5_write 1 = .ok (.aload_n 0, 1) := by decide +kernel
theorem dX5_write_2 : decode cX5_write 2 = .ok (.getfield 68, 3) := by decide +kernel
theorem dX5_write_5 : decode cX5_write 5 = .ok (.iconst 1, 1) := by decide +kernel
theorem dX5_write_6 : decode cX5_write 6 = .ok (.iadd, 1) := by decide +kernel
theorem dX5_write_7 : decode cX5_write 7 = .ok (.aload_n 0, 1) := by decide +kernel
theorem dX5_write_8 : decode cX5_write 8 = .ok (.getfield 45, 3) := by decide +kernel
theorem dX5_write_11 : decode cX5_write 11 = .ok (.irem, 1) := by decide +kernel
theorem dX5_write_12 : decode cX5_write 12 = .ok (.putfield 68, 3) := by decide +kernel
theorem dX5_write_15 : decode cX5_write 15 = .ok (.aload_n 0, 1) := by decide +kernel
theorem dX5_write_16 : decode cX5_write 16 = .ok (.aload_n 0, 1) := by decide +kernel
theorem dX5_write_17 : decode cX5_write 17 = .ok (.getfield 68, 3) := by decide +kernel
theorem dX5_write_20 : decode cX5_write 20 = .ok (.invokevirtual 84, 3) := by decide +kernel
theorem dX5_write_23 : decode cX5_write 23 = .ok (.aload_n 0, 1) := by decide +kernel
theorem dX5_write_24 : decode cX5_write 24 = .ok (.getfield 13, 3) := by decide +kernel
theorem dX5_write_27 : decode cX5_write 27 = .ok (.aload_n 0, 1) := by decide +kernel
theorem dX5_write_28 : decode cX5_write 28 = .ok (.getfield 52, 3) := by decide +kernel
theorem dX5_write_31 : decode cX5_write 31 = .ok (.aload_n 0, 1) := by decide +kernel
theorem dX5_write_32 : decode cX5_write 32 = .ok (.getfield 68, 3) := by decide +kernel
theorem dX5_write_35 : decode cX5_write 35 = .ok (.iastore, 1) := by decide +kernel
theorem dX5_write_36 : decode cX5_write 36 = .ok (.iconst 0, 1) := by decide +kernel
theorem dX5_write_37 : decode cX5_write 37 = .ok (.istore_n 1, 1) := by decide +kernel
theorem dX5_write_38 : decode cX5_write 38 = .ok (.iload_n 1, 1) := by decide +kernel
theorem dX5_write_39 : decode cX5_write 39 = .ok (.bipush 32, 2) := by decide +kernel
theorem dX5_write_41 : decode cX5_write 41 = .ok (.if_icmp .ge 29, 3) := by decide +kernel
theorem dX5_write_44 : decode cX5_write 44 = .ok (.aload_n 0, 1) := by decide +kernel
theorem dX5_write_45 : decode cX5_write 45 = .ok (.getfield 17, 3) := by decide +kernel
theorem dX5_write_48 : decode cX5_write 48 = .ok (.bipush 32, 2) := by decide +kernel
theorem dX5_write_50 : decode cX5_write 50 = .ok (.aload_n 0, 1) := by decide +kernel
theorem dX5_write_51 : decode cX5_write 51 = .ok (.getfield 52, 3) := by decide +kernel
theorem dX5_write_54 : decode cX5_write 54 = .ok (.imul, 1) := by decide +kernel
theorem dX5_write_55 : decode cX5_write 55 = .ok (.iload_n 1, 1) := by decide +kernel
theorem dX5_write_56 : decode cX5_write 56 = .ok (.iadd, 1) := by decide +kernel
theorem dX5_write_57 : decode cX5_write 57 = .ok (.aload_n 0, 1) := by decide +kernel
theorem dX5_write_58 : decode cX5_write 58 = .ok (.getfield 42, 3) := by decide +kernel
theorem dX5_write_61 : decode cX5_write 61 = .ok (.iload_n 1, 1) := by decide +kernel
theorem dX5_write_62 : decode cX5_write 62 = .ok (.baload, 1) := by decide +kernel
theorem dX5_write_63 : decode cX5_write 63 = .ok (.bastore, 1) := by decide +kernel
theorem dX5_write_64 : decode cX5_write 64 = .ok (.iinc 1 1, 3) := by decide +kernel
theorem dX5_write_67 : decode cX5_write 67 = .ok (.goto (-29), 3) := by decide +kernel
theorem dX5_write_70 : decode cX5_write 70 = .ok (.aload_n 0, 1) := by decide +kernel
theorem dX5_write_71 : decode cX5_write 71 = .ok (.dup, 1) := by decide +kernel
theorem dX5_write_72 : decode cX5_write 72 = .ok (.getfield 52, 3) := by decide +kernel
theorem dX5_write_75 : decode cX5_write 75 = .ok (.iconst 1, 1) := by decide +kernel
theorem dX5_write_76 : decode cX5_write 76 = .ok (.iadd, 1) := by decide +kernel
theorem dX5_write_77 : decode cX5_write 77 = .ok (.putfield 52, 3) := by decide +kernel
theorem dX5_write_80 : decode cX5_write 80 = .ok (.aload_n 0, 1) := by decide +kernel
theorem dX5_write_81 : decode cX5_write 81 = .ok (.dup, 1) := by decide +kernel
theorem dX5_write_82 : decode cX5_write 82 = .ok (.getfield 71, 3) := by decide +kernel
theorem dX5_write_85 : decode cX5_write 85 = .ok (.iconst 1, 1) := by decide +kernel
theorem dX5_write_86 : decode cX5_write 86 = .ok (.iadd, 1) := by decide +kernel
theorem dX5_write_87 : decode cX5_write 87 = .ok (.putfield 71, 3) := by decide +kernel
theorem dX5_write_90 : decode cX5_write 90 = .ok (.return_, 1) := by decide +kernel
theorem dX5_writeEntries_0 : decode cX5_writeEntries 0 = .ok (.aload_n 0, 1) := by decide +kernel
theorem dX5_writeEntries_1 : decode cX5_writeEntries 1 = .ok (.iconst 1, 1) := by decide +kernel
theorem dX5_writeEntries_2 : decode cX5_writeEntries 2 = .ok (.aload_n 0, 1) := by decide +kernel
theorem dX5_writeEntries_3 : decode cX5_writeEntries 3 = .ok (.getfield 71, 3) := by decide +kernel
theorem dX5_writeEntries_6 : decode cX5_writeEntries 6 = .ok (.iconst 1, 1) := by decide +kernel
theorem dX5_writeEntries_7 : decode cX5_writeEntries 7 = .ok (.iadd, 1) := by decide +kernel
theorem dX5_writeEntries_8 : decode cX5_writeEntries 8 = .ok (.invokevirtual 80, 3) := by decide +kernel
theorem dX5_writeEntries_11 : decode cX5_writeEntries 11 = .ok (.aload_n 0, 1) := by decide +kernel
theorem dX5_writeEntries_12 : decode cX5_writeEntries 12 = .ok (.getfield 42, 3) := by decide +kernel
theorem dX5_writeEntries_15 : decode cX5_writeEntries 15 = .ok (.iconst 5, 1) := by decide +kernel
theorem dX5_writeEntries_16 : decode cX5_writeEntries 16 = .ok (.aload_n 0, 1) := by decide +kernel
theorem dX5_writeEntries_17 : decode cX5_writeEntries 17 = .ok (.getfield 55, 3) := by decide +kernel
theorem dX5_writeEntries_20 : decode cX5_writeEntries 20 = .ok (.i2b, 1) := by decide +kernel
theorem dX5_writeEntries_21 : decode cX5_writeEntries 21 = .ok (.bastore, 1) := by decide +kernel
theorem dX5_writeEntries_22 : decode cX5_writeEntries 22 = .ok (.iconst 0, 1) := by decide +kernel
theorem dX5_writeEntries_23 : decode cX5_writeEntries 23 = .ok (.istore_n 1, 1) := by decide +kernel
theorem dX5_writeEntries_24 : decode cX5_writeEntries 24 = .ok (.iload_n 1, 1) := by decide +kernel
theorem dX5_writeEntries_25 : decode cX5_writeEntries 25 = .ok (.aload_n 0, 1) := by decide +kernel
theorem dX5_writeEntries_26 : decode cX5_writeEntries 26 = .ok (.getfield 55, 3) := by decide +kernel
theorem dX5_writeEntries_29 : decode cX5_writeEntries 29 = .ok (.if_icmp .ge 62, 3) := by decide +kernel
theorem dX5_writeEntries_32 : decode cX5_writeEntries 32 = .ok (.aload_n 0, 1) := by decide +kernel
theorem dX5_writeEntries_33 : decode cX5_writeEntries 33 = .ok (.getfield 42, 3) := by decide +kernel
theorem dX5_writeEntries_36 : decode cX5_writeEntries 36 = .ok (.bipush 6, 2) := by decide +kernel
theorem dX5_writeEntries_38 : decode cX5_writeEntries 38 = .ok (.iconst 5, 1) := by decide +kernel
theorem dX5_writeEntries_39 : decode cX5_writeEntries 39 = .ok (.iload_n 1, 1) := by decide +kernel
theorem dX5_writeEntries_40 : decode cX5_writeEntries 40 = .ok (.imul, 1) := by decide +kernel
theorem dX5_writeEntries_41 : decode cX5_writeEntries 41 = .ok (.iadd, 1) := by decide +kernel
theorem dX5_writeEntries_42 : decode cX5_writeEntries 42 = .ok (.aload_n 0, 1) := by decide +kernel
theorem dX5_writeEntries_43 : decode cX5_writeEntries 43 = .ok (.getfield 20, 3) := by decide +kernel
theorem dX5_writeEntries_46 : decode cX5_writeEntries 46 = .ok (.iload_n 1, 1) := by decide +kernel
theorem dX5_writeEntries_47 : decode cX5_writeEntries 47 = .ok (.iaload, 1) := by decide +kernel
theorem dX5_writeEntries_48 : decode cX5_writeEntries 48 = .ok (.i2b, 1) := by decide +kernel
theorem dX5_writeEntries_49 : decode cX5_writeEntries 49 = .ok (.bastore, 1) := by decide +kernel
theorem dX5_writeEntries_50 : decode cX5_writeEntries 50 = .ok (.aload_n 0, 1) := by decide +kernel
theorem dX5_writeEntries_51 : decode cX5_writeEntries 51 = .ok (.getfield 42, 3) := by decide +kernel
theorem dX5_writeEntries_54 : decode cX5_writeEntries 54 = .ok (.bipush 7, 2) := by decide +kernel
theorem dX5_writeEntries_56 : decode cX5_writeEntries 56 = .ok (.iconst 5, 1) := by decide +kernel
theorem dX5_writeEntries_57 : decode cX5_writeEntries 57 = .ok (.iload_n 1, 1) := by decide +kernel
theorem dX5_writeEntries_58 : decode cX5_writeEntries 58 = .ok (.imul, 1) := by decide +kernel
theorem dX5_writeEntries_59 : decode cX5_writeEntries 59 = .ok (.iadd, 1) := by decide +kernel
theorem dX5_writeEntries_60 : decode cX5_writeEntries 60 = .ok (.aload_n 0, 1) := by decide +kernel
theorem dX5_writeEntries_61 : decode cX5_writeEntries 61 = .ok (.getfield 23, 3) := by decide +kernel
theorem dX5_writeEntries_64 : decode cX5_writeEntries 64 = .ok (.iload_n 1, 1) := by decide +kernel
theorem dX5_writeEntries_65 : decode cX5_writeEntries 65 = .ok (.iaload, 1) := by decide +kernel
theorem dX5_writeEntries_66 : decode cX5_writeEntries 66 = .ok (.i2b, 1) := by decide +kernel
theorem dX5_writeEntries_67 : decode cX5_writeEntries 67 = .ok (.bastore, 1) := by decide +kernel
theorem dX5_writeEntries_68 : decode cX5_writeEntries 68 = .ok (.aload_n 0, 1) := by decide +kernel
theorem dX5_writeEntries_69 : decode cX5_writeEntries 69 = .ok (.bipush 8, 2) := by decide +kernel
theorem dX5_writeEntries_71 : decode cX5_writeEntries 71 = .ok (.iconst 5, 1) := by decide +kernel
theorem dX5_writeEntries_72 : decode cX5_writeEntries 72 = .ok (.iload_n 1, 1) := by decide +kernel
theorem dX5_writeEntries_73 : decode cX5_writeEntries 73 = .ok (.imul, 1) := by decide +kernel
theorem dX5_writeEntries_74 : decode cX5_writeEntries 74 = .ok (.iadd, 1) := by decide +kernel
theorem dX5_writeEntries_75 : decode cX5_writeEntries 75 = .ok (.aload_n 0, 1) := by decide +kernel
theorem dX5_writeEntries_76 : decode cX5_writeEntries 76 = .ok (.getfield 26, 3) := by decide +kernel
theorem dX5_writeEntries_79 : decode cX5_writeEntries 79 = .ok (.iload_n 1, 1) := by decide +kernel
theorem dX5_writeEntries_80 : decode cX5_writeEntries 80 = .ok (.iaload, 1) := by decide +kernel
theorem dX5_writeEntries_81 : decode cX5_writeEntries 81 = .ok (.iconst 3, 1) := by decide +kernel
theorem dX5_writeEntries_82 : decode cX5_writeEntries 82 = .ok (.invokevirtual 88, 3) := by decide +kernel
theorem dX5_writeEntries_85 : decode cX5_writeEntries 85 = .ok (.iinc 1 1, 3) := by decide +kernel
theorem dX5_writeEntries_88 : decode cX5_writeEntries 88 = .ok (.goto (-64), 3) := by decide +kernel
theorem dX5_writeEntries_91 : decode cX5_writeEntries 91 = .ok (.aload_n 0, 1) := by decide +kernel
theorem dX5_writeEntries_92 : decode cX5_writeEntries 92 = .ok (.invokevirtual 101, 3) := by decide +kernel
theorem dX5_writeEntries_95 : decode cX5_writeEntries 95 = .ok (.aload_n 0, 1) := by decide +kernel
theorem dX5_writeEntries_96 : decode cX5_writeEntries 96 = .ok (.iconst 0, 1) := by decide +kernel
theorem dX5_writeEntries_97 : decode cX5_writeEntries 97 = .ok (.putfield 55, 3) := by decide +kernel
theorem dX5_writeEntries_100 : decode cX5_writeEntries 100 = .ok (.return_, 1) := by decide +kernel
theorem dX5_add_0 : decode cX5_add 0 = .ok (.aload_n 0, 1) := by decide +kernel
theorem dX5_add_1 : decode cX5_add 1 = .ok (.getfield 20, 3) := by decide +kernel
theorem dX5_add_4 : decode cX5_add 4 = .ok (.aload_n 0, 1) := by decide +kernel
theorem dX5_add_5 : decode cX5_add 5 = .ok (.getfield 55, 3) := by decide +kernel
theorem dX5_add_8 : decode cX5_add 8 = .ok (.iload_n 1, 1) := by decide +kernel
theorem dX5_add_9 : decode cX5_add 9 = .ok (.iastore, 1) := by decide +kernel
theorem dX5_add_10 : decode cX5_add 10 = .ok (.aload_n 0, 1) := by decide +kernel
theorem dX5_add_11 : decode cX5_add 11 = .ok (.getfield 23, 3) := by decide +kernel
theorem dX5_add_14 : decode cX5_add 14 = .ok (.aload_n 0, 1) := by decide +kernel
theorem dX5_add_15 : decode cX5_add 15 = .ok (.getfield 55, 3) := by decide +kernel
theorem dX5_add_18 : decode cX5_add 18 = .ok (.iload_n 2, 1) := by decide +kernel
theorem dX5_add_19 : decode cX5_add 19 = .ok (.iastore, 1) := by decide +kernel
theorem dX5_add_20 : decode cX5_add 20 = .ok (.aload_n 0, 1) := by decide +kernel
theorem dX5_add_21 : decode cX5_add 21 = .ok (.getfield 26, 3) := by decide +kernel
theorem dX5_add_24 : decode cX5_add 24 = .ok (.aload_n 0, 1) := by decide +kernel
theorem dX5_add_25 : decode cX5_add 25 = .ok (.getfield 55, 3) := by decide +kernel
theorem dX5_add_28 : decode cX5_add 28 = .ok (.iload_n 3, 1) := by decide +kernel
theorem dX5_add_29 : decode cX5_add 29 = .ok (.iastore, 1) := by decide +kernel
theorem dX5_add_30 : decode cX5_add 30 = .ok (.aload_n 0, 1) := by decide +kernel
theorem dX5_add_31 : decode cX5_add 31 = .ok (.dup, 1) := by decide +kernel
theorem dX5_add_32 : decode cX5_add 32 = .ok (.getfield 55, 3) := by decide +kernel
theorem dX5_add_35 : decode cX5_add 35 = .ok (.iconst 1, 1) := by decide +kernel
theorem dX5_add_36 : decode cX5_add 36 = .ok (.iadd, 1) := by decide +kernel
theorem dX5_add_37 : decode cX5_add 37 = .ok (.putfield 55, 3) := by decide +kernel
theorem dX5_add_40 : decode cX5_add 40 = .ok (.aload_n 0, 1) := by decide +kernel
theorem dX5_add_41 : decode cX5_add 41 = .ok (.getfield 55, 3) := by decide +kernel
theorem dX5_add_44 : decode cX5_add 44 = .ok (.iconst 4, 1) := by decide +kernel
theorem dX5_add_45 : decode cX5_add 45 = .ok (.if_icmp .ne 7, 3) := by decide +kernel
theorem dX5_add_48 : decode cX5_add 48 = .ok (.aload_n 0, 1) := by decide +kernel
theorem dX5_add_49 : decode cX5_add 49 = .ok (.invokevirtual 104, 3) := by decide +kernel
theorem dX5_add_52 : decode cX5_add 52 = .ok (.return_, 1) := by decide +kernel
theorem dX5_mayAdd_0 : decode cX5_mayAdd 0 = .ok (.aload_n 0, 1) := by decide +kernel
theorem dX5_mayAdd_1 : decode cX5_mayAdd 1 = .ok (.getfield 55, 3) := by decide +kernel
theorem dX5_mayAdd_4 : decode cX5_mayAdd 4 = .ok (.iconst 3, 1) := by decide +kernel
theorem dX5_mayAdd_5 : decode cX5_mayAdd 5 = .ok (.if_icmp .lt 11, 3) := by decide +kernel
theorem dX5_mayAdd_8 : decode cX5_mayAdd 8 = .ok (.aload_n 0, 1) := by decide +kernel
theorem dX5_mayAdd_9 : decode cX5_mayAdd 9 = .ok (.iconst 1, 1) := by decide +kernel
theorem dX5_mayAdd_10 : decode cX5_mayAdd 10 = .ok (.invokevirtual 107, 3) := by decide +kernel
theorem dX5_mayAdd_13 : decode cX5_mayAdd 13 = .ok (.ifCond .eq 7, 3) := by decide +kernel
theorem dX5_mayAdd_16 : decode cX5_mayAdd 16 = .ok (.iconst 1, 1) := by decide +kernel
theorem dX5_mayAdd_17 : decode cX5_mayAdd 17 = .ok (.goto 4, 3) := by decide +kernel
theorem dX5_mayAdd_20 : decode cX5_mayAdd 20 = .ok (.iconst 0, 1) := by decide +kernel
theorem dX5_mayAdd_21 : decode cX5_mayAdd 21 = .ok (.ireturn, 1) := by decide +kernel
theorem dX5_isOpenOne_0 : decode cX5_isOpenOne 0 = .ok (.iload_n 1, 1) := by decide +kernel
theorem dX5_isOpenOne_1 : decode cX5_isOpenOne 1 = .ok (.iconst 0, 1) := by decide +kernel
theorem dX5_isOpenOne_2 : decode cX5_isOpenOne 2 = .ok (.iconst 2, 1) := by decide +kernel
theorem dX5_isOpenOne_3 : decode cX5_isOpenOne 3 = .ok (.invokestatic 111, 3) := by decide +kernel
theorem dX5_isOpenOne_6 : decode cX5_isOpenOne 6 = .ok (.ifCond .eq 16, 3) := by decide +kernel
theorem dX5_isOpenOne_9 : decode cX5_isOpenOne 9 = .ok (.aload_n 0, 1) := by decide +kernel
theorem dX5_isOpenOne_10 : decode cX5_isOpenOne 10 = .ok (.getfield 32, 3) := by decide +kernel
theorem dX5_isOpenOne_13 : decode cX5_isOpenOne 13 = .ok (.iload_n 1, 1) := by decide +kernel
theorem dX5_isOpenOne_14 : decode cX5_isOpenOne 14 = .ok (.baload, 1) := by decide +kernel
theorem dX5_isOpenOne_15 : decode cX5_isOpenOne 15 = .ok (.ifCond .eq 7, 3) := by decide +kernel
theorem dX5_isOpenOne_18 : decode cX5_isOpenOne 18 = .ok (.iconst 1, 1) := by decide +kernel
theorem dX5_isOpenOne_19 : decode cX5_isOpenOne 19 = .ok (.goto 4, 3) := by decide +kernel
theorem dX5_isOpenOne_22 : decode cX5_isOpenOne 22 = .ok (.iconst 0, 1) := by decide +kernel
theorem dX5_isOpenOne_23 : decode cX5_isOpenOne 23 = .ok (.ireturn, 1) := by decide +kernel
theorem dX5_isKey_0 : decode cX5_isKey 0 = .ok (.iload_n 0, 1) := by decide +kernel
theorem dX5_isKey_1 : decode cX5_isKey 1 = .ok (.iconst 0, 1) := by decide +kernel
theorem dX5_isKey_2 : decode cX5_isKey 2 = .ok (.bipush 31, 2) := by decide +kernel
theorem dX5_isKey_4 : decode cX5_isKey 4 = .ok (.invokestatic 111, 3) := by decide +kernel
theorem dX5_isKey_7 : decode cX5_isKey 7 = .ok (.ireturn, 1) := by decide +kernel
theorem dX5_begin_0 : decode cX5_begin 0 = .ok (.aload_n 0, 1) := by decide +kernel
theorem dX5_begin_1 : decode cX5_begin 1 = .ok (.getfield 64, 3) := by decide +kernel
theorem dX5_begin_4 : decode cX5_begin 4 = .ok (.ifCond .eq 6, 3) := by decide +kernel
theorem dX5_begin_7 : decode cX5_begin 7 = .ok (.bipush (-3), 2) := by decide +kernel
theorem dX5_begin_9 : decode cX5_begin 9 = .ok (.ireturn, 1) := by decide +kernel
theorem dX5_begin_10 : decode cX5_begin 10 = .ok (.iconst 0, 1) := by decide +kernel
theorem dX5_begin_11 : decode cX5_begin 11 = .ok (.istore_n 1, 1) := by decide +kernel
theorem dX5_begin_12 : decode cX5_begin 12 = .ok (.iload_n 1, 1) := by decide +kernel
theorem dX5_begin_13 : decode cX5_begin 13 = .ok (.iconst 3, 1) := by decide +kernel
theorem dX5_begin_14 : decode cX5_begin 14 = .ok (.if_icmp .ge 27, 3) := by decide +kernel
theorem dX5_begin_17 : decode cX5_begin 17 = .ok (.aload_n 0, 1) := by decide +kernel
theorem dX5_begin_18 : decode cX5_begin 18 = .ok (.getfield 32, 3) := by decide +kernel
theorem dX5_begin_21 : decode cX5_begin 21 = .ok (.iload_n 1, 1) := by decide +kernel
theorem dX5_begin_22 : decode cX5_begin 22 = .ok (.baload, 1) := by decide +kernel
theorem dX5_begin_23 : decode cX5_begin 23 = .ok (.ifCond .ne 12, 3) := by decide +kernel
theorem dX5_begin_26 : decode cX5_begin 26 = .ok (.aload_n 0, 1) := by decide +kernel
theorem dX5_begin_27 : decode cX5_begin 27 = .ok (.getfield 32, 3) := by decide +kernel
theorem dX5_begin_30 : decode cX5_begin 30 = .ok (.iload_n 1, 1) := by decide +kernel
theorem dX5_begin_31 : decode cX5_begin 31 = .ok (.iconst 1, 1) := by decide +kernel
theorem dX5_begin_32 : decode cX5_begin 32 = .ok (.bastore, 1) := by decide +kernel
theorem dX5_begin_33 : decode cX5_begin 33 = .ok (.iload_n 1, 1) := by decide +kernel
theorem dX5_begin_34 : decode cX5_begin 34 = .ok (.ireturn, 1) := by decide +kernel
theorem dX5_begin_35 : decode cX5_begin 35 = .ok (.iinc 1 1, 3) := by decide +kernel
theorem dX5_begin_38 : decode cX5_begin 38 = .ok (.goto (-26), 3) := by decide +kernel
theorem dX5_begin_41 : decode cX5_begin 41 = .ok (.iconst (-1), 1) := by decide +kernel
theorem dX5_begin_42 : decode cX5_begin 42 = .ok (.ireturn, 1) := by decide +kernel
theorem dX5_put_0 : decode cX5_put 0 = .ok (.aload_n 0, 1) := by decide +kernel
theorem dX5_put_1 : decode cX5_put 1 = .ok (.getfield 64, 3) := by decide +kernel
theorem dX5_put_4 : decode cX5_put 4 = .ok (.ifCond .eq 6, 3) := by decide +kernel
theorem dX5_put_7 : decode cX5_put 7 = .ok (.bipush (-3), 2) := by decide +kernel
theorem dX5_put_9 : decode cX5_put 9 = .ok (.ireturn, 1) := by decide +kernel
theorem dX5_put_10 : decode cX5_put 10 = .ok (.aload_n 0, 1) := by decide +kernel
theorem dX5_put_11 : decode cX5_put 11 = .ok (.iload_n 1, 1) := by decide +kernel
theorem dX5_put_12 : decode cX5_put 12 = .ok (.invokevirtual 115, 3) := by decide +kernel
theorem dX5_put_15 : decode cX5_put 15 = .ok (.ifCond .eq 20, 3) := by decide +kernel
theorem dX5_put_18 : decode cX5_put 18 = .ok (.iload_n 2, 1) := by decide +kernel
theorem dX5_put_19 : decode cX5_put 19 = .ok (.invokestatic 118, 3) := by decide +kernel
theorem dX5_put_22 : decode cX5_put 22 = .ok (.ifCond .eq 13, 3) := by decide +kernel
theorem dX5_put_25 : decode cX5_put 25 = .ok (.iload_n 3, 1) := by decide +kernel
theorem dX5_put_26 : decode cX5_put 26 = .ok (.iconst (-1), 1) := by decide +kernel
theorem dX5_put_27 : decode cX5_put 27 = .ok (.ldc 121, 2) := by decide +kernel
theorem dX5_put_29 : decode cX5_put 29 = .ok (.invokestatic 111, 3) := by decide +kernel
theorem dX5_put_32 : decode cX5_put 32 = .ok (.ifCond .ne 5, 3) := by decide +kernel
theorem dX5_put_35 : decode cX5_put 35 = .ok (.iconst (-1), 1) := by decide +kernel
theorem dX5_put_36 : decode cX5_put 36 = .ok (.ireturn, 1) := by decide +kernel
theorem dX5_put_37 : decode cX5_put 37 = .ok (.aload_n 0, 1) := by decide +kernel
theorem dX5_put_38 : decode cX5_put 38 = .ok (.getfield 36, 3) := by decide +kernel
theorem dX5_put_41 : decode cX5_put 41 = .ok (.iload_n 2, 1) := by decide +kernel
theorem dX5_put_42 : decode cX5_put 42 = .ok (.iaload, 1) := by decide +kernel
theorem dX5_put_43 : decode cX5_put 43 = .ok (.iconst (-1), 1) := by decide +kernel
theorem dX5_put_44 : decode cX5_put 44 = .ok (.if_icmp .eq 15, 3) := by decide +kernel
theorem dX5_put_47 : decode cX5_put 47 = .ok (.aload_n 0, 1) := by decide +kernel
theorem dX5_put_48 : decode cX5_put 48 = .ok (.getfield 36, 3) := by decide +kernel
theorem dX5_put_51 : decode cX5_put 51 = .ok (.iload_n 2, 1) := by decide +kernel
theorem dX5_put_52 : decode cX5_put 52 = .ok (.iaload, 1) := by decide +kernel
theorem dX5_put_53 : decode cX5_put 53 = .ok (.iload_n 1, 1) := by decide +kernel
theorem dX5_put_54 : decode cX5_put 54 = .ok (.if_icmp .eq 5, 3) := by decide +kernel
theorem dX5_put_57 : decode cX5_put 57 = .ok (.iconst 0, 1) := by decide +kernel
theorem dX5_put_58 : decode cX5_put 58 = .ok (.ireturn, 1) := by decide +kernel
theorem dX5_put_59 : decode cX5_put 59 = .ok (.aload_n 0, 1) := by decide +kernel
theorem dX5_put_60 : decode cX5_put 60 = .ok (.invokevirtual 122, 3) := by decide +kernel
theorem dX5_put_63 : decode cX5_put 63 = .ok (.ifCond .ne 6, 3) := by decide +kernel
theorem dX5_put_66 : decode cX5_put 66 = .ok (.bipush (-2), 2) := by decide +kernel
theorem dX5_put_68 : decode cX5_put 68 = .ok (.ireturn, 1) := by decide +kernel
theorem dX5_put_69 : decode cX5_put 69 = .ok (.aload_n 0, 1) := by decide +kernel
theorem dX5_put_70 : decode cX5_put 70 = .ok (.getfield 36, 3) := by decide +kernel
theorem dX5_put_73 : decode cX5_put 73 = .ok (.iload_n 2, 1) := by decide +kernel
theorem dX5_put_74 : decode cX5_put 74 = .ok (.iload_n 1, 1) := by decide +kernel
theorem dX5_put_75 : decode cX5_put 75 = .ok (.iastore, 1) := by decide +kernel
theorem dX5_put_76 : decode cX5_put 76 = .ok (.aload_n 0, 1) := by decide +kernel
theorem dX5_put_77 : decode cX5_put 77 = .ok (.getfield 39, 3) := by decide +kernel
theorem dX5_put_80 : decode cX5_put 80 = .ok (.iload_n 2, 1) := by decide +kernel
theorem dX5_put_81 : decode cX5_put 81 = .ok (.iload_n 3, 1) := by decide +kernel
theorem dX5_put_82 : decode cX5_put 82 = .ok (.iastore, 1) := by decide +kernel
theorem dX5_put_83 : decode cX5_put 83 = .ok (.aload_n 0, 1) := by decide +kernel
theorem dX5_put_84 : decode cX5_put 84 = .ok (.iconst 4, 1) := by decide +kernel
theorem dX5_put_85 : decode cX5_put 85 = .ok (.iload_n 1, 1) := by decide +kernel
theorem dX5_put_86 : decode cX5_put 86 = .ok (.imul, 1) := by decide +kernel
theorem dX5_put_87 : decode cX5_put 87 = .ok (.iload_n 3, 1) := by decide +kernel
theorem dX5_put_88 : decode cX5_put 88 = .ok (.iconst (-1), 1) := by decide +kernel
theorem dX5_put_89 : decode cX5_put 89 = .ok (.if_icmp .ne 7, 3) := by decide +kernel
theorem dX5_put_92 : decode cX5_put 92 = .ok (.iconst 1, 1) := by decide +kernel
theorem dX5_put_93 : decode cX5_put 93 = .ok (.goto 4, 3) := by decide +kernel
theorem dX5_put_96 : decode cX5_put 96 = .ok (.iconst 0, 1) := by decide +kernel
theorem dX5_put_97 : decode cX5_put 97 = .ok (.iadd, 1) := by decide +kernel
theorem dX5_put_98 : decode cX5_put 98 = .ok (.iload_n 2, 1) := by decide +kernel
theorem dX5_put_99 : decode cX5_put 99 = .ok (.iload_n 3, 1) := by decide +kernel
theorem dX5_put_100 : decode cX5_put 100 = .ok (.iconst (-1), 1) := by decide +kernel
theorem dX5_put_101 : decode cX5_put 101 = .ok (.if_icmp .ne 7, 3) := by decide +kernel
theorem dX5_put_104 : decode cX5_put 104 = .ok (.iconst 0, 1) := by decide +kernel
theorem dX5_put_105 : decode cX5_put 105 = .ok (.goto 4, 3) := by decide +kernel
theorem dX5_put_108 : decode cX5_put 108 = .ok (.iload_n 3, 1) := by decide +kernel
theorem dX5_put_109 : decode cX5_put 109 = .ok (.invokevirtual 126, 3) := by decide +kernel
theorem dX5_put_112 : decode cX5_put 112 = .ok (.iconst 1, 1) := by decide +kernel
theorem dX5_put_113 : decode cX5_put 113 = .ok (.ireturn, 1) := by decide +kernel
theorem dX5_release_0 : decode cX5_release 0 = .ok (.iconst 0, 1) := by decide +kernel
theorem dX5_release_1 : decode cX5_release 1 = .ok (.istore_n 3, 1) := by decide +kernel
theorem dX5_release_2 : decode cX5_release 2 = .ok (.iconst 0, 1) := by decide +kernel
theorem dX5_release_3 : decode cX5_release 3 = .ok (.istore 4, 2) := by decide +kernel
theorem dX5_release_5 : decode cX5_release 5 = .ok (.iload 4, 2) := by decide +kernel
theorem dX5_release_7 : decode cX5_release 7 = .ok (.bipush 32, 2) := by decide +kernel
theorem dX5_release_9 : decode cX5_release 9 = .ok (.if_icmp .ge 59, 3) := by decide +kernel
theorem dX5_release_12 : decode cX5_release 12 = .ok (.aload_n 0, 1) := by decide +kernel
theorem dX5_release_13 : decode cX5_release 13 = .ok (.getfield 36, 3) := by decide +kernel
theorem dX5_release_16 : decode cX5_release 16 = .ok (.iload 4, 2) := by decide +kernel
theorem dX5_release_18 : decode cX5_release 18 = .ok (.iaload, 1) := by decide +kernel
theorem dX5_release_19 : decode cX5_release 19 = .ok (.iload_n 1, 1) := by decide +kernel
theorem dX5_release_20 : decode cX5_release 20 = .ok (.if_icmp .ne 42, 3) := by decide +kernel
theorem dX5_release_23 : decode cX5_release 23 = .ok (.iinc 3 1, 3) := by decide +kernel
theorem dX5_release_26 : decode cX5_release 26 = .ok (.aload_n 0, 1) := by decide +kernel
theorem dX5_release_27 : decode cX5_release 27 = .ok (.getfield 36, 3) := by decide +kernel
theorem dX5_release_30 : decode cX5_release 30 = .ok (.iload 4, 2) := by decide +kernel
theorem dX5_release_32 : decode cX5_release 32 = .ok (.iconst (-1), 1) := by decide +kernel
theorem dX5_release_33 : decode cX5_release 33 = .ok (.iastore, 1) := by decide +kernel
theorem dX5_release_34 : decode cX5_release 34 = .ok (.aload_n 0, 1) := by decide +kernel
theorem dX5_release_35 : decode cX5_release 35 = .ok (.getfield 29, 3) := by decide +kernel
theorem dX5_release_38 : decode cX5_release 38 = .ok (.iload 4, 2) := by decide +kernel
theorem dX5_release_40 : decode cX5_release 40 = .ok (.iload_n 2, 1) := by decide +kernel
theorem dX5_release_41 : decode cX5_release 41 = .ok (.ifCond .eq 13, 3) := by decide +kernel
theorem dX5_release_44 : decode cX5_release 44 = .ok (.aload_n 0, 1) := by decide +kernel
theorem dX5_release_45 : decode cX5_release 45 = .ok (.getfield 39, 3) := by decide +kernel
theorem dX5_release_48 : decode cX5_release 48 = .ok (.iload 4, 2) := by decide +kernel
theorem dX5_release_50 : decode cX5_release 50 = .ok (.iaload, 1) := by decide +kernel
theorem dX5_release_51 : decode cX5_release 51 = .ok (.goto 10, 3) := by decide +kernel
theorem dX5_release_54 : decode cX5_release 54 = .ok (.aload_n 0, 1) := by decide +kernel
theorem dX5_release_55 : decode cX5_release 55 = .ok (.getfield 29, 3) := by decide +kernel
theorem dX5_release_58 : decode cX5_release 58 = .ok (.iload 4, 2) := by decide +kernel
theorem dX5_release_60 : decode cX5_release 60 = .ok (.iaload, 1) := by decide +kernel
theorem dX5_release_61 : decode cX5_release 61 = .ok (.iastore, 1) := by decide +kernel
theorem dX5_release_62 : decode cX5_release 62 = .ok (.iinc 4 1, 3) := by decide +kernel
theorem dX5_release_65 : decode cX5_release 65 = .ok (.goto (-60), 3) := by decide +kernel
theorem dX5_release_68 : decode cX5_release 68 = .ok (.aload_n 0, 1) := by decide +kernel
theorem dX5_release_69 : decode cX5_release 69 = .ok (.getfield 32, 3) := by decide +kernel
theorem dX5_release_72 : decode cX5_release 72 = .ok (.iload_n 1, 1) := by decide +kernel
theorem dX5_release_73 : decode cX5_release 73 = .ok (.iconst 0, 1) := by decide +kernel
theorem dX5_release_74 : decode cX5_release 74 = .ok (.bastore, 1) := by decide +kernel
theorem dX5_release_75 : decode cX5_release 75 = .ok (.iload_n 3, 1) := by decide +kernel
theorem dX5_release_76 : decode cX5_release 76 = .ok (.ireturn, 1) := by decide +kernel
theorem dX5_finish_0 : decode cX5_finish 0 = .ok (.aload_n 0, 1) := by decide +kernel
theorem dX5_finish_1 : decode cX5_finish 1 = .ok (.getfield 64, 3) := by decide +kernel
theorem dX5_finish_4 : decode cX5_finish 4 = .ok (.ifCond .eq 6, 3) := by decide +kernel
theorem dX5_finish_7 : decode cX5_finish 7 = .ok (.bipush (-3), 2) := by decide +kernel
theorem dX5_finish_9 : decode cX5_finish 9 = .ok (.ireturn, 1) := by decide +kernel
theorem dX5_finish_10 : decode cX5_finish 10 = .ok (.aload_n 0, 1) := by decide +kernel
theorem dX5_finish_11 : decode cX5_finish 11 = .ok (.iload_n 1, 1) := by decide +kernel
theorem dX5_finish_12 : decode cX5_finish 12 = .ok (.invokevirtual 115, 3) := by decide +kernel
theorem dX5_finish_15 : decode cX5_finish 15 = .ok (.ifCond .ne 5, 3) := by decide +kernel
theorem dX5_finish_18 : decode cX5_finish 18 = .ok (.iconst (-1), 1) := by decide +kernel
theorem dX5_finish_19 : decode cX5_finish 19 = .ok (.ireturn, 1) := by decide +kernel
theorem dX5_finish_20 : decode cX5_finish 20 = .ok (.aload_n 0, 1) := by decide +kernel
theorem dX5_finish_21 : decode cX5_finish 21 = .ok (.invokevirtual 122, 3) := by decide +kernel
theorem dX5_finish_24 : decode cX5_finish 24 = .ok (.ifCond .ne 6, 3) := by decide +kernel
theorem dX5_finish_27 : decode cX5_finish 27 = .ok (.bipush (-2), 2) := by decide +kernel
theorem dX5_finish_29 : decode cX5_finish 29 = .ok (.ireturn, 1) := by decide +kernel
theorem dX5_finish_30 : decode cX5_finish 30 = .ok (.aload_n 0, 1) := by decide +kernel
theorem dX5_finish_31 : decode cX5_finish 31 = .ok (.iconst 4, 1) := by decide +kernel
theorem dX5_finish_32 : decode cX5_finish 32 = .ok (.iload_n 1, 1) := by decide +kernel
theorem dX5_finish_33 : decode cX5_finish 33 = .ok (.imul, 1) := by decide +kernel
theorem dX5_finish_34 : decode cX5_finish 34 = .ok (.iload_n 2, 1) := by decide +kernel
theorem dX5_finish_35 : decode cX5_finish 35 = .ok (.ifCond .eq 7, 3) := by decide +kernel
theorem dX5_finish_38 : decode cX5_finish 38 = .ok (.iconst 2, 1) := by decide +kernel
theorem dX5_finish_39 : decode cX5_finish 39 = .ok (.goto 4, 3) := by decide +kernel
theorem dX5_finish_42 : decode cX5_finish 42 = .ok (.iconst 3, 1) := by decide +kernel
theorem dX5_finish_43 : decode cX5_finish 43 = .ok (.iadd, 1) := by decide +kernel
theorem dX5_finish_44 : decode cX5_finish 44 = .ok (.iconst 0, 1) := by decide +kernel
theorem dX5_finish_45 : decode cX5_finish 45 = .ok (.iconst 0, 1) := by decide +kernel
theorem dX5_finish_46 : decode cX5_finish 46 = .ok (.invokevirtual 126, 3) := by decide +kernel
theorem dX5_finish_49 : decode cX5_finish 49 = .ok (.aload_n 0, 1) := by decide +kernel
theorem dX5_finish_50 : decode cX5_finish 50 = .ok (.dup, 1) := by decide +kernel
theorem dX5_finish_51 : decode cX5_finish 51 = .ok (.getfield 58, 3) := by decide +kernel
theorem dX5_finish_54 : decode cX5_finish 54 = .ok (.iload_n 2, 1) := by decide +kernel
theorem dX5_finish_55 : decode cX5_finish 55 = .ok (.ifCond .eq 7, 3) := by decide +kernel
theorem dX5_finish_58 : decode cX5_finish 58 = .ok (.iconst 1, 1) := by decide +kernel
theorem dX5_finish_59 : decode cX5_finish 59 = .ok (.goto 4, 3) := by decide +kernel
theorem dX5_finish_62 : decode cX5_finish 62 = .ok (.iconst 0, 1) := by decide +kernel
theorem dX5_finish_63 : decode cX5_finish 63 = .ok (.iadd, 1) := by decide +kernel
theorem dX5_finish_64 : decode cX5_finish 64 = .ok (.putfield 58, 3) := by decide +kernel
theorem dX5_finish_67 : decode cX5_finish 67 = .ok (.aload_n 0, 1) := by decide +kernel
theorem dX5_finish_68 : decode cX5_finish 68 = .ok (.iload_n 1, 1) := by decide +kernel
theorem dX5_finish_69 : decode cX5_finish 69 = .ok (.iload_n 2, 1) := by decide +kernel
theorem dX5_finish_70 : decode cX5_finish 70 = .ok (.invokevirtual 129, 3) := by decide +kernel
theorem dX5_finish_73 : decode cX5_finish 73 = .ok (.ireturn, 1) := by decide +kernel
theorem dX5_commit_0 : decode cX5_commit 0 = .ok (.aload_n 0, 1) := by decide +kernel
theorem dX5_commit_1 : decode cX5_commit 1 = .ok (.iload_n 1, 1) := by decide +kernel
theorem dX5_commit_2 : decode cX5_commit 2 = .ok (.iconst 1, 1) := by decide +kernel
theorem dX5_commit_3 : decode cX5_commit 3 = .ok (.invokevirtual 133, 3) := by decide +kernel
theorem dX5_commit_6 : decode cX5_commit 6 = .ok (.ireturn, 1) := by decide +kernel
theorem dX5_undo_0 : decode cX5_undo 0 = .ok (.aload_n 0, 1) := by decide +kernel
theorem dX5_undo_1 : decode cX5_undo 1 = .ok (.iload_n 1, 1) := by decide +kernel
theorem dX5_undo_2 : decode cX5_undo 2 = .ok (.iconst 0, 1) := by decide +kernel
theorem dX5_undo_3 : decode cX5_undo 3 = .ok (.invokevirtual 133, 3) := by decide +kernel
theorem dX5_undo_6 : decode cX5_undo 6 = .ok (.ireturn, 1) := by decide +kernel
theorem dX5_get_0 : decode cX5_get 0 = .ok (.aload_n 0, 1) := by decide +kernel
theorem dX5_get_1 : decode cX5_get 1 = .ok (.getfield 64, 3) := by decide +kernel
theorem dX5_get_4 : decode cX5_get 4 = .ok (.ifCond .eq 8, 3) := by decide +kernel
theorem dX5_get_7 : decode cX5_get 7 = .ok (.bipush (-3), 2) := by decide +kernel
theorem dX5_get_9 : decode cX5_get 9 = .ok (.goto 20, 3) := by decide +kernel
theorem dX5_get_12 : decode cX5_get 12 = .ok (.iload_n 1, 1) := by decide +kernel
theorem dX5_get_13 : decode cX5_get 13 = .ok (.invokestatic 118, 3) := by decide +kernel
theorem dX5_get_16 : decode cX5_get 16 = .ok (.ifCond .eq 12, 3) := by decide +kernel
theorem dX5_get_19 : decode cX5_get 19 = .ok (.aload_n 0, 1) := by decide +kernel
theorem dX5_get_20 : decode cX5_get 20 = .ok (.getfield 29, 3) := by decide +kernel
theorem dX5_get_23 : decode cX5_get 23 = .ok (.iload_n 1, 1) := by decide +kernel
theorem dX5_get_24 : decode cX5_get 24 = .ok (.iaload, 1) := by decide +kernel
theorem dX5_get_25 : decode cX5_get 25 = .ok (.goto 4, 3) := by decide +kernel
theorem dX5_get_28 : decode cX5_get 28 = .ok (.iconst (-1), 1) := by decide +kernel
theorem dX5_get_29 : decode cX5_get 29 = .ok (.ireturn, 1) := by decide +kernel
theorem dX5_seen_0 : decode cX5_seen 0 = .ok (.aload_n 0, 1) := by decide +kernel
theorem dX5_seen_1 : decode cX5_seen 1 = .ok (.getfield 64, 3) := by decide +kernel
theorem dX5_seen_4 : decode cX5_seen 4 = .ok (.ifCond .eq 6, 3) := by decide +kernel
theorem dX5_seen_7 : decode cX5_seen 7 = .ok (.bipush (-3), 2) := by decide +kernel
theorem dX5_seen_9 : decode cX5_seen 9 = .ok (.ireturn, 1) := by decide +kernel
theorem dX5_seen_10 : decode cX5_seen 10 = .ok (.aload_n 0, 1) := by decide +kernel
theorem dX5_seen_11 : decode cX5_seen 11 = .ok (.iload_n 1, 1) := by decide +kernel
theorem dX5_seen_12 : decode cX5_seen 12 = .ok (.invokevirtual 115, 3) := by decide +kernel
theorem dX5_seen_15 : decode cX5_seen 15 = .ok (.ifCond .eq 10, 3) := by decide +kernel
theorem dX5_seen_18 : decode cX5_seen 18 = .ok (.iload_n 2, 1) := by decide +kernel
theorem dX5_seen_19 : decode cX5_seen 19 = .ok (.invokestatic 118, 3) := by decide +kernel
theorem dX5_seen_22 : decode cX5_seen 22 = .ok (.ifCond .ne 5, 3) := by decide +kernel
theorem dX5_seen_25 : decode cX5_seen 25 = .ok (.iconst (-1), 1) := by decide +kernel
theorem dX5_seen_26 : decode cX5_seen 26 = .ok (.ireturn, 1) := by decide +kernel
theorem dX5_seen_27 : decode cX5_seen 27 = .ok (.aload_n 0, 1) := by decide +kernel
theorem dX5_seen_28 : decode cX5_seen 28 = .ok (.getfield 36, 3) := by decide +kernel
theorem dX5_seen_31 : decode cX5_seen 31 = .ok (.iload_n 2, 1) := by decide +kernel
theorem dX5_seen_32 : decode cX5_seen 32 = .ok (.iaload, 1) := by decide +kernel
theorem dX5_seen_33 : decode cX5_seen 33 = .ok (.iload_n 1, 1) := by decide +kernel
theorem dX5_seen_34 : decode cX5_seen 34 = .ok (.if_icmp .ne 12, 3) := by decide +kernel
theorem dX5_seen_37 : decode cX5_seen 37 = .ok (.aload_n 0, 1) := by decide +kernel
theorem dX5_seen_38 : decode cX5_seen 38 = .ok (.getfield 39, 3) := by decide +kernel
theorem dX5_seen_41 : decode cX5_seen 41 = .ok (.iload_n 2, 1) := by decide +kernel
theorem dX5_seen_42 : decode cX5_seen 42 = .ok (.iaload, 1) := by decide +kernel
theorem dX5_seen_43 : decode cX5_seen 43 = .ok (.goto 9, 3) := by decide +kernel
theorem dX5_seen_46 : decode cX5_seen 46 = .ok (.aload_n 0, 1) := by decide +kernel
theorem dX5_seen_47 : decode cX5_seen 47 = .ok (.getfield 29, 3) := by decide +kernel
theorem dX5_seen_50 : decode cX5_seen 50 = .ok (.iload_n 2, 1) := by decide +kernel
theorem dX5_seen_51 : decode cX5_seen 51 = .ok (.iaload, 1) := by decide +kernel
theorem dX5_seen_52 : decode cX5_seen 52 = .ok (.ireturn, 1) := by decide +kernel
theorem dX5_lay_0 : decode cX5_lay 0 = .ok (.iconst 0, 1) := by decide +kernel
theorem dX5_lay_1 : decode cX5_lay 1 = .ok (.istore_n 3, 1) := by decide +kernel
theorem dX5_lay_2 : decode cX5_lay 2 = .ok (.iload_n 3, 1) := by decide +kernel
theorem dX5_lay_3 : decode cX5_lay 3 = .ok (.iload_n 2, 1) := by decide +kernel
end
section
theorem dX5_lay_4 : decode cX5_lay 4 = .ok (.if_icmp .ge 36, 3) := by decide +kernel
theorem dX5_lay_7 : decode cX5_lay 7 = .ok (.aload_n 0, 1) := by decide +kernel
theorem dX5_lay_8 : decode cX5_lay 8 = .ok (.getfield 7, 3) := by decide +kernel
theorem dX5_lay_11 : decode cX5_lay 11 = .ok (.bipush 32, 2) := by decide +kernel
theorem dX5_lay_13 : decode cX5_lay 13 = .ok (.aload_n 0, 1) := by decide +kernel
theorem dX5_lay_14 : decode cX5_lay 14 = .ok (.getfield 13, 3) := by decide +kernel
theorem dX5_lay_17 : decode cX5_lay 17 = .ok (.iload_n 1, 1) := by decide +kernel
theorem dX5_lay_18 : decode cX5_lay 18 = .ok (.iaload, 1) := by decide +kernel
theorem dX5_lay_19 : decode cX5_lay 19 = .ok (.imul, 1) := by decide +kernel
theorem dX5_lay_20 : decode cX5_lay 20 = .ok (.iload_n 3, 1) := by decide +kernel
theorem dX5_lay_21 : decode cX5_lay 21 = .ok (.iadd, 1) := by decide +kernel
theorem dX5_lay_22 : decode cX5_lay 22 = .ok (.aload_n 0, 1) := by decide +kernel
theorem dX5_lay_23 : decode cX5_lay 23 = .ok (.getfield 17, 3) := by decide +kernel
theorem dX5_lay_26 : decode cX5_lay 26 = .ok (.bipush 32, 2) := by decide +kernel
theorem dX5_lay_28 : decode cX5_lay 28 = .ok (.iload_n 1, 1) := by decide +kernel
theorem dX5_lay_29 : decode cX5_lay 29 = .ok (.imul, 1) := by decide +kernel
theorem dX5_lay_30 : decode cX5_lay 30 = .ok (.iload_n 3, 1) := by decide +kernel
theorem dX5_lay_31 : decode cX5_lay 31 = .ok (.iadd, 1) := by decide +kernel
theorem dX5_lay_32 : decode cX5_lay 32 = .ok (.baload, 1) := by decide +kernel
theorem dX5_lay_33 : decode cX5_lay 33 = .ok (.bastore, 1) := by decide +kernel
theorem dX5_lay_34 : decode cX5_lay 34 = .ok (.iinc 3 1, 3) := by decide +kernel
theorem dX5_lay_37 : decode cX5_lay 37 = .ok (.goto (-35), 3) := by decide +kernel
theorem dX5_lay_40 : decode cX5_lay 40 = .ok (.return_, 1) := by decide +kernel
theorem dX5_sync_0 : decode cX5_sync 0 = .ok (.aload_n 0, 1) := by decide +kernel
theorem dX5_sync_1 : decode cX5_sync 1 = .ok (.getfield 64, 3) := by decide +kernel
theorem dX5_sync_4 : decode cX5_sync 4 = .ok (.ifCond .eq 6, 3) := by decide +kernel
theorem dX5_sync_7 : decode cX5_sync 7 = .ok (.bipush (-3), 2) := by decide +kernel
theorem dX5_sync_9 : decode cX5_sync 9 = .ok (.ireturn, 1) := by decide +kernel
theorem dX5_sync_10 : decode cX5_sync 10 = .ok (.aload_n 0, 1) := by decide +kernel
theorem dX5_sync_11 : decode cX5_sync 11 = .ok (.getfield 55, 3) := by decide +kernel
theorem dX5_sync_14 : decode cX5_sync 14 = .ok (.ifCond .le 14, 3) := by decide +kernel
theorem dX5_sync_17 : decode cX5_sync 17 = .ok (.aload_n 0, 1) := by decide +kernel
theorem dX5_sync_18 : decode cX5_sync 18 = .ok (.iconst 1, 1) := by decide +kernel
theorem dX5_sync_19 : decode cX5_sync 19 = .ok (.invokevirtual 107, 3) := by decide +kernel
theorem dX5_sync_22 : decode cX5_sync 22 = .ok (.ifCond .ne 6, 3) := by decide +kernel
theorem dX5_sync_25 : decode cX5_sync 25 = .ok (.bipush (-2), 2) := by decide +kernel
theorem dX5_sync_27 : decode cX5_sync 27 = .ok (.ireturn, 1) := by decide +kernel
theorem dX5_sync_28 : decode cX5_sync 28 = .ok (.aload_n 0, 1) := by decide +kernel
theorem dX5_sync_29 : decode cX5_sync 29 = .ok (.getfield 55, 3) := by decide +kernel
theorem dX5_sync_32 : decode cX5_sync 32 = .ok (.ifCond .le 7, 3) := by decide +kernel
theorem dX5_sync_35 : decode cX5_sync 35 = .ok (.aload_n 0, 1) := by decide +kernel
theorem dX5_sync_36 : decode cX5_sync 36 = .ok (.invokevirtual 104, 3) := by decide +kernel
theorem dX5_sync_39 : decode cX5_sync 39 = .ok (.aload_n 0, 1) := by decide +kernel
theorem dX5_sync_40 : decode cX5_sync 40 = .ok (.getfield 52, 3) := by decide +kernel
theorem dX5_sync_43 : decode cX5_sync 43 = .ok (.istore_n 1, 1) := by decide +kernel
theorem dX5_sync_44 : decode cX5_sync 44 = .ok (.iconst 0, 1) := by decide +kernel
theorem dX5_sync_45 : decode cX5_sync 45 = .ok (.istore_n 2, 1) := by decide +kernel
theorem dX5_sync_46 : decode cX5_sync 46 = .ok (.iload_n 2, 1) := by decide +kernel
theorem dX5_sync_47 : decode cX5_sync 47 = .ok (.iload_n 1, 1) := by decide +kernel
theorem dX5_sync_48 : decode cX5_sync 48 = .ok (.if_icmp .ge 16, 3) := by decide +kernel
theorem dX5_sync_51 : decode cX5_sync 51 = .ok (.aload_n 0, 1) := by decide +kernel
theorem dX5_sync_52 : decode cX5_sync 52 = .ok (.iload_n 2, 1) := by decide +kernel
theorem dX5_sync_53 : decode cX5_sync 53 = .ok (.bipush 32, 2) := by decide +kernel
theorem dX5_sync_55 : decode cX5_sync 55 = .ok (.invokevirtual 136, 3) := by decide +kernel
theorem dX5_sync_58 : decode cX5_sync 58 = .ok (.iinc 2 1, 3) := by decide +kernel
theorem dX5_sync_61 : decode cX5_sync 61 = .ok (.goto (-15), 3) := by decide +kernel
theorem dX5_sync_64 : decode cX5_sync 64 = .ok (.aload_n 0, 1) := by decide +kernel
theorem dX5_sync_65 : decode cX5_sync 65 = .ok (.iconst 0, 1) := by decide +kernel
theorem dX5_sync_66 : decode cX5_sync 66 = .ok (.putfield 52, 3) := by decide +kernel
theorem dX5_sync_69 : decode cX5_sync 69 = .ok (.aload_n 0, 1) := by decide +kernel
theorem dX5_sync_70 : decode cX5_sync 70 = .ok (.aload_n 0, 1) := by decide +kernel
theorem dX5_sync_71 : decode cX5_sync 71 = .ok (.getfield 74, 3) := by decide +kernel
theorem dX5_sync_74 : decode cX5_sync 74 = .ok (.putfield 77, 3) := by decide +kernel
theorem dX5_sync_77 : decode cX5_sync 77 = .ok (.iload_n 1, 1) := by decide +kernel
theorem dX5_sync_78 : decode cX5_sync 78 = .ok (.ireturn, 1) := by decide +kernel
theorem dX5_checkpoint_0 : decode cX5_checkpoint 0 = .ok (.aload_n 0, 1) := by decide +kernel
theorem dX5_checkpoint_1 : decode cX5_checkpoint 1 = .ok (.getfield 64, 3) := by decide +kernel
theorem dX5_checkpoint_4 : decode cX5_checkpoint 4 = .ok (.ifCond .eq 6, 3) := by decide +kernel
theorem dX5_checkpoint_7 : decode cX5_checkpoint 7 = .ok (.bipush (-3), 2) := by decide +kernel
theorem dX5_checkpoint_9 : decode cX5_checkpoint 9 = .ok (.ireturn, 1) := by decide +kernel
theorem dX5_checkpoint_10 : decode cX5_checkpoint 10 = .ok (.aload_n 0, 1) := by decide +kernel
theorem dX5_checkpoint_11 : decode cX5_checkpoint 11 = .ok (.getfield 32, 3) := by decide +kernel
theorem dX5_checkpoint_14 : decode cX5_checkpoint 14 = .ok (.iconst 0, 1) := by decide +kernel
theorem dX5_checkpoint_15 : decode cX5_checkpoint 15 = .ok (.baload, 1) := by decide +kernel
theorem dX5_checkpoint_16 : decode cX5_checkpoint 16 = .ok (.ifCond .ne 21, 3) := by decide +kernel
theorem dX5_checkpoint_19 : decode cX5_checkpoint 19 = .ok (.aload_n 0, 1) := by decide +kernel
theorem dX5_checkpoint_20 : decode cX5_checkpoint 20 = .ok (.getfield 32, 3) := by decide +kernel
theorem dX5_checkpoint_23 : decode cX5_checkpoint 23 = .ok (.iconst 1, 1) := by decide +kernel
theorem dX5_checkpoint_24 : decode cX5_checkpoint 24 = .ok (.baload, 1) := by decide +kernel
theorem dX5_checkpoint_25 : decode cX5_checkpoint 25 = .ok (.ifCond .ne 12, 3) := by decide +kernel
theorem dX5_checkpoint_28 : decode cX5_checkpoint 28 = .ok (.aload_n 0, 1) := by decide +kernel
theorem dX5_checkpoint_29 : decode cX5_checkpoint 29 = .ok (.getfield 32, 3) := by decide +kernel
theorem dX5_checkpoint_32 : decode cX5_checkpoint 32 = .ok (.iconst 2, 1) := by decide +kernel
theorem dX5_checkpoint_33 : decode cX5_checkpoint 33 = .ok (.baload, 1) := by decide +kernel
theorem dX5_checkpoint_34 : decode cX5_checkpoint 34 = .ok (.ifCond .eq 5, 3) := by decide +kernel
theorem dX5_checkpoint_37 : decode cX5_checkpoint 37 = .ok (.iconst (-1), 1) := by decide +kernel
theorem dX5_checkpoint_38 : decode cX5_checkpoint 38 = .ok (.ireturn, 1) := by decide +kernel
theorem dX5_checkpoint_39 : decode cX5_checkpoint 39 = .ok (.iconst 0, 1) := by decide +kernel
theorem dX5_checkpoint_40 : decode cX5_checkpoint 40 = .ok (.istore_n 1, 1) := by decide +kernel
theorem dX5_checkpoint_41 : decode cX5_checkpoint 41 = .ok (.iconst 0, 1) := by decide +kernel
theorem dX5_checkpoint_42 : decode cX5_checkpoint 42 = .ok (.istore_n 2, 1) := by decide +kernel
theorem dX5_checkpoint_43 : decode cX5_checkpoint 43 = .ok (.iload_n 2, 1) := by decide +kernel
theorem dX5_checkpoint_44 : decode cX5_checkpoint 44 = .ok (.bipush 32, 2) := by decide +kernel
theorem dX5_checkpoint_46 : decode cX5_checkpoint 46 = .ok (.if_icmp .ge 27, 3) := by decide +kernel
theorem dX5_checkpoint_49 : decode cX5_checkpoint 49 = .ok (.iload_n 1, 1) := by decide +kernel
theorem dX5_checkpoint_50 : decode cX5_checkpoint 50 = .ok (.aload_n 0, 1) := by decide +kernel
theorem dX5_checkpoint_51 : decode cX5_checkpoint 51 = .ok (.getfield 29, 3) := by decide +kernel
theorem dX5_checkpoint_54 : decode cX5_checkpoint 54 = .ok (.iload_n 2, 1) := by decide +kernel
theorem dX5_checkpoint_55 : decode cX5_checkpoint 55 = .ok (.iaload, 1) := by decide +kernel
theorem dX5_checkpoint_56 : decode cX5_checkpoint 56 = .ok (.iconst (-1), 1) := by decide +kernel
theorem dX5_checkpoint_57 : decode cX5_checkpoint 57 = .ok (.if_icmp .eq 7, 3) := by decide +kernel
theorem dX5_checkpoint_60 : decode cX5_checkpoint 60 = .ok (.iconst 1, 1) := by decide +kernel
theorem dX5_checkpoint_61 : decode cX5_checkpoint 61 = .ok (.goto 4, 3) := by decide +kernel
theorem dX5_checkpoint_64 : decode cX5_checkpoint 64 = .ok (.iconst 0, 1) := by decide +kernel
theorem dX5_checkpoint_65 : decode cX5_checkpoint 65 = .ok (.iadd, 1) := by decide +kernel
theorem dX5_checkpoint_66 : decode cX5_checkpoint 66 = .ok (.istore_n 1, 1) := by decide +kernel
theorem dX5_checkpoint_67 : decode cX5_checkpoint 67 = .ok (.iinc 2 1, 3) := by decide +kernel
theorem dX5_checkpoint_70 : decode cX5_checkpoint 70 = .ok (.goto (-27), 3) := by decide +kernel
theorem dX5_checkpoint_73 : decode cX5_checkpoint 73 = .ok (.iload_n 1, 1) := by decide +kernel
theorem dX5_checkpoint_74 : decode cX5_checkpoint 74 = .ok (.ifCond .ne 7, 3) := by decide +kernel
theorem dX5_checkpoint_77 : decode cX5_checkpoint 77 = .ok (.iconst 1, 1) := by decide +kernel
theorem dX5_checkpoint_78 : decode cX5_checkpoint 78 = .ok (.goto 8, 3) := by decide +kernel
theorem dX5_checkpoint_81 : decode cX5_checkpoint 81 = .ok (.iload_n 1, 1) := by decide +kernel
theorem dX5_checkpoint_82 : decode cX5_checkpoint 82 = .ok (.iconst 4, 1) := by decide +kernel
theorem dX5_checkpoint_83 : decode cX5_checkpoint 83 = .ok (.iadd, 1) := by decide +kernel
theorem dX5_checkpoint_84 : decode cX5_checkpoint 84 = .ok (.iconst 5, 1) := by decide +kernel
theorem dX5_checkpoint_85 : decode cX5_checkpoint 85 = .ok (.idiv, 1) := by decide +kernel
theorem dX5_checkpoint_86 : decode cX5_checkpoint 86 = .ok (.istore_n 2, 1) := by decide +kernel
theorem dX5_checkpoint_87 : decode cX5_checkpoint 87 = .ok (.aload_n 0, 1) := by decide +kernel
theorem dX5_checkpoint_88 : decode cX5_checkpoint 88 = .ok (.iload_n 2, 1) := by decide +kernel
theorem dX5_checkpoint_89 : decode cX5_checkpoint 89 = .ok (.aload_n 0, 1) := by decide +kernel
theorem dX5_checkpoint_90 : decode cX5_checkpoint 90 = .ok (.getfield 55, 3) := by decide +kernel
theorem dX5_checkpoint_93 : decode cX5_checkpoint 93 = .ok (.ifCond .le 7, 3) := by decide +kernel
theorem dX5_checkpoint_96 : decode cX5_checkpoint 96 = .ok (.iconst 1, 1) := by decide +kernel
theorem dX5_checkpoint_97 : decode cX5_checkpoint 97 = .ok (.goto 4, 3) := by decide +kernel
theorem dX5_checkpoint_100 : decode cX5_checkpoint 100 = .ok (.iconst 0, 1) := by decide +kernel
theorem dX5_checkpoint_101 : decode cX5_checkpoint 101 = .ok (.iadd, 1) := by decide +kernel
theorem dX5_checkpoint_102 : decode cX5_checkpoint 102 = .ok (.invokevirtual 107, 3) := by decide +kernel
theorem dX5_checkpoint_105 : decode cX5_checkpoint 105 = .ok (.ifCond .ne 6, 3) := by decide +kernel
theorem dX5_checkpoint_108 : decode cX5_checkpoint 108 = .ok (.bipush (-2), 2) := by decide +kernel
theorem dX5_checkpoint_110 : decode cX5_checkpoint 110 = .ok (.ireturn, 1) := by decide +kernel
theorem dX5_checkpoint_111 : decode cX5_checkpoint 111 = .ok (.aload_n 0, 1) := by decide +kernel
theorem dX5_checkpoint_112 : decode cX5_checkpoint 112 = .ok (.getfield 55, 3) := by decide +kernel
theorem dX5_checkpoint_115 : decode cX5_checkpoint 115 = .ok (.ifCond .le 7, 3) := by decide +kernel
theorem dX5_checkpoint_118 : decode cX5_checkpoint 118 = .ok (.aload_n 0, 1) := by decide +kernel
theorem dX5_checkpoint_119 : decode cX5_checkpoint 119 = .ok (.invokevirtual 104, 3) := by decide +kernel
theorem dX5_checkpoint_122 : decode cX5_checkpoint 122 = .ok (.aload_n 0, 1) := by decide +kernel
theorem dX5_checkpoint_123 : decode cX5_checkpoint 123 = .ok (.aload_n 0, 1) := by decide +kernel
theorem dX5_checkpoint_124 : decode cX5_checkpoint 124 = .ok (.getfield 71, 3) := by decide +kernel
theorem dX5_checkpoint_127 : decode cX5_checkpoint 127 = .ok (.iconst 1, 1) := by decide +kernel
theorem dX5_checkpoint_128 : decode cX5_checkpoint 128 = .ok (.iadd, 1) := by decide +kernel
theorem dX5_checkpoint_129 : decode cX5_checkpoint 129 = .ok (.putfield 74, 3) := by decide +kernel
theorem dX5_checkpoint_132 : decode cX5_checkpoint 132 = .ok (.iconst 0, 1) := by decide +kernel
theorem dX5_checkpoint_133 : decode cX5_checkpoint 133 = .ok (.istore_n 3, 1) := by decide +kernel
theorem dX5_checkpoint_134 : decode cX5_checkpoint 134 = .ok (.iconst 0, 1) := by decide +kernel
theorem dX5_checkpoint_135 : decode cX5_checkpoint 135 = .ok (.istore 4, 2) := by decide +kernel
theorem dX5_checkpoint_137 : decode cX5_checkpoint 137 = .ok (.iload 4, 2) := by decide +kernel
theorem dX5_checkpoint_139 : decode cX5_checkpoint 139 = .ok (.iload_n 2, 1) := by decide +kernel
theorem dX5_checkpoint_140 : decode cX5_checkpoint 140 = .ok (.if_icmp .ge 118, 3) := by decide +kernel
theorem dX5_checkpoint_143 : decode cX5_checkpoint 143 = .ok (.aload_n 0, 1) := by decide +kernel
theorem dX5_checkpoint_144 : decode cX5_checkpoint 144 = .ok (.iconst 2, 1) := by decide +kernel
theorem dX5_checkpoint_145 : decode cX5_checkpoint 145 = .ok (.aload_n 0, 1) := by decide +kernel
theorem dX5_checkpoint_146 : decode cX5_checkpoint 146 = .ok (.getfield 71, 3) := by decide +kernel
theorem dX5_checkpoint_149 : decode cX5_checkpoint 149 = .ok (.iconst 1, 1) := by decide +kernel
theorem dX5_checkpoint_150 : decode cX5_checkpoint 150 = .ok (.iadd, 1) := by decide +kernel
theorem dX5_checkpoint_151 : decode cX5_checkpoint 151 = .ok (.invokevirtual 80, 3) := by decide +kernel
theorem dX5_checkpoint_154 : decode cX5_checkpoint 154 = .ok (.iconst 0, 1) := by decide +kernel
theorem dX5_checkpoint_155 : decode cX5_checkpoint 155 = .ok (.istore 5, 2) := by decide +kernel
theorem dX5_checkpoint_157 : decode cX5_checkpoint 157 = .ok (.iload_n 3, 1) := by decide +kernel
theorem dX5_checkpoint_158 : decode cX5_checkpoint 158 = .ok (.bipush 32, 2) := by decide +kernel
theorem dX5_checkpoint_160 : decode cX5_checkpoint 160 = .ok (.if_icmp .ge 60, 3) := by decide +kernel
theorem dX5_checkpoint_163 : decode cX5_checkpoint 163 = .ok (.iload 5, 2) := by decide +kernel
theorem dX5_checkpoint_165 : decode cX5_checkpoint 165 = .ok (.iconst 5, 1) := by decide +kernel
theorem dX5_checkpoint_166 : decode cX5_checkpoint 166 = .ok (.if_icmp .ge 54, 3) := by decide +kernel
theorem dX5_checkpoint_169 : decode cX5_checkpoint 169 = .ok (.aload_n 0, 1) := by decide +kernel
theorem dX5_checkpoint_170 : decode cX5_checkpoint 170 = .ok (.getfield 29, 3) := by decide +kernel
theorem dX5_checkpoint_173 : decode cX5_checkpoint 173 = .ok (.iload_n 3, 1) := by decide +kernel
theorem dX5_checkpoint_174 : decode cX5_checkpoint 174 = .ok (.iaload, 1) := by decide +kernel
theorem dX5_checkpoint_175 : decode cX5_checkpoint 175 = .ok (.iconst (-1), 1) := by decide +kernel
theorem dX5_checkpoint_176 : decode cX5_checkpoint 176 = .ok (.if_icmp .eq 38, 3) := by decide +kernel
theorem dX5_checkpoint_179 : decode cX5_checkpoint 179 = .ok (.aload_n 0, 1) := by decide +kernel
theorem dX5_checkpoint_180 : decode cX5_checkpoint 180 = .ok (.getfield 42, 3) := by decide +kernel
theorem dX5_checkpoint_183 : decode cX5_checkpoint 183 = .ok (.bipush 6, 2) := by decide +kernel
theorem dX5_checkpoint_185 : decode cX5_checkpoint 185 = .ok (.iconst 4, 1) := by decide +kernel
theorem dX5_checkpoint_186 : decode cX5_checkpoint 186 = .ok (.iload 5, 2) := by decide +kernel
theorem dX5_checkpoint_188 : decode cX5_checkpoint 188 = .ok (.imul, 1) := by decide +kernel
theorem dX5_checkpoint_189 : decode cX5_checkpoint 189 = .ok (.iadd, 1) := by decide +kernel
theorem dX5_checkpoint_190 : decode cX5_checkpoint 190 = .ok (.iload_n 3, 1) := by decide +kernel
theorem dX5_checkpoint_191 : decode cX5_checkpoint 191 = .ok (.i2b, 1) := by decide +kernel
theorem dX5_checkpoint_192 : decode cX5_checkpoint 192 = .ok (.bastore, 1) := by decide +kernel
theorem dX5_checkpoint_193 : decode cX5_checkpoint 193 = .ok (.aload_n 0, 1) := by decide +kernel
theorem dX5_checkpoint_194 : decode cX5_checkpoint 194 = .ok (.bipush 7, 2) := by decide +kernel
theorem dX5_checkpoint_196 : decode cX5_checkpoint 196 = .ok (.iconst 4, 1) := by decide +kernel
theorem dX5_checkpoint_197 : decode cX5_checkpoint 197 = .ok (.iload 5, 2) := by decide +kernel
theorem dX5_checkpoint_199 : decode cX5_checkpoint 199 = .ok (.imul, 1) := by decide +kernel
theorem dX5_checkpoint_200 : decode cX5_checkpoint 200 = .ok (.iadd, 1) := by decide +kernel
theorem dX5_checkpoint_201 : decode cX5_checkpoint 201 = .ok (.aload_n 0, 1) := by decide +kernel
theorem dX5_checkpoint_202 : decode cX5_checkpoint 202 = .ok (.getfield 29, 3) := by decide +kernel
theorem dX5_checkpoint_205 : decode cX5_checkpoint 205 = .ok (.iload_n 3, 1) := by decide +kernel
theorem dX5_checkpoint_206 : decode cX5_checkpoint 206 = .ok (.iaload, 1) := by decide +kernel
theorem dX5_checkpoint_207 : decode cX5_checkpoint 207 = .ok (.iconst 3, 1) := by decide +kernel
theorem dX5_checkpoint_208 : decode cX5_checkpoint 208 = .ok (.invokevirtual 88, 3) := by decide +kernel
theorem dX5_checkpoint_211 : decode cX5_checkpoint 211 = .ok (.iinc 5 1, 3) := by decide +kernel
theorem dX5_checkpoint_214 : decode cX5_checkpoint 214 = .ok (.iinc 3 1, 3) := by decide +kernel
theorem dX5_checkpoint_217 : decode cX5_checkpoint 217 = .ok (.goto (-60), 3) := by decide +kernel
theorem dX5_checkpoint_220 : decode cX5_checkpoint 220 = .ok (.aload_n 0, 1) := by decide +kernel
theorem dX5_checkpoint_221 : decode cX5_checkpoint 221 = .ok (.getfield 42, 3) := by decide +kernel
theorem dX5_checkpoint_224 : decode cX5_checkpoint 224 = .ok (.iconst 5, 1) := by decide +kernel
theorem dX5_checkpoint_225 : decode cX5_checkpoint 225 = .ok (.iload 5, 2) := by decide +kernel
theorem dX5_checkpoint_227 : decode cX5_checkpoint 227 = .ok (.i2b, 1) := by decide +kernel
theorem dX5_checkpoint_228 : decode cX5_checkpoint 228 = .ok (.bastore, 1) := by decide +kernel
theorem dX5_checkpoint_229 : decode cX5_checkpoint 229 = .ok (.aload_n 0, 1) := by decide +kernel
theorem dX5_checkpoint_230 : decode cX5_checkpoint 230 = .ok (.getfield 42, 3) := by decide +kernel
theorem dX5_checkpoint_233 : decode cX5_checkpoint 233 = .ok (.bipush 26, 2) := by decide +kernel
theorem dX5_checkpoint_235 : decode cX5_checkpoint 235 = .ok (.iload 4, 2) := by decide +kernel
theorem dX5_checkpoint_237 : decode cX5_checkpoint 237 = .ok (.i2b, 1) := by decide +kernel
theorem dX5_checkpoint_238 : decode cX5_checkpoint 238 = .ok (.bastore, 1) := by decide +kernel
theorem dX5_checkpoint_239 : decode cX5_checkpoint 239 = .ok (.aload_n 0, 1) := by decide +kernel
theorem dX5_checkpoint_240 : decode cX5_checkpoint 240 = .ok (.getfield 42, 3) := by decide +kernel
theorem dX5_checkpoint_243 : decode cX5_checkpoint 243 = .ok (.bipush 27, 2) := by decide +kernel
theorem dX5_checkpoint_245 : decode cX5_checkpoint 245 = .ok (.iload_n 2, 1) := by decide +kernel
theorem dX5_checkpoint_246 : decode cX5_checkpoint 246 = .ok (.i2b, 1) := by decide +kernel
theorem dX5_checkpoint_247 : decode cX5_checkpoint 247 = .ok (.bastore, 1) := by decide +kernel
theorem dX5_checkpoint_248 : decode cX5_checkpoint 248 = .ok (.aload_n 0, 1) := by decide +kernel
theorem dX5_checkpoint_249 : decode cX5_checkpoint 249 = .ok (.invokevirtual 101, 3) := by decide +kernel
theorem dX5_checkpoint_252 : decode cX5_checkpoint 252 = .ok (.iinc 4 1, 3) := by decide +kernel
theorem dX5_checkpoint_255 : decode cX5_checkpoint 255 = .ok (.goto (-118), 3) := by decide +kernel
theorem dX5_checkpoint_258 : decode cX5_checkpoint 258 = .ok (.iload_n 2, 1) := by decide +kernel
theorem dX5_checkpoint_259 : decode cX5_checkpoint 259 = .ok (.ireturn, 1) := by decide +kernel
theorem dX5_cut_0 : decode cX5_cut 0 = .ok (.aload_n 0, 1) := by decide +kernel
theorem dX5_cut_1 : decode cX5_cut 1 = .ok (.getfield 64, 3) := by decide +kernel
theorem dX5_cut_4 : decode cX5_cut 4 = .ok (.ifCond .eq 6, 3) := by decide +kernel
theorem dX5_cut_7 : decode cX5_cut 7 = .ok (.bipush (-3), 2) := by decide +kernel
theorem dX5_cut_9 : decode cX5_cut 9 = .ok (.ireturn, 1) := by decide +kernel
theorem dX5_cut_10 : decode cX5_cut 10 = .ok (.iload_n 1, 1) := by decide +kernel
theorem dX5_cut_11 : decode cX5_cut 11 = .ok (.iconst 0, 1) := by decide +kernel
theorem dX5_cut_12 : decode cX5_cut 12 = .ok (.aload_n 0, 1) := by decide +kernel
theorem dX5_cut_13 : decode cX5_cut 13 = .ok (.getfield 52, 3) := by decide +kernel
theorem dX5_cut_16 : decode cX5_cut 16 = .ok (.invokestatic 111, 3) := by decide +kernel
theorem dX5_cut_19 : decode cX5_cut 19 = .ok (.ifCond .eq 13, 3) := by decide +kernel
theorem dX5_cut_22 : decode cX5_cut 22 = .ok (.iload_n 2, 1) := by decide +kernel
theorem dX5_cut_23 : decode cX5_cut 23 = .ok (.iconst 0, 1) := by decide +kernel
theorem dX5_cut_24 : decode cX5_cut 24 = .ok (.bipush 32, 2) := by decide +kernel
theorem dX5_cut_26 : decode cX5_cut 26 = .ok (.invokestatic 111, 3) := by decide +kernel
theorem dX5_cut_29 : decode cX5_cut 29 = .ok (.ifCond .ne 5, 3) := by decide +kernel
theorem dX5_cut_32 : decode cX5_cut 32 = .ok (.iconst (-1), 1) := by decide +kernel
theorem dX5_cut_33 : decode cX5_cut 33 = .ok (.ireturn, 1) := by decide +kernel
theorem dX5_cut_34 : decode cX5_cut 34 = .ok (.aload_n 0, 1) := by decide +kernel
theorem dX5_cut_35 : decode cX5_cut 35 = .ok (.getfield 52, 3) := by decide +kernel
theorem dX5_cut_38 : decode cX5_cut 38 = .ok (.istore_n 3, 1) := by decide +kernel
theorem dX5_cut_39 : decode cX5_cut 39 = .ok (.iconst 0, 1) := by decide +kernel
theorem dX5_cut_40 : decode cX5_cut 40 = .ok (.istore 4, 2) := by decide +kernel
theorem dX5_cut_42 : decode cX5_cut 42 = .ok (.iload 4, 2) := by decide +kernel
theorem dX5_cut_44 : decode cX5_cut 44 = .ok (.iload_n 1, 1) := by decide +kernel
theorem dX5_cut_45 : decode cX5_cut 45 = .ok (.if_icmp .ge 17, 3) := by decide +kernel
theorem dX5_cut_48 : decode cX5_cut 48 = .ok (.aload_n 0, 1) := by decide +kernel
theorem dX5_cut_49 : decode cX5_cut 49 = .ok (.iload 4, 2) := by decide +kernel
theorem dX5_cut_51 : decode cX5_cut 51 = .ok (.bipush 32, 2) := by decide +kernel
theorem dX5_cut_53 : decode cX5_cut 53 = .ok (.invokevirtual 136, 3) := by decide +kernel
theorem dX5_cut_56 : decode cX5_cut 56 = .ok (.iinc 4 1, 3) := by decide +kernel
theorem dX5_cut_59 : decode cX5_cut 59 = .ok (.goto (-17), 3) := by decide +kernel
theorem dX5_cut_62 : decode cX5_cut 62 = .ok (.iload_n 1, 1) := by decide +kernel
theorem dX5_cut_63 : decode cX5_cut 63 = .ok (.iload_n 3, 1) := by decide +kernel
theorem dX5_cut_64 : decode cX5_cut 64 = .ok (.if_icmp .ge 9, 3) := by decide +kernel
theorem dX5_cut_67 : decode cX5_cut 67 = .ok (.aload_n 0, 1) := by decide +kernel
theorem dX5_cut_68 : decode cX5_cut 68 = .ok (.iload_n 1, 1) := by decide +kernel
theorem dX5_cut_69 : decode cX5_cut 69 = .ok (.iload_n 2, 1) := by decide +kernel
theorem dX5_cut_70 : decode cX5_cut 70 = .ok (.invokevirtual 136, 3) := by decide +kernel
theorem dX5_cut_73 : decode cX5_cut 73 = .ok (.aload_n 0, 1) := by decide +kernel
theorem dX5_cut_74 : decode cX5_cut 74 = .ok (.invokevirtual 61, 3) := by decide +kernel
theorem dX5_cut_77 : decode cX5_cut 77 = .ok (.aload_n 0, 1) := by decide +kernel
theorem dX5_cut_78 : decode cX5_cut 78 = .ok (.iconst 1, 1) := by decide +kernel
theorem dX5_cut_79 : decode cX5_cut 79 = .ok (.putfield 64, 3) := by decide +kernel
theorem dX5_cut_82 : decode cX5_cut 82 = .ok (.iload_n 3, 1) := by decide +kernel
theorem dX5_cut_83 : decode cX5_cut 83 = .ok (.ireturn, 1) := by decide +kernel
theorem dX5_byteAt_0 : decode cX5_byteAt 0 = .ok (.aload_n 0, 1) := by decide +kernel
theorem dX5_byteAt_1 : decode cX5_byteAt 1 = .ok (.getfield 7, 3) := by decide +kernel
theorem dX5_byteAt_4 : decode cX5_byteAt 4 = .ok (.bipush 32, 2) := by decide +kernel
theorem dX5_byteAt_6 : decode cX5_byteAt 6 = .ok (.iload_n 1, 1) := by decide +kernel
theorem dX5_byteAt_7 : decode cX5_byteAt 7 = .ok (.imul, 1) := by decide +kernel
theorem dX5_byteAt_8 : decode cX5_byteAt 8 = .ok (.iload_n 2, 1) := by decide +kernel
theorem dX5_byteAt_9 : decode cX5_byteAt 9 = .ok (.iadd, 1) := by decide +kernel
theorem dX5_byteAt_10 : decode cX5_byteAt 10 = .ok (.baload, 1) := by decide +kernel
theorem dX5_byteAt_11 : decode cX5_byteAt 11 = .ok (.sipush 255, 3) := by decide +kernel
theorem dX5_byteAt_14 : decode cX5_byteAt 14 = .ok (.iand, 1) := by decide +kernel
theorem dX5_byteAt_15 : decode cX5_byteAt 15 = .ok (.ireturn, 1) := by decide +kernel
theorem dX5_numberAt_0 : decode cX5_numberAt 0 = .ok (.iconst 0, 1) := by decide +kernel
theorem dX5_numberAt_1 : decode cX5_numberAt 1 = .ok (.istore 4, 2) := by decide +kernel
theorem dX5_numberAt_3 : decode cX5_numberAt 3 = .ok (.iconst 0, 1) := by decide +kernel
theorem dX5_numberAt_4 : decode cX5_numberAt 4 = .ok (.istore 5, 2) := by decide +kernel
theorem dX5_numberAt_6 : decode cX5_numberAt 6 = .ok (.iload 5, 2) := by decide +kernel
theorem dX5_numberAt_8 : decode cX5_numberAt 8 = .ok (.iload_n 3, 1) := by decide +kernel
theorem dX5_numberAt_9 : decode cX5_numberAt 9 = .ok (.if_icmp .ge 26, 3) := by decide +kernel
theorem dX5_numberAt_12 : decode cX5_numberAt 12 = .ok (.iload 4, 2) := by decide +kernel
theorem dX5_numberAt_14 : decode cX5_numberAt 14 = .ok (.bipush 8, 2) := by decide +kernel
theorem dX5_numberAt_16 : decode cX5_numberAt 16 = .ok (.ishl, 1) := by decide +kernel
theorem dX5_numberAt_17 : decode cX5_numberAt 17 = .ok (.aload_n 0, 1) := by decide +kernel
theorem dX5_numberAt_18 : decode cX5_numberAt 18 = .ok (.iload_n 1, 1) := by decide +kernel
theorem dX5_numberAt_19 : decode cX5_numberAt 19 = .ok (.iload_n 2, 1) := by decide +kernel
theorem dX5_numberAt_20 : decode cX5_numberAt 20 = .ok (.iload 5, 2) := by decide +kernel
theorem dX5_numberAt_22 : decode cX5_numberAt 22 = .ok (.iadd, 1) := by decide +kernel
theorem dX5_numberAt_23 : decode cX5_numberAt 23 = .ok (.invokevirtual 139, 3) := by decide +kernel
theorem dX5_numberAt_26 : decode cX5_numberAt 26 = .ok (.ior, 1) := by decide +kernel
theorem dX5_numberAt_27 : decode cX5_numberAt 27 = .ok (.istore 4, 2) := by decide +kernel
theorem dX5_numberAt_29 : decode cX5_numberAt 29 = .ok (.iinc 5 1, 3) := by decide +kernel
theorem dX5_numberAt_32 : decode cX5_numberAt 32 = .ok (.goto (-26), 3) := by decide +kernel
theorem dX5_numberAt_35 : decode cX5_numberAt 35 = .ok (.iload 4, 2) := by decide +kernel
theorem dX5_numberAt_37 : decode cX5_numberAt 37 = .ok (.ireturn, 1) := by decide +kernel
theorem dX5_isSound_0 : decode cX5_isSound 0 = .ok (.iload_n 1, 1) := by decide +kernel
theorem dX5_isSound_1 : decode cX5_isSound 1 = .ok (.iconst 1, 1) := by decide +kernel
theorem dX5_isSound_2 : decode cX5_isSound 2 = .ok (.iadd, 1) := by decide +kernel
theorem dX5_isSound_3 : decode cX5_isSound 3 = .ok (.istore_n 2, 1) := by decide +kernel
theorem dX5_isSound_4 : decode cX5_isSound 4 = .ok (.iconst 0, 1) := by decide +kernel
theorem dX5_isSound_5 : decode cX5_isSound 5 = .ok (.istore_n 3, 1) := by decide +kernel
theorem dX5_isSound_6 : decode cX5_isSound 6 = .ok (.iload_n 3, 1) := by decide +kernel
theorem dX5_isSound_7 : decode cX5_isSound 7 = .ok (.bipush 28, 2) := by decide +kernel
theorem dX5_isSound_9 : decode cX5_isSound 9 = .ok (.if_icmp .ge 20, 3) := by decide +kernel
theorem dX5_isSound_12 : decode cX5_isSound 12 = .ok (.iload_n 2, 1) := by decide +kernel
theorem dX5_isSound_13 : decode cX5_isSound 13 = .ok (.aload_n 0, 1) := by decide +kernel
theorem dX5_isSound_14 : decode cX5_isSound 14 = .ok (.iload_n 1, 1) := by decide +kernel
theorem dX5_isSound_15 : decode cX5_isSound 15 = .ok (.iload_n 3, 1) := by decide +kernel
theorem dX5_isSound_16 : decode cX5_isSound 16 = .ok (.invokevirtual 139, 3) := by decide +kernel
theorem dX5_isSound_19 : decode cX5_isSound 19 = .ok (.invokestatic 93, 3) := by decide +kernel
theorem dX5_isSound_22 : decode cX5_isSound 22 = .ok (.istore_n 2, 1) := by decide +kernel
theorem dX5_isSound_23 : decode cX5_isSound 23 = .ok (.iinc 3 1, 3) := by decide +kernel
theorem dX5_isSound_26 : decode cX5_isSound 26 = .ok (.goto (-20), 3) := by decide +kernel
theorem dX5_isSound_29 : decode cX5_isSound 29 = .ok (.aload_n 0, 1) := by decide +kernel
theorem dX5_isSound_30 : decode cX5_isSound 30 = .ok (.iload_n 1, 1) := by decide +kernel
theorem dX5_isSound_31 : decode cX5_isSound 31 = .ok (.bipush 28, 2) := by decide +kernel
theorem dX5_isSound_33 : decode cX5_isSound 33 = .ok (.iconst 4, 1) := by decide +kernel
theorem dX5_isSound_34 : decode cX5_isSound 34 = .ok (.invokevirtual 142, 3) := by decide +kernel
theorem dX5_isSound_37 : decode cX5_isSound 37 = .ok (.iload_n 2, 1) := by decide +kernel
theorem dX5_isSound_38 : decode cX5_isSound 38 = .ok (.if_icmp .ne 7, 3) := by decide +kernel
theorem dX5_isSound_41 : decode cX5_isSound 41 = .ok (.iconst 1, 1) := by decide +kernel
theorem dX5_isSound_42 : decode cX5_isSound 42 = .ok (.goto 4, 3) := by decide +kernel
theorem dX5_isSound_45 : decode cX5_isSound 45 = .ok (.iconst 0, 1) := by decide +kernel
theorem dX5_isSound_46 : decode cX5_isSound 46 = .ok (.ireturn, 1) := by decide +kernel
theorem dX5_tells_0 : decode cX5_tells 0 = .ok (.aload_n 0, 1) := by decide +kernel
theorem dX5_tells_1 : decode cX5_tells 1 = .ok (.iload_n 1, 1) := by decide +kernel
theorem dX5_tells_2 : decode cX5_tells 2 = .ok (.iconst 0, 1) := by decide +kernel
theorem dX5_tells_3 : decode cX5_tells 3 = .ok (.invokevirtual 139, 3) := by decide +kernel
theorem dX5_tells_6 : decode cX5_tells 6 = .ok (.istore_n 2, 1) := by decide +kernel
theorem dX5_tells_7 : decode cX5_tells 7 = .ok (.aload_n 0, 1) := by decide +kernel
theorem dX5_tells_8 : decode cX5_tells 8 = .ok (.iload_n 1, 1) := by decide +kernel
theorem dX5_tells_9 : decode cX5_tells 9 = .ok (.iconst 5, 1) := by decide +kernel
theorem dX5_tells_10 : decode cX5_tells 10 = .ok (.invokevirtual 139, 3) := by decide +kernel
theorem dX5_tells_13 : decode cX5_tells 13 = .ok (.istore_n 3, 1) := by decide +kernel
theorem dX5_tells_14 : decode cX5_tells 14 = .ok (.aload_n 0, 1) := by decide +kernel
theorem dX5_tells_15 : decode cX5_tells 15 = .ok (.iload_n 1, 1) := by decide +kernel
theorem dX5_tells_16 : decode cX5_tells 16 = .ok (.invokevirtual 146, 3) := by decide +kernel
theorem dX5_tells_19 : decode cX5_tells 19 = .ok (.ifCond .eq 52, 3) := by decide +kernel
theorem dX5_tells_22 : decode cX5_tells 22 = .ok (.iload_n 2, 1) := by decide +kernel
theorem dX5_tells_23 : decode cX5_tells 23 = .ok (.iconst 1, 1) := by decide +kernel
theorem dX5_tells_24 : decode cX5_tells 24 = .ok (.if_icmp .ne 16, 3) := by decide +kernel
theorem dX5_tells_27 : decode cX5_tells 27 = .ok (.iload_n 3, 1) := by decide +kernel
theorem dX5_tells_28 : decode cX5_tells 28 = .ok (.iconst 1, 1) := by decide +kernel
theorem dX5_tells_29 : decode cX5_tells 29 = .ok (.if_icmp .lt 42, 3) := by decide +kernel
theorem dX5_tells_32 : decode cX5_tells 32 = .ok (.iload_n 3, 1) := by decide +kernel
theorem dX5_tells_33 : decode cX5_tells 33 = .ok (.iconst 4, 1) := by decide +kernel
theorem dX5_tells_34 : decode cX5_tells 34 = .ok (.if_icmp .gt 37, 3) := by decide +kernel
theorem dX5_tells_37 : decode cX5_tells 37 = .ok (.goto 30, 3) := by decide +kernel
theorem dX5_tells_40 : decode cX5_tells 40 = .ok (.iload_n 2, 1) := by decide +kernel
theorem dX5_tells_41 : decode cX5_tells 41 = .ok (.iconst 2, 1) := by decide +kernel
theorem dX5_tells_42 : decode cX5_tells 42 = .ok (.if_icmp .ne 29, 3) := by decide +kernel
theorem dX5_tells_45 : decode cX5_tells 45 = .ok (.iload_n 3, 1) := by decide +kernel
theorem dX5_tells_46 : decode cX5_tells 46 = .ok (.iconst 5, 1) := by decide +kernel
theorem dX5_tells_47 : decode cX5_tells 47 = .ok (.if_icmp .gt 24, 3) := by decide +kernel
theorem dX5_tells_50 : decode cX5_tells 50 = .ok (.aload_n 0, 1) := by decide +kernel
theorem dX5_tells_51 : decode cX5_tells 51 = .ok (.iload_n 1, 1) := by decide +kernel
theorem dX5_tells_52 : decode cX5_tells 52 = .ok (.bipush 26, 2) := by decide +kernel
theorem dX5_tells_54 : decode cX5_tells 54 = .ok (.invokevirtual 139, 3) := by decide +kernel
theorem dX5_tells_57 : decode cX5_tells 57 = .ok (.aload_n 0, 1) := by decide +kernel
theorem dX5_tells_58 : decode cX5_tells 58 = .ok (.iload_n 1, 1) := by decide +kernel
theorem dX5_tells_59 : decode cX5_tells 59 = .ok (.bipush 27, 2) := by decide +kernel
theorem dX5_tells_61 : decode cX5_tells 61 = .ok (.invokevirtual 139, 3) := by decide +kernel
theorem dX5_tells_64 : decode cX5_tells 64 = .ok (.if_icmp .ge 7, 3) := by decide +kernel
theorem dX5_tells_67 : decode cX5_tells 67 = .ok (.iconst 1, 1) := by decide +kernel
theorem dX5_tells_68 : decode cX5_tells 68 = .ok (.goto 4, 3) := by decide +kernel
theorem dX5_tells_71 : decode cX5_tells 71 = .ok (.iconst 0, 1) := by decide +kernel
theorem dX5_tells_72 : decode cX5_tells 72 = .ok (.istore 4, 2) := by decide +kernel
theorem dX5_tells_74 : decode cX5_tells 74 = .ok (.iconst 0, 1) := by decide +kernel
theorem dX5_tells_75 : decode cX5_tells 75 = .ok (.istore 5, 2) := by decide +kernel
theorem dX5_tells_77 : decode cX5_tells 77 = .ok (.iload 5, 2) := by decide +kernel
theorem dX5_tells_79 : decode cX5_tells 79 = .ok (.iload_n 3, 1) := by decide +kernel
theorem dX5_tells_80 : decode cX5_tells 80 = .ok (.if_icmp .ge 85, 3) := by decide +kernel
theorem dX5_tells_83 : decode cX5_tells 83 = .ok (.iload 4, 2) := by decide +kernel
theorem dX5_tells_85 : decode cX5_tells 85 = .ok (.ifCond .eq 80, 3) := by decide +kernel
theorem dX5_tells_88 : decode cX5_tells 88 = .ok (.iload_n 2, 1) := by decide +kernel
theorem dX5_tells_89 : decode cX5_tells 89 = .ok (.iconst 1, 1) := by decide +kernel
theorem dX5_tells_90 : decode cX5_tells 90 = .ok (.if_icmp .ne 45, 3) := by decide +kernel
theorem dX5_tells_93 : decode cX5_tells 93 = .ok (.aload_n 0, 1) := by decide +kernel
theorem dX5_tells_94 : decode cX5_tells 94 = .ok (.iload_n 1, 1) := by decide +kernel
theorem dX5_tells_95 : decode cX5_tells 95 = .ok (.bipush 6, 2) := by decide +kernel
theorem dX5_tells_97 : decode cX5_tells 97 = .ok (.iconst 5, 1) := by decide +kernel
theorem dX5_tells_98 : decode cX5_tells 98 = .ok (.iload 5, 2) := by decide +kernel
theorem dX5_tells_100 : decode cX5_tells 100 = .ok (.imul, 1) := by decide +kernel
theorem dX5_tells_101 : decode cX5_tells 101 = .ok (.iadd, 1) := by decide +kernel
theorem dX5_tells_102 : decode cX5_tells 102 = .ok (.invokevirtual 139, 3) := by decide +kernel
theorem dX5_tells_105 : decode cX5_tells 105 = .ok (.bipush 12, 2) := by decide +kernel
theorem dX5_tells_107 : decode cX5_tells 107 = .ok (.if_icmp .ge 24, 3) := by decide +kernel
theorem dX5_tells_110 : decode cX5_tells 110 = .ok (.aload_n 0, 1) := by decide +kernel
theorem dX5_tells_111 : decode cX5_tells 111 = .ok (.iload_n 1, 1) := by decide +kernel
theorem dX5_tells_112 : decode cX5_tells 112 = .ok (.bipush 7, 2) := by decide +kernel
theorem dX5_tells_114 : decode cX5_tells 114 = .ok (.iconst 5, 1) := by decide +kernel
theorem dX5_tells_115 : decode cX5_tells 115 = .ok (.iload 5, 2) := by decide +kernel
theorem dX5_tells_117 : decode cX5_tells 117 = .ok (.imul, 1) := by decide +kernel
theorem dX5_tells_118 : decode cX5_tells 118 = .ok (.iadd, 1) := by decide +kernel
theorem dX5_tells_119 : decode cX5_tells 119 = .ok (.invokevirtual 139, 3) := by decide +kernel
theorem dX5_tells_122 : decode cX5_tells 122 = .ok (.bipush 32, 2) := by decide +kernel
theorem dX5_tells_124 : decode cX5_tells 124 = .ok (.if_icmp .ge 7, 3) := by decide +kernel
theorem dX5_tells_127 : decode cX5_tells 127 = .ok (.iconst 1, 1) := by decide +kernel
theorem dX5_tells_128 : decode cX5_tells 128 = .ok (.goto 29, 3) := by decide +kernel
theorem dX5_tells_131 : decode cX5_tells 131 = .ok (.iconst 0, 1) := by decide +kernel
theorem dX5_tells_132 : decode cX5_tells 132 = .ok (.goto 25, 3) := by decide +kernel
theorem dX5_tells_135 : decode cX5_tells 135 = .ok (.aload_n 0, 1) := by decide +kernel
theorem dX5_tells_136 : decode cX5_tells 136 = .ok (.iload_n 1, 1) := by decide +kernel
theorem dX5_tells_137 : decode cX5_tells 137 = .ok (.bipush 6, 2) := by decide +kernel
theorem dX5_tells_139 : decode cX5_tells 139 = .ok (.iconst 4, 1) := by decide +kernel
theorem dX5_tells_140 : decode cX5_tells 140 = .ok (.iload 5, 2) := by decide +kernel
theorem dX5_tells_142 : decode cX5_tells 142 = .ok (.imul, 1) := by decide +kernel
theorem dX5_tells_143 : decode cX5_tells 143 = .ok (.iadd, 1) := by decide +kernel
theorem dX5_tells_144 : decode cX5_tells 144 = .ok (.invokevirtual 139, 3) := by decide +kernel
theorem dX5_tells_147 : decode cX5_tells 147 = .ok (.bipush 32, 2) := by decide +kernel
theorem dX5_tells_149 : decode cX5_tells 149 = .ok (.if_icmp .ge 7, 3) := by decide +kernel
theorem dX5_tells_152 : decode cX5_tells 152 = .ok (.iconst 1, 1) := by decide +kernel
theorem dX5_tells_153 : decode cX5_tells 153 = .ok (.goto 4, 3) := by decide +kernel
theorem dX5_tells_156 : decode cX5_tells 156 = .ok (.iconst 0, 1) := by decide +kernel
theorem dX5_tells_157 : decode cX5_tells 157 = .ok (.istore 4, 2) := by decide +kernel
theorem dX5_tells_159 : decode cX5_tells 159 = .ok (.iinc 5 1, 3) := by decide +kernel
theorem dX5_tells_162 : decode cX5_tells 162 = .ok (.goto (-85), 3) := by decide +kernel
theorem dX5_tells_165 : decode cX5_tells 165 = .ok (.iload 4, 2) := by decide +kernel
theorem dX5_tells_167 : decode cX5_tells 167 = .ok (.ireturn, 1) := by decide +kernel
theorem dX5_serialAt_0 : decode cX5_serialAt 0 = .ok (.aload_n 0, 1) := by decide +kernel
theorem dX5_serialAt_1 : decode cX5_serialAt 1 = .ok (.iload_n 1, 1) := by decide +kernel
theorem dX5_serialAt_2 : decode cX5_serialAt 2 = .ok (.iconst 1, 1) := by decide +kernel
theorem dX5_serialAt_3 : decode cX5_serialAt 3 = .ok (.iconst 4, 1) := by decide +kernel
theorem dX5_serialAt_4 : decode cX5_serialAt 4 = .ok (.invokevirtual 142, 3) := by decide +kernel
theorem dX5_serialAt_7 : decode cX5_serialAt 7 = .ok (.ireturn, 1) := by decide +kernel
theorem dX5_pagesFrom_0 : decode cX5_pagesFrom 0 = .ok (.aload_n 0, 1) := by decide +kernel
theorem dX5_pagesFrom_1 : decode cX5_pagesFrom 1 = .ok (.iload_n 1, 1) := by decide +kernel
theorem dX5_pagesFrom_2 : decode cX5_pagesFrom 2 = .ok (.bipush 27, 2) := by decide +kernel
theorem dX5_pagesFrom_4 : decode cX5_pagesFrom 4 = .ok (.invokevirtual 139, 3) := by decide +kernel
theorem dX5_pagesFrom_7 : decode cX5_pagesFrom 7 = .ok (.istore_n 2, 1) := by decide +kernel
theorem dX5_pagesFrom_8 : decode cX5_pagesFrom 8 = .ok (.iload_n 2, 1) := by decide +kernel
theorem dX5_pagesFrom_9 : decode cX5_pagesFrom 9 = .ok (.aload_n 0, 1) := by decide +kernel
theorem dX5_pagesFrom_10 : decode cX5_pagesFrom 10 = .ok (.getfield 45, 3) := by decide +kernel
theorem dX5_pagesFrom_13 : decode cX5_pagesFrom 13 = .ok (.if_icmp .gt 7, 3) := by decide +kernel
theorem dX5_pagesFrom_16 : decode cX5_pagesFrom 16 = .ok (.iconst 1, 1) := by decide +kernel
theorem dX5_pagesFrom_17 : decode cX5_pagesFrom 17 = .ok (.goto 4, 3) := by decide +kernel
theorem dX5_pagesFrom_20 : decode cX5_pagesFrom 20 = .ok (.iconst 0, 1) := by decide +kernel
theorem dX5_pagesFrom_21 : decode cX5_pagesFrom 21 = .ok (.istore_n 3, 1) := by decide +kernel
theorem dX5_pagesFrom_22 : decode cX5_pagesFrom 22 = .ok (.iconst 0, 1) := by decide +kernel
theorem dX5_pagesFrom_23 : decode cX5_pagesFrom 23 = .ok (.istore 4, 2) := by decide +kernel
theorem dX5_pagesFrom_25 : decode cX5_pagesFrom 25 = .ok (.iload 4, 2) := by decide +kernel
theorem dX5_pagesFrom_27 : decode cX5_pagesFrom 27 = .ok (.iload_n 2, 1) := by decide +kernel
theorem dX5_pagesFrom_28 : decode cX5_pagesFrom 28 = .ok (.if_icmp .ge 92, 3) := by decide +kernel
theorem dX5_pagesFrom_31 : decode cX5_pagesFrom 31 = .ok (.iload_n 3, 1) := by decide +kernel
theorem dX5_pagesFrom_32 : decode cX5_pagesFrom 32 = .ok (.ifCond .eq 88, 3) := by decide +kernel
theorem dX5_pagesFrom_35 : decode cX5_pagesFrom 35 = .ok (.iload_n 1, 1) := by decide +kernel
theorem dX5_pagesFrom_36 : decode cX5_pagesFrom 36 = .ok (.iload 4, 2) := by decide +kernel
theorem dX5_pagesFrom_38 : decode cX5_pagesFrom 38 = .ok (.iadd, 1) := by decide +kernel
theorem dX5_pagesFrom_39 : decode cX5_pagesFrom 39 = .ok (.aload_n 0, 1) := by decide +kernel
theorem dX5_pagesFrom_40 : decode cX5_pagesFrom 40 = .ok (.getfield 45, 3) := by decide +kernel
theorem dX5_pagesFrom_43 : decode cX5_pagesFrom 43 = .ok (.irem, 1) := by decide +kernel
theorem dX5_pagesFrom_44 : decode cX5_pagesFrom 44 = .ok (.istore 5, 2) := by decide +kernel
theorem dX5_pagesFrom_46 : decode cX5_pagesFrom 46 = .ok (.aload_n 0, 1) := by decide +kernel
theorem dX5_pagesFrom_47 : decode cX5_pagesFrom 47 = .ok (.iload 5, 2) := by decide +kernel
theorem dX5_pagesFrom_49 : decode cX5_pagesFrom 49 = .ok (.invokevirtual 149, 3) := by decide +kernel
theorem dX5_pagesFrom_52 : decode cX5_pagesFrom 52 = .ok (.ifCond .eq 60, 3) := by decide +kernel
theorem dX5_pagesFrom_55 : decode cX5_pagesFrom 55 = .ok (.aload_n 0, 1) := by decide +kernel
theorem dX5_pagesFrom_56 : decode cX5_pagesFrom 56 = .ok (.iload 5, 2) := by decide +kernel
theorem dX5_pagesFrom_58 : decode cX5_pagesFrom 58 = .ok (.iconst 0, 1) := by decide +kernel
theorem dX5_pagesFrom_59 : decode cX5_pagesFrom 59 = .ok (.invokevirtual 139, 3) := by decide +kernel
theorem dX5_pagesFrom_62 : decode cX5_pagesFrom 62 = .ok (.iconst 2, 1) := by decide +kernel
theorem dX5_pagesFrom_63 : decode cX5_pagesFrom 63 = .ok (.if_icmp .ne 49, 3) := by decide +kernel
theorem dX5_pagesFrom_66 : decode cX5_pagesFrom 66 = .ok (.aload_n 0, 1) := by decide +kernel
theorem dX5_pagesFrom_67 : decode cX5_pagesFrom 67 = .ok (.iload 5, 2) := by decide +kernel
theorem dX5_pagesFrom_69 : decode cX5_pagesFrom 69 = .ok (.bipush 26, 2) := by decide +kernel
theorem dX5_pagesFrom_71 : decode cX5_pagesFrom 71 = .ok (.invokevirtual 139, 3) := by decide +kernel
theorem dX5_pagesFrom_74 : decode cX5_pagesFrom 74 = .ok (.iload 4, 2) := by decide +kernel
theorem dX5_pagesFrom_76 : decode cX5_pagesFrom 76 = .ok (.if_icmp .ne 36, 3) := by decide +kernel
theorem dX5_pagesFrom_79 : decode cX5_pagesFrom 79 = .ok (.aload_n 0, 1) := by decide +kernel
theorem dX5_pagesFrom_80 : decode cX5_pagesFrom 80 = .ok (.iload 5, 2) := by decide +kernel
theorem dX5_pagesFrom_82 : decode cX5_pagesFrom 82 = .ok (.bipush 27, 2) := by decide +kernel
theorem dX5_pagesFrom_84 : decode cX5_pagesFrom 84 = .ok (.invokevirtual 139, 3) := by decide +kernel
theorem dX5_pagesFrom_87 : decode cX5_pagesFrom 87 = .ok (.iload_n 2, 1) := by decide +kernel
theorem dX5_pagesFrom_88 : decode cX5_pagesFrom 88 = .ok (.if_icmp .ne 24, 3) := by decide +kernel
theorem dX5_pagesFrom_91 : decode cX5_pagesFrom 91 = .ok (.aload_n 0, 1) := by decide +kernel
theorem dX5_pagesFrom_92 : decode cX5_pagesFrom 92 = .ok (.iload 5, 2) := by decide +kernel
theorem dX5_pagesFrom_94 : decode cX5_pagesFrom 94 = .ok (.invokevirtual 152, 3) := by decide +kernel
theorem dX5_pagesFrom_97 : decode cX5_pagesFrom 97 = .ok (.aload_n 0, 1) := by decide +kernel
theorem dX5_pagesFrom_98 : decode cX5_pagesFrom 98 = .ok (.iload_n 1, 1) := by decide +kernel
theorem dX5_pagesFrom_99 : decode cX5_pagesFrom 99 = .ok (.invokevirtual 152, 3) := by decide +kernel
theorem dX5_pagesFrom_102 : decode cX5_pagesFrom 102 = .ok (.iload 4, 2) := by decide +kernel
theorem dX5_pagesFrom_104 : decode cX5_pagesFrom 104 = .ok (.iadd, 1) := by decide +kernel
theorem dX5_pagesFrom_105 : decode cX5_pagesFrom 105 = .ok (.if_icmp .ne 7, 3) := by decide +kernel
theorem dX5_pagesFrom_108 : decode cX5_pagesFrom 108 = .ok (.iconst 1, 1) := by decide +kernel
theorem dX5_pagesFrom_109 : decode cX5_pagesFrom 109 = .ok (.goto 4, 3) := by decide +kernel
theorem dX5_pagesFrom_112 : decode cX5_pagesFrom 112 = .ok (.iconst 0, 1) := by decide +kernel
theorem dX5_pagesFrom_113 : decode cX5_pagesFrom 113 = .ok (.istore_n 3, 1) := by decide +kernel
theorem dX5_pagesFrom_114 : decode cX5_pagesFrom 114 = .ok (.iinc 4 1, 3) := by decide +kernel
theorem dX5_pagesFrom_117 : decode cX5_pagesFrom 117 = .ok (.goto (-92), 3) := by decide +kernel
theorem dX5_pagesFrom_120 : decode cX5_pagesFrom 120 = .ok (.iload_n 3, 1) := by decide +kernel
theorem dX5_pagesFrom_121 : decode cX5_pagesFrom 121 = .ok (.ifCond .eq 7, 3) := by decide +kernel
theorem dX5_pagesFrom_124 : decode cX5_pagesFrom 124 = .ok (.iload_n 2, 1) := by decide +kernel
theorem dX5_pagesFrom_125 : decode cX5_pagesFrom 125 = .ok (.goto 4, 3) := by decide +kernel
theorem dX5_pagesFrom_128 : decode cX5_pagesFrom 128 = .ok (.iconst 0, 1) := by decide +kernel
theorem dX5_pagesFrom_129 : decode cX5_pagesFrom 129 = .ok (.ireturn, 1) := by decide +kernel
theorem dX5_redo_0 : decode cX5_redo 0 = .ok (.iconst 0, 1) := by decide +kernel
theorem dX5_redo_1 : decode cX5_redo 1 = .ok (.istore_n 2, 1) := by decide +kernel
theorem dX5_redo_2 : decode cX5_redo 2 = .ok (.iload_n 2, 1) := by decide +kernel
theorem dX5_redo_3 : decode cX5_redo 3 = .ok (.aload_n 0, 1) := by decide +kernel
theorem dX5_redo_4 : decode cX5_redo 4 = .ok (.iload_n 1, 1) := by decide +kernel
theorem dX5_redo_5 : decode cX5_redo 5 = .ok (.iconst 5, 1) := by decide +kernel
theorem dX5_redo_6 : decode cX5_redo 6 = .ok (.invokevirtual 139, 3) := by decide +kernel
theorem dX5_redo_9 : decode cX5_redo 9 = .ok (.if_icmp .ge 117, 3) := by decide +kernel
theorem dX5_redo_12 : decode cX5_redo 12 = .ok (.aload_n 0, 1) := by decide +kernel
theorem dX5_redo_13 : decode cX5_redo 13 = .ok (.iload_n 1, 1) := by decide +kernel
theorem dX5_redo_14 : decode cX5_redo 14 = .ok (.bipush 6, 2) := by decide +kernel
theorem dX5_redo_16 : decode cX5_redo 16 = .ok (.iconst 5, 1) := by decide +kernel
theorem dX5_redo_17 : decode cX5_redo 17 = .ok (.iload_n 2, 1) := by decide +kernel
theorem dX5_redo_18 : decode cX5_redo 18 = .ok (.imul, 1) := by decide +kernel
theorem dX5_redo_19 : decode cX5_redo 19 = .ok (.iadd, 1) := by decide +kernel
theorem dX5_redo_20 : decode cX5_redo 20 = .ok (.invokevirtual 139, 3) := by decide +kernel
theorem dX5_redo_23 : decode cX5_redo 23 = .ok (.istore_n 3, 1) := by decide +kernel
theorem dX5_redo_24 : decode cX5_redo 24 = .ok (.aload_n 0, 1) := by decide +kernel
theorem dX5_redo_25 : decode cX5_redo 25 = .ok (.iload_n 1, 1) := by decide +kernel
theorem dX5_redo_26 : decode cX5_redo 26 = .ok (.bipush 7, 2) := by decide +kernel
theorem dX5_redo_28 : decode cX5_redo 28 = .ok (.iconst 5, 1) := by decide +kernel
theorem dX5_redo_29 : decode cX5_redo 29 = .ok (.iload_n 2, 1) := by decide +kernel
theorem dX5_redo_30 : decode cX5_redo 30 = .ok (.imul, 1) := by decide +kernel
theorem dX5_redo_31 : decode cX5_redo 31 = .ok (.iadd, 1) := by decide +kernel
theorem dX5_redo_32 : decode cX5_redo 32 = .ok (.invokevirtual 139, 3) := by decide +kernel
theorem dX5_redo_35 : decode cX5_redo 35 = .ok (.istore 4, 2) := by decide +kernel
theorem dX5_redo_37 : decode cX5_redo 37 = .ok (.iload_n 3, 1) := by decide +kernel
theorem dX5_redo_38 : decode cX5_redo 38 = .ok (.iconst 4, 1) := by decide +kernel
theorem dX5_redo_39 : decode cX5_redo 39 = .ok (.idiv, 1) := by decide +kernel
theorem dX5_redo_40 : decode cX5_redo 40 = .ok (.istore 5, 2) := by decide +kernel
theorem dX5_redo_42 : decode cX5_redo 42 = .ok (.iload_n 3, 1) := by decide +kernel
theorem dX5_redo_43 : decode cX5_redo 43 = .ok (.iconst 4, 1) := by decide +kernel
theorem dX5_redo_44 : decode cX5_redo 44 = .ok (.irem, 1) := by decide +kernel
theorem dX5_redo_45 : decode cX5_redo 45 = .ok (.istore 6, 2) := by decide +kernel
theorem dX5_redo_47 : decode cX5_redo 47 = .ok (.iload 6, 2) := by decide +kernel
theorem dX5_redo_49 : decode cX5_redo 49 = .ok (.iconst 2, 1) := by decide +kernel
theorem dX5_redo_50 : decode cX5_redo 50 = .ok (.if_icmp .ge 52, 3) := by decide +kernel
theorem dX5_redo_53 : decode cX5_redo 53 = .ok (.aload_n 0, 1) := by decide +kernel
theorem dX5_redo_54 : decode cX5_redo 54 = .ok (.getfield 32, 3) := by decide +kernel
theorem dX5_redo_57 : decode cX5_redo 57 = .ok (.iload 5, 2) := by decide +kernel
theorem dX5_redo_59 : decode cX5_redo 59 = .ok (.iconst 1, 1) := by decide +kernel
theorem dX5_redo_60 : decode cX5_redo 60 = .ok (.bastore, 1) := by decide +kernel
theorem dX5_redo_61 : decode cX5_redo 61 = .ok (.aload_n 0, 1) := by decide +kernel
theorem dX5_redo_62 : decode cX5_redo 62 = .ok (.getfield 36, 3) := by decide +kernel
theorem dX5_redo_65 : decode cX5_redo 65 = .ok (.iload 4, 2) := by decide +kernel
theorem dX5_redo_67 : decode cX5_redo 67 = .ok (.iload 5, 2) := by decide +kernel
theorem dX5_redo_69 : decode cX5_redo 69 = .ok (.iastore, 1) := by decide +kernel
theorem dX5_redo_70 : decode cX5_redo 70 = .ok (.aload_n 0, 1) := by decide +kernel
theorem dX5_redo_71 : decode cX5_redo 71 = .ok (.getfield 39, 3) := by decide +kernel
theorem dX5_redo_74 : decode cX5_redo 74 = .ok (.iload 4, 2) := by decide +kernel
theorem dX5_redo_76 : decode cX5_redo 76 = .ok (.iload 6, 2) := by decide +kernel
theorem dX5_redo_78 : decode cX5_redo 78 = .ok (.iconst 1, 1) := by decide +kernel
theorem dX5_redo_79 : decode cX5_redo 79 = .ok (.if_icmp .ne 7, 3) := by decide +kernel
theorem dX5_redo_82 : decode cX5_redo 82 = .ok (.iconst (-1), 1) := by decide +kernel
theorem dX5_redo_83 : decode cX5_redo 83 = .ok (.goto 15, 3) := by decide +kernel
theorem dX5_redo_86 : decode cX5_redo 86 = .ok (.aload_n 0, 1) := by decide +kernel
theorem dX5_redo_87 : decode cX5_redo 87 = .ok (.iload_n 1, 1) := by decide +kernel
theorem dX5_redo_88 : decode cX5_redo 88 = .ok (.bipush 8, 2) := by decide +kernel
theorem dX5_redo_90 : decode cX5_redo 90 = .ok (.iconst 5, 1) := by decide +kernel
theorem dX5_redo_91 : decode cX5_redo 91 = .ok (.iload_n 2, 1) := by decide +kernel
theorem dX5_redo_92 : decode cX5_redo 92 = .ok (.imul, 1) := by decide +kernel
theorem dX5_redo_93 : decode cX5_redo 93 = .ok (.iadd, 1) := by decide +kernel
theorem dX5_redo_94 : decode cX5_redo 94 = .ok (.iconst 3, 1) := by decide +kernel
theorem dX5_redo_95 : decode cX5_redo 95 = .ok (.invokevirtual 142, 3) := by decide +kernel
theorem dX5_redo_98 : decode cX5_redo 98 = .ok (.iastore, 1) := by decide +kernel
theorem dX5_redo_99 : decode cX5_redo 99 = .ok (.goto 21, 3) := by decide +kernel
theorem dX5_redo_102 : decode cX5_redo 102 = .ok (.aload_n 0, 1) := by decide +kernel
theorem dX5_redo_103 : decode cX5_redo 103 = .ok (.iload 5, 2) := by decide +kernel
theorem dX5_redo_105 : decode cX5_redo 105 = .ok (.iload 6, 2) := by decide +kernel
theorem dX5_redo_107 : decode cX5_redo 107 = .ok (.iconst 2, 1) := by decide +kernel
theorem dX5_redo_108 : decode cX5_redo 108 = .ok (.if_icmp .ne 7, 3) := by decide +kernel
theorem dX5_redo_111 : decode cX5_redo 111 = .ok (.iconst 1, 1) := by decide +kernel
theorem dX5_redo_112 : decode cX5_redo 112 = .ok (.goto 4, 3) := by decide +kernel
theorem dX5_redo_115 : decode cX5_redo 115 = .ok (.iconst 0, 1) := by decide +kernel
theorem dX5_redo_116 : decode cX5_redo 116 = .ok (.invokevirtual 129, 3) := by decide +kernel
theorem dX5_redo_119 : decode cX5_redo 119 = .ok (.pop, 1) := by decide +kernel
theorem dX5_redo_120 : decode cX5_redo 120 = .ok (.iinc 2 1, 3) := by decide +kernel
theorem dX5_redo_123 : decode cX5_redo 123 = .ok (.goto (-121), 3) := by decide +kernel
theorem dX5_redo_126 : decode cX5_redo 126 = .ok (.return_, 1) := by decide +kernel
theorem dX5_start_0 : decode cX5_start 0 = .ok (.aload_n 0, 1) := by decide +kernel
theorem dX5_start_1 : decode cX5_start 1 = .ok (.getfield 64, 3) := by decide +kernel
theorem dX5_start_4 : decode cX5_start 4 = .ok (.ifCond .ne 5, 3) := by decide +kernel
theorem dX5_start_7 : decode cX5_start 7 = .ok (.iconst (-1), 1) := by decide +kernel
theorem dX5_start_8 : decode cX5_start 8 = .ok (.ireturn, 1) := by decide +kernel
theorem dX5_start_9 : decode cX5_start 9 = .ok (.iconst (-1), 1) := by decide +kernel
theorem dX5_start_10 : decode cX5_start 10 = .ok (.istore_n 1, 1) := by decide +kernel
theorem dX5_start_11 : decode cX5_start 11 = .ok (.iconst 0, 1) := by decide +kernel
theorem dX5_start_12 : decode cX5_start 12 = .ok (.istore_n 2, 1) := by decide +kernel
theorem dX5_start_13 : decode cX5_start 13 = .ok (.iload_n 2, 1) := by decide +kernel
theorem dX5_start_14 : decode cX5_start 14 = .ok (.aload_n 0, 1) := by decide +kernel
theorem dX5_start_15 : decode cX5_start 15 = .ok (.getfield 45, 3) := by decide +kernel
theorem dX5_start_18 : decode cX5_start 18 = .ok (.if_icmp .ge 56, 3) := by decide +kernel
theorem dX5_start_21 : decode cX5_start 21 = .ok (.iload_n 1, 1) := by decide +kernel
theorem dX5_start_22 : decode cX5_start 22 = .ok (.ifCond .lt 22, 3) := by decide +kernel
theorem dX5_start_25 : decode cX5_start 25 = .ok (.aload_n 0, 1) := by decide +kernel
theorem dX5_start_26 : decode cX5_start 26 = .ok (.iload_n 2, 1) := by decide +kernel
theorem dX5_start_27 : decode cX5_start 27 = .ok (.invokevirtual 152, 3) := by decide +kernel
theorem dX5_start_30 : decode cX5_start 30 = .ok (.ldc 156, 2) := by decide +kernel
theorem dX5_start_32 : decode cX5_start 32 = .ok (.iadd, 1) := by decide +kernel
theorem dX5_start_33 : decode cX5_start 33 = .ok (.aload_n 0, 1) := by decide +kernel
theorem dX5_start_34 : decode cX5_start 34 = .ok (.iload_n 1, 1) := by decide +kernel
theorem dX5_start_35 : decode cX5_start 35 = .ok (.invokevirtual 152, 3) := by decide +kernel
theorem dX5_start_38 : decode cX5_start 38 = .ok (.ldc 156, 2) := by decide +kernel
theorem dX5_start_40 : decode cX5_start 40 = .ok (.iadd, 1) := by decide +kernel
theorem dX5_start_41 : decode cX5_start 41 = .ok (.if_icmp .le 7, 3) := by decide +kernel
theorem dX5_start_44 : decode cX5_start 44 = .ok (.iconst 1, 1) := by decide +kernel
theorem dX5_start_45 : decode cX5_start 45 = .ok (.goto 4, 3) := by decide +kernel
theorem dX5_start_48 : decode cX5_start 48 = .ok (.iconst 0, 1) := by decide +kernel
theorem dX5_start_49 : decode cX5_start 49 = .ok (.istore_n 3, 1) := by decide +kernel
theorem dX5_start_50 : decode cX5_start 50 = .ok (.iload_n 3, 1) := by decide +kernel
theorem dX5_start_51 : decode cX5_start 51 = .ok (.ifCond .eq 15, 3) := by decide +kernel
theorem dX5_start_54 : decode cX5_start 54 = .ok (.aload_n 0, 1) := by decide +kernel
theorem dX5_start_55 : decode cX5_start 55 = .ok (.iload_n 2, 1) := by decide +kernel
theorem dX5_start_56 : decode cX5_start 56 = .ok (.invokevirtual 157, 3) := by decide +kernel
theorem dX5_start_59 : decode cX5_start 59 = .ok (.ifCond .le 7, 3) := by decide +kernel
theorem dX5_start_62 : decode cX5_start 62 = .ok (.iload_n 2, 1) := by decide +kernel
theorem dX5_start_63 : decode cX5_start 63 = .ok (.goto 4, 3) := by decide +kernel
theorem dX5_start_66 : decode cX5_start 66 = .ok (.iload_n 1, 1) := by decide +kernel
theorem dX5_start_67 : decode cX5_start 67 = .ok (.istore_n 1, 1) := by decide +kernel
theorem dX5_start_68 : decode cX5_start 68 = .ok (.iinc 2 1, 3) := by decide +kernel
theorem dX5_start_71 : decode cX5_start 71 = .ok (.goto (-58), 3) := by decide +kernel
theorem dX5_start_74 : decode cX5_start 74 = .ok (.iload_n 1, 1) := by decide +kernel
theorem dX5_start_75 : decode cX5_start 75 = .ok (.ifCond .ge 6, 3) := by decide +kernel
theorem dX5_start_78 : decode cX5_start 78 = .ok (.bipush (-4), 2) := by decide +kernel
theorem dX5_start_80 : decode cX5_start 80 = .ok (.ireturn, 1) := by decide +kernel
theorem dX5_start_81 : decode cX5_start 81 = .ok (.aload_n 0, 1) := by decide +kernel
theorem dX5_start_82 : decode cX5_start 82 = .ok (.invokevirtual 61, 3) := by decide +kernel
theorem dX5_start_85 : decode cX5_start 85 = .ok (.aload_n 0, 1) := by decide +kernel
theorem dX5_start_86 : decode cX5_start 86 = .ok (.iload_n 1, 1) := by decide +kernel
theorem dX5_start_87 : decode cX5_start 87 = .ok (.invokevirtual 157, 3) := by decide +kernel
theorem dX5_start_90 : decode cX5_start 90 = .ok (.istore_n 2, 1) := by decide +kernel
theorem dX5_start_91 : decode cX5_start 91 = .ok (.iconst 0, 1) := by decide +kernel
theorem dX5_start_92 : decode cX5_start 92 = .ok (.istore_n 3, 1) := by decide +kernel
theorem dX5_start_93 : decode cX5_start 93 = .ok (.iload_n 3, 1) := by decide +kernel
theorem dX5_start_94 : decode cX5_start 94 = .ok (.iload_n 2, 1) := by decide +kernel
theorem dX5_start_95 : decode cX5_start 95 = .ok (.if_icmp .ge 72, 3) := by decide +kernel
theorem dX5_start_98 : decode cX5_start 98 = .ok (.iload_n 1, 1) := by decide +kernel
theorem dX5_start_99 : decode cX5_start 99 = .ok (.iload_n 3, 1) := by decide +kernel
theorem dX5_start_100 : decode cX5_start 100 = .ok (.iadd, 1) := by decide +kernel
theorem dX5_start_101 : decode cX5_start 101 = .ok (.aload_n 0, 1) := by decide +kernel
theorem dX5_start_102 : decode cX5_start 102 = .ok (.getfield 45, 3) := by decide +kernel
theorem dX5_start_105 : decode cX5_start 105 = .ok (.irem, 1) := by decide +kernel
theorem dX5_start_106 : decode cX5_start 106 = .ok (.istore 4, 2) := by decide +kernel
theorem dX5_start_108 : decode cX5_start 108 = .ok (.iconst 0, 1) := by decide +kernel
theorem dX5_start_109 : decode cX5_start 109 = .ok (.istore 5, 2) := by decide +kernel
theorem dX5_start_111 : decode cX5_start 111 = .ok (.iload 5, 2) := by decide +kernel
theorem dX5_start_113 : decode cX5_start 113 = .ok (.aload_n 0, 1) := by decide +kernel
theorem dX5_start_114 : decode cX5_start 114 = .ok (.iload 4, 2) := by decide +kernel
theorem dX5_start_116 : decode cX5_start 116 = .ok (.iconst 5, 1) := by decide +kernel
theorem dX5_start_117 : decode cX5_start 117 = .ok (.invokevirtual 139, 3) := by decide +kernel
theorem dX5_start_120 : decode cX5_start 120 = .ok (.if_icmp .ge 41, 3) := by decide +kernel
theorem dX5_start_123 : decode cX5_start 123 = .ok (.aload_n 0, 1) := by decide +kernel
theorem dX5_start_124 : decode cX5_start 124 = .ok (.getfield 29, 3) := by decide +kernel
theorem dX5_start_127 : decode cX5_start 127 = .ok (.aload_n 0, 1) := by decide +kernel
theorem dX5_start_128 : decode cX5_start 128 = .ok (.iload 4, 2) := by decide +kernel
theorem dX5_start_130 : decode cX5_start 130 = .ok (.bipush 6, 2) := by decide +kernel
theorem dX5_start_132 : decode cX5_start 132 = .ok (.iconst 4, 1) := by decide +kernel
theorem dX5_start_133 : decode cX5_start 133 = .ok (.iload 5, 2) := by decide +kernel
theorem dX5_start_135 : decode cX5_start 135 = .ok (.imul, 1) := by decide +kernel
theorem dX5_start_136 : decode cX5_start 136 = .ok (.iadd, 1) := by decide +kernel
theorem dX5_start_137 : decode cX5_start 137 = .ok (.invokevirtual 139, 3) := by decide +kernel
theorem dX5_start_140 : decode cX5_start 140 = .ok (.aload_n 0, 1) := by decide +kernel
theorem dX5_start_141 : decode cX5_start 141 = .ok (.iload 4, 2) := by decide +kernel
theorem dX5_start_143 : decode cX5_start 143 = .ok (.bipush 7, 2) := by decide +kernel
theorem dX5_start_145 : decode cX5_start 145 = .ok (.iconst 4, 1) := by decide +kernel
theorem dX5_start_146 : decode cX5_start 146 = .ok (.iload 5, 2) := by decide +kernel
theorem dX5_start_148 : decode cX5_start 148 = .ok (.imul, 1) := by decide +kernel
theorem dX5_start_149 : decode cX5_start 149 = .ok (.iadd, 1) := by decide +kernel
theorem dX5_start_150 : decode cX5_start 150 = .ok (.iconst 3, 1) := by decide +kernel
theorem dX5_start_151 : decode cX5_start 151 = .ok (.invokevirtual 142, 3) := by decide +kernel
theorem dX5_start_154 : decode cX5_start 154 = .ok (.iastore, 1) := by decide +kernel
theorem dX5_start_155 : decode cX5_start 155 = .ok (.iinc 5 1, 3) := by decide +kernel
theorem dX5_start_158 : decode cX5_start 158 = .ok (.goto (-47), 3) := by decide +kernel
theorem dX5_start_161 : decode cX5_start 161 = .ok (.iinc 3 1, 3) := by decide +kernel
theorem dX5_start_164 : decode cX5_start 164 = .ok (.goto (-71), 3) := by decide +kernel
theorem dX5_start_167 : decode cX5_start 167 = .ok (.iload_n 2, 1) := by decide +kernel
theorem dX5_start_168 : decode cX5_start 168 = .ok (.istore_n 3, 1) := by decide +kernel
theorem dX5_start_169 : decode cX5_start 169 = .ok (.iload_n 1, 1) := by decide +kernel
theorem dX5_start_170 : decode cX5_start 170 = .ok (.iload_n 3, 1) := by decide +kernel
theorem dX5_start_171 : decode cX5_start 171 = .ok (.iadd, 1) := by decide +kernel
theorem dX5_start_172 : decode cX5_start 172 = .ok (.aload_n 0, 1) := by decide +kernel
theorem dX5_start_173 : decode cX5_start 173 = .ok (.getfield 45, 3) := by decide +kernel
theorem dX5_start_176 : decode cX5_start 176 = .ok (.irem, 1) := by decide +kernel
theorem dX5_start_177 : decode cX5_start 177 = .ok (.istore 4, 2) := by decide +kernel
theorem dX5_start_179 : decode cX5_start 179 = .ok (.iload_n 3, 1) := by decide +kernel
theorem dX5_start_180 : decode cX5_start 180 = .ok (.aload_n 0, 1) := by decide +kernel
theorem dX5_start_181 : decode cX5_start 181 = .ok (.getfield 45, 3) := by decide +kernel
theorem dX5_start_184 : decode cX5_start 184 = .ok (.if_icmp .ge 61, 3) := by decide +kernel
theorem dX5_start_187 : decode cX5_start 187 = .ok (.aload_n 0, 1) := by decide +kernel
theorem dX5_start_188 : decode cX5_start 188 = .ok (.iload 4, 2) := by decide +kernel
theorem dX5_start_190 : decode cX5_start 190 = .ok (.invokevirtual 149, 3) := by decide +kernel
theorem dX5_start_193 : decode cX5_start 193 = .ok (.ifCond .eq 52, 3) := by decide +kernel
theorem dX5_start_196 : decode cX5_start 196 = .ok (.aload_n 0, 1) := by decide +kernel
theorem dX5_start_197 : decode cX5_start 197 = .ok (.iload 4, 2) := by decide +kernel
theorem dX5_start_199 : decode cX5_start 199 = .ok (.invokevirtual 152, 3) := by decide +kernel
theorem dX5_start_202 : decode cX5_start 202 = .ok (.aload_n 0, 1) := by decide +kernel
theorem dX5_start_203 : decode cX5_start 203 = .ok (.iload_n 1, 1) := by decide +kernel
theorem dX5_start_204 : decode cX5_start 204 = .ok (.invokevirtual 152, 3) := by decide +kernel
theorem dX5_start_207 : decode cX5_start 207 = .ok (.iload_n 3, 1) := by decide +kernel
theorem dX5_start_208 : decode cX5_start 208 = .ok (.iadd, 1) := by decide +kernel
theorem dX5_start_209 : decode cX5_start 209 = .ok (.if_icmp .ne 36, 3) := by decide +kernel
theorem dX5_start_212 : decode cX5_start 212 = .ok (.aload_n 0, 1) := by decide +kernel
end
section
theorem dX5_start_213 : decode cX5_start 213 = .ok (.iload 4, 2) := by decide +kernel
theorem dX5_start_215 : decode cX5_start 215 = .ok (.iconst 0, 1) := by decide +kernel
theorem dX5_start_216 : decode cX5_start 216 = .ok (.invokevirtual 139, 3) := by decide +kernel
theorem dX5_start_219 : decode cX5_start 219 = .ok (.iconst 1, 1) := by decide +kernel
theorem dX5_start_220 : decode cX5_start 220 = .ok (.if_icmp .ne 9, 3) := by decide +kernel
theorem dX5_start_223 : decode cX5_start 223 = .ok (.aload_n 0, 1) := by decide +kernel
theorem dX5_start_224 : decode cX5_start 224 = .ok (.iload 4, 2) := by decide +kernel
theorem dX5_start_226 : decode cX5_start 226 = .ok (.invokevirtual 160, 3) := by decide +kernel
theorem dX5_start_229 : decode cX5_start 229 = .ok (.iinc 3 1, 3) := by decide +kernel
theorem dX5_start_232 : decode cX5_start 232 = .ok (.iload_n 1, 1) := by decide +kernel
theorem dX5_start_233 : decode cX5_start 233 = .ok (.iload_n 3, 1) := by decide +kernel
theorem dX5_start_234 : decode cX5_start 234 = .ok (.iadd, 1) := by decide +kernel
theorem dX5_start_235 : decode cX5_start 235 = .ok (.aload_n 0, 1) := by decide +kernel
theorem dX5_start_236 : decode cX5_start 236 = .ok (.getfield 45, 3) := by decide +kernel
theorem dX5_start_239 : decode cX5_start 239 = .ok (.irem, 1) := by decide +kernel
theorem dX5_start_240 : decode cX5_start 240 = .ok (.istore 4, 2) := by decide +kernel
theorem dX5_start_242 : decode cX5_start 242 = .ok (.goto (-63), 3) := by decide +kernel
theorem dX5_start_245 : decode cX5_start 245 = .ok (.aload_n 0, 1) := by decide +kernel
theorem dX5_start_246 : decode cX5_start 246 = .ok (.aload_n 0, 1) := by decide +kernel
theorem dX5_start_247 : decode cX5_start 247 = .ok (.iload_n 1, 1) := by decide +kernel
theorem dX5_start_248 : decode cX5_start 248 = .ok (.invokevirtual 152, 3) := by decide +kernel
theorem dX5_start_251 : decode cX5_start 251 = .ok (.putfield 77, 3) := by decide +kernel
theorem dX5_start_254 : decode cX5_start 254 = .ok (.aload_n 0, 1) := by decide +kernel
theorem dX5_start_255 : decode cX5_start 255 = .ok (.aload_n 0, 1) := by decide +kernel
theorem dX5_start_256 : decode cX5_start 256 = .ok (.getfield 77, 3) := by decide +kernel
theorem dX5_start_259 : decode cX5_start 259 = .ok (.putfield 74, 3) := by decide +kernel
theorem dX5_start_262 : decode cX5_start 262 = .ok (.aload_n 0, 1) := by decide +kernel
theorem dX5_start_263 : decode cX5_start 263 = .ok (.aload_n 0, 1) := by decide +kernel
theorem dX5_start_264 : decode cX5_start 264 = .ok (.getfield 77, 3) := by decide +kernel
theorem dX5_start_267 : decode cX5_start 267 = .ok (.iload_n 3, 1) := by decide +kernel
theorem dX5_start_268 : decode cX5_start 268 = .ok (.iadd, 1) := by decide +kernel
theorem dX5_start_269 : decode cX5_start 269 = .ok (.iconst 1, 1) := by decide +kernel
theorem dX5_start_270 : decode cX5_start 270 = .ok (.isub, 1) := by decide +kernel
theorem dX5_start_271 : decode cX5_start 271 = .ok (.putfield 71, 3) := by decide +kernel
theorem dX5_start_274 : decode cX5_start 274 = .ok (.aload_n 0, 1) := by decide +kernel
theorem dX5_start_275 : decode cX5_start 275 = .ok (.iload_n 1, 1) := by decide +kernel
theorem dX5_start_276 : decode cX5_start 276 = .ok (.iload_n 3, 1) := by decide +kernel
theorem dX5_start_277 : decode cX5_start 277 = .ok (.iadd, 1) := by decide +kernel
theorem dX5_start_278 : decode cX5_start 278 = .ok (.iconst 1, 1) := by decide +kernel
theorem dX5_start_279 : decode cX5_start 279 = .ok (.isub, 1) := by decide +kernel
theorem dX5_start_280 : decode cX5_start 280 = .ok (.aload_n 0, 1) := by decide +kernel
theorem dX5_start_281 : decode cX5_start 281 = .ok (.getfield 45, 3) := by decide +kernel
theorem dX5_start_284 : decode cX5_start 284 = .ok (.irem, 1) := by decide +kernel
theorem dX5_start_285 : decode cX5_start 285 = .ok (.putfield 68, 3) := by decide +kernel
theorem dX5_start_288 : decode cX5_start 288 = .ok (.aload_n 0, 1) := by decide +kernel
theorem dX5_start_289 : decode cX5_start 289 = .ok (.iconst 0, 1) := by decide +kernel
theorem dX5_start_290 : decode cX5_start 290 = .ok (.putfield 64, 3) := by decide +kernel
theorem dX5_start_293 : decode cX5_start 293 = .ok (.iconst 0, 1) := by decide +kernel
theorem dX5_start_294 : decode cX5_start 294 = .ok (.istore 5, 2) := by decide +kernel
theorem dX5_start_296 : decode cX5_start 296 = .ok (.iconst 0, 1) := by decide +kernel
theorem dX5_start_297 : decode cX5_start 297 = .ok (.istore 6, 2) := by decide +kernel
theorem dX5_start_299 : decode cX5_start 299 = .ok (.iload 6, 2) := by decide +kernel
theorem dX5_start_301 : decode cX5_start 301 = .ok (.iconst 3, 1) := by decide +kernel
theorem dX5_start_302 : decode cX5_start 302 = .ok (.if_icmp .ge 42, 3) := by decide +kernel
theorem dX5_start_305 : decode cX5_start 305 = .ok (.aload_n 0, 1) := by decide +kernel
theorem dX5_start_306 : decode cX5_start 306 = .ok (.getfield 32, 3) := by decide +kernel
theorem dX5_start_309 : decode cX5_start 309 = .ok (.iload 6, 2) := by decide +kernel
theorem dX5_start_311 : decode cX5_start 311 = .ok (.baload, 1) := by decide +kernel
theorem dX5_start_312 : decode cX5_start 312 = .ok (.ifCond .eq 26, 3) := by decide +kernel
theorem dX5_start_315 : decode cX5_start 315 = .ok (.aload_n 0, 1) := by decide +kernel
theorem dX5_start_316 : decode cX5_start 316 = .ok (.iload 6, 2) := by decide +kernel
theorem dX5_start_318 : decode cX5_start 318 = .ok (.iconst 0, 1) := by decide +kernel
theorem dX5_start_319 : decode cX5_start 319 = .ok (.invokevirtual 129, 3) := by decide +kernel
theorem dX5_start_322 : decode cX5_start 322 = .ok (.pop, 1) := by decide +kernel
theorem dX5_start_323 : decode cX5_start 323 = .ok (.aload_n 0, 1) := by decide +kernel
theorem dX5_start_324 : decode cX5_start 324 = .ok (.iconst 4, 1) := by decide +kernel
theorem dX5_start_325 : decode cX5_start 325 = .ok (.iload 6, 2) := by decide +kernel
theorem dX5_start_327 : decode cX5_start 327 = .ok (.imul, 1) := by decide +kernel
theorem dX5_start_328 : decode cX5_start 328 = .ok (.iconst 3, 1) := by decide +kernel
theorem dX5_start_329 : decode cX5_start 329 = .ok (.iadd, 1) := by decide +kernel
theorem dX5_start_330 : decode cX5_start 330 = .ok (.iconst 0, 1) := by decide +kernel
theorem dX5_start_331 : decode cX5_start 331 = .ok (.iconst 0, 1) := by decide +kernel
theorem dX5_start_332 : decode cX5_start 332 = .ok (.invokevirtual 126, 3) := by decide +kernel
theorem dX5_start_335 : decode cX5_start 335 = .ok (.iinc 5 1, 3) := by decide +kernel
theorem dX5_start_338 : decode cX5_start 338 = .ok (.iinc 6 1, 3) := by decide +kernel
theorem dX5_start_341 : decode cX5_start 341 = .ok (.goto (-42), 3) := by decide +kernel
theorem dX5_start_344 : decode cX5_start 344 = .ok (.iload 5, 2) := by decide +kernel
theorem dX5_start_346 : decode cX5_start 346 = .ok (.ireturn, 1) := by decide +kernel
theorem dX5_at_0 : decode cX5_at 0 = .ok (.iload_n 1, 1) := by decide +kernel
theorem dX5_at_1 : decode cX5_at 1 = .ok (.iconst 0, 1) := by decide +kernel
theorem dX5_at_2 : decode cX5_at 2 = .ok (.aload_n 0, 1) := by decide +kernel
theorem dX5_at_3 : decode cX5_at 3 = .ok (.getfield 45, 3) := by decide +kernel
theorem dX5_at_6 : decode cX5_at 6 = .ok (.iconst 1, 1) := by decide +kernel
theorem dX5_at_7 : decode cX5_at 7 = .ok (.isub, 1) := by decide +kernel
theorem dX5_at_8 : decode cX5_at 8 = .ok (.invokestatic 111, 3) := by decide +kernel
theorem dX5_at_11 : decode cX5_at 11 = .ok (.ifCond .eq 22, 3) := by decide +kernel
theorem dX5_at_14 : decode cX5_at 14 = .ok (.iload_n 2, 1) := by decide +kernel
theorem dX5_at_15 : decode cX5_at 15 = .ok (.iconst 0, 1) := by decide +kernel
theorem dX5_at_16 : decode cX5_at 16 = .ok (.bipush 31, 2) := by decide +kernel
theorem dX5_at_18 : decode cX5_at 18 = .ok (.invokestatic 111, 3) := by decide +kernel
theorem dX5_at_21 : decode cX5_at 21 = .ok (.ifCond .eq 12, 3) := by decide +kernel
theorem dX5_at_24 : decode cX5_at 24 = .ok (.aload_n 0, 1) := by decide +kernel
theorem dX5_at_25 : decode cX5_at 25 = .ok (.iload_n 1, 1) := by decide +kernel
theorem dX5_at_26 : decode cX5_at 26 = .ok (.iload_n 2, 1) := by decide +kernel
theorem dX5_at_27 : decode cX5_at 27 = .ok (.invokevirtual 139, 3) := by decide +kernel
theorem dX5_at_30 : decode cX5_at 30 = .ok (.goto 4, 3) := by decide +kernel
theorem dX5_at_33 : decode cX5_at 33 = .ok (.iconst (-1), 1) := by decide +kernel
theorem dX5_at_34 : decode cX5_at 34 = .ok (.ireturn, 1) := by decide +kernel
theorem dX5_sound_0 : decode cX5_sound 0 = .ok (.iload_n 1, 1) := by decide +kernel
theorem dX5_sound_1 : decode cX5_sound 1 = .ok (.iconst 0, 1) := by decide +kernel
theorem dX5_sound_2 : decode cX5_sound 2 = .ok (.aload_n 0, 1) := by decide +kernel
theorem dX5_sound_3 : decode cX5_sound 3 = .ok (.getfield 45, 3) := by decide +kernel
theorem dX5_sound_6 : decode cX5_sound 6 = .ok (.iconst 1, 1) := by decide +kernel
theorem dX5_sound_7 : decode cX5_sound 7 = .ok (.isub, 1) := by decide +kernel
theorem dX5_sound_8 : decode cX5_sound 8 = .ok (.invokestatic 111, 3) := by decide +kernel
theorem dX5_sound_11 : decode cX5_sound 11 = .ok (.ifCond .eq 15, 3) := by decide +kernel
theorem dX5_sound_14 : decode cX5_sound 14 = .ok (.aload_n 0, 1) := by decide +kernel
theorem dX5_sound_15 : decode cX5_sound 15 = .ok (.iload_n 1, 1) := by decide +kernel
theorem dX5_sound_16 : decode cX5_sound 16 = .ok (.invokevirtual 146, 3) := by decide +kernel
theorem dX5_sound_19 : decode cX5_sound 19 = .ok (.ifCond .eq 7, 3) := by decide +kernel
theorem dX5_sound_22 : decode cX5_sound 22 = .ok (.iconst 1, 1) := by decide +kernel
theorem dX5_sound_23 : decode cX5_sound 23 = .ok (.goto 4, 3) := by decide +kernel
theorem dX5_sound_26 : decode cX5_sound 26 = .ok (.iconst 0, 1) := by decide +kernel
theorem dX5_sound_27 : decode cX5_sound 27 = .ok (.ireturn, 1) := by decide +kernel
theorem dX5_poke_0 : decode cX5_poke 0 = .ok (.iload_n 1, 1) := by decide +kernel
theorem dX5_poke_1 : decode cX5_poke 1 = .ok (.iconst 0, 1) := by decide +kernel
theorem dX5_poke_2 : decode cX5_poke 2 = .ok (.aload_n 0, 1) := by decide +kernel
theorem dX5_poke_3 : decode cX5_poke 3 = .ok (.getfield 45, 3) := by decide +kernel
theorem dX5_poke_6 : decode cX5_poke 6 = .ok (.iconst 1, 1) := by decide +kernel
theorem dX5_poke_7 : decode cX5_poke 7 = .ok (.isub, 1) := by decide +kernel
theorem dX5_poke_8 : decode cX5_poke 8 = .ok (.invokestatic 111, 3) := by decide +kernel
theorem dX5_poke_11 : decode cX5_poke 11 = .ok (.ifCond .eq 24, 3) := by decide +kernel
theorem dX5_poke_14 : decode cX5_poke 14 = .ok (.iload_n 2, 1) := by decide +kernel
theorem dX5_poke_15 : decode cX5_poke 15 = .ok (.iconst 0, 1) := by decide +kernel
theorem dX5_poke_16 : decode cX5_poke 16 = .ok (.bipush 31, 2) := by decide +kernel
theorem dX5_poke_18 : decode cX5_poke 18 = .ok (.invokestatic 111, 3) := by decide +kernel
theorem dX5_poke_21 : decode cX5_poke 21 = .ok (.ifCond .eq 14, 3) := by decide +kernel
theorem dX5_poke_24 : decode cX5_poke 24 = .ok (.iload_n 3, 1) := by decide +kernel
theorem dX5_poke_25 : decode cX5_poke 25 = .ok (.iconst 1, 1) := by decide +kernel
theorem dX5_poke_26 : decode cX5_poke 26 = .ok (.sipush 255, 3) := by decide +kernel
theorem dX5_poke_29 : decode cX5_poke 29 = .ok (.invokestatic 111, 3) := by decide +kernel
theorem dX5_poke_32 : decode cX5_poke 32 = .ok (.ifCond .ne 5, 3) := by decide +kernel
theorem dX5_poke_35 : decode cX5_poke 35 = .ok (.iconst 0, 1) := by decide +kernel
theorem dX5_poke_36 : decode cX5_poke 36 = .ok (.ireturn, 1) := by decide +kernel
theorem dX5_poke_37 : decode cX5_poke 37 = .ok (.aload_n 0, 1) := by decide +kernel
theorem dX5_poke_38 : decode cX5_poke 38 = .ok (.getfield 7, 3) := by decide +kernel
theorem dX5_poke_41 : decode cX5_poke 41 = .ok (.bipush 32, 2) := by decide +kernel
theorem dX5_poke_43 : decode cX5_poke 43 = .ok (.iload_n 1, 1) := by decide +kernel
theorem dX5_poke_44 : decode cX5_poke 44 = .ok (.imul, 1) := by decide +kernel
theorem dX5_poke_45 : decode cX5_poke 45 = .ok (.iload_n 2, 1) := by decide +kernel
theorem dX5_poke_46 : decode cX5_poke 46 = .ok (.iadd, 1) := by decide +kernel
theorem dX5_poke_47 : decode cX5_poke 47 = .ok (.dup2, 1) := by decide +kernel
theorem dX5_poke_48 : decode cX5_poke 48 = .ok (.baload, 1) := by decide +kernel
theorem dX5_poke_49 : decode cX5_poke 49 = .ok (.iload_n 3, 1) := by decide +kernel
theorem dX5_poke_50 : decode cX5_poke 50 = .ok (.i2b, 1) := by decide +kernel
theorem dX5_poke_51 : decode cX5_poke 51 = .ok (.ixor, 1) := by decide +kernel
theorem dX5_poke_52 : decode cX5_poke 52 = .ok (.i2b, 1) := by decide +kernel
theorem dX5_poke_53 : decode cX5_poke 53 = .ok (.bastore, 1) := by decide +kernel
theorem dX5_poke_54 : decode cX5_poke 54 = .ok (.iconst 1, 1) := by decide +kernel
theorem dX5_poke_55 : decode cX5_poke 55 = .ok (.ireturn, 1) := by decide +kernel
theorem dX5_count_0 : decode cX5_count 0 = .ok (.aload_n 0, 1) := by decide +kernel
theorem dX5_count_1 : decode cX5_count 1 = .ok (.getfield 64, 3) := by decide +kernel
theorem dX5_count_4 : decode cX5_count 4 = .ok (.ifCond .eq 6, 3) := by decide +kernel
theorem dX5_count_7 : decode cX5_count 7 = .ok (.bipush (-3), 2) := by decide +kernel
theorem dX5_count_9 : decode cX5_count 9 = .ok (.ireturn, 1) := by decide +kernel
theorem dX5_count_10 : decode cX5_count 10 = .ok (.iload_n 1, 1) := by decide +kernel
theorem dX5_count_11 : decode cX5_count 11 = .ok (.tableswitch 116 0 6 #[41, 46, 51, 56, 61, 66, 111], 41) := by decide +kernel
theorem dX5_count_52 : decode cX5_count 52 = .ok (.aload_n 0, 1) := by decide +kernel
theorem dX5_count_53 : decode cX5_count 53 = .ok (.getfield 71, 3) := by decide +kernel
theorem dX5_count_56 : decode cX5_count 56 = .ok (.ireturn, 1) := by decide +kernel
theorem dX5_count_57 : decode cX5_count 57 = .ok (.aload_n 0, 1) := by decide +kernel
theorem dX5_count_58 : decode cX5_count 58 = .ok (.getfield 68, 3) := by decide +kernel
theorem dX5_count_61 : decode cX5_count 61 = .ok (.ireturn, 1) := by decide +kernel
theorem dX5_count_62 : decode cX5_count 62 = .ok (.aload_n 0, 1) := by decide +kernel
theorem dX5_count_63 : decode cX5_count 63 = .ok (.getfield 52, 3) := by decide +kernel
theorem dX5_count_66 : decode cX5_count 66 = .ok (.ireturn, 1) := by decide +kernel
theorem dX5_count_67 : decode cX5_count 67 = .ok (.aload_n 0, 1) := by decide +kernel
theorem dX5_count_68 : decode cX5_count 68 = .ok (.getfield 55, 3) := by decide +kernel
theorem dX5_count_71 : decode cX5_count 71 = .ok (.ireturn, 1) := by decide +kernel
theorem dX5_count_72 : decode cX5_count 72 = .ok (.aload_n 0, 1) := by decide +kernel
theorem dX5_count_73 : decode cX5_count 73 = .ok (.invokevirtual 97, 3) := by decide +kernel
theorem dX5_count_76 : decode cX5_count 76 = .ok (.ireturn, 1) := by decide +kernel
theorem dX5_count_77 : decode cX5_count 77 = .ok (.aload_n 0, 1) := by decide +kernel
theorem dX5_count_78 : decode cX5_count 78 = .ok (.getfield 32, 3) := by decide +kernel
theorem dX5_count_81 : decode cX5_count 81 = .ok (.iconst 0, 1) := by decide +kernel
theorem dX5_count_82 : decode cX5_count 82 = .ok (.baload, 1) := by decide +kernel
theorem dX5_count_83 : decode cX5_count 83 = .ok (.ifCond .eq 7, 3) := by decide +kernel
theorem dX5_count_86 : decode cX5_count 86 = .ok (.iconst 1, 1) := by decide +kernel
theorem dX5_count_87 : decode cX5_count 87 = .ok (.goto 4, 3) := by decide +kernel
theorem dX5_count_90 : decode cX5_count 90 = .ok (.iconst 0, 1) := by decide +kernel
theorem dX5_count_91 : decode cX5_count 91 = .ok (.aload_n 0, 1) := by decide +kernel
theorem dX5_count_92 : decode cX5_count 92 = .ok (.getfield 32, 3) := by decide +kernel
theorem dX5_count_95 : decode cX5_count 95 = .ok (.iconst 1, 1) := by decide +kernel
theorem dX5_count_96 : decode cX5_count 96 = .ok (.baload, 1) := by decide +kernel
theorem dX5_count_97 : decode cX5_count 97 = .ok (.ifCond .eq 7, 3) := by decide +kernel
theorem dX5_count_100 : decode cX5_count 100 = .ok (.iconst 2, 1) := by decide +kernel
theorem dX5_count_101 : decode cX5_count 101 = .ok (.goto 4, 3) := by decide +kernel
theorem dX5_count_104 : decode cX5_count 104 = .ok (.iconst 0, 1) := by decide +kernel
theorem dX5_count_105 : decode cX5_count 105 = .ok (.iadd, 1) := by decide +kernel
theorem dX5_count_106 : decode cX5_count 106 = .ok (.aload_n 0, 1) := by decide +kernel
theorem dX5_count_107 : decode cX5_count 107 = .ok (.getfield 32, 3) := by decide +kernel
theorem dX5_count_110 : decode cX5_count 110 = .ok (.iconst 2, 1) := by decide +kernel
theorem dX5_count_111 : decode cX5_count 111 = .ok (.baload, 1) := by decide +kernel
theorem dX5_count_112 : decode cX5_count 112 = .ok (.ifCond .eq 7, 3) := by decide +kernel
theorem dX5_count_115 : decode cX5_count 115 = .ok (.iconst 4, 1) := by decide +kernel
theorem dX5_count_116 : decode cX5_count 116 = .ok (.goto 4, 3) := by decide +kernel
theorem dX5_count_119 : decode cX5_count 119 = .ok (.iconst 0, 1) := by decide +kernel
theorem dX5_count_120 : decode cX5_count 120 = .ok (.iadd, 1) := by decide +kernel
theorem dX5_count_121 : decode cX5_count 121 = .ok (.ireturn, 1) := by decide +kernel
theorem dX5_count_122 : decode cX5_count 122 = .ok (.aload_n 0, 1) := by decide +kernel
theorem dX5_count_123 : decode cX5_count 123 = .ok (.getfield 58, 3) := by decide +kernel
theorem dX5_count_126 : decode cX5_count 126 = .ok (.ireturn, 1) := by decide +kernel
theorem dX5_count_127 : decode cX5_count 127 = .ok (.iconst (-1), 1) := by decide +kernel
theorem dX5_count_128 : decode cX5_count 128 = .ok (.ireturn, 1) := by decide +kernel
theorem dX5_holder_0 : decode cX5_holder 0 = .ok (.aload_n 0, 1) := by decide +kernel
theorem dX5_holder_1 : decode cX5_holder 1 = .ok (.getfield 64, 3) := by decide +kernel
theorem dX5_holder_4 : decode cX5_holder 4 = .ok (.ifCond .eq 8, 3) := by decide +kernel
theorem dX5_holder_7 : decode cX5_holder 7 = .ok (.bipush (-3), 2) := by decide +kernel
theorem dX5_holder_9 : decode cX5_holder 9 = .ok (.goto 20, 3) := by decide +kernel
theorem dX5_holder_12 : decode cX5_holder 12 = .ok (.iload_n 1, 1) := by decide +kernel
theorem dX5_holder_13 : decode cX5_holder 13 = .ok (.invokestatic 118, 3) := by decide +kernel
theorem dX5_holder_16 : decode cX5_holder 16 = .ok (.ifCond .eq 12, 3) := by decide +kernel
theorem dX5_holder_19 : decode cX5_holder 19 = .ok (.aload_n 0, 1) := by decide +kernel
theorem dX5_holder_20 : decode cX5_holder 20 = .ok (.getfield 36, 3) := by decide +kernel
theorem dX5_holder_23 : decode cX5_holder 23 = .ok (.iload_n 1, 1) := by decide +kernel
theorem dX5_holder_24 : decode cX5_holder 24 = .ok (.iaload, 1) := by decide +kernel
theorem dX5_holder_25 : decode cX5_holder 25 = .ok (.goto 4, 3) := by decide +kernel
theorem dX5_holder_28 : decode cX5_holder 28 = .ok (.iconst (-1), 1) := by decide +kernel
theorem dX5_holder_29 : decode cX5_holder 29 = .ok (.ireturn, 1) := by decide +kernel
theorem dX5_format_0 : decode cX5_format 0 = .ok (.aload_n 0, 1) := by decide +kernel
theorem dX5_format_1 : decode cX5_format 1 = .ok (.getfield 64, 3) := by decide +kernel
theorem dX5_format_4 : decode cX5_format 4 = .ok (.ifCond .eq 7, 3) := by decide +kernel
theorem dX5_format_7 : decode cX5_format 7 = .ok (.iconst 0, 1) := by decide +kernel
theorem dX5_format_8 : decode cX5_format 8 = .ok (.goto 7, 3) := by decide +kernel
theorem dX5_format_11 : decode cX5_format 11 = .ok (.aload_n 0, 1) := by decide +kernel
theorem dX5_format_12 : decode cX5_format 12 = .ok (.getfield 58, 3) := by decide +kernel
theorem dX5_format_15 : decode cX5_format 15 = .ok (.istore_n 1, 1) := by decide +kernel
theorem dX5_format_16 : decode cX5_format 16 = .ok (.aload_n 0, 1) := by decide +kernel
theorem dX5_format_17 : decode cX5_format 17 = .ok (.invokevirtual 49, 3) := by decide +kernel
theorem dX5_format_20 : decode cX5_format 20 = .ok (.iload_n 1, 1) := by decide +kernel
theorem dX5_format_21 : decode cX5_format 21 = .ok (.ireturn, 1) := by decide +kernel
end
section
/-! Part 02: one judgement for all walks. E: what holds for the whole run (launch, class numbers); K: one activation; Z E K ce sl V pc lv st: from pc, with the cells V, the locals lv, the stack st, the activation comes to its end -/
abbrev GE : Type := Launch × va_G × ClassId × ClassId × ClassId
abbrev gL (E : GE) : Launch := E.1
abbrev gD (E : GE) : va_G := E.2.1
abbrev gB (E : GE) : ClassId := E.2.2.1
abbrev gI (E : GE) : ClassId := E.2.2.2.1
abbrev gZ (E : GE) : ClassId := E.2.2.2.2
abbrev gT (E : GE) : List (ClassId × FieldType) := [(gB E, .byte), (gI E, .int), (gZ E, .boolean)]
def zK (E : GE) (U : State) : Prop := va_K (gD E) vwCl (gT E) U ∧ va_Nw (.methodLinkNest RX4 27 yX1_init "StoreLog3") U ∧ va_Nw (.methodLinkNest RX0 32 yX4_isTransaction "StoreLog3") U ∧ va_Nw (.methodLinkNest RX0 35 yX4_isKey "StoreLog3") U ∧ va_Nw (.methodLinkNest RX1 77 yX4_isTransaction "StoreLog3") U ∧ va_Nw (.methodLinkNest RX1 80 yX4_isKey "StoreLog3") U
theorem zK.warm {E : GE} {s U : State} (hW : s.WarmedH U.vm) (h : zK E s) : zK E U := ⟨va_K.moved hW.alike h.1, va_Nw.warmM hW h.2.1, va_Nw.warmM hW h.2.2.1, va_Nw.warmM hW h.2.2.2.1, va_Nw.warmM hW h.2.2.2.2.1, va_Nw.warmM hW h.2.2.2.2.2⟩
theorem zK.same {E : GE} {s U : State} (hW : s.vm = U.vm) (h : zK E s) : zK E U := ⟨va_K.moved (by rw [hW]; exact Vm.Alike.refl U.vm) h.1, va_Nw.same rfl hW h.2.1, va_Nw.same rfl hW h.2.2.1, va_Nw.same rfl hW h.2.2.2.1, va_Nw.same rfl hW h.2.2.2.2.1, va_Nw.same rfl hW h.2.2.2.2.2⟩
abbrev KX : Type := Program × Env × Room × State × MethodId × Array Value × List Frame × Method × Code × Nat × (Nat → Prop) × (State → Prop)
def zC (E : GE) (K : KX) (cc : ByteArray) (Ts : List Cond) (own : String) (rm : Room) (nL : Nat) : Prop := match K with
  | (p, _, R, s, m, args, _, meth, c, nL', A, _) => p.tables.exec = Jvm.exec ∧ c.code = cc ∧ c.maxLocals = nL ∧ nL' = nL ∧ R = rm ∧ s.vm.findClass own = some m.cls ∧ (∀ w ∈ Ts, w.before args s = true) ∧ (∀ q, s.heap.size ≤ q → A q) ∧ zK E s ∧ meth.locks = false
def zw (K : KX) (w : Cond) : Prop := match K with
  | (_, _, _, s, _, args, _, _, _, _, _, _) => w.before args s = true
def zN (K : KX) (n : String) : Prop := match K with
  | (_, _, _, _, _, _, _, meth, _, _, _, _) => meth.name = n
def Z (E : GE) (K : KX) (ce sl : Nat) (V : va_W) (pc : Nat) (lv : List (Nat × Value)) (st : List Value) : Prop := match K with
  | (p, e, R, s, m, args, below, meth, c, nL, A, Q) => ∀ (H : Heap) (locs : List Loc) (ls : Array Slot), va_P (gD E) vwCl V H → va_D A V → va_S A s.heap H locs → lv_has ls nL lv → W p (gL E) e R s m args below meth c H locs ce sl Q (F0 m pc ls st)
def zPre (E : GE) (V : va_W) (sz : Nat) (U : State) : Prop := U.heap.size = sz ∧ va_P (gD E) vwCl V U.heap ∧ zK E U ∧ va_D (fun _ => True) V
def zQi (E : GE) (V : va_W) (r : Int32) (V' : va_W) (sz : Nat) : Array Value → State → Outcome → State → Prop := va_Qi (fun x (_ : Unit) => x = r) (fun _ t => va_P (gD E) vwCl V' t.heap ∧ va_D (va_A V sz) V') (va_A V sz)
def zQv (E : GE) (V V' : va_W) (sz : Nat) : Array Value → State → Outcome → State → Prop := va_Qv (fun (_ : Unit) => True) (fun _ t => va_P (gD E) vwCl V' t.heap ∧ va_D (va_A V sz) V') (va_A V sz)
/-- y's contract: with the arguments av and the cells V it answers r, and the cells are V' -/
def zI (E : GE) (y : MethodName) (ws : List Cond) (rm : Room) (av : List Value) (V : va_W) (r : Int32) (V' : va_W) : Prop := ∀ sz : Nat, Met (gL E) y ws rm (va_Pc av (zPre E V sz)) (zQi E V r V' sz) 0 0 (va_A V sz)
def zV (E : GE) (y : MethodName) (ws : List Cond) (rm : Room) (av : List Value) (V V' : va_W) : Prop := ∀ sz : Nat, Met (gL E) y ws rm (va_Pc av (zPre E V sz)) (zQv E V V' sz) 0 0 (va_A V sz)
theorem zPre_blind (E : GE) (av : List Value) (V : va_W) (sz : Nat) : FrameBlind (va_Pc av (zPre E V sz)) := fun a U g mk q => by
  obtain ⟨q0, q1, qP, qK, qD⟩ := q
  exact ⟨q0, q1, qP, zK.same rfl qK, qD⟩
section ZR
variable {E : GE} {K : KX} {cc : ByteArray} {Ts : List Cond} {own : String} {rm : Room} {nL ce sl pc : Nat} {V V' : va_W} {lv lv' : List (Nat × Value)} {st : List Value}
theorem zC.w (C : zC E K cc Ts own rm nL) {w : Cond} (h : w ∈ Ts) : zw K w := by
  obtain ⟨p, e, R, s, m, args, below, meth, c, nL, A, Q⟩ := K
  exact C.2.2.2.2.2.2.1 w h

theorem z_iconst (C : zC E K cc Ts own rm nL) {n : Int} {v : Int32} (hv : Int32.ofInt n = v) (hd : decode cc pc = .ok (.iconst n, 1)) (k : Z E K ce sl V (pc + 1) lv (.int v :: st)) : Z E K ce sl V pc lv st := by
  obtain ⟨p, e, R, s, m, args, below, meth, c, nL', A, Q⟩ := K
  obtain ⟨hx, hb, hml, hnl, hrm, hown, hts, hA, hK, hlk⟩ := C
  subst hnl
  intro H locs ls hP hD hS hl
  exact lv_iconst hx hb hd hv (k H locs ls hP hD hS hl)
theorem z_bipush (C : zC E K cc Ts own rm nL) {n : Int} {v : Int32} (hv : (Int8.ofInt n).toInt32 = v) (hd : decode cc pc = .ok (.bipush n, 2)) (k : Z E K ce sl V (pc + 2) lv (.int v :: st)) : Z E K ce sl V pc lv st := by
  obtain ⟨p, e, R, s, m, args, below, meth, c, nL', A, Q⟩ := K
  obtain ⟨hx, hb, hml, hnl, hrm, hown, hts, hA, hK, hlk⟩ := C
  subst hnl
  intro H locs ls hP hD hS hl
  exact lv_bipush hx hb hd hv (k H locs ls hP hD hS hl)
theorem z_sipush (C : zC E K cc Ts own rm nL) {n : Int} {v : Int32} (hv : (Int16.ofInt n).toInt32 = v) (hd : decode cc pc = .ok (.sipush n, 3)) (k : Z E K ce sl V (pc + 3) lv (.int v :: st)) : Z E K ce sl V pc lv st := by
  obtain ⟨p, e, R, s, m, args, below, meth, c, nL', A, Q⟩ := K
  obtain ⟨hx, hb, hml, hnl, hrm, hown, hts, hA, hK, hlk⟩ := C
  subst hnl
  intro H locs ls hP hD hS hl
  exact lv_sipush hx hb hd hv (k H locs ls hP hD hS hl)
theorem z_ldc (C : zC E K cc Ts own rm nL) {index : Nat} {v : Int32} (hc : zw K (.constant own index v)) (hd : decode cc pc = .ok (.ldc index, 2)) (k : Z E K ce sl V (pc + 2) lv (.int v :: st)) : Z E K ce sl V pc lv st := by
  obtain ⟨p, e, R, s, m, args, below, meth, c, nL', A, Q⟩ := K
  obtain ⟨hx, hb, hml, hnl, hrm, hown, hts, hA, hK, hlk⟩ := C
  subst hnl
  intro H locs ls hP hD hS hl
  exact lv_ldc hx hb hown hc hd (k H locs ls hP hD hS hl)
theorem z_ldc2 (C : zC E K cc Ts own rm nL) {index : Nat} {v : Int64} (hc : zw K (.constantLong own index v)) (hd : decode cc pc = .ok (.ldc2_w index, 3)) (k : Z E K ce sl V (pc + 3) lv (.long v :: st)) : Z E K ce sl V pc lv st := by
  obtain ⟨p, e, R, s, m, args, below, meth, c, nL', A, Q⟩ := K
  obtain ⟨hx, hb, hml, hnl, hrm, hown, hts, hA, hK, hlk⟩ := C
  subst hnl
  intro H locs ls hP hD hS hl
  exact lv_ldc2 hx hb hown hc hd (k H locs ls hP hD hS hl)
theorem z_iload_n (C : zC E K cc Ts own rm nL) {n : Fin 4} (q : Nat) {i : Nat} {x : Int32} (hq : lv[q]? = some (i, .int x)) (hi : (n : Nat) = i) (hd : decode cc pc = .ok (.iload_n n, 1)) (k : Z E K ce sl V (pc + 1) lv (.int x :: st)) : Z E K ce sl V pc lv st := by
  obtain ⟨p, e, R, s, m, args, below, meth, c, nL', A, Q⟩ := K
  obtain ⟨hx, hb, hml, hnl, hrm, hown, hts, hA, hK, hlk⟩ := C
  subst hnl
  intro H locs ls hP hD hS hl
  exact lv_iload_n hx hb hd hi (lv_at hl q hq) (k H locs ls hP hD hS hl)
theorem z_iload (C : zC E K cc Ts own rm nL) (q : Nat) {i : Nat} {x : Int32} (hq : lv[q]? = some (i, .int x)) (hd : decode cc pc = .ok (.iload i, 2)) (k : Z E K ce sl V (pc + 2) lv (.int x :: st)) : Z E K ce sl V pc lv st := by
  obtain ⟨p, e, R, s, m, args, below, meth, c, nL', A, Q⟩ := K
  obtain ⟨hx, hb, hml, hnl, hrm, hown, hts, hA, hK, hlk⟩ := C
  subst hnl
  intro H locs ls hP hD hS hl
  exact lv_iload hx hb hd (lv_at hl q hq) (k H locs ls hP hD hS hl)
theorem z_aload_n (C : zC E K cc Ts own rm nL) {n : Fin 4} (q : Nat) {i : Nat} {x : Nat} (hq : lv[q]? = some (i, .ref x)) (hi : (n : Nat) = i) (hd : decode cc pc = .ok (.aload_n n, 1)) (k : Z E K ce sl V (pc + 1) lv (.ref x :: st)) : Z E K ce sl V pc lv st := by
  obtain ⟨p, e, R, s, m, args, below, meth, c, nL', A, Q⟩ := K
  obtain ⟨hx, hb, hml, hnl, hrm, hown, hts, hA, hK, hlk⟩ := C
  subst hnl
  intro H locs ls hP hD hS hl
  exact lv_aload_n hx hb hd hi (lv_at hl q hq) (k H locs ls hP hD hS hl)
theorem z_aload (C : zC E K cc Ts own rm nL) (q : Nat) {i : Nat} {x : Nat} (hq : lv[q]? = some (i, .ref x)) (hd : decode cc pc = .ok (.aload i, 2)) (k : Z E K ce sl V (pc + 2) lv (.ref x :: st)) : Z E K ce sl V pc lv st := by
  obtain ⟨p, e, R, s, m, args, below, meth, c, nL', A, Q⟩ := K
  obtain ⟨hx, hb, hml, hnl, hrm, hown, hts, hA, hK, hlk⟩ := C
  subst hnl
  intro H locs ls hP hD hS hl
  exact lv_aload hx hb hd (lv_at hl q hq) (k H locs ls hP hD hS hl)
theorem z_istore_n (C : zC E K cc Ts own rm nL) {n : Fin 4} {i : Nat} {x : Int32} (hv : (i, Value.int x) :: lv.filter (fun q => !(q.1 == i) && !(q.1 + 1 == i && q.2.category == 2)) = lv') (hi : (n : Nat) = i) (hn : i < nL) (hd : decode cc pc = .ok (.istore_n n, 1)) (k : Z E K ce sl V (pc + 1) lv' st) : Z E K ce sl V pc lv (.int x :: st) := by
  obtain ⟨p, e, R, s, m, args, below, meth, c, nL', A, Q⟩ := K
  obtain ⟨hx, hb, hml, hnl, hrm, hown, hts, hA, hK, hlk⟩ := C
  subst hnl
  intro H locs ls hP hD hS hl
  exact lv_istore_n hx hb hd hi hl hn hv (fun ls2 hl2 => k H locs ls2 hP hD hS hl2)
theorem z_istore (C : zC E K cc Ts own rm nL) {i : Nat} {x : Int32} (hv : (i, Value.int x) :: lv.filter (fun q => !(q.1 == i) && !(q.1 + 1 == i && q.2.category == 2)) = lv') (hn : i < nL) (hd : decode cc pc = .ok (.istore i, 2)) (k : Z E K ce sl V (pc + 2) lv' st) : Z E K ce sl V pc lv (.int x :: st) := by
  obtain ⟨p, e, R, s, m, args, below, meth, c, nL', A, Q⟩ := K
  obtain ⟨hx, hb, hml, hnl, hrm, hown, hts, hA, hK, hlk⟩ := C
  subst hnl
  intro H locs ls hP hD hS hl
  exact lv_istore hx hb hd hl hn hv (fun ls2 hl2 => k H locs ls2 hP hD hS hl2)
theorem z_astore_n (C : zC E K cc Ts own rm nL) {n : Fin 4} {i : Nat} {x : Nat} (hv : (i, Value.ref x) :: lv.filter (fun q => !(q.1 == i) && !(q.1 + 1 == i && q.2.category == 2)) = lv') (hi : (n : Nat) = i) (hn : i < nL) (hd : decode cc pc = .ok (.astore_n n, 1)) (k : Z E K ce sl V (pc + 1) lv' st) : Z E K ce sl V pc lv (.ref x :: st) := by
  obtain ⟨p, e, R, s, m, args, below, meth, c, nL', A, Q⟩ := K
  obtain ⟨hx, hb, hml, hnl, hrm, hown, hts, hA, hK, hlk⟩ := C
  subst hnl
  intro H locs ls hP hD hS hl
  exact lv_astore_n hx hb hd hi hl hn hv (fun ls2 hl2 => k H locs ls2 hP hD hS hl2)
theorem z_astore (C : zC E K cc Ts own rm nL) {i : Nat} {x : Nat} (hv : (i, Value.ref x) :: lv.filter (fun q => !(q.1 == i) && !(q.1 + 1 == i && q.2.category == 2)) = lv') (hn : i < nL) (hd : decode cc pc = .ok (.astore i, 2)) (k : Z E K ce sl V (pc + 2) lv' st) : Z E K ce sl V pc lv (.ref x :: st) := by
  obtain ⟨p, e, R, s, m, args, below, meth, c, nL', A, Q⟩ := K
  obtain ⟨hx, hb, hml, hnl, hrm, hown, hts, hA, hK, hlk⟩ := C
  subst hnl
  intro H locs ls hP hD hS hl
  exact lv_astore hx hb hd hl hn hv (fun ls2 hl2 => k H locs ls2 hP hD hS hl2)
theorem z_iinc (C : zC E K cc Ts own rm nL) (q : Nat) {i : Nat} {n : Int} {x v : Int32} (hq : lv[q]? = some (i, .int x)) (hx1 : x + Int32.ofInt n = v) (hv : (i, Value.int v) :: lv.filter (fun q => !(q.1 == i) && !(q.1 + 1 == i && q.2.category == 2)) = lv') (hn : i < nL) (hd : decode cc pc = .ok (.iinc i n, 3)) (k : Z E K ce sl V (pc + 3) lv' st) : Z E K ce sl V pc lv st := by
  obtain ⟨p, e, R, s, m, args, below, meth, c, nL', A, Q⟩ := K
  obtain ⟨hx, hb, hml, hnl, hrm, hown, hts, hA, hK, hlk⟩ := C
  subst hnl
  intro H locs ls hP hD hS hl
  exact lv_iinc hx hb hd hl hq hx1 hn hv (fun ls2 hl2 => k H locs ls2 hP hD hS hl2)
theorem z_iadd (C : zC E K cc Ts own rm nL) {x y : Int32} (hd : decode cc pc = .ok (.iadd, 1)) (k : Z E K ce sl V (pc + 1) lv (.int (x + y) :: st)) : Z E K ce sl V pc lv (.int y :: .int x :: st) := by
  obtain ⟨p, e, R, s, m, args, below, meth, c, nL', A, Q⟩ := K
  obtain ⟨hx, hb, hml, hnl, hrm, hown, hts, hA, hK, hlk⟩ := C
  subst hnl
  intro H locs ls hP hD hS hl
  exact lv_iadd hx hb hd (k H locs ls hP hD hS hl)
theorem z_isub (C : zC E K cc Ts own rm nL) {x y : Int32} (hd : decode cc pc = .ok (.isub, 1)) (k : Z E K ce sl V (pc + 1) lv (.int (x - y) :: st)) : Z E K ce sl V pc lv (.int y :: .int x :: st) := by
  obtain ⟨p, e, R, s, m, args, below, meth, c, nL', A, Q⟩ := K
  obtain ⟨hx, hb, hml, hnl, hrm, hown, hts, hA, hK, hlk⟩ := C
  subst hnl
  intro H locs ls hP hD hS hl
  exact lv_isub hx hb hd (k H locs ls hP hD hS hl)
theorem z_imul (C : zC E K cc Ts own rm nL) {x y : Int32} (hd : decode cc pc = .ok (.imul, 1)) (k : Z E K ce sl V (pc + 1) lv (.int (x * y) :: st)) : Z E K ce sl V pc lv (.int y :: .int x :: st) := by
  obtain ⟨p, e, R, s, m, args, below, meth, c, nL', A, Q⟩ := K
  obtain ⟨hx, hb, hml, hnl, hrm, hown, hts, hA, hK, hlk⟩ := C
  subst hnl
  intro H locs ls hP hD hS hl
  exact lv_imul hx hb hd (k H locs ls hP hD hS hl)
theorem z_iand (C : zC E K cc Ts own rm nL) {x y : Int32} (hd : decode cc pc = .ok (.iand, 1)) (k : Z E K ce sl V (pc + 1) lv (.int (x &&& y) :: st)) : Z E K ce sl V pc lv (.int y :: .int x :: st) := by
  obtain ⟨p, e, R, s, m, args, below, meth, c, nL', A, Q⟩ := K
  obtain ⟨hx, hb, hml, hnl, hrm, hown, hts, hA, hK, hlk⟩ := C
  subst hnl
  intro H locs ls hP hD hS hl
  exact lv_iand hx hb hd (k H locs ls hP hD hS hl)
theorem z_ior (C : zC E K cc Ts own rm nL) {x y : Int32} (hd : decode cc pc = .ok (.ior, 1)) (k : Z E K ce sl V (pc + 1) lv (.int (x ||| y) :: st)) : Z E K ce sl V pc lv (.int y :: .int x :: st) := by
  obtain ⟨p, e, R, s, m, args, below, meth, c, nL', A, Q⟩ := K
  obtain ⟨hx, hb, hml, hnl, hrm, hown, hts, hA, hK, hlk⟩ := C
  subst hnl
  intro H locs ls hP hD hS hl
  exact lv_ior hx hb hd (k H locs ls hP hD hS hl)
theorem z_ixor (C : zC E K cc Ts own rm nL) {x y : Int32} (hd : decode cc pc = .ok (.ixor, 1)) (k : Z E K ce sl V (pc + 1) lv (.int (x ^^^ y) :: st)) : Z E K ce sl V pc lv (.int y :: .int x :: st) := by
  obtain ⟨p, e, R, s, m, args, below, meth, c, nL', A, Q⟩ := K
  obtain ⟨hx, hb, hml, hnl, hrm, hown, hts, hA, hK, hlk⟩ := C
  subst hnl
  intro H locs ls hP hD hS hl
  exact lv_ixor hx hb hd (k H locs ls hP hD hS hl)
theorem z_ishl (C : zC E K cc Ts own rm nL) {x y : Int32} (hd : decode cc pc = .ok (.ishl, 1)) (k : Z E K ce sl V (pc + 1) lv (.int (x <<< (y &&& 31)) :: st)) : Z E K ce sl V pc lv (.int y :: .int x :: st) := by
  obtain ⟨p, e, R, s, m, args, below, meth, c, nL', A, Q⟩ := K
  obtain ⟨hx, hb, hml, hnl, hrm, hown, hts, hA, hK, hlk⟩ := C
  subst hnl
  intro H locs ls hP hD hS hl
  exact lv_ishl hx hb hd (k H locs ls hP hD hS hl)
theorem z_ishr (C : zC E K cc Ts own rm nL) {x y : Int32} (hd : decode cc pc = .ok (.ishr, 1)) (k : Z E K ce sl V (pc + 1) lv (.int (x >>> (y &&& 31)) :: st)) : Z E K ce sl V pc lv (.int y :: .int x :: st) := by
  obtain ⟨p, e, R, s, m, args, below, meth, c, nL', A, Q⟩ := K
  obtain ⟨hx, hb, hml, hnl, hrm, hown, hts, hA, hK, hlk⟩ := C
  subst hnl
  intro H locs ls hP hD hS hl
  exact lv_ishr hx hb hd (k H locs ls hP hD hS hl)
theorem z_iushr (C : zC E K cc Ts own rm nL) {x y v : Int32} (hv : (x.toUInt32 >>> (y.toUInt32 &&& Int32.toUInt32 31)).toInt32 = v) (hd : decode cc pc = .ok (.iushr, 1)) (k : Z E K ce sl V (pc + 1) lv (.int v :: st)) : Z E K ce sl V pc lv (.int y :: .int x :: st) := by
  obtain ⟨p, e, R, s, m, args, below, meth, c, nL', A, Q⟩ := K
  obtain ⟨hx, hb, hml, hnl, hrm, hown, hts, hA, hK, hlk⟩ := C
  subst hnl
  intro H locs ls hP hD hS hl
  exact lv_iushr hx hb hd hv (k H locs ls hP hD hS hl)
theorem z_idiv (C : zC E K cc Ts own rm nL) {x y : Int32} (hne : ¬ y = 0) (hd : decode cc pc = .ok (.idiv, 1)) (k : Z E K ce sl V (pc + 1) lv (.int (x / y) :: st)) : Z E K ce sl V pc lv (.int y :: .int x :: st) := by
  obtain ⟨p, e, R, s, m, args, below, meth, c, nL', A, Q⟩ := K
  obtain ⟨hx, hb, hml, hnl, hrm, hown, hts, hA, hK, hlk⟩ := C
  subst hnl
  intro H locs ls hP hD hS hl
  exact lv_idiv hx hb hd hne (k H locs ls hP hD hS hl)
theorem z_irem (C : zC E K cc Ts own rm nL) {x y : Int32} (hne : ¬ y = 0) (hd : decode cc pc = .ok (.irem, 1)) (k : Z E K ce sl V (pc + 1) lv (.int (x - x / y * y) :: st)) : Z E K ce sl V pc lv (.int y :: .int x :: st) := by
  obtain ⟨p, e, R, s, m, args, below, meth, c, nL', A, Q⟩ := K
  obtain ⟨hx, hb, hml, hnl, hrm, hown, hts, hA, hK, hlk⟩ := C
  subst hnl
  intro H locs ls hP hD hS hl
  exact lv_irem hx hb hd hne (k H locs ls hP hD hS hl)
theorem z_i2b (C : zC E K cc Ts own rm nL) {x v : Int32} (hv : x.toInt8.toInt32 = v) (hd : decode cc pc = .ok (.i2b, 1)) (k : Z E K ce sl V (pc + 1) lv (.int v :: st)) : Z E K ce sl V pc lv (.int x :: st) := by
  obtain ⟨p, e, R, s, m, args, below, meth, c, nL', A, Q⟩ := K
  obtain ⟨hx, hb, hml, hnl, hrm, hown, hts, hA, hK, hlk⟩ := C
  subst hnl
  intro H locs ls hP hD hS hl
  exact lv_i2b hx hb hd hv (k H locs ls hP hD hS hl)
theorem z_i2l (C : zC E K cc Ts own rm nL) {x : Int32} {v : Int64} (hv : x.toInt64 = v) (hd : decode cc pc = .ok (.i2l, 1)) (k : Z E K ce sl V (pc + 1) lv (.long v :: st)) : Z E K ce sl V pc lv (.int x :: st) := by
  obtain ⟨p, e, R, s, m, args, below, meth, c, nL', A, Q⟩ := K
  obtain ⟨hx, hb, hml, hnl, hrm, hown, hts, hA, hK, hlk⟩ := C
  subst hnl
  intro H locs ls hP hD hS hl
  exact lv_i2l hx hb hd hv (k H locs ls hP hD hS hl)
theorem z_land (C : zC E K cc Ts own rm nL) {x y : Int64} (hd : decode cc pc = .ok (.land, 1)) (k : Z E K ce sl V (pc + 1) lv (.long (x &&& y) :: st)) : Z E K ce sl V pc lv (.long y :: .long x :: st) := by
  obtain ⟨p, e, R, s, m, args, below, meth, c, nL', A, Q⟩ := K
  obtain ⟨hx, hb, hml, hnl, hrm, hown, hts, hA, hK, hlk⟩ := C
  subst hnl
  intro H locs ls hP hD hS hl
  exact lv_land hx hb hd (k H locs ls hP hD hS hl)
theorem z_lcmp (C : zC E K cc Ts own rm nL) {x y : Int64} (hd : decode cc pc = .ok (.lcmp, 1)) (k : Z E K ce sl V (pc + 1) lv (.int (lg_cmp x y) :: st)) : Z E K ce sl V pc lv (.long y :: .long x :: st) := by
  obtain ⟨p, e, R, s, m, args, below, meth, c, nL', A, Q⟩ := K
  obtain ⟨hx, hb, hml, hnl, hrm, hown, hts, hA, hK, hlk⟩ := C
  subst hnl
  intro H locs ls hP hD hS hl
  exact W.lcmp hx hb hd (k H locs ls hP hD hS hl)
theorem z_dup (C : zC E K cc Ts own rm nL) {a : Value} (hc : a.category = 1) (hd : decode cc pc = .ok (.dup, 1)) (k : Z E K ce sl V (pc + 1) lv (a :: a :: st)) : Z E K ce sl V pc lv (a :: st) := by
  obtain ⟨p, e, R, s, m, args, below, meth, c, nL', A, Q⟩ := K
  obtain ⟨hx, hb, hml, hnl, hrm, hown, hts, hA, hK, hlk⟩ := C
  subst hnl
  intro H locs ls hP hD hS hl
  exact lv_dup hx hb hd hc (k H locs ls hP hD hS hl)
theorem z_pop (C : zC E K cc Ts own rm nL) {a : Value} (hc : a.category = 1) (hd : decode cc pc = .ok (.pop, 1)) (k : Z E K ce sl V (pc + 1) lv st) : Z E K ce sl V pc lv (a :: st) := by
  obtain ⟨p, e, R, s, m, args, below, meth, c, nL', A, Q⟩ := K
  obtain ⟨hx, hb, hml, hnl, hrm, hown, hts, hA, hK, hlk⟩ := C
  subst hnl
  intro H locs ls hP hD hS hl
  exact lv_pop hx hb hd hc (k H locs ls hP hD hS hl)
theorem z_dup_x1 (C : zC E K cc Ts own rm nL) {a b : Value} (hc : a.category = 1) (hc2 : b.category = 1) (hd : decode cc pc = .ok (.dup_x1, 1)) (k : Z E K ce sl V (pc + 1) lv (a :: b :: a :: st)) : Z E K ce sl V pc lv (a :: b :: st) := by
  obtain ⟨p, e, R, s, m, args, below, meth, c, nL', A, Q⟩ := K
  obtain ⟨hx, hb, hml, hnl, hrm, hown, hts, hA, hK, hlk⟩ := C
  subst hnl
  intro H locs ls hP hD hS hl
  exact lv_dup_x1 hx hb hd hc hc2 (k H locs ls hP hD hS hl)
theorem z_dup2 (C : zC E K cc Ts own rm nL) {a b : Value} (hc : a.category = 1) (hc2 : b.category = 1) (hd : decode cc pc = .ok (.dup2, 1)) (k : Z E K ce sl V (pc + 1) lv (a :: b :: a :: b :: st)) : Z E K ce sl V pc lv (a :: b :: st) := by
  obtain ⟨p, e, R, s, m, args, below, meth, c, nL', A, Q⟩ := K
  obtain ⟨hx, hb, hml, hnl, hrm, hown, hts, hA, hK, hlk⟩ := C
  subst hnl
  intro H locs ls hP hD hS hl
  exact lv_dup2_11 hx hb hd hc hc2 (k H locs ls hP hD hS hl)
theorem z_if_eq (C : zC E K cc Ts own rm nL) {x : Int32} {off : Int} {tgt : Nat} (hd : decode cc pc = .ok (.ifCond .eq off, 3)) (ht : (pc : Int) + off = (tgt : Int)) (kt : x = 0 → Z E K ce sl V tgt lv st) (kf : ¬ x = 0 → Z E K ce sl V (pc + 3) lv st) : Z E K ce sl V pc lv (.int x :: st) := by
  obtain ⟨p, e, R, s, m, args, below, meth, c, nL', A, Q⟩ := K
  obtain ⟨hx, hb, hml, hnl, hrm, hown, hts, hA, hK, hlk⟩ := C
  subst hnl
  intro H locs ls hP hD hS hl
  exact lv_if_eq hx hb hd ht (fun h => kt h H locs ls hP hD hS hl) (fun h => kf h H locs ls hP hD hS hl)
theorem z_icmp_eq (C : zC E K cc Ts own rm nL) {x y : Int32} {off : Int} {tgt : Nat} (hd : decode cc pc = .ok (.if_icmp .eq off, 3)) (ht : (pc : Int) + off = (tgt : Int)) (kt : x = y → Z E K ce sl V tgt lv st) (kf : ¬ x = y → Z E K ce sl V (pc + 3) lv st) : Z E K ce sl V pc lv (.int y :: .int x :: st) := by
  obtain ⟨p, e, R, s, m, args, below, meth, c, nL', A, Q⟩ := K
  obtain ⟨hx, hb, hml, hnl, hrm, hown, hts, hA, hK, hlk⟩ := C
  subst hnl
  intro H locs ls hP hD hS hl
  exact lv_icmp_eq hx hb hd ht (fun h => kt h H locs ls hP hD hS hl) (fun h => kf h H locs ls hP hD hS hl)
theorem z_if_ne (C : zC E K cc Ts own rm nL) {x : Int32} {off : Int} {tgt : Nat} (hd : decode cc pc = .ok (.ifCond .ne off, 3)) (ht : (pc : Int) + off = (tgt : Int)) (kt : ¬ x = 0 → Z E K ce sl V tgt lv st) (kf : x = 0 → Z E K ce sl V (pc + 3) lv st) : Z E K ce sl V pc lv (.int x :: st) := by
  obtain ⟨p, e, R, s, m, args, below, meth, c, nL', A, Q⟩ := K
  obtain ⟨hx, hb, hml, hnl, hrm, hown, hts, hA, hK, hlk⟩ := C
  subst hnl
  intro H locs ls hP hD hS hl
  exact lv_if_ne hx hb hd ht (fun h => kt h H locs ls hP hD hS hl) (fun h => kf h H locs ls hP hD hS hl)
theorem z_icmp_ne (C : zC E K cc Ts own rm nL) {x y : Int32} {off : Int} {tgt : Nat} (hd : decode cc pc = .ok (.if_icmp .ne off, 3)) (ht : (pc : Int) + off = (tgt : Int)) (kt : ¬ x = y → Z E K ce sl V tgt lv st) (kf : x = y → Z E K ce sl V (pc + 3) lv st) : Z E K ce sl V pc lv (.int y :: .int x :: st) := by
  obtain ⟨p, e, R, s, m, args, below, meth, c, nL', A, Q⟩ := K
  obtain ⟨hx, hb, hml, hnl, hrm, hown, hts, hA, hK, hlk⟩ := C
  subst hnl
  intro H locs ls hP hD hS hl
  exact lv_icmp_ne hx hb hd ht (fun h => kt h H locs ls hP hD hS hl) (fun h => kf h H locs ls hP hD hS hl)
theorem z_if_lt (C : zC E K cc Ts own rm nL) {x : Int32} {off : Int} {tgt : Nat} (hd : decode cc pc = .ok (.ifCond .lt off, 3)) (ht : (pc : Int) + off = (tgt : Int)) (kt : x < 0 → Z E K ce sl V tgt lv st) (kf : ¬ x < 0 → Z E K ce sl V (pc + 3) lv st) : Z E K ce sl V pc lv (.int x :: st) := by
  obtain ⟨p, e, R, s, m, args, below, meth, c, nL', A, Q⟩ := K
  obtain ⟨hx, hb, hml, hnl, hrm, hown, hts, hA, hK, hlk⟩ := C
  subst hnl
  intro H locs ls hP hD hS hl
  exact lv_if_lt hx hb hd ht (fun h => kt h H locs ls hP hD hS hl) (fun h => kf h H locs ls hP hD hS hl)
theorem z_icmp_lt (C : zC E K cc Ts own rm nL) {x y : Int32} {off : Int} {tgt : Nat} (hd : decode cc pc = .ok (.if_icmp .lt off, 3)) (ht : (pc : Int) + off = (tgt : Int)) (kt : x < y → Z E K ce sl V tgt lv st) (kf : ¬ x < y → Z E K ce sl V (pc + 3) lv st) : Z E K ce sl V pc lv (.int y :: .int x :: st) := by
  obtain ⟨p, e, R, s, m, args, below, meth, c, nL', A, Q⟩ := K
  obtain ⟨hx, hb, hml, hnl, hrm, hown, hts, hA, hK, hlk⟩ := C
  subst hnl
  intro H locs ls hP hD hS hl
  exact lv_icmp_lt hx hb hd ht (fun h => kt h H locs ls hP hD hS hl) (fun h => kf h H locs ls hP hD hS hl)
theorem z_if_ge (C : zC E K cc Ts own rm nL) {x : Int32} {off : Int} {tgt : Nat} (hd : decode cc pc = .ok (.ifCond .ge off, 3)) (ht : (pc : Int) + off = (tgt : Int)) (kt : 0 ≤ x → Z E K ce sl V tgt lv st) (kf : ¬ 0 ≤ x → Z E K ce sl V (pc + 3) lv st) : Z E K ce sl V pc lv (.int x :: st) := by
  obtain ⟨p, e, R, s, m, args, below, meth, c, nL', A, Q⟩ := K
  obtain ⟨hx, hb, hml, hnl, hrm, hown, hts, hA, hK, hlk⟩ := C
  subst hnl
  intro H locs ls hP hD hS hl
  exact lv_if_ge hx hb hd ht (fun h => kt h H locs ls hP hD hS hl) (fun h => kf h H locs ls hP hD hS hl)
theorem z_icmp_ge (C : zC E K cc Ts own rm nL) {x y : Int32} {off : Int} {tgt : Nat} (hd : decode cc pc = .ok (.if_icmp .ge off, 3)) (ht : (pc : Int) + off = (tgt : Int)) (kt : y ≤ x → Z E K ce sl V tgt lv st) (kf : ¬ y ≤ x → Z E K ce sl V (pc + 3) lv st) : Z E K ce sl V pc lv (.int y :: .int x :: st) := by
  obtain ⟨p, e, R, s, m, args, below, meth, c, nL', A, Q⟩ := K
  obtain ⟨hx, hb, hml, hnl, hrm, hown, hts, hA, hK, hlk⟩ := C
  subst hnl
  intro H locs ls hP hD hS hl
  exact lv_icmp_ge hx hb hd ht (fun h => kt h H locs ls hP hD hS hl) (fun h => kf h H locs ls hP hD hS hl)
theorem z_if_gt (C : zC E K cc Ts own rm nL) {x : Int32} {off : Int} {tgt : Nat} (hd : decode cc pc = .ok (.ifCond .gt off, 3)) (ht : (pc : Int) + off = (tgt : Int)) (kt : 0 < x → Z E K ce sl V tgt lv st) (kf : ¬ 0 < x → Z E K ce sl V (pc + 3) lv st) : Z E K ce sl V pc lv (.int x :: st) := by
  obtain ⟨p, e, R, s, m, args, below, meth, c, nL', A, Q⟩ := K
  obtain ⟨hx, hb, hml, hnl, hrm, hown, hts, hA, hK, hlk⟩ := C
  subst hnl
  intro H locs ls hP hD hS hl
  exact lv_if_gt hx hb hd ht (fun h => kt h H locs ls hP hD hS hl) (fun h => kf h H locs ls hP hD hS hl)
theorem z_icmp_gt (C : zC E K cc Ts own rm nL) {x y : Int32} {off : Int} {tgt : Nat} (hd : decode cc pc = .ok (.if_icmp .gt off, 3)) (ht : (pc : Int) + off = (tgt : Int)) (kt : y < x → Z E K ce sl V tgt lv st) (kf : ¬ y < x → Z E K ce sl V (pc + 3) lv st) : Z E K ce sl V pc lv (.int y :: .int x :: st) := by
  obtain ⟨p, e, R, s, m, args, below, meth, c, nL', A, Q⟩ := K
  obtain ⟨hx, hb, hml, hnl, hrm, hown, hts, hA, hK, hlk⟩ := C
  subst hnl
  intro H locs ls hP hD hS hl
  exact lv_icmp_gt hx hb hd ht (fun h => kt h H locs ls hP hD hS hl) (fun h => kf h H locs ls hP hD hS hl)
theorem z_if_le (C : zC E K cc Ts own rm nL) {x : Int32} {off : Int} {tgt : Nat} (hd : decode cc pc = .ok (.ifCond .le off, 3)) (ht : (pc : Int) + off = (tgt : Int)) (kt : x ≤ 0 → Z E K ce sl V tgt lv st) (kf : ¬ x ≤ 0 → Z E K ce sl V (pc + 3) lv st) : Z E K ce sl V pc lv (.int x :: st) := by
  obtain ⟨p, e, R, s, m, args, below, meth, c, nL', A, Q⟩ := K
  obtain ⟨hx, hb, hml, hnl, hrm, hown, hts, hA, hK, hlk⟩ := C
  subst hnl
  intro H locs ls hP hD hS hl
  exact lv_if_le hx hb hd ht (fun h => kt h H locs ls hP hD hS hl) (fun h => kf h H locs ls hP hD hS hl)
theorem z_icmp_le (C : zC E K cc Ts own rm nL) {x y : Int32} {off : Int} {tgt : Nat} (hd : decode cc pc = .ok (.if_icmp .le off, 3)) (ht : (pc : Int) + off = (tgt : Int)) (kt : x ≤ y → Z E K ce sl V tgt lv st) (kf : ¬ x ≤ y → Z E K ce sl V (pc + 3) lv st) : Z E K ce sl V pc lv (.int y :: .int x :: st) := by
  obtain ⟨p, e, R, s, m, args, below, meth, c, nL', A, Q⟩ := K
  obtain ⟨hx, hb, hml, hnl, hrm, hown, hts, hA, hK, hlk⟩ := C
  subst hnl
  intro H locs ls hP hD hS hl
  exact lv_icmp_le hx hb hd ht (fun h => kt h H locs ls hP hD hS hl) (fun h => kf h H locs ls hP hD hS hl)
theorem z_goto (C : zC E K cc Ts own rm nL) {off : Int} {tgt : Nat} (hd : decode cc pc = .ok (.goto off, 3)) (ht : (pc : Int) + off = (tgt : Int)) (k : Z E K ce sl V tgt lv st) : Z E K ce sl V pc lv st := by
  obtain ⟨p, e, R, s, m, args, below, meth, c, nL', A, Q⟩ := K
  obtain ⟨hx, hb, hml, hnl, hrm, hown, hts, hA, hK, hlk⟩ := C
  subst hnl
  intro H locs ls hP hD hS hl
  exact lv_goto hx hb hd ht (k H locs ls hP hD hS hl)
theorem z_swOut (C : zC E K cc Ts own rm nL) {dflt lo hi : Int} {offs : Array Int} {len : Nat} {x : Int32} {tgt : Nat} (h : x.toInt < lo ∨ hi < x.toInt) (hd : decode cc pc = .ok (.tableswitch dflt lo hi offs, len)) (ht : (pc : Int) + dflt = (tgt : Int)) (k : Z E K ce sl V tgt lv st) : Z E K ce sl V pc lv (.int x :: st) := by
  obtain ⟨p, e, R, s, m, args, below, meth, c, nL', A, Q⟩ := K
  obtain ⟨hx, hb, hml, hnl, hrm, hown, hts, hA, hK, hlk⟩ := C
  subst hnl
  intro H locs ls hP hD hS hl
  exact lv_tableOut hx hb hd h ht (k H locs ls hP hD hS hl)
theorem z_swIn (C : zC E K cc Ts own rm nL) {dflt lo hi : Int} {offs : Array Int} {len : Nat} {x : Int32} {off : Int} {tgt : Nat} (h1 : ¬ x.toInt < lo) (h2 : ¬ hi < x.toInt) (ho : offs[(x.toInt - lo).toNat]? = some off) (hd : decode cc pc = .ok (.tableswitch dflt lo hi offs, len)) (ht : (pc : Int) + off = (tgt : Int)) (k : Z E K ce sl V tgt lv st) : Z E K ce sl V pc lv (.int x :: st) := by
  obtain ⟨p, e, R, s, m, args, below, meth, c, nL', A, Q⟩ := K
  obtain ⟨hx, hb, hml, hnl, hrm, hown, hts, hA, hK, hlk⟩ := C
  subst hnl
  intro H locs ls hP hD hS hl
  exact lv_tableIn hx hb hd h1 h2 ho ht (k H locs ls hP hD hS hl)
theorem z_get (C : zC E K cc Ts own rm nL) {Cn : String} {T : u_T} {Nf ci : Nat} (hin : ∀ w ∈ u_ws Cn T Nf, w ∈ Ts) (q0 k : Nat) {index : Nat} (hl0 : zw K (.fieldLink own index (T k).1 (T k).2.1 (T k).2.2.1)) {fs : List Value} {a : Nat} {v : Value} (he : V[q0]? = some (a, .inr (ci, fs))) (hc : vwCl[ci]? = some (Cn, T, Nf)) (hk : k < Nf) (hv : fs[k]? = some v) (hd : decode cc pc = .ok (.getfield index, 3)) (kk : Z E K ce sl V (pc + 3) lv (v :: st)) : Z E K ce sl V pc lv (.ref a :: st) := by
  obtain ⟨p, e, R, s, m, args, below, meth, c, nL', A, Q⟩ := K
  obtain ⟨hx, hb, hml, hnl, hrm, hown, hts, hA, hK, hlk⟩ := C
  subst hnl
  intro H locs ls hP hD hS hl
  exact va_get hx hb hts hin hown hK.1 hP q0 he hc k hk hl0 (fun _ h => h) hv hd (kk H locs ls hP hD hS hl)
theorem z_put (C : zC E K cc Ts own rm nL) {Cn : String} {T : u_T} {Nf ci : Nat} (hin : ∀ w ∈ u_ws Cn T Nf, w ∈ Ts) (q0 k : Nat) {index : Nat} (hl0 : zw K (.fieldLink own index (T k).1 (T k).2.1 (T k).2.2.1)) {fs : List Value} {a : Nat} {v : Value} (he : V[q0]? = some (a, .inr (ci, fs))) (hc : vwCl[ci]? = some (Cn, T, Nf)) (hk : k < Nf) (ty0 : Nat → FieldType) (hty : ∀ k, k < Nf → parseFieldDescriptor (T k).2.2.1 = some (ty0 k)) (hnm : ∀ a, a < Nf → ∀ b, b < Nf → a ≠ b → (T a).2.1 ≠ (T b).2.1) (hf : (T k).2.2.2 = false) (hn : narrow (ty0 k) v = v) (hfit : fits (ty0 k) v = true) (hlen : k < fs.length) (hV : V.set q0 (a, .inr (ci, fs.set k v)) = V') (hd : decode cc pc = .ok (.putfield index, 3)) (kk : Z E K ce sl V' (pc + 3) lv st) : Z E K ce sl V pc lv (v :: .ref a :: st) := by
  obtain ⟨p, e, R, s, m, args, below, meth, c, nL', A, Q⟩ := K
  obtain ⟨hx, hb, hml, hnl, hrm, hown, hts, hA, hK, hlk⟩ := C
  subst hnl
  intro H locs ls hP hD hS hl
  subst hV
  exact va_put hx hb hts hin ty0 hty hnm hown hK.1 hP hD hS q0 he hc k hk hl0 (fun _ h => h) hf (hty k hk) hn hfit hlen hd (fun H1 locs1 hP1 hD1 hS1 => kk H1 locs1 ls hP1 hD1 hS1 hl)
theorem z_putF (C : zC E K cc Ts own rm nL) {Cn : String} {T : u_T} {Nf ci : Nat} (hin : ∀ w ∈ u_ws Cn T Nf, w ∈ Ts) (q0 k : Nat) {index : Nat} (hl0 : zw K (.fieldLink own index (T k).1 (T k).2.1 (T k).2.2.1)) {fs : List Value} {a : Nat} {v : Value} (he : V[q0]? = some (a, .inr (ci, fs))) (hc : vwCl[ci]? = some (Cn, T, Nf)) (hk : k < Nf) (ty0 : Nat → FieldType) (hty : ∀ k, k < Nf → parseFieldDescriptor (T k).2.2.1 = some (ty0 k)) (hnm : ∀ a, a < Nf → ∀ b, b < Nf → a ≠ b → (T a).2.1 ≠ (T b).2.1) (hf : (T k).2.2.2 = true) (hN : zN K "<init>") (hdc : (T k).1 = own) (hn : narrow (ty0 k) v = v) (hfit : fits (ty0 k) v = true) (hlen : k < fs.length) (hV : V.set q0 (a, .inr (ci, fs.set k v)) = V') (hd : decode cc pc = .ok (.putfield index, 3)) (kk : Z E K ce sl V' (pc + 3) lv st) : Z E K ce sl V pc lv (v :: .ref a :: st) := by
  obtain ⟨p, e, R, s, m, args, below, meth, c, nL', A, Q⟩ := K
  obtain ⟨hx, hb, hml, hnl, hrm, hown, hts, hA, hK, hlk⟩ := C
  subst hnl
  intro H locs ls hP hD hS hl
  subst hV
  exact va_putF hx hb hts hin ty0 hty hnm hown hK.1 hP hD hS q0 he hc k hk hl0 (fun _ h => h) hf hN hdc (hty k hk) hn hfit hlen hd (fun H1 locs1 hP1 hD1 hS1 => kk H1 locs1 ls hP1 hD1 hS1 hl)
theorem z_iald (C : zC E K cc Ts own rm nL) (q0 : Nat) {a n : Nat} {f : Nat → Int32} {i v : Int32} (he : V[q0]? = some (a, .inl (gI E, n, .inl f))) (hi : vp_in i n) (hv : f i.toNatClampNeg = v) (hd : decode cc pc = .ok (.iaload, 1)) (kk : Z E K ce sl V (pc + 1) lv (.int v :: st)) : Z E K ce sl V pc lv (.int i :: .ref a :: st) := by
  obtain ⟨p, e, R, s, m, args, below, meth, c, nL', A, Q⟩ := K
  obtain ⟨hx, hb, hml, hnl, hrm, hown, hts, hA, hK, hlk⟩ := C
  subst hnl
  intro H locs ls hP hD hS hl
  subst hv
  exact va_iald hx hb hK.1 hP q0 1 he rfl hi hd (kk H locs ls hP hD hS hl)
theorem z_iast (C : zC E K cc Ts own rm nL) (q0 : Nat) {a n : Nat} {f g : Nat → Int32} {i x : Int32} (he : V[q0]? = some (a, .inl (gI E, n, .inl f))) (hi : vp_in i n) (hg : upd f i.toNatClampNeg (x) = g) (hV : V.set q0 (a, .inl (gI E, n, .inl g)) = V') (hd : decode cc pc = .ok (.iastore, 1)) (kk : Z E K ce sl V' (pc + 1) lv st) : Z E K ce sl V pc lv (.int x :: .int i :: .ref a :: st) := by
  obtain ⟨p, e, R, s, m, args, below, meth, c, nL', A, Q⟩ := K
  obtain ⟨hx, hb, hml, hnl, hrm, hown, hts, hA, hK, hlk⟩ := C
  subst hnl
  intro H locs ls hP hD hS hl
  subst hV
  subst hg
  exact va_iast hx hb hK.1 hP hD hS q0 1 he rfl hi hd (fun H1 locs1 hP1 hD1 hS1 => kk H1 locs1 ls hP1 hD1 hS1 hl)
theorem z_ialen (C : zC E K cc Ts own rm nL) (q0 : Nat) {a n : Nat} {f : Nat → Int32} (he : V[q0]? = some (a, .inl (gI E, n, .inl f))) {v : Int32} (hv : Int32.ofNat n = v) (hd : decode cc pc = .ok (.arraylength, 1)) (kk : Z E K ce sl V (pc + 1) lv (.int v :: st)) : Z E K ce sl V pc lv (.ref a :: st) := by
  obtain ⟨p, e, R, s, m, args, below, meth, c, nL', A, Q⟩ := K
  obtain ⟨hx, hb, hml, hnl, hrm, hown, hts, hA, hK, hlk⟩ := C
  subst hnl
  intro H locs ls hP hD hS hl
  exact va_alen hx hb hK.1 hP q0 1 he rfl hv hd (kk H locs ls hP hD hS hl)
theorem z_bald (C : zC E K cc Ts own rm nL) (q0 : Nat) {a n : Nat} {f : Nat → Int32} {i v : Int32} (he : V[q0]? = some (a, .inl (gB E, n, .inl f))) (hi : vp_in i n) (hv : f i.toNatClampNeg = v) (hd : decode cc pc = .ok (.baload, 1)) (kk : Z E K ce sl V (pc + 1) lv (.int v :: st)) : Z E K ce sl V pc lv (.int i :: .ref a :: st) := by
  obtain ⟨p, e, R, s, m, args, below, meth, c, nL', A, Q⟩ := K
  obtain ⟨hx, hb, hml, hnl, hrm, hown, hts, hA, hK, hlk⟩ := C
  subst hnl
  intro H locs ls hP hD hS hl
  subst hv
  exact va_bald hx hb hK.1 hP q0 0 he rfl hi hd (kk H locs ls hP hD hS hl)
theorem z_bast (C : zC E K cc Ts own rm nL) (q0 : Nat) {a n : Nat} {f g : Nat → Int32} {i x : Int32} (he : V[q0]? = some (a, .inl (gB E, n, .inl f))) (hi : vp_in i n) (hg : upd f i.toNatClampNeg (vp_nar .byte x) = g) (hV : V.set q0 (a, .inl (gB E, n, .inl g)) = V') (hd : decode cc pc = .ok (.bastore, 1)) (kk : Z E K ce sl V' (pc + 1) lv st) : Z E K ce sl V pc lv (.int x :: .int i :: .ref a :: st) := by
  obtain ⟨p, e, R, s, m, args, below, meth, c, nL', A, Q⟩ := K
  obtain ⟨hx, hb, hml, hnl, hrm, hown, hts, hA, hK, hlk⟩ := C
  subst hnl
  intro H locs ls hP hD hS hl
  subst hV
  subst hg
  exact va_bast hx hb hK.1 hP hD hS q0 0 he rfl hi hd (fun H1 locs1 hP1 hD1 hS1 => kk H1 locs1 ls hP1 hD1 hS1 hl)
theorem z_balen (C : zC E K cc Ts own rm nL) (q0 : Nat) {a n : Nat} {f : Nat → Int32} (he : V[q0]? = some (a, .inl (gB E, n, .inl f))) {v : Int32} (hv : Int32.ofNat n = v) (hd : decode cc pc = .ok (.arraylength, 1)) (kk : Z E K ce sl V (pc + 1) lv (.int v :: st)) : Z E K ce sl V pc lv (.ref a :: st) := by
  obtain ⟨p, e, R, s, m, args, below, meth, c, nL', A, Q⟩ := K
  obtain ⟨hx, hb, hml, hnl, hrm, hown, hts, hA, hK, hlk⟩ := C
  subst hnl
  intro H locs ls hP hD hS hl
  exact va_alen hx hb hK.1 hP q0 0 he rfl hv hd (kk H locs ls hP hD hS hl)
theorem z_zald (C : zC E K cc Ts own rm nL) (q0 : Nat) {a n : Nat} {f : Nat → Int32} {i v : Int32} (he : V[q0]? = some (a, .inl (gZ E, n, .inl f))) (hi : vp_in i n) (hv : f i.toNatClampNeg = v) (hd : decode cc pc = .ok (.baload, 1)) (kk : Z E K ce sl V (pc + 1) lv (.int v :: st)) : Z E K ce sl V pc lv (.int i :: .ref a :: st) := by
  obtain ⟨p, e, R, s, m, args, below, meth, c, nL', A, Q⟩ := K
  obtain ⟨hx, hb, hml, hnl, hrm, hown, hts, hA, hK, hlk⟩ := C
  subst hnl
  intro H locs ls hP hD hS hl
  subst hv
  exact va_zald hx hb hK.1 hP q0 2 he rfl hi hd (kk H locs ls hP hD hS hl)
theorem z_zast (C : zC E K cc Ts own rm nL) (q0 : Nat) {a n : Nat} {f g : Nat → Int32} {i x : Int32} (he : V[q0]? = some (a, .inl (gZ E, n, .inl f))) (hi : vp_in i n) (hg : upd f i.toNatClampNeg (vp_nar .boolean x) = g) (hV : V.set q0 (a, .inl (gZ E, n, .inl g)) = V') (hd : decode cc pc = .ok (.bastore, 1)) (kk : Z E K ce sl V' (pc + 1) lv st) : Z E K ce sl V pc lv (.int x :: .int i :: .ref a :: st) := by
  obtain ⟨p, e, R, s, m, args, below, meth, c, nL', A, Q⟩ := K
  obtain ⟨hx, hb, hml, hnl, hrm, hown, hts, hA, hK, hlk⟩ := C
  subst hnl
  intro H locs ls hP hD hS hl
  subst hV
  subst hg
  exact va_zast hx hb hK.1 hP hD hS q0 2 he rfl hi hd (fun H1 locs1 hP1 hD1 hS1 => kk H1 locs1 ls hP1 hD1 hS1 hl)
theorem z_zalen (C : zC E K cc Ts own rm nL) (q0 : Nat) {a n : Nat} {f : Nat → Int32} (he : V[q0]? = some (a, .inl (gZ E, n, .inl f))) {v : Int32} (hv : Int32.ofNat n = v) (hd : decode cc pc = .ok (.arraylength, 1)) (kk : Z E K ce sl V (pc + 1) lv (.int v :: st)) : Z E K ce sl V pc lv (.ref a :: st) := by
  obtain ⟨p, e, R, s, m, args, below, meth, c, nL', A, Q⟩ := K
  obtain ⟨hx, hb, hml, hnl, hrm, hown, hts, hA, hK, hlk⟩ := C
  subst hnl
  intro H locs ls hP hD hS hl
  exact va_alen hx hb hK.1 hP q0 2 he rfl hv hd (kk H locs ls hP hD hS hl)
theorem z_lv (ks : List Nat) (hv : lv_pick lv ks = lv') (k : Z E K ce sl V pc lv' st) : Z E K ce sl V pc lv st := by
  obtain ⟨p, e, R, s, m, args, below, meth, c, nL, A, Q⟩ := K
  intro H locs ls hP hD hS hl
  exact k H locs ls hP hD hS (lv_sub hl ks hv)
theorem z_eq {lv2 : List (Nat × Value)} {st2 : List Value} {V2 : va_W} (h1 : V = V2) (h2 : lv = lv2) (h3 : st = st2) (k : Z E K ce sl V2 pc lv2 st2) : Z E K ce sl V pc lv st := by
  subst h1; subst h2; subst h3; exact k
theorem z_top {x y : Int32} (h : x = y) (k : Z E K ce sl V pc lv (.int y :: st)) : Z E K ce sl V pc lv (.int x :: st) := by
  subst h; exact k
theorem z_mmax (C : zC E K cc Ts own rm nL) {index : Nat} {x y v : Int32} (hv : (if x < y then y else x) = v) (h1 : zw K (.methodLink own index Lib.Math.max.name)) (h2 : zw K (.static Lib.Math.max.name)) (h3 : zw K (.initialized "java/lang/Math")) (h4 : zw K (.code Lib.Math.max.name Lib.Math.max.code 2 (some .int))) (hR : 1 ≤ rm.frames ∧ (st.map fun v => v.category).sum + 13 ≤ rm.locals ∧ ce ≤ rm.cells ∧ sl ≤ rm.slots) (hd : decode cc pc = .ok (.invokestatic index, 3)) (kk : Z E K ce sl V (pc + 3) lv (.int v :: st)) : Z E K ce sl V pc lv (.int y :: .int x :: st) := by
  obtain ⟨p, e, R, s, m, args, below, meth, c, nL', A, Q⟩ := K
  obtain ⟨hx, hb, hml, hnl, hrm, hown, hts, hA, hK, hlk⟩ := C
  subst hnl
  intro H locs ls hP hD hS hl
  subst hrm
  subst hv
  exact va_mmax hx hb (hml.trans hl.1.symm) hown h1 h2 h3 h4 hR.1 hR.2.1 hR.2.2.1 hR.2.2.2 hd (kk H locs ls hP hD hS hl)
theorem z_mmin (C : zC E K cc Ts own rm nL) {index : Nat} {x y v : Int32} (hv : (if y < x then y else x) = v) (h1 : zw K (.methodLink own index Lib.Math.min.name)) (h2 : zw K (.static Lib.Math.min.name)) (h3 : zw K (.initialized "java/lang/Math")) (h4 : zw K (.code Lib.Math.min.name Lib.Math.min.code 2 (some .int))) (hR : 1 ≤ rm.frames ∧ (st.map fun v => v.category).sum + 13 ≤ rm.locals ∧ ce ≤ rm.cells ∧ sl ≤ rm.slots) (hd : decode cc pc = .ok (.invokestatic index, 3)) (kk : Z E K ce sl V (pc + 3) lv (.int v :: st)) : Z E K ce sl V pc lv (.int y :: .int x :: st) := by
  obtain ⟨p, e, R, s, m, args, below, meth, c, nL', A, Q⟩ := K
  obtain ⟨hx, hb, hml, hnl, hrm, hown, hts, hA, hK, hlk⟩ := C
  subst hnl
  intro H locs ls hP hD hS hl
  subst hrm
  subst hv
  exact va_mmin hx hb (hml.trans hl.1.symm) hown h1 h2 h3 h4 hR.1 hR.2.1 hR.2.2.1 hR.2.2.2 hd (kk H locs ls hP hD hS hl)
theorem z_filterSome {α : Type} {V V' : List α} {ps : List Nat} (h : ps.map (fun i => V[i]?) = V'.map some) : ps.filterMap (fun i => V[i]?) = V' := by
  induction ps generalizing V' with
  | nil => cases V' with
    | nil => rfl
    | cons a t => simp at h
  | cons p ps ih => cases V' with
    | nil => simp at h
    | cons a t =>
      simp only [List.map_cons, List.cons.injEq] at h
      rw [List.filterMap_cons, h.1, ih h.2]
theorem z_ro {A0 : Nat → Prop} {D : va_G} {cl : List vw_C} {ws wc : va_W} {H H1 : Heap} (hP : va_P D cl ws H) (hD : va_D A0 ws) (isC : List Nat) (hC : isC.map (fun i => ws[i]?) = wc.map some) (hk : ∀ q : Nat, q < H.size → ¬ va_A wc H.size q → H1[q]? = H[q]?) (hP1 : va_P D cl wc H1) : va_P D cl ws H1 := by
  intro k q hq
  have hlt := (hP k q hq).lt
  by_cases h : va_A wc H.size q.1
  · rcases h with ⟨k2, e, h⟩ | h
    · have h1 : (isC.map (fun i => ws[i]?))[k2]? = some (some (q.1, e)) := by rw [hC, List.getElem?_map, h]; rfl
      rw [List.getElem?_map] at h1
      cases hi : isC[k2]? with
      | none => rw [hi] at h1; cases h1
      | some j =>
        rw [hi] at h1
        have h4 : ws[j]? = some (q.1, e) := Option.some.inj h1
        have hkj := hD.1 k j q (q.1, e) hq h4 rfl
        subst hkj
        have hqe : q = (q.1, e) := Option.some.inj (hq.symm.trans h4)
        rw [hqe]
        exact hP1 k2 _ h
    · omega
  · exact (hP k q hq).kept (hk q.1 hlt h)
theorem z_callVI (C : zC E K cc Ts own rm nL) {y : MethodName} {ws ws' : List Cond} {rc : Room} {bytes : ByteArray} {maxL index : Nat} {b : Nat} {As : List Value} {wc wr wd : va_W} {r : Int32} {rty : FieldType} (hM : zI E y ws rc (.ref b :: As) wc r wd) {Cn : String} {T : u_T} {Nf ci q0 : Nat} {fs : List Value} (hG : GoodIn Ts (wsV own index Cn y ws)) (hci : vwCl[ci]? = some (Cn, T, Nf)) (he : wc[q0]? = some (b, .inr (ci, fs))) (hy : y.cls = Cn ∧ y.cls ≠ "java/lang/invoke/MethodHandle" ∧ y.cls ≠ "java/lang/invoke/VarHandle" ∧ (parseMethodDescriptor y.desc).map (fun d => d.parameters.length) = some As.length) (hw : ws = Cond.code y bytes maxL (some rty) :: ws') (hz : rc.cells = 0 ∧ rc.slots = 0) (hR : rc.frames + 1 ≤ rm.frames ∧ 8 + (maxL + 11) + rc.locals ≤ rm.locals) (hcap : ce ≤ rm.cells ∧ sl ≤ rm.slots) (isC isR pm : List Nat) (hC : isC.map (fun i => V[i]?) = wc.map some) (hr : isR.map (fun i => V[i]?) = wr.map some) (hn : va_nd isR = true) (hdis : ∀ i ∈ isR, i ∉ isC) (hnp : va_nd pm = true) (hpm : pm.map (fun i => (wr ++ wd)[i]?) = V'.map some) (hnc : va_nd isC = true) (hst : (st.map fun v => v.category).sum ≤ 8) (hd : decode cc pc = .ok (.invokevirtual index, 3)) (k : Z E K ce sl V' (pc + 3) lv (.int r :: st)) {st0 : List Value} (h0 : st0 = As.reverse ++ .ref b :: st) : Z E K ce sl V pc lv st0 := by
  subst h0
  obtain ⟨p, e, R, s, m, args, below, meth, c, nL', A, Q⟩ := K
  obtain ⟨hx, hb, hml, hnl, hrm, hown, hts, hA, hK, hlk⟩ := C
  subst hnl
  intro H locs ls hP hD hS hl
  subst hrm
  have hPc := hP.sub (ws' := wc) isC (z_filterSome hC)
  have hFc := va_free (wc := wc) hD hS hA isC hC
  have hDc0 : va_D A wc := hD.sub isC hnc hC
  have hDc : va_D (fun _ => True) wc := ⟨fun i j x y hx1 hy1 hxy => hDc0.1 i j x y hx1 hy1 hxy, fun _ _ _ => trivial⟩
  refine va_calli (va_runV (As := As) (rest := st) ⟨hx, hb, hml, hown, hts⟩ (hM H.size) (cwV As.length hts hG hw hz.1 hz.2 hy hR) ⟨zPre_blind E _ _ _, va_recv hK.1 hPc hci he, fun U hU hW => ⟨rfl, by rw [hU], by rw [hU]; exact hPc, hK.warm hW, hDc.weaken (fun _ _ _ _ => trivial)⟩⟩ rfl rfl hl.1 rfl (lv_room hst) hd ⟨hcap.1, hcap.2⟩) hS (fun q _ h => hFc q h) hFc (fun r1 u t H1 locs1 ht hvm hw2 hB hz1 hk1 hS1 => ?_)
  have hw3 : r1 = r := hw2
  subst hw3
  obtain ⟨hP1, hD1⟩ := hB
  rw [ht] at hP1
  obtain ⟨hP2, hD2⟩ := va_join (wr := wr) (w1 := wd) hP hD isC isR hC hr hn hdis hk1 hFc hP1 hD1
  exact k H1 locs1 ls (hP2.sub pm (z_filterSome hpm)) (hD2.sub pm hnp hpm) hS1 hl
theorem z_rVI (C : zC E K cc Ts own rm nL) {y : MethodName} {ws ws' : List Cond} {rc : Room} {bytes : ByteArray} {maxL index : Nat} {b : Nat} {As : List Value} {wc : va_W} {r : Int32} {rty : FieldType} (hM : zI E y ws rc (.ref b :: As) wc r wc) {Cn : String} {T : u_T} {Nf ci q0 : Nat} {fs : List Value} (hG : GoodIn Ts (wsV own index Cn y ws)) (hci : vwCl[ci]? = some (Cn, T, Nf)) (he : wc[q0]? = some (b, .inr (ci, fs))) (hy : y.cls = Cn ∧ y.cls ≠ "java/lang/invoke/MethodHandle" ∧ y.cls ≠ "java/lang/invoke/VarHandle" ∧ (parseMethodDescriptor y.desc).map (fun d => d.parameters.length) = some As.length) (hw : ws = Cond.code y bytes maxL (some rty) :: ws') (hz : rc.cells = 0 ∧ rc.slots = 0) (hR : rc.frames + 1 ≤ rm.frames ∧ 8 + (maxL + 11) + rc.locals ≤ rm.locals) (hcap : ce ≤ rm.cells ∧ sl ≤ rm.slots) (isC : List Nat) (hC : isC.map (fun i => V[i]?) = wc.map some) (hnc : va_nd isC = true) (hst : (st.map fun v => v.category).sum ≤ 8) (hd : decode cc pc = .ok (.invokevirtual index, 3)) (k : Z E K ce sl V (pc + 3) lv (.int r :: st)) {st0 : List Value} (h0 : st0 = As.reverse ++ .ref b :: st) : Z E K ce sl V pc lv st0 := by
  subst h0
  obtain ⟨p, e, R, s, m, args, below, meth, c, nL', A, Q⟩ := K
  obtain ⟨hx, hb, hml, hnl, hrm, hown, hts, hA, hK, hlk⟩ := C
  subst hnl
  intro H locs ls hP hD hS hl
  subst hrm
  have hPc := hP.sub (ws' := wc) isC (z_filterSome hC)
  have hFc := va_free (wc := wc) hD hS hA isC hC
  have hDc0 : va_D A wc := hD.sub isC hnc hC
  have hDc : va_D (fun _ => True) wc := ⟨fun i j x y hx1 hy1 hxy => hDc0.1 i j x y hx1 hy1 hxy, fun _ _ _ => trivial⟩
  refine va_calli (va_runV (As := As) (rest := st) ⟨hx, hb, hml, hown, hts⟩ (hM H.size) (cwV As.length hts hG hw hz.1 hz.2 hy hR) ⟨zPre_blind E _ _ _, va_recv hK.1 hPc hci he, fun U hU hW => ⟨rfl, by rw [hU], by rw [hU]; exact hPc, hK.warm hW, hDc.weaken (fun _ _ _ _ => trivial)⟩⟩ rfl rfl hl.1 rfl (lv_room hst) hd ⟨hcap.1, hcap.2⟩) hS (fun q _ h => hFc q h) hFc (fun r1 u t H1 locs1 ht hvm hw2 hB hz1 hk1 hS1 => ?_)
  have hw3 : r1 = r := hw2
  subst hw3
  obtain ⟨hP1, hD1⟩ := hB
  rw [ht] at hP1
  exact k H1 locs1 ls (z_ro hP hD isC hC hk1 hP1) hD hS1 hl
theorem z_callVV (C : zC E K cc Ts own rm nL) {y : MethodName} {ws ws' : List Cond} {rc : Room} {bytes : ByteArray} {maxL index : Nat} {b : Nat} {As : List Value} {wc wr wd : va_W} (hM : zV E y ws rc (.ref b :: As) wc wd) {Cn : String} {T : u_T} {Nf ci q0 : Nat} {fs : List Value} (hG : GoodIn Ts (wsV own index Cn y ws)) (hci : vwCl[ci]? = some (Cn, T, Nf)) (he : wc[q0]? = some (b, .inr (ci, fs))) (hy : y.cls = Cn ∧ y.cls ≠ "java/lang/invoke/MethodHandle" ∧ y.cls ≠ "java/lang/invoke/VarHandle" ∧ (parseMethodDescriptor y.desc).map (fun d => d.parameters.length) = some As.length) (hw : ws = Cond.code y bytes maxL none :: ws') (hz : rc.cells = 0 ∧ rc.slots = 0) (hR : rc.frames + 1 ≤ rm.frames ∧ 8 + (maxL + 11) + rc.locals ≤ rm.locals) (hcap : ce ≤ rm.cells ∧ sl ≤ rm.slots) (isC isR pm : List Nat) (hC : isC.map (fun i => V[i]?) = wc.map some) (hr : isR.map (fun i => V[i]?) = wr.map some) (hn : va_nd isR = true) (hdis : ∀ i ∈ isR, i ∉ isC) (hnp : va_nd pm = true) (hpm : pm.map (fun i => (wr ++ wd)[i]?) = V'.map some) (hnc : va_nd isC = true) (hst : (st.map fun v => v.category).sum ≤ 8) (hd : decode cc pc = .ok (.invokevirtual index, 3)) (k : Z E K ce sl V' (pc + 3) lv st) {st0 : List Value} (h0 : st0 = As.reverse ++ .ref b :: st) : Z E K ce sl V pc lv st0 := by
  subst h0
  obtain ⟨p, e, R, s, m, args, below, meth, c, nL', A, Q⟩ := K
  obtain ⟨hx, hb, hml, hnl, hrm, hown, hts, hA, hK, hlk⟩ := C
  subst hnl
  intro H locs ls hP hD hS hl
  subst hrm
  have hPc := hP.sub (ws' := wc) isC (z_filterSome hC)
  have hFc := va_free (wc := wc) hD hS hA isC hC
  have hDc0 : va_D A wc := hD.sub isC hnc hC
  have hDc : va_D (fun _ => True) wc := ⟨fun i j x y hx1 hy1 hxy => hDc0.1 i j x y hx1 hy1 hxy, fun _ _ _ => trivial⟩
  refine va_callv (va_runV (As := As) (rest := st) ⟨hx, hb, hml, hown, hts⟩ (hM H.size) (cwV As.length hts hG hw hz.1 hz.2 hy hR) ⟨zPre_blind E _ _ _, va_recv hK.1 hPc hci he, fun U hU hW => ⟨rfl, by rw [hU], by rw [hU]; exact hPc, hK.warm hW, hDc.weaken (fun _ _ _ _ => trivial)⟩⟩ rfl rfl hl.1 rfl (lv_room hst) hd ⟨hcap.1, hcap.2⟩) hS (fun q _ h => hFc q h) hFc (fun u t H1 locs1 ht hvm hw2 hB hz1 hk1 hS1 => ?_)
  
  obtain ⟨hP1, hD1⟩ := hB
  rw [ht] at hP1
  obtain ⟨hP2, hD2⟩ := va_join (wr := wr) (w1 := wd) hP hD isC isR hC hr hn hdis hk1 hFc hP1 hD1
  exact k H1 locs1 ls (hP2.sub pm (z_filterSome hpm)) (hD2.sub pm hnp hpm) hS1 hl
theorem z_callSI (C : zC E K cc Ts own rm nL) {y : MethodName} {ws ws' : List Cond} {rc : Room} {bytes : ByteArray} {maxL index : Nat} {As : List Value} {wc wr wd : va_W} {r : Int32} {rty : FieldType} (hM : zI E y ws rc As wc r wd) (hG : GoodIn Ts (va_wsS own index y ws)) (hy : y.cls ≠ "java/lang/invoke/MethodHandle" ∧ y.cls ≠ "java/lang/invoke/VarHandle" ∧ (parseMethodDescriptor y.desc).map (fun d => d.parameters.length) = some As.length) (hw : ws = Cond.code y bytes maxL (some rty) :: ws') (hz : rc.cells = 0 ∧ rc.slots = 0) (hR : rc.frames + 1 ≤ rm.frames ∧ 8 + (maxL + 11) + rc.locals ≤ rm.locals) (hcap : ce ≤ rm.cells ∧ sl ≤ rm.slots) (isC isR pm : List Nat) (hC : isC.map (fun i => V[i]?) = wc.map some) (hr : isR.map (fun i => V[i]?) = wr.map some) (hn : va_nd isR = true) (hdis : ∀ i ∈ isR, i ∉ isC) (hnp : va_nd pm = true) (hpm : pm.map (fun i => (wr ++ wd)[i]?) = V'.map some) (hnc : va_nd isC = true) (hst : (st.map fun v => v.category).sum ≤ 8) (hd : decode cc pc = .ok (.invokestatic index, 3)) (k : Z E K ce sl V' (pc + 3) lv (.int r :: st)) {st0 : List Value} (h0 : st0 = As.reverse ++ st) : Z E K ce sl V pc lv st0 := by
  subst h0
  obtain ⟨p, e, R, s, m, args, below, meth, c, nL', A, Q⟩ := K
  obtain ⟨hx, hb, hml, hnl, hrm, hown, hts, hA, hK, hlk⟩ := C
  subst hnl
  intro H locs ls hP hD hS hl
  subst hrm
  have hPc := hP.sub (ws' := wc) isC (z_filterSome hC)
  have hFc := va_free (wc := wc) hD hS hA isC hC
  have hDc0 : va_D A wc := hD.sub isC hnc hC
  have hDc : va_D (fun _ => True) wc := ⟨fun i j x y hx1 hy1 hxy => hDc0.1 i j x y hx1 hy1 hxy, fun _ _ _ => trivial⟩
  refine va_calli (va_runS (As := As) (rest := st) ⟨hx, hb, hml, hown, hts⟩ (hM H.size) (va_cwS As.length hts hG hw hz.1 hz.2 hy hR) ⟨zPre_blind E _ _ _, fun U hU hW => ⟨rfl, by rw [hU], by rw [hU]; exact hPc, hK.warm hW, hDc.weaken (fun _ _ _ _ => trivial)⟩⟩ rfl rfl hl.1 rfl (lv_room hst) hd ⟨hcap.1, hcap.2⟩) hS (fun q _ h => hFc q h) hFc (fun r1 u t H1 locs1 ht hvm hw2 hB hz1 hk1 hS1 => ?_)
  have hw3 : r1 = r := hw2
  subst hw3
  obtain ⟨hP1, hD1⟩ := hB
  rw [ht] at hP1
  obtain ⟨hP2, hD2⟩ := va_join (wr := wr) (w1 := wd) hP hD isC isR hC hr hn hdis hk1 hFc hP1 hD1
  exact k H1 locs1 ls (hP2.sub pm (z_filterSome hpm)) (hD2.sub pm hnp hpm) hS1 hl
theorem z_rSI (C : zC E K cc Ts own rm nL) {y : MethodName} {ws ws' : List Cond} {rc : Room} {bytes : ByteArray} {maxL index : Nat} {As : List Value} {wc : va_W} {r : Int32} {rty : FieldType} (hM : zI E y ws rc As wc r wc) (hG : GoodIn Ts (va_wsS own index y ws)) (hy : y.cls ≠ "java/lang/invoke/MethodHandle" ∧ y.cls ≠ "java/lang/invoke/VarHandle" ∧ (parseMethodDescriptor y.desc).map (fun d => d.parameters.length) = some As.length) (hw : ws = Cond.code y bytes maxL (some rty) :: ws') (hz : rc.cells = 0 ∧ rc.slots = 0) (hR : rc.frames + 1 ≤ rm.frames ∧ 8 + (maxL + 11) + rc.locals ≤ rm.locals) (hcap : ce ≤ rm.cells ∧ sl ≤ rm.slots) (isC : List Nat) (hC : isC.map (fun i => V[i]?) = wc.map some) (hnc : va_nd isC = true) (hst : (st.map fun v => v.category).sum ≤ 8) (hd : decode cc pc = .ok (.invokestatic index, 3)) (k : Z E K ce sl V (pc + 3) lv (.int r :: st)) {st0 : List Value} (h0 : st0 = As.reverse ++ st) : Z E K ce sl V pc lv st0 := by
  subst h0
  obtain ⟨p, e, R, s, m, args, below, meth, c, nL', A, Q⟩ := K
  obtain ⟨hx, hb, hml, hnl, hrm, hown, hts, hA, hK, hlk⟩ := C
  subst hnl
  intro H locs ls hP hD hS hl
  subst hrm
  have hPc := hP.sub (ws' := wc) isC (z_filterSome hC)
  have hFc := va_free (wc := wc) hD hS hA isC hC
  have hDc0 : va_D A wc := hD.sub isC hnc hC
  have hDc : va_D (fun _ => True) wc := ⟨fun i j x y hx1 hy1 hxy => hDc0.1 i j x y hx1 hy1 hxy, fun _ _ _ => trivial⟩
  refine va_calli (va_runS (As := As) (rest := st) ⟨hx, hb, hml, hown, hts⟩ (hM H.size) (va_cwS As.length hts hG hw hz.1 hz.2 hy hR) ⟨zPre_blind E _ _ _, fun U hU hW => ⟨rfl, by rw [hU], by rw [hU]; exact hPc, hK.warm hW, hDc.weaken (fun _ _ _ _ => trivial)⟩⟩ rfl rfl hl.1 rfl (lv_room hst) hd ⟨hcap.1, hcap.2⟩) hS (fun q _ h => hFc q h) hFc (fun r1 u t H1 locs1 ht hvm hw2 hB hz1 hk1 hS1 => ?_)
  have hw3 : r1 = r := hw2
  subst hw3
  obtain ⟨hP1, hD1⟩ := hB
  rw [ht] at hP1
  exact k H1 locs1 ls (z_ro hP hD isC hC hk1 hP1) hD hS1 hl
theorem z_callSV (C : zC E K cc Ts own rm nL) {y : MethodName} {ws ws' : List Cond} {rc : Room} {bytes : ByteArray} {maxL index : Nat} {As : List Value} {wc wr wd : va_W} (hM : zV E y ws rc As wc wd) (hG : GoodIn Ts (va_wsS own index y ws)) (hy : y.cls ≠ "java/lang/invoke/MethodHandle" ∧ y.cls ≠ "java/lang/invoke/VarHandle" ∧ (parseMethodDescriptor y.desc).map (fun d => d.parameters.length) = some As.length) (hw : ws = Cond.code y bytes maxL none :: ws') (hz : rc.cells = 0 ∧ rc.slots = 0) (hR : rc.frames + 1 ≤ rm.frames ∧ 8 + (maxL + 11) + rc.locals ≤ rm.locals) (hcap : ce ≤ rm.cells ∧ sl ≤ rm.slots) (isC isR pm : List Nat) (hC : isC.map (fun i => V[i]?) = wc.map some) (hr : isR.map (fun i => V[i]?) = wr.map some) (hn : va_nd isR = true) (hdis : ∀ i ∈ isR, i ∉ isC) (hnp : va_nd pm = true) (hpm : pm.map (fun i => (wr ++ wd)[i]?) = V'.map some) (hnc : va_nd isC = true) (hst : (st.map fun v => v.category).sum ≤ 8) (hd : decode cc pc = .ok (.invokestatic index, 3)) (k : Z E K ce sl V' (pc + 3) lv st) {st0 : List Value} (h0 : st0 = As.reverse ++ st) : Z E K ce sl V pc lv st0 := by
  subst h0
  obtain ⟨p, e, R, s, m, args, below, meth, c, nL', A, Q⟩ := K
  obtain ⟨hx, hb, hml, hnl, hrm, hown, hts, hA, hK, hlk⟩ := C
  subst hnl
  intro H locs ls hP hD hS hl
  subst hrm
  have hPc := hP.sub (ws' := wc) isC (z_filterSome hC)
  have hFc := va_free (wc := wc) hD hS hA isC hC
  have hDc0 : va_D A wc := hD.sub isC hnc hC
  have hDc : va_D (fun _ => True) wc := ⟨fun i j x y hx1 hy1 hxy => hDc0.1 i j x y hx1 hy1 hxy, fun _ _ _ => trivial⟩
  refine va_callv (va_runS (As := As) (rest := st) ⟨hx, hb, hml, hown, hts⟩ (hM H.size) (va_cwS As.length hts hG hw hz.1 hz.2 hy hR) ⟨zPre_blind E _ _ _, fun U hU hW => ⟨rfl, by rw [hU], by rw [hU]; exact hPc, hK.warm hW, hDc.weaken (fun _ _ _ _ => trivial)⟩⟩ rfl rfl hl.1 rfl (lv_room hst) hd ⟨hcap.1, hcap.2⟩) hS (fun q _ h => hFc q h) hFc (fun u t H1 locs1 ht hvm hw2 hB hz1 hk1 hS1 => ?_)
  
  obtain ⟨hP1, hD1⟩ := hB
  rw [ht] at hP1
  obtain ⟨hP2, hD2⟩ := va_join (wr := wr) (w1 := wd) hP hD isC isR hC hr hn hdis hk1 hFc hP1 hD1
  exact k H1 locs1 ls (hP2.sub pm (z_filterSome hpm)) (hD2.sub pm hnp hpm) hS1 hl
theorem z_callNI (C : zC E K cc Ts own rm nL) {y : MethodName} {ws ws' : List Cond} {rc : Room} {bytes : ByteArray} {maxL index : Nat} {As : List Value} {wc wr wd : va_W} {r : Int32} {rty : FieldType} (hM : zI E y ws rc As wc r wd) {host : String} (hG : GoodIn Ts ws) (hNl : ∀ U : State, zK E U → va_Nw (.methodLinkNest own index y host) U) (hini : zw K (.initialized y.cls)) (hstt : zw K (.static y)) (hy : y.cls ≠ "java/lang/invoke/MethodHandle" ∧ y.cls ≠ "java/lang/invoke/VarHandle" ∧ (parseMethodDescriptor y.desc).map (fun d => d.parameters.length) = some As.length) (hw : ws = Cond.code y bytes maxL (some rty) :: ws') (hz : rc.cells = 0 ∧ rc.slots = 0) (hR : rc.frames + 1 ≤ rm.frames ∧ 8 + (maxL + 11) + rc.locals ≤ rm.locals) (hcap : ce ≤ rm.cells ∧ sl ≤ rm.slots) (isC isR pm : List Nat) (hC : isC.map (fun i => V[i]?) = wc.map some) (hr : isR.map (fun i => V[i]?) = wr.map some) (hn : va_nd isR = true) (hdis : ∀ i ∈ isR, i ∉ isC) (hnp : va_nd pm = true) (hpm : pm.map (fun i => (wr ++ wd)[i]?) = V'.map some) (hnc : va_nd isC = true) (hst : (st.map fun v => v.category).sum ≤ 8) (hd : decode cc pc = .ok (.invokestatic index, 3)) (k : Z E K ce sl V' (pc + 3) lv (.int r :: st)) {st0 : List Value} (h0 : st0 = As.reverse ++ st) : Z E K ce sl V pc lv st0 := by
  subst h0
  obtain ⟨p, e, R, s, m, args, below, meth, c, nL', A, Q⟩ := K
  obtain ⟨hx, hb, hml, hnl, hrm, hown, hts, hA, hK, hlk⟩ := C
  subst hnl
  intro H locs ls hP hD hS hl
  subst hrm
  have hPc := hP.sub (ws' := wc) isC (z_filterSome hC)
  have hFc := va_free (wc := wc) hD hS hA isC hC
  have hDc0 : va_D A wc := hD.sub isC hnc hC
  have hDc : va_D (fun _ => True) wc := ⟨fun i j x y hx1 hy1 hxy => hDc0.1 i j x y hx1 hy1 hxy, fun _ _ _ => trivial⟩
  refine va_calli (va_runSN (As := As) (rest := st) ⟨hx, hb, hml, hown, hts⟩ (hM H.size) ⟨va_cnB As.length hts hG hw hz.1 hz.2 (hNl s hK) hini hy hR, hstt, trivial⟩ ⟨zPre_blind E _ _ _, fun U hU hW => ⟨rfl, by rw [hU], by rw [hU]; exact hPc, hK.warm hW, hDc.weaken (fun _ _ _ _ => trivial)⟩⟩ rfl rfl hl.1 rfl (lv_room hst) hd ⟨hcap.1, hcap.2⟩) hS (fun q _ h => hFc q h) hFc (fun r1 u t H1 locs1 ht hvm hw2 hB hz1 hk1 hS1 => ?_)
  have hw3 : r1 = r := hw2
  subst hw3
  obtain ⟨hP1, hD1⟩ := hB
  rw [ht] at hP1
  obtain ⟨hP2, hD2⟩ := va_join (wr := wr) (w1 := wd) hP hD isC isR hC hr hn hdis hk1 hFc hP1 hD1
  exact k H1 locs1 ls (hP2.sub pm (z_filterSome hpm)) (hD2.sub pm hnp hpm) hS1 hl
theorem z_rNI (C : zC E K cc Ts own rm nL) {y : MethodName} {ws ws' : List Cond} {rc : Room} {bytes : ByteArray} {maxL index : Nat} {As : List Value} {wc : va_W} {r : Int32} {rty : FieldType} (hM : zI E y ws rc As wc r wc) {host : String} (hG : GoodIn Ts ws) (hNl : ∀ U : State, zK E U → va_Nw (.methodLinkNest own index y host) U) (hini : zw K (.initialized y.cls)) (hstt : zw K (.static y)) (hy : y.cls ≠ "java/lang/invoke/MethodHandle" ∧ y.cls ≠ "java/lang/invoke/VarHandle" ∧ (parseMethodDescriptor y.desc).map (fun d => d.parameters.length) = some As.length) (hw : ws = Cond.code y bytes maxL (some rty) :: ws') (hz : rc.cells = 0 ∧ rc.slots = 0) (hR : rc.frames + 1 ≤ rm.frames ∧ 8 + (maxL + 11) + rc.locals ≤ rm.locals) (hcap : ce ≤ rm.cells ∧ sl ≤ rm.slots) (isC : List Nat) (hC : isC.map (fun i => V[i]?) = wc.map some) (hnc : va_nd isC = true) (hst : (st.map fun v => v.category).sum ≤ 8) (hd : decode cc pc = .ok (.invokestatic index, 3)) (k : Z E K ce sl V (pc + 3) lv (.int r :: st)) {st0 : List Value} (h0 : st0 = As.reverse ++ st) : Z E K ce sl V pc lv st0 := by
  subst h0
  obtain ⟨p, e, R, s, m, args, below, meth, c, nL', A, Q⟩ := K
  obtain ⟨hx, hb, hml, hnl, hrm, hown, hts, hA, hK, hlk⟩ := C
  subst hnl
  intro H locs ls hP hD hS hl
  subst hrm
  have hPc := hP.sub (ws' := wc) isC (z_filterSome hC)
  have hFc := va_free (wc := wc) hD hS hA isC hC
  have hDc0 : va_D A wc := hD.sub isC hnc hC
  have hDc : va_D (fun _ => True) wc := ⟨fun i j x y hx1 hy1 hxy => hDc0.1 i j x y hx1 hy1 hxy, fun _ _ _ => trivial⟩
  refine va_calli (va_runSN (As := As) (rest := st) ⟨hx, hb, hml, hown, hts⟩ (hM H.size) ⟨va_cnB As.length hts hG hw hz.1 hz.2 (hNl s hK) hini hy hR, hstt, trivial⟩ ⟨zPre_blind E _ _ _, fun U hU hW => ⟨rfl, by rw [hU], by rw [hU]; exact hPc, hK.warm hW, hDc.weaken (fun _ _ _ _ => trivial)⟩⟩ rfl rfl hl.1 rfl (lv_room hst) hd ⟨hcap.1, hcap.2⟩) hS (fun q _ h => hFc q h) hFc (fun r1 u t H1 locs1 ht hvm hw2 hB hz1 hk1 hS1 => ?_)
  have hw3 : r1 = r := hw2
  subst hw3
  obtain ⟨hP1, hD1⟩ := hB
  rw [ht] at hP1
  exact k H1 locs1 ls (z_ro hP hD isC hC hk1 hP1) hD hS1 hl
end ZR
theorem zI_of {E : GE} {y : MethodName} {ws ws' : List Cond} {rm : Room} {av : List Value} {V V' : va_W} {r : Int32} {cc : ByteArray} {maxL : Nat} {ty : FieldType} (hy : plainName y.cls = true) (hw : ws = Cond.code y cc maxL (some ty) :: ws') (hn : narrow ty (.int r) = .int r) (hlen : (lg_sl av).length ≤ maxL)
    (body : ∀ K : KX, zC E K cc ws y.cls rm maxL → (∀ (pc : Nat) (lv : List (Nat × Value)) (v : Int32) (V0 : va_W), v = r → V0 = V' → decode cc pc = .ok (.ireturn, 1) → Z E K 0 0 V0 pc lv [.int v]) → Z E K 0 0 V 0 (lv_args 0 av) []) : zI E y ws rm av V r V' := by
  intro sz
  refine Met.ofW (cc := cc) (maxL := maxL) (ret := some ty) hy hw ?_
  intro p e s m args below meth c s₁ B hml hv
  obtain ⟨rfl, hsz, hP, hK, hD0⟩ := hv
  have hts := atoms_spec (ws := ws) B.pre
  have hown : s.vm.findClass y.cls = some m.cls := findClass_of_methodNamed B.named
  have hlocks : meth.locks = false := B.notSynchronized
  subst hsz
  have hD := hD0.self (sz := s.heap.size)
  have hl := lv_entry av (n := maxL) hlen
  rw [lg_entry_eq]
  generalize (lg_sl av ++ List.replicate (maxL - (lg_sl av).length) Slot.unset).toArray = ls at hl ⊢
  refine body (p, e, rm, s, m, av.toArray, below, meth, c, maxL, va_A V s.heap.size, MQ below (zQi E V r V' s.heap.size) av.toArray s 0 0 (va_A V s.heap.size)) ⟨B.exec, B.bytes, hml, rfl, rfl, hown, hts, fun q h => Or.inr h, hK, hlocks⟩ ?_ s.heap [] ls hP hD va_S.rf hl
  intro pc lv v V0 hvr hV0 hd H locs ls2 hP2 hD2 hS2 _
  subst hvr; subst hV0
  exact W.zret (v := v) B.exec B.bytes B.returns hn (fun t ht _ => ⟨⟨v, (), rfl, rfl, by rw [ht]; exact hP2, hD2⟩, hS2.F ht⟩) hS2.2.2 hd hlocks
theorem zV_of {E : GE} {y : MethodName} {ws ws' : List Cond} {rm : Room} {av : List Value} {V V' : va_W} {cc : ByteArray} {maxL : Nat} (hy : plainName y.cls = true) (hw : ws = Cond.code y cc maxL none :: ws') (hlen : (lg_sl av).length ≤ maxL)
    (body : ∀ K : KX, zC E K cc ws y.cls rm maxL → (∀ (pc : Nat) (lv : List (Nat × Value)) (V0 : va_W), V0 = V' → decode cc pc = .ok (.return_, 1) → Z E K 0 0 V0 pc lv []) → Z E K 0 0 V 0 (lv_args 0 av) []) : zV E y ws rm av V V' := by
  intro sz
  refine Met.ofW (cc := cc) (maxL := maxL) (ret := none) hy hw ?_
  intro p e s m args below meth c s₁ B hml hv
  obtain ⟨rfl, hsz, hP, hK, hD0⟩ := hv
  have hts := atoms_spec (ws := ws) B.pre
  have hown : s.vm.findClass y.cls = some m.cls := findClass_of_methodNamed B.named
  have hlocks : meth.locks = false := B.notSynchronized
  subst hsz
  have hD := hD0.self (sz := s.heap.size)
  have hl := lv_entry av (n := maxL) hlen
  rw [lg_entry_eq]
  generalize (lg_sl av ++ List.replicate (maxL - (lg_sl av).length) Slot.unset).toArray = ls at hl ⊢
  refine body (p, e, rm, s, m, av.toArray, below, meth, c, maxL, va_A V s.heap.size, MQ below (zQv E V V' s.heap.size) av.toArray s 0 0 (va_A V s.heap.size)) ⟨B.exec, B.bytes, hml, rfl, rfl, hown, hts, fun q h => Or.inr h, hK, hlocks⟩ ?_ s.heap [] ls hP hD va_S.rf hl
  intro pc lv V0 hV0 hd H locs ls2 hP2 hD2 hS2 _
  subst hV0
  exact W.vret B.exec B.bytes B.returns (fun t ht _ => ⟨⟨(), rfl, trivial, by rw [ht]; exact hP2, hD2⟩, hS2.F ht⟩) hS2.2.2 hd hlocks
end
section
abbrev DS : Type := Int32 × (Nat → Int32) × (Nat → Int32) × (Nat → Int32)
abbrev dOp (x : DS) : Int32 := x.1
abbrev dCo (x : DS) : (Nat → Int32) := x.2.1
abbrev dCh (x : DS) : (Nat → Int32) := x.2.2.1
abbrev dHo (x : DS) : (Nat → Int32) := x.2.2.2
abbrev dsOp (x : DS) (v : Int32) : DS := (v, x.2)
abbrev dsCo (x : DS) (v : (Nat → Int32)) : DS := (x.1, v, x.2.2)
abbrev dsCh (x : DS) (v : (Nat → Int32)) : DS := (x.1, x.2.1, v, x.2.2.2)
abbrev dsHo (x : DS) (v : (Nat → Int32)) : DS := (x.1, x.2.1, x.2.2.1, v)
abbrev JS : Type := Int32 × Int32 × Int32 × Int32 × Int32 × Int32 × Int32 × (Nat → Int32) × (Nat → Int32) × (Nat → Int32) × (Nat → Int32) × (Nat → Int32)
abbrev jEn (x : JS) : Int32 := x.1
abbrev jWa (x : JS) : Int32 := x.2.1
abbrev jFw (x : JS) : Int32 := x.2.2.1
abbrev jSe (x : JS) : Int32 := x.2.2.2.1
abbrev jSc (x : JS) : Int32 := x.2.2.2.2.1
abbrev jFn (x : JS) : Int32 := x.2.2.2.2.2.1
abbrev jFp (x : JS) : Int32 := x.2.2.2.2.2.2.1
abbrev jDk (x : JS) : (Nat → Int32) := x.2.2.2.2.2.2.2.1
abbrev jMm (x : JS) : (Nat → Int32) := x.2.2.2.2.2.2.2.2.1
abbrev jEh (x : JS) : (Nat → Int32) := x.2.2.2.2.2.2.2.2.2.1
abbrev jEk (x : JS) : (Nat → Int32) := x.2.2.2.2.2.2.2.2.2.2.1
abbrev jEv (x : JS) : (Nat → Int32) := x.2.2.2.2.2.2.2.2.2.2.2
abbrev jsEn (x : JS) (v : Int32) : JS := (v, x.2)
abbrev jsWa (x : JS) (v : Int32) : JS := (x.1, v, x.2.2)
abbrev jsFw (x : JS) (v : Int32) : JS := (x.1, x.2.1, v, x.2.2.2)
abbrev jsSe (x : JS) (v : Int32) : JS := (x.1, x.2.1, x.2.2.1, v, x.2.2.2.2)
abbrev jsSc (x : JS) (v : Int32) : JS := (x.1, x.2.1, x.2.2.1, x.2.2.2.1, v, x.2.2.2.2.2)
abbrev jsFn (x : JS) (v : Int32) : JS := (x.1, x.2.1, x.2.2.1, x.2.2.2.1, x.2.2.2.2.1, v, x.2.2.2.2.2.2)
abbrev jsFp (x : JS) (v : Int32) : JS := (x.1, x.2.1, x.2.2.1, x.2.2.2.1, x.2.2.2.2.1, x.2.2.2.2.2.1, v, x.2.2.2.2.2.2.2)
abbrev jsDk (x : JS) (v : (Nat → Int32)) : JS := (x.1, x.2.1, x.2.2.1, x.2.2.2.1, x.2.2.2.2.1, x.2.2.2.2.2.1, x.2.2.2.2.2.2.1, v, x.2.2.2.2.2.2.2.2)
abbrev jsMm (x : JS) (v : (Nat → Int32)) : JS := (x.1, x.2.1, x.2.2.1, x.2.2.2.1, x.2.2.2.2.1, x.2.2.2.2.2.1, x.2.2.2.2.2.2.1, x.2.2.2.2.2.2.2.1, v, x.2.2.2.2.2.2.2.2.2)
abbrev jsEh (x : JS) (v : (Nat → Int32)) : JS := (x.1, x.2.1, x.2.2.1, x.2.2.2.1, x.2.2.2.2.1, x.2.2.2.2.2.1, x.2.2.2.2.2.2.1, x.2.2.2.2.2.2.2.1, x.2.2.2.2.2.2.2.2.1, v, x.2.2.2.2.2.2.2.2.2.2)
abbrev jsEk (x : JS) (v : (Nat → Int32)) : JS := (x.1, x.2.1, x.2.2.1, x.2.2.2.1, x.2.2.2.2.1, x.2.2.2.2.2.1, x.2.2.2.2.2.2.1, x.2.2.2.2.2.2.2.1, x.2.2.2.2.2.2.2.2.1, x.2.2.2.2.2.2.2.2.2.1, v, x.2.2.2.2.2.2.2.2.2.2.2)
abbrev jsEv (x : JS) (v : (Nat → Int32)) : JS := (x.1, x.2.1, x.2.2.1, x.2.2.2.1, x.2.2.2.2.1, x.2.2.2.2.2.1, x.2.2.2.2.2.2.1, x.2.2.2.2.2.2.2.1, x.2.2.2.2.2.2.2.2.1, x.2.2.2.2.2.2.2.2.2.1, x.2.2.2.2.2.2.2.2.2.2.1, v)
abbrev FS : Type := Int32 × Int32 × Int32 × (Nat → Int32)
abbrev fFp (x : FS) : Int32 := x.1
abbrev fPg (x : FS) : Int32 := x.2.1
abbrev fRe (x : FS) : Int32 := x.2.2.1
abbrev fTe (x : FS) : (Nat → Int32) := x.2.2.2
abbrev fsFp (x : FS) (v : Int32) : FS := (v, x.2)
abbrev fsPg (x : FS) (v : Int32) : FS := (x.1, v, x.2.2)
abbrev fsRe (x : FS) (v : Int32) : FS := (x.1, x.2.1, v, x.2.2.2)
abbrev fsTe (x : FS) (v : (Nat → Int32)) : FS := (x.1, x.2.1, x.2.2.1, v)
abbrev XS : Type := Int32 × Int32 × JS × DS × FS
abbrev xDn (x : XS) : Int32 := x.1
abbrev xCm (x : XS) : Int32 := x.2.1
abbrev xJ (x : XS) : JS := x.2.2.1
abbrev xD (x : XS) : DS := x.2.2.2.1
abbrev xF (x : XS) : FS := x.2.2.2.2
abbrev xsDn (x : XS) (v : Int32) : XS := (v, x.2)
abbrev xsCm (x : XS) (v : Int32) : XS := (x.1, v, x.2.2)
abbrev xsJ (x : XS) (v : JS) : XS := (x.1, x.2.1, v, x.2.2.2)
abbrev xsD (x : XS) (v : DS) : XS := (x.1, x.2.1, x.2.2.1, v, x.2.2.2.2)
abbrev xsF (x : XS) (v : FS) : XS := (x.1, x.2.1, x.2.2.1, x.2.2.2.1, v)
abbrev MS : Type := Int32 × Int32 × Int32 × Int32 × Int32 × Int32 × Int32 × Int32 × (Nat → Int32) × (Nat → Int32) × (Nat → Int32) × (Nat → Int32) × (Nat → Int32) × (Nat → Int32) × (Nat → Int32) × (Nat → Int32) × (Nat → Int32) × (Nat → Int32) × (Nat → Int32)
abbrev mDn (x : MS) : Int32 := x.1
abbrev mWa (x : MS) : Int32 := x.2.1
abbrev mSc (x : MS) : Int32 := x.2.2.1
abbrev mSe (x : MS) : Int32 := x.2.2.2.1
abbrev mNf (x : MS) : Int32 := x.2.2.2.2.1
abbrev mWf (x : MS) : Int32 := x.2.2.2.2.2.1
abbrev mEn (x : MS) : Int32 := x.2.2.2.2.2.2.1
abbrev mCm (x : MS) : Int32 := x.2.2.2.2.2.2.2.1
abbrev mDk (x : MS) : (Nat → Int32) := x.2.2.2.2.2.2.2.2.1
abbrev mWt (x : MS) : (Nat → Int32) := x.2.2.2.2.2.2.2.2.2.1
abbrev mWs (x : MS) : (Nat → Int32) := x.2.2.2.2.2.2.2.2.2.2.1
abbrev mEh (x : MS) : (Nat → Int32) := x.2.2.2.2.2.2.2.2.2.2.2.1
abbrev mEk (x : MS) : (Nat → Int32) := x.2.2.2.2.2.2.2.2.2.2.2.2.1
abbrev mEv (x : MS) : (Nat → Int32) := x.2.2.2.2.2.2.2.2.2.2.2.2.2.1
abbrev mVa (x : MS) : (Nat → Int32) := x.2.2.2.2.2.2.2.2.2.2.2.2.2.2.1
abbrev mOp (x : MS) : (Nat → Int32) := x.2.2.2.2.2.2.2.2.2.2.2.2.2.2.2.1
abbrev mHo (x : MS) : (Nat → Int32) := x.2.2.2.2.2.2.2.2.2.2.2.2.2.2.2.2.1
abbrev mHe (x : MS) : (Nat → Int32) := x.2.2.2.2.2.2.2.2.2.2.2.2.2.2.2.2.2.1
abbrev mRw (x : MS) : (Nat → Int32) := x.2.2.2.2.2.2.2.2.2.2.2.2.2.2.2.2.2.2
abbrev msDn (x : MS) (v : Int32) : MS := (v, x.2)
abbrev msWa (x : MS) (v : Int32) : MS := (x.1, v, x.2.2)
abbrev msSc (x : MS) (v : Int32) : MS := (x.1, x.2.1, v, x.2.2.2)
abbrev msSe (x : MS) (v : Int32) : MS := (x.1, x.2.1, x.2.2.1, v, x.2.2.2.2)
abbrev msNf (x : MS) (v : Int32) : MS := (x.1, x.2.1, x.2.2.1, x.2.2.2.1, v, x.2.2.2.2.2)
abbrev msWf (x : MS) (v : Int32) : MS := (x.1, x.2.1, x.2.2.1, x.2.2.2.1, x.2.2.2.2.1, v, x.2.2.2.2.2.2)
abbrev msEn (x : MS) (v : Int32) : MS := (x.1, x.2.1, x.2.2.1, x.2.2.2.1, x.2.2.2.2.1, x.2.2.2.2.2.1, v, x.2.2.2.2.2.2.2)
abbrev msCm (x : MS) (v : Int32) : MS := (x.1, x.2.1, x.2.2.1, x.2.2.2.1, x.2.2.2.2.1, x.2.2.2.2.2.1, x.2.2.2.2.2.2.1, v, x.2.2.2.2.2.2.2.2)
abbrev msDk (x : MS) (v : (Nat → Int32)) : MS := (x.1, x.2.1, x.2.2.1, x.2.2.2.1, x.2.2.2.2.1, x.2.2.2.2.2.1, x.2.2.2.2.2.2.1, x.2.2.2.2.2.2.2.1, v, x.2.2.2.2.2.2.2.2.2)
abbrev msWt (x : MS) (v : (Nat → Int32)) : MS := (x.1, x.2.1, x.2.2.1, x.2.2.2.1, x.2.2.2.2.1, x.2.2.2.2.2.1, x.2.2.2.2.2.2.1, x.2.2.2.2.2.2.2.1, x.2.2.2.2.2.2.2.2.1, v, x.2.2.2.2.2.2.2.2.2.2)
abbrev msWs (x : MS) (v : (Nat → Int32)) : MS := (x.1, x.2.1, x.2.2.1, x.2.2.2.1, x.2.2.2.2.1, x.2.2.2.2.2.1, x.2.2.2.2.2.2.1, x.2.2.2.2.2.2.2.1, x.2.2.2.2.2.2.2.2.1, x.2.2.2.2.2.2.2.2.2.1, v, x.2.2.2.2.2.2.2.2.2.2.2)
abbrev msEh (x : MS) (v : (Nat → Int32)) : MS := (x.1, x.2.1, x.2.2.1, x.2.2.2.1, x.2.2.2.2.1, x.2.2.2.2.2.1, x.2.2.2.2.2.2.1, x.2.2.2.2.2.2.2.1, x.2.2.2.2.2.2.2.2.1, x.2.2.2.2.2.2.2.2.2.1, x.2.2.2.2.2.2.2.2.2.2.1, v, x.2.2.2.2.2.2.2.2.2.2.2.2)
abbrev msEk (x : MS) (v : (Nat → Int32)) : MS := (x.1, x.2.1, x.2.2.1, x.2.2.2.1, x.2.2.2.2.1, x.2.2.2.2.2.1, x.2.2.2.2.2.2.1, x.2.2.2.2.2.2.2.1, x.2.2.2.2.2.2.2.2.1, x.2.2.2.2.2.2.2.2.2.1, x.2.2.2.2.2.2.2.2.2.2.1, x.2.2.2.2.2.2.2.2.2.2.2.1, v, x.2.2.2.2.2.2.2.2.2.2.2.2.2)
abbrev msEv (x : MS) (v : (Nat → Int32)) : MS := (x.1, x.2.1, x.2.2.1, x.2.2.2.1, x.2.2.2.2.1, x.2.2.2.2.2.1, x.2.2.2.2.2.2.1, x.2.2.2.2.2.2.2.1, x.2.2.2.2.2.2.2.2.1, x.2.2.2.2.2.2.2.2.2.1, x.2.2.2.2.2.2.2.2.2.2.1, x.2.2.2.2.2.2.2.2.2.2.2.1, x.2.2.2.2.2.2.2.2.2.2.2.2.1, v, x.2.2.2.2.2.2.2.2.2.2.2.2.2.2)
abbrev msVa (x : MS) (v : (Nat → Int32)) : MS := (x.1, x.2.1, x.2.2.1, x.2.2.2.1, x.2.2.2.2.1, x.2.2.2.2.2.1, x.2.2.2.2.2.2.1, x.2.2.2.2.2.2.2.1, x.2.2.2.2.2.2.2.2.1, x.2.2.2.2.2.2.2.2.2.1, x.2.2.2.2.2.2.2.2.2.2.1, x.2.2.2.2.2.2.2.2.2.2.2.1, x.2.2.2.2.2.2.2.2.2.2.2.2.1, x.2.2.2.2.2.2.2.2.2.2.2.2.2.1, v, x.2.2.2.2.2.2.2.2.2.2.2.2.2.2.2)
abbrev msOp (x : MS) (v : (Nat → Int32)) : MS := (x.1, x.2.1, x.2.2.1, x.2.2.2.1, x.2.2.2.2.1, x.2.2.2.2.2.1, x.2.2.2.2.2.2.1, x.2.2.2.2.2.2.2.1, x.2.2.2.2.2.2.2.2.1, x.2.2.2.2.2.2.2.2.2.1, x.2.2.2.2.2.2.2.2.2.2.1, x.2.2.2.2.2.2.2.2.2.2.2.1, x.2.2.2.2.2.2.2.2.2.2.2.2.1, x.2.2.2.2.2.2.2.2.2.2.2.2.2.1, x.2.2.2.2.2.2.2.2.2.2.2.2.2.2.1, v, x.2.2.2.2.2.2.2.2.2.2.2.2.2.2.2.2)
abbrev msHo (x : MS) (v : (Nat → Int32)) : MS := (x.1, x.2.1, x.2.2.1, x.2.2.2.1, x.2.2.2.2.1, x.2.2.2.2.2.1, x.2.2.2.2.2.2.1, x.2.2.2.2.2.2.2.1, x.2.2.2.2.2.2.2.2.1, x.2.2.2.2.2.2.2.2.2.1, x.2.2.2.2.2.2.2.2.2.2.1, x.2.2.2.2.2.2.2.2.2.2.2.1, x.2.2.2.2.2.2.2.2.2.2.2.2.1, x.2.2.2.2.2.2.2.2.2.2.2.2.2.1, x.2.2.2.2.2.2.2.2.2.2.2.2.2.2.1, x.2.2.2.2.2.2.2.2.2.2.2.2.2.2.2.1, v, x.2.2.2.2.2.2.2.2.2.2.2.2.2.2.2.2.2)
abbrev msHe (x : MS) (v : (Nat → Int32)) : MS := (x.1, x.2.1, x.2.2.1, x.2.2.2.1, x.2.2.2.2.1, x.2.2.2.2.2.1, x.2.2.2.2.2.2.1, x.2.2.2.2.2.2.2.1, x.2.2.2.2.2.2.2.2.1, x.2.2.2.2.2.2.2.2.2.1, x.2.2.2.2.2.2.2.2.2.2.1, x.2.2.2.2.2.2.2.2.2.2.2.1, x.2.2.2.2.2.2.2.2.2.2.2.2.1, x.2.2.2.2.2.2.2.2.2.2.2.2.2.1, x.2.2.2.2.2.2.2.2.2.2.2.2.2.2.1, x.2.2.2.2.2.2.2.2.2.2.2.2.2.2.2.1, x.2.2.2.2.2.2.2.2.2.2.2.2.2.2.2.2.1, v, x.2.2.2.2.2.2.2.2.2.2.2.2.2.2.2.2.2.2)
abbrev msRw (x : MS) (v : (Nat → Int32)) : MS := (x.1, x.2.1, x.2.2.1, x.2.2.2.1, x.2.2.2.2.1, x.2.2.2.2.2.1, x.2.2.2.2.2.2.1, x.2.2.2.2.2.2.2.1, x.2.2.2.2.2.2.2.2.1, x.2.2.2.2.2.2.2.2.2.1, x.2.2.2.2.2.2.2.2.2.2.1, x.2.2.2.2.2.2.2.2.2.2.2.1, x.2.2.2.2.2.2.2.2.2.2.2.2.1, x.2.2.2.2.2.2.2.2.2.2.2.2.2.1, x.2.2.2.2.2.2.2.2.2.2.2.2.2.2.1, x.2.2.2.2.2.2.2.2.2.2.2.2.2.2.2.1, x.2.2.2.2.2.2.2.2.2.2.2.2.2.2.2.2.1, x.2.2.2.2.2.2.2.2.2.2.2.2.2.2.2.2.2.1, v)
abbrev wS (E : GE) (a b N : Nat) (f : Nat → Int32) : va_W := [(a, .inr (3, [.int (nI N), .ref b])), (b, .inl (gB E, 32 * N, .inl f))]
abbrev wD (E : GE) (a : Nat → Nat) (D : DS) : va_W := [(a 0, .inr (0, [.ref (a 1), .ref (a 2), .ref (a 3), .int (dOp D)])), (a 1, .inl (gI E, 32, .inl (dCo D))), (a 2, .inl (gI E, 32, .inl (dCh D))), (a 3, .inl (gI E, 32, .inl (dHo D)))]
abbrev wJ (E : GE) (a : Nat → Nat) (N : Nat) (J : JS) : va_W := [(a 0, .inr (2, [.ref (a 1), .ref (a 3), .ref (a 5), .ref (a 6), .ref (a 7), .int (jEn J), .int (jWa J), .int (jFw J), .int (jSe J), .int (jSc J), .int (jFn J), .int (jFp J)])), (a 1, .inr (3, [.int (nI N), .ref (a 2)])), (a 2, .inl (gB E, 32 * N, .inl (jDk J))), (a 3, .inr (3, [.int (nI N), .ref (a 4)])), (a 4, .inl (gB E, 32 * N, .inl (jMm J))), (a 5, .inl (gI E, 4, .inl (jEh J))), (a 6, .inl (gI E, 4, .inl (jEk J))), (a 7, .inl (gI E, 4, .inl (jEv J)))]
abbrev wF (E : GE) (a : Nat → Nat) (F : FS) : va_W := [(a 0, .inr (1, [.ref (a 1), .int (fFp F), .int (fPg F), .int (fRe F)])), (a 1, .inl (gZ E, 64, .inl (fTe F)))]
abbrev wX (E : GE) (a : Nat → Nat) (N : Nat) (X : XS) : va_W := (a 0, .inr (4, [.ref (a 1), .ref (a 9), .ref (a 13), .int (xDn X), .int (xCm X)])) :: (wJ E (fun i => a (i + 1)) N (xJ X) ++ (wD E (fun i => a (i + 9)) (xD X) ++ wF E (fun i => a (i + 13)) (xF X)))
abbrev wM (E : GE) (a : Nat → Nat) (N : Nat) (M : MS) : va_W := [(a 0, .inr (5, [.int (nI N), .ref (a 1), .int (mDn M), .int (mWa M), .ref (a 2), .ref (a 3), .int (mSc M), .int (mSe M), .int (mNf M), .int (mWf M), .int (mEn M), .ref (a 4), .ref (a 5), .ref (a 6), .ref (a 7), .ref (a 8), .ref (a 9), .ref (a 10), .int (mCm M), .ref (a 11)])), (a 1, .inl (gB E, 2048, .inl (mDk M))), (a 2, .inl (gI E, 64, .inl (mWt M))), (a 3, .inl (gB E, 2048, .inl (mWs M))), (a 4, .inl (gI E, 4, .inl (mEh M))), (a 5, .inl (gI E, 4, .inl (mEk M))), (a 6, .inl (gI E, 4, .inl (mEv M))), (a 7, .inl (gI E, 32, .inl (mVa M))), (a 8, .inl (gZ E, 3, .inl (mOp M))), (a 9, .inl (gI E, 32, .inl (mHo M))), (a 10, .inl (gI E, 32, .inl (mHe M))), (a 11, .inl (gB E, 32, .inl (mRw M)))]
-- numbers
theorem zvin {i : Int32} {n : Nat} (h0 : 0 ≤ i.toInt) (h1 : i.toInt < n) : vp_in i n := vp_in_iff.mpr ⟨h0, h1⟩
theorem zinc (n : Nat) : nI n + Int32.ofInt 1 = nI (n + 1) := nI_1 n
theorem znlt {x : Int32} {c : Int32} (h : ¬ x < c) : c.toInt ≤ x.toInt := by
  rw [Int32.lt_iff_toInt_lt] at h; omega
theorem znle {x : Int32} {c : Int32} (h : ¬ c ≤ x) : x.toInt < c.toInt := by
  rw [Int32.le_iff_toInt_le] at h; omega
theorem ztoNI {x : Int32} (h : 0 ≤ x.toInt) : x = nI x.toNatClampNeg := by
  apply Int32.toInt_inj.mp
  have h1 : x.toInt < 2 ^ 31 := Int32.toInt_lt x
  have h2 : x.toNatClampNeg = x.toInt.toNat := rfl
  rw [nI_toInt (by omega)]
  omega
theorem zmul (a b : Nat) : nI a * nI b = nI (a * b) := by
  show Int32.ofNat a * Int32.ofNat b = Int32.ofNat (a * b)
  rw [Int32.ofNat_mul]
def b8 (v : Int32) : Int32 := v.toInt8.toInt32
theorem b8_nar (v : Int32) : vp_nar .byte (b8 v) = b8 v := by
  rw [vp_nar_byte]; simp [b8]
theorem b8_st (v : Int32) : vp_nar .byte v = b8 v := vp_nar_byte v
theorem b8_0 : vp_nar .byte 0 = 0 := rfl
theorem vz_0 : vp_nar .boolean 0 = 0 := rfl
theorem vz_1 : vp_nar .boolean 1 = 1 := rfl
def ush (x y : Int32) : Int32 := (x.toUInt32 >>> (y.toUInt32 &&& Int32.toUInt32 31)).toInt32
/-- s * 32 + i of a sector and a place in it -/
theorem zidx {N : Nat} (hN : 16 ≤ N ∧ N ≤ 64) {s i : Int32} (h1 : ¬ s < 0) (h2 : ¬ nI N ≤ s) (h3 : ¬ i < 0) (h4 : i < (32 : Int32)) : vp_in (s * 32 + i) (32 * N) := by
  have a1 := znlt h1
  have a2 := znle h2
  have a3 := znlt h3
  have a4 := Int32.lt_iff_toInt_lt.mp h4
  rw [nI_toInt (by omega)] at a2
  have e0 : (0 : Int32).toInt = 0 := rfl
  have e1 : (32 : Int32).toInt = 32 := rfl
  rw [ztoNI (x := s) (by omega), ztoNI (x := i) (by omega), show (32 : Int32) = nI 32 from rfl, zmul, nI_add]
  have h5 : s.toNatClampNeg = s.toInt.toNat := rfl
  have h6 : i.toNatClampNeg = i.toInt.toNat := rfl
  exact vp_in_nI (by omega) (by omega)
end
section
/-! Part 10: the static tests and the sectors. First what each computes -/
def isT (t : Int32) : Int32 := if t < 0 then 0 else if 3 ≤ t then 0 else 1
def isK (k : Int32) : Int32 := if k < 0 then 0 else if 32 ≤ k then 0 else 1
def isV (v : Int32) : Int32 := if v < 0 then 0 else if 16777215 < v then 0 else 1
def bhd (N : Nat) (s : Int32) : Int32 := if s < 0 then 0 else if nI N - 1 ≤ s then 0 else s + 1
def stp (N : Nat) (u t : Int32) : Int32 := if t < u then t - u + nI N else t - u
def bOf (N : Nat) (f : Nat → Int32) (s i : Int32) : Int32 := if s < 0 then -1 else if nI N ≤ s then -1 else if i < 0 then -1 else if i < 32 then f (s * 32 + i).toNatClampNeg &&& 255 else -1
def sB (N : Nat) (f : Nat → Int32) (s i v : Int32) : Nat → Int32 := if s < 0 then f else if nI N ≤ s then f else if i < 0 then f else if i < 32 then upd f (s * 32 + i).toNatClampNeg (b8 v) else f
def nOf (N : Nat) (f : Nat → Int32) (s u : Int32) : Nat → Int32
  | 0 => 0
  | n + 1 => (nOf N f s u n <<< (8 &&& 31)) ||| bOf N f s (u + nI n)
def sN (N : Nat) (s u : Int32) : Nat → (Nat → Int32) → Int32 → Nat → Int32
  | 0, f, _ => f
  | n + 1, f, x => sN N s u n (sB N f s (u + nI n) x) (ush x 8)
def smL (f : Nat → Int32) (s : Int32) : Nat → Int32
  | 0 => s + 1
  | n + 1 => (((smL f s n ^^^ (f (s * 32 + nI n).toNatClampNeg &&& 255)) <<< (11 &&& 31)) ||| ush (smL f s n ^^^ (f (s * 32 + nI n).toNatClampNeg &&& 255)) 21) * (-2048144777)
def smOf (N : Nat) (f : Nat → Int32) (s : Int32) : Int32 := if s < 0 then 0 else if s < nI N then smL f s 28 else 0
def isS (N : Nat) (f : Nat → Int32) (s : Int32) : Int32 := if bOf N f s 28 = -1 then 0 else if nOf N f s 28 4 = smOf N f s then 1 else 0
def clr (N : Nat) (f : Nat → Int32) (s : Int32) : Nat → Nat → Int32
  | 0 => f
  | n + 1 => sB N (clr N f s n) s (nI n) 0
def prep (N : Nat) (f : Nat → Int32) (s kd se it : Int32) : Nat → Int32 := sB N (sN N s 1 4 (sB N (clr N f s 32) s 0 kd) se) s 5 it
def sealS (N : Nat) (f : Nat → Int32) (s : Int32) : Nat → Int32 := sN N s 28 4 f (smOf N f s)
def cpS (N : Nat) (f g : Nat → Int32) (s : Int32) : Nat → Nat → Int32
  | 0 => f
  | n + 1 => sB N (cpS N f g s n) s (nI n) (bOf N g s (nI n))
def clA (f : Nat → Int32) : Nat → Nat → Int32
  | 0 => f
  | n + 1 => upd (clA f n) n 0
theorem zidx2 {N : Nat} (hN : 16 ≤ N ∧ N ≤ 64) {s : Int32} {j : Nat} (h1 : ¬ s < 0) (h2 : s < nI N) (hj : j < 28) : vp_in (s * 32 + nI j) (32 * N) := zidx hN h1 (fun h => by rw [Int32.le_iff_toInt_le] at h; rw [Int32.lt_iff_toInt_lt] at h2; omega) (nI_pos (by omega)) (nI_lt (a := j) (b := 32) (by omega) (by omega))
abbrev rmX4_isTransaction : Room := { frames := 0, cells := 0, slots := 0, locals := 0 }
theorem hyX4_isTransaction : yX4_isTransaction.cls = RX4 ∧ yX4_isTransaction.cls ≠ "java/lang/invoke/MethodHandle" ∧ yX4_isTransaction.cls ≠ "java/lang/invoke/VarHandle" ∧ (parseMethodDescriptor yX4_isTransaction.desc).map (fun d => d.parameters.length) = some 1 := by decide +kernel
set_option maxHeartbeats 4000000 in
set_option maxRecDepth 100000 in
theorem c_X4_isTransaction (E : GE) (t : Int32) : zI E yX4_isTransaction wsX4_isTransaction rmX4_isTransaction [.int t] [] (isT t) [] := by
  refine zI_of (cc := cX4_isTransaction) (maxL := 1) (ty := .boolean) (by decide) rfl (by unfold isT; (repeat' split) <;> rfl) (Nat.le_of_ble_eq_true rfl) ?_
  intro K C ret
  replace C : zC E K cX4_isTransaction wsX4_isTransaction RX4 rmX4_isTransaction 1 := C
  show Z E K 0 0 [] 0 [(0, .int t)] []
  refine z_iload_n C 0 rfl rfl dX4_isTransaction_0 ?_
  refine z_if_lt C (tgt := 13) dX4_isTransaction_1 (by decide) (fun h1_1 => ?_) (fun h1_1 => ?_)
  · refine z_iconst C (v := 0) (by decide) dX4_isTransaction_13 ?_
    exact ret _ _ _ _ (by first | rfl | (simp only [isT, h1_1, ↓reduceIte]; done) | (simp only [isT, h1_1, ↓reduceIte]; rfl) | (simp [isT, h1_1, ↓reduceIte]; done)) rfl dX4_isTransaction_14
  · refine z_iload_n C 0 rfl rfl dX4_isTransaction_4 ?_
    refine z_iconst C (v := 3) (by decide) dX4_isTransaction_5 ?_
    refine z_icmp_ge C (tgt := 13) dX4_isTransaction_6 (by decide) (fun h6_2 => ?_) (fun h6_2 => ?_)
    · refine z_iconst C (v := 0) (by decide) dX4_isTransaction_13 ?_
      exact ret _ _ _ _ (by first | rfl | (simp only [isT, h1_1, h6_2, ↓reduceIte]; done) | (simp only [isT, h1_1, h6_2, ↓reduceIte]; rfl) | (simp [isT, h1_1, h6_2, ↓reduceIte]; done)) rfl dX4_isTransaction_14
    · refine z_iconst C (v := 1) (by decide) dX4_isTransaction_9 ?_
      refine z_goto C (tgt := 14) dX4_isTransaction_10 (by decide) ?_
      exact ret _ _ _ _ (by first | rfl | (simp only [isT, h1_1, h6_2, ↓reduceIte]; done) | (simp only [isT, h1_1, h6_2, ↓reduceIte]; rfl) | (simp [isT, h1_1, h6_2, ↓reduceIte]; done)) rfl dX4_isTransaction_14
abbrev rmX4_isKey : Room := { frames := 0, cells := 0, slots := 0, locals := 0 }
theorem hyX4_isKey : yX4_isKey.cls = RX4 ∧ yX4_isKey.cls ≠ "java/lang/invoke/MethodHandle" ∧ yX4_isKey.cls ≠ "java/lang/invoke/VarHandle" ∧ (parseMethodDescriptor yX4_isKey.desc).map (fun d => d.parameters.length) = some 1 := by decide +kernel
set_option maxHeartbeats 4000000 in
set_option maxRecDepth 100000 in
theorem c_X4_isKey (E : GE) (t : Int32) : zI E yX4_isKey wsX4_isKey rmX4_isKey [.int t] [] (isK t) [] := by
  refine zI_of (cc := cX4_isKey) (maxL := 1) (ty := .boolean) (by decide) rfl (by unfold isK; (repeat' split) <;> rfl) (Nat.le_of_ble_eq_true rfl) ?_
  intro K C ret
  replace C : zC E K cX4_isKey wsX4_isKey RX4 rmX4_isKey 1 := C
  show Z E K 0 0 [] 0 [(0, .int t)] []
  refine z_iload_n C 0 rfl rfl dX4_isKey_0 ?_
  refine z_if_lt C (tgt := 14) dX4_isKey_1 (by decide) (fun h1_1 => ?_) (fun h1_1 => ?_)
  · refine z_iconst C (v := 0) (by decide) dX4_isKey_14 ?_
    exact ret _ _ _ _ (by first | rfl | (simp only [isK, h1_1, ↓reduceIte]; done) | (simp only [isK, h1_1, ↓reduceIte]; rfl) | (simp [isK, h1_1, ↓reduceIte]; done)) rfl dX4_isKey_15
  · refine z_iload_n C 0 rfl rfl dX4_isKey_4 ?_
    refine z_bipush C (v := 32) (by decide) dX4_isKey_5 ?_
    refine z_icmp_ge C (tgt := 14) dX4_isKey_7 (by decide) (fun h7_2 => ?_) (fun h7_2 => ?_)
    · refine z_iconst C (v := 0) (by decide) dX4_isKey_14 ?_
      exact ret _ _ _ _ (by first | rfl | (simp only [isK, h1_1, h7_2, ↓reduceIte]; done) | (simp only [isK, h1_1, h7_2, ↓reduceIte]; rfl) | (simp [isK, h1_1, h7_2, ↓reduceIte]; done)) rfl dX4_isKey_15
    · refine z_iconst C (v := 1) (by decide) dX4_isKey_10 ?_
      refine z_goto C (tgt := 15) dX4_isKey_11 (by decide) ?_
      exact ret _ _ _ _ (by first | rfl | (simp only [isK, h1_1, h7_2, ↓reduceIte]; done) | (simp only [isK, h1_1, h7_2, ↓reduceIte]; rfl) | (simp [isK, h1_1, h7_2, ↓reduceIte]; done)) rfl dX4_isKey_15
abbrev rmX4_isValue : Room := { frames := 0, cells := 0, slots := 0, locals := 0 }
theorem hyX4_isValue : yX4_isValue.cls = RX4 ∧ yX4_isValue.cls ≠ "java/lang/invoke/MethodHandle" ∧ yX4_isValue.cls ≠ "java/lang/invoke/VarHandle" ∧ (parseMethodDescriptor yX4_isValue.desc).map (fun d => d.parameters.length) = some 1 := by decide +kernel
set_option maxHeartbeats 4000000 in
set_option maxRecDepth 100000 in
theorem c_X4_isValue (E : GE) (t : Int32) : zI E yX4_isValue wsX4_isValue rmX4_isValue [.int t] [] (isV t) [] := by
  refine zI_of (cc := cX4_isValue) (maxL := 1) (ty := .boolean) (by decide) rfl (by unfold isV; (repeat' split) <;> rfl) (Nat.le_of_ble_eq_true rfl) ?_
  intro K C ret
  replace C : zC E K cX4_isValue wsX4_isValue RX4 rmX4_isValue 1 := C
  have l169 : zw K (.constant RX4 169 (16777215)) := C.w (List.mem_cons_of_mem _ (List.mem_of_getElem? (i := 0) rfl))
  show Z E K 0 0 [] 0 [(0, .int t)] []
  refine z_iload_n C 0 rfl rfl dX4_isValue_0 ?_
  refine z_if_lt C (tgt := 14) dX4_isValue_1 (by decide) (fun h1_1 => ?_) (fun h1_1 => ?_)
  · refine z_iconst C (v := 0) (by decide) dX4_isValue_14 ?_
    exact ret _ _ _ _ (by first | rfl | (simp only [isV, h1_1, ↓reduceIte]; done) | (simp only [isV, h1_1, ↓reduceIte]; rfl) | (simp [isV, h1_1, ↓reduceIte]; done)) rfl dX4_isValue_15
  · refine z_iload_n C 0 rfl rfl dX4_isValue_4 ?_
    refine z_ldc C l169 dX4_isValue_5 ?_
    refine z_icmp_gt C (tgt := 14) dX4_isValue_7 (by decide) (fun h7_2 => ?_) (fun h7_2 => ?_)
    · refine z_iconst C (v := 0) (by decide) dX4_isValue_14 ?_
      exact ret _ _ _ _ (by first | rfl | (simp only [isV, h1_1, h7_2, ↓reduceIte]; done) | (simp only [isV, h1_1, h7_2, ↓reduceIte]; rfl) | (simp [isV, h1_1, h7_2, ↓reduceIte]; done)) rfl dX4_isValue_15
    · refine z_iconst C (v := 1) (by decide) dX4_isValue_10 ?_
      refine z_goto C (tgt := 15) dX4_isValue_11 (by decide) ?_
      exact ret _ _ _ _ (by first | rfl | (simp only [isV, h1_1, h7_2, ↓reduceIte]; done) | (simp only [isV, h1_1, h7_2, ↓reduceIte]; rfl) | (simp [isV, h1_1, h7_2, ↓reduceIte]; done)) rfl dX4_isValue_15
abbrev rmX3_size : Room := { frames := 0, cells := 0, slots := 0, locals := 0 }
theorem hyX3_size : yX3_size.cls = RX3 ∧ yX3_size.cls ≠ "java/lang/invoke/MethodHandle" ∧ yX3_size.cls ≠ "java/lang/invoke/VarHandle" ∧ (parseMethodDescriptor yX3_size.desc).map (fun d => d.parameters.length) = some 0 := by decide +kernel
set_option maxHeartbeats 4000000 in
set_option maxRecDepth 100000 in
theorem c_X3_size (E : GE) (N : Nat) (hN : 16 ≤ N ∧ N ≤ 64) (a b : Nat) (f : Nat → Int32) : zI E yX3_size wsX3_size rmX3_size [.ref a] (wS E a b N f) (nI N) (wS E a b N f) := by
  refine zI_of (cc := cX3_size) (maxL := 1) (ty := .int) (by decide) rfl (vp_nar_int _) (Nat.le_of_ble_eq_true rfl) ?_
  intro K C ret
  replace C : zC E K cX3_size wsX3_size RX3 rmX3_size 1 := C
  have in3 : ∀ w ∈ wsX30, w ∈ wsX3_size := fun w h => List.mem_cons_of_mem _ (List.mem_append_right _ (h))
  have l18 : zw K (.fieldLink RX3 18 "StoreLog3$Sectors" "size" "I") := C.w (List.mem_cons_of_mem _ (List.mem_append_left _ (List.mem_of_getElem? (i := 0) rfl)))
  show Z E K 0 0 (wS E a b N f) 0 [(0, .ref a)] []
  refine z_aload_n C 0 rfl rfl dX3_size_0 ?_
  refine z_get C (Cn := RX3) (T := TX3) (Nf := 2) (ci := 3) in3 0 0 l18 (v := .int (nI N)) rfl rfl (by decide) rfl dX3_size_1 ?_
  exact ret _ _ _ _ (by first | rfl | (simp only [↓reduceIte]; done) | (simp only [↓reduceIte]; rfl) | (simp [↓reduceIte]; done)) rfl dX3_size_4
abbrev rmX3_behind : Room := { frames := 0, cells := 0, slots := 0, locals := 0 }
theorem hyX3_behind : yX3_behind.cls = RX3 ∧ yX3_behind.cls ≠ "java/lang/invoke/MethodHandle" ∧ yX3_behind.cls ≠ "java/lang/invoke/VarHandle" ∧ (parseMethodDescriptor yX3_behind.desc).map (fun d => d.parameters.length) = some 1 := by decide +kernel
set_option maxHeartbeats 4000000 in
set_option maxRecDepth 100000 in
theorem c_X3_behind (E : GE) (N : Nat) (hN : 16 ≤ N ∧ N ≤ 64) (a b : Nat) (f : Nat → Int32) (s : Int32) : zI E yX3_behind wsX3_behind rmX3_behind [.ref a, .int s] (wS E a b N f) (bhd N s) (wS E a b N f) := by
  refine zI_of (cc := cX3_behind) (maxL := 2) (ty := .int) (by decide) rfl (vp_nar_int _) (Nat.le_of_ble_eq_true rfl) ?_
  intro K C ret
  replace C : zC E K cX3_behind wsX3_behind RX3 rmX3_behind 2 := C
  have in3 : ∀ w ∈ wsX30, w ∈ wsX3_behind := fun w h => List.mem_cons_of_mem _ (List.mem_append_right _ (h))
  have l18 : zw K (.fieldLink RX3 18 "StoreLog3$Sectors" "size" "I") := C.w (List.mem_cons_of_mem _ (List.mem_append_left _ (List.mem_of_getElem? (i := 0) rfl)))
  show Z E K 0 0 (wS E a b N f) 0 [(0, .ref a), (1, .int s)] []
  refine z_iload_n C 1 rfl rfl dX3_behind_0 ?_
  refine z_if_lt C (tgt := 20) dX3_behind_1 (by decide) (fun h1_1 => ?_) (fun h1_1 => ?_)
  · refine z_iconst C (v := 0) (by decide) dX3_behind_20 ?_
    exact ret _ _ _ _ (by first | rfl | (simp only [bhd, h1_1, ↓reduceIte]; done) | (simp only [bhd, h1_1, ↓reduceIte]; rfl) | (simp [bhd, h1_1, ↓reduceIte]; done)) rfl dX3_behind_21
  · refine z_iload_n C 1 rfl rfl dX3_behind_4 ?_
    refine z_aload_n C 0 rfl rfl dX3_behind_5 ?_
    refine z_get C (Cn := RX3) (T := TX3) (Nf := 2) (ci := 3) in3 0 0 l18 (v := .int (nI N)) rfl rfl (by decide) rfl dX3_behind_6 ?_
    refine z_iconst C (v := 1) (by decide) dX3_behind_9 ?_
    refine z_isub C dX3_behind_10 ?_
    refine z_icmp_ge C (tgt := 20) dX3_behind_11 (by decide) (fun h11_2 => ?_) (fun h11_2 => ?_)
    · refine z_iconst C (v := 0) (by decide) dX3_behind_20 ?_
      exact ret _ _ _ _ (by first | rfl | (simp only [bhd, h1_1, h11_2, ↓reduceIte]; done) | (simp only [bhd, h1_1, h11_2, ↓reduceIte]; rfl) | (simp [bhd, h1_1, h11_2, ↓reduceIte]; done)) rfl dX3_behind_21
    · refine z_iload_n C 1 rfl rfl dX3_behind_14 ?_
      refine z_iconst C (v := 1) (by decide) dX3_behind_15 ?_
      refine z_iadd C dX3_behind_16 ?_
      refine z_goto C (tgt := 21) dX3_behind_17 (by decide) ?_
      exact ret _ _ _ _ (by first | rfl | (simp only [bhd, h1_1, h11_2, ↓reduceIte]; done) | (simp only [bhd, h1_1, h11_2, ↓reduceIte]; rfl) | (simp [bhd, h1_1, h11_2, ↓reduceIte]; done)) rfl dX3_behind_21
abbrev rmX3_stepsBetween : Room := { frames := 0, cells := 0, slots := 0, locals := 0 }
theorem hyX3_stepsBetween : yX3_stepsBetween.cls = RX3 ∧ yX3_stepsBetween.cls ≠ "java/lang/invoke/MethodHandle" ∧ yX3_stepsBetween.cls ≠ "java/lang/invoke/VarHandle" ∧ (parseMethodDescriptor yX3_stepsBetween.desc).map (fun d => d.parameters.length) = some 2 := by decide +kernel
set_option maxHeartbeats 4000000 in
set_option maxRecDepth 100000 in
theorem c_X3_stepsBetween (E : GE) (N : Nat) (hN : 16 ≤ N ∧ N ≤ 64) (a b : Nat) (f : Nat → Int32) (u t : Int32) : zI E yX3_stepsBetween wsX3_stepsBetween rmX3_stepsBetween [.ref a, .int u, .int t] (wS E a b N f) (stp N u t) (wS E a b N f) := by
  refine zI_of (cc := cX3_stepsBetween) (maxL := 3) (ty := .int) (by decide) rfl (vp_nar_int _) (Nat.le_of_ble_eq_true rfl) ?_
  intro K C ret
  replace C : zC E K cX3_stepsBetween wsX3_stepsBetween RX3 rmX3_stepsBetween 3 := C
  have in3 : ∀ w ∈ wsX30, w ∈ wsX3_stepsBetween := fun w h => List.mem_cons_of_mem _ (List.mem_append_right _ (h))
  have l18 : zw K (.fieldLink RX3 18 "StoreLog3$Sectors" "size" "I") := C.w (List.mem_cons_of_mem _ (List.mem_append_left _ (List.mem_of_getElem? (i := 0) rfl)))
  show Z E K 0 0 (wS E a b N f) 0 [(0, .ref a), (1, .int u), (2, .int t)] []
  refine z_iload_n C 2 rfl rfl dX3_stepsBetween_0 ?_
  refine z_iload_n C 1 rfl rfl dX3_stepsBetween_1 ?_
  refine z_icmp_lt C (tgt := 11) dX3_stepsBetween_2 (by decide) (fun h2_1 => ?_) (fun h2_1 => ?_)
  · refine z_iload_n C 2 rfl rfl dX3_stepsBetween_11 ?_
    refine z_iload_n C 1 rfl rfl dX3_stepsBetween_12 ?_
    refine z_isub C dX3_stepsBetween_13 ?_
    refine z_aload_n C 0 rfl rfl dX3_stepsBetween_14 ?_
    refine z_get C (Cn := RX3) (T := TX3) (Nf := 2) (ci := 3) in3 0 0 l18 (v := .int (nI N)) rfl rfl (by decide) rfl dX3_stepsBetween_15 ?_
    refine z_iadd C dX3_stepsBetween_18 ?_
    exact ret _ _ _ _ (by first | rfl | (simp only [stp, h2_1, ↓reduceIte]; done) | (simp only [stp, h2_1, ↓reduceIte]; rfl) | (simp [stp, h2_1, ↓reduceIte]; done)) rfl dX3_stepsBetween_19
  · refine z_iload_n C 2 rfl rfl dX3_stepsBetween_5 ?_
    refine z_iload_n C 1 rfl rfl dX3_stepsBetween_6 ?_
    refine z_isub C dX3_stepsBetween_7 ?_
    refine z_goto C (tgt := 19) dX3_stepsBetween_8 (by decide) ?_
    exact ret _ _ _ _ (by first | rfl | (simp only [stp, h2_1, ↓reduceIte]; done) | (simp only [stp, h2_1, ↓reduceIte]; rfl) | (simp [stp, h2_1, ↓reduceIte]; done)) rfl dX3_stepsBetween_19
abbrev rmX3_byteOf : Room := { frames := 0, cells := 0, slots := 0, locals := 0 }
theorem hyX3_byteOf : yX3_byteOf.cls = RX3 ∧ yX3_byteOf.cls ≠ "java/lang/invoke/MethodHandle" ∧ yX3_byteOf.cls ≠ "java/lang/invoke/VarHandle" ∧ (parseMethodDescriptor yX3_byteOf.desc).map (fun d => d.parameters.length) = some 2 := by decide +kernel
set_option maxHeartbeats 4000000 in
set_option maxRecDepth 100000 in
theorem c_X3_byteOf (E : GE) (N : Nat) (hN : 16 ≤ N ∧ N ≤ 64) (a b : Nat) (f : Nat → Int32) (s i : Int32) : zI E yX3_byteOf wsX3_byteOf rmX3_byteOf [.ref a, .int s, .int i] (wS E a b N f) (bOf N f s i) (wS E a b N f) := by
  refine zI_of (cc := cX3_byteOf) (maxL := 3) (ty := .int) (by decide) rfl (vp_nar_int _) (Nat.le_of_ble_eq_true rfl) ?_
  intro K C ret
  replace C : zC E K cX3_byteOf wsX3_byteOf RX3 rmX3_byteOf 3 := C
  have in3 : ∀ w ∈ wsX30, w ∈ wsX3_byteOf := fun w h => List.mem_cons_of_mem _ (List.mem_append_right _ (h))
  have l18 : zw K (.fieldLink RX3 18 "StoreLog3$Sectors" "size" "I") := C.w (List.mem_cons_of_mem _ (List.mem_append_left _ (List.mem_of_getElem? (i := 0) rfl)))
  have l24 : zw K (.fieldLink RX3 24 "StoreLog3$Sectors" "bytes" "[B") := C.w (List.mem_cons_of_mem _ (List.mem_append_left _ (List.mem_of_getElem? (i := 1) rfl)))
  show Z E K 0 0 (wS E a b N f) 0 [(0, .ref a), (1, .int s), (2, .int i)] []
  refine z_iload_n C 1 rfl rfl dX3_byteOf_0 ?_
  refine z_if_lt C (tgt := 22) dX3_byteOf_1 (by decide) (fun h1_1 => ?_) (fun h1_1 => ?_)
  · refine z_iconst C (v := (-1)) (by decide) dX3_byteOf_22 ?_
    exact ret _ _ _ _ (by first | rfl | (simp only [bOf, h1_1, ↓reduceIte]; done) | (simp only [bOf, h1_1, ↓reduceIte]; rfl) | (simp [bOf, h1_1, ↓reduceIte]; done)) rfl dX3_byteOf_23
  · refine z_iload_n C 1 rfl rfl dX3_byteOf_4 ?_
    refine z_aload_n C 0 rfl rfl dX3_byteOf_5 ?_
    refine z_get C (Cn := RX3) (T := TX3) (Nf := 2) (ci := 3) in3 0 0 l18 (v := .int (nI N)) rfl rfl (by decide) rfl dX3_byteOf_6 ?_
    refine z_icmp_ge C (tgt := 22) dX3_byteOf_9 (by decide) (fun h9_2 => ?_) (fun h9_2 => ?_)
    · refine z_iconst C (v := (-1)) (by decide) dX3_byteOf_22 ?_
      exact ret _ _ _ _ (by first | rfl | (simp only [bOf, h1_1, h9_2, ↓reduceIte]; done) | (simp only [bOf, h1_1, h9_2, ↓reduceIte]; rfl) | (simp [bOf, h1_1, h9_2, ↓reduceIte]; done)) rfl dX3_byteOf_23
    · refine z_iload_n C 2 rfl rfl dX3_byteOf_12 ?_
      refine z_if_lt C (tgt := 22) dX3_byteOf_13 (by decide) (fun h13_3 => ?_) (fun h13_3 => ?_)
      · refine z_iconst C (v := (-1)) (by decide) dX3_byteOf_22 ?_
        exact ret _ _ _ _ (by first | rfl | (simp only [bOf, h1_1, h9_2, h13_3, ↓reduceIte]; done) | (simp only [bOf, h1_1, h9_2, h13_3, ↓reduceIte]; rfl) | (simp [bOf, h1_1, h9_2, h13_3, ↓reduceIte]; done)) rfl dX3_byteOf_23
      · refine z_iload_n C 2 rfl rfl dX3_byteOf_16 ?_
        refine z_bipush C (v := 32) (by decide) dX3_byteOf_17 ?_
        refine z_icmp_lt C (tgt := 24) dX3_byteOf_19 (by decide) (fun h19_4 => ?_) (fun h19_4 => ?_)
        · refine z_aload_n C 0 rfl rfl dX3_byteOf_24 ?_
          refine z_get C (Cn := RX3) (T := TX3) (Nf := 2) (ci := 3) in3 0 1 l24 (v := .ref b) rfl rfl (by decide) rfl dX3_byteOf_25 ?_
          refine z_iload_n C 1 rfl rfl dX3_byteOf_28 ?_
          refine z_bipush C (v := 32) (by decide) dX3_byteOf_29 ?_
          refine z_imul C dX3_byteOf_31 ?_
          refine z_iload_n C 2 rfl rfl dX3_byteOf_32 ?_
          refine z_iadd C dX3_byteOf_33 ?_
          refine z_bald C 1 rfl (zidx hN h1_1 h9_2 h13_3 h19_4) (v := (f ((s * 32) + i).toNatClampNeg)) rfl dX3_byteOf_34 ?_
          refine z_sipush C (v := 255) (by decide) dX3_byteOf_35 ?_
          refine z_iand C dX3_byteOf_38 ?_
          exact ret _ _ _ _ (by first | rfl | (simp only [bOf, h1_1, h9_2, h13_3, h19_4, ↓reduceIte]; done) | (simp only [bOf, h1_1, h9_2, h13_3, h19_4, ↓reduceIte]; rfl) | (simp [bOf, h1_1, h9_2, h13_3, h19_4, ↓reduceIte]; done)) rfl dX3_byteOf_39
        · refine z_iconst C (v := (-1)) (by decide) dX3_byteOf_22 ?_
          exact ret _ _ _ _ (by first | rfl | (simp only [bOf, h1_1, h9_2, h13_3, h19_4, ↓reduceIte]; done) | (simp only [bOf, h1_1, h9_2, h13_3, h19_4, ↓reduceIte]; rfl) | (simp [bOf, h1_1, h9_2, h13_3, h19_4, ↓reduceIte]; done)) rfl dX3_byteOf_23
abbrev rmX3_setByte : Room := { frames := 0, cells := 0, slots := 0, locals := 0 }
theorem hyX3_setByte : yX3_setByte.cls = RX3 ∧ yX3_setByte.cls ≠ "java/lang/invoke/MethodHandle" ∧ yX3_setByte.cls ≠ "java/lang/invoke/VarHandle" ∧ (parseMethodDescriptor yX3_setByte.desc).map (fun d => d.parameters.length) = some 3 := by decide +kernel
set_option maxHeartbeats 4000000 in
set_option maxRecDepth 100000 in
theorem c_X3_setByte (E : GE) (N : Nat) (hN : 16 ≤ N ∧ N ≤ 64) (a b : Nat) (f : Nat → Int32) (s i v : Int32) : zV E yX3_setByte wsX3_setByte rmX3_setByte [.ref a, .int s, .int i, .int v] (wS E a b N f) (wS E a b N (sB N f s i v)) := by
  refine zV_of (cc := cX3_setByte) (maxL := 4) (by decide) rfl (Nat.le_of_ble_eq_true rfl) ?_
  intro K C ret
  replace C : zC E K cX3_setByte wsX3_setByte RX3 rmX3_setByte 4 := C
  have in3 : ∀ w ∈ wsX30, w ∈ wsX3_setByte := fun w h => List.mem_cons_of_mem _ (List.mem_append_right _ (h))
  have l18 : zw K (.fieldLink RX3 18 "StoreLog3$Sectors" "size" "I") := C.w (List.mem_cons_of_mem _ (List.mem_append_left _ (List.mem_of_getElem? (i := 0) rfl)))
  have l24 : zw K (.fieldLink RX3 24 "StoreLog3$Sectors" "bytes" "[B") := C.w (List.mem_cons_of_mem _ (List.mem_append_left _ (List.mem_of_getElem? (i := 1) rfl)))
  show Z E K 0 0 (wS E a b N f) 0 [(0, .ref a), (1, .int s), (2, .int i), (3, .int v)] []
  refine z_iload_n C 1 rfl rfl dX3_setByte_0 ?_
  refine z_if_lt C (tgt := 22) dX3_setByte_1 (by decide) (fun h1_1 => ?_) (fun h1_1 => ?_)
  · exact ret _ _ _ (by first | rfl | (simp only [sB, h1_1, ↓reduceIte]; done) | (simp only [sB, h1_1, ↓reduceIte]; rfl) | (simp [sB, h1_1, ↓reduceIte]; done)) dX3_setByte_22
  · refine z_iload_n C 1 rfl rfl dX3_setByte_4 ?_
    refine z_aload_n C 0 rfl rfl dX3_setByte_5 ?_
    refine z_get C (Cn := RX3) (T := TX3) (Nf := 2) (ci := 3) in3 0 0 l18 (v := .int (nI N)) rfl rfl (by decide) rfl dX3_setByte_6 ?_
    refine z_icmp_ge C (tgt := 22) dX3_setByte_9 (by decide) (fun h9_2 => ?_) (fun h9_2 => ?_)
    · exact ret _ _ _ (by first | rfl | (simp only [sB, h1_1, h9_2, ↓reduceIte]; done) | (simp only [sB, h1_1, h9_2, ↓reduceIte]; rfl) | (simp [sB, h1_1, h9_2, ↓reduceIte]; done)) dX3_setByte_22
    · refine z_iload_n C 2 rfl rfl dX3_setByte_12 ?_
      refine z_if_lt C (tgt := 22) dX3_setByte_13 (by decide) (fun h13_3 => ?_) (fun h13_3 => ?_)
      · exact ret _ _ _ (by first | rfl | (simp only [sB, h1_1, h9_2, h13_3, ↓reduceIte]; done) | (simp only [sB, h1_1, h9_2, h13_3, ↓reduceIte]; rfl) | (simp [sB, h1_1, h9_2, h13_3, ↓reduceIte]; done)) dX3_setByte_22
      · refine z_iload_n C 2 rfl rfl dX3_setByte_16 ?_
        refine z_bipush C (v := 32) (by decide) dX3_setByte_17 ?_
        refine z_icmp_lt C (tgt := 23) dX3_setByte_19 (by decide) (fun h19_4 => ?_) (fun h19_4 => ?_)
        · refine z_aload_n C 0 rfl rfl dX3_setByte_23 ?_
          refine z_get C (Cn := RX3) (T := TX3) (Nf := 2) (ci := 3) in3 0 1 l24 (v := .ref b) rfl rfl (by decide) rfl dX3_setByte_24 ?_
          refine z_iload_n C 1 rfl rfl dX3_setByte_27 ?_
          refine z_bipush C (v := 32) (by decide) dX3_setByte_28 ?_
          refine z_imul C dX3_setByte_30 ?_
          refine z_iload_n C 2 rfl rfl dX3_setByte_31 ?_
          refine z_iadd C dX3_setByte_32 ?_
          refine z_iload_n C 3 rfl rfl dX3_setByte_33 ?_
          refine z_i2b C (v := (b8 v)) rfl dX3_setByte_34 ?_
          refine z_bast C 1 rfl (zidx hN h1_1 h9_2 h13_3 h19_4) (g := (upd f ((s * 32) + i).toNatClampNeg (b8 v))) (by rw [b8_nar]) (V' := (wS E a b N (upd f ((s * 32) + i).toNatClampNeg (b8 v)))) rfl dX3_setByte_35 ?_
          exact ret _ _ _ (by first | rfl | (simp only [sB, h1_1, h9_2, h13_3, h19_4, ↓reduceIte]; done) | (simp only [sB, h1_1, h9_2, h13_3, h19_4, ↓reduceIte]; rfl) | (simp [sB, h1_1, h9_2, h13_3, h19_4, ↓reduceIte]; done)) dX3_setByte_36
        · exact ret _ _ _ (by first | rfl | (simp only [sB, h1_1, h9_2, h13_3, h19_4, ↓reduceIte]; done) | (simp only [sB, h1_1, h9_2, h13_3, h19_4, ↓reduceIte]; rfl) | (simp [sB, h1_1, h9_2, h13_3, h19_4, ↓reduceIte]; done)) dX3_setByte_22
abbrev rmX3_numberOf : Room := { frames := 1, cells := 0, slots := 0, locals := 22 }
theorem hyX3_numberOf : yX3_numberOf.cls = RX3 ∧ yX3_numberOf.cls ≠ "java/lang/invoke/MethodHandle" ∧ yX3_numberOf.cls ≠ "java/lang/invoke/VarHandle" ∧ (parseMethodDescriptor yX3_numberOf.desc).map (fun d => d.parameters.length) = some 3 := by decide +kernel
set_option maxHeartbeats 4000000 in
set_option maxRecDepth 100000 in
theorem c_X3_numberOf (E : GE) (N : Nat) (hN : 16 ≤ N ∧ N ≤ 64) (a b : Nat) (f : Nat → Int32) (s u : Int32) (w : Nat) (hw : w ≤ 4) : zI E yX3_numberOf wsX3_numberOf rmX3_numberOf [.ref a, .int s, .int u, .int (nI w)] (wS E a b N f) (nOf N f s u w) (wS E a b N f) := by
  refine zI_of (cc := cX3_numberOf) (maxL := 6) (ty := .int) (by decide) rfl (vp_nar_int _) (Nat.le_of_ble_eq_true rfl) ?_
  intro K C ret
  replace C : zC E K cX3_numberOf wsX3_numberOf RX3 rmX3_numberOf 6 := C
  show Z E K 0 0 (wS E a b N f) 0 [(0, .ref a), (1, .int s), (2, .int u), (3, .int (nI w))] []
  refine z_iconst C (v := 0) (by decide) dX3_numberOf_0 ?_
  refine z_istore C (lv' := [(4, .int 0), (0, .ref a), (1, .int s), (2, .int u), (3, .int (nI w))]) rfl (by decide) dX3_numberOf_1 ?_
  refine z_iconst C (v := 0) (by decide) dX3_numberOf_3 ?_
  refine z_istore C (lv' := [(5, .int 0), (4, .int 0), (0, .ref a), (1, .int s), (2, .int u), (3, .int (nI w))]) rfl (by decide) dX3_numberOf_4 ?_
  have loop6 : ∀ (n j : Nat), j + n = w → Z E K 0 0 (wS E a b N f) 6 [(0, .ref a), (1, .int s), (2, .int u), (3, .int (nI w)), (4, .int (nOf N f s u j)), (5, .int (nI j))] [] := by
    intro n
    induction n with
    | zero => 
      intro j hj
      obtain rfl : w = j := by omega
      refine z_iload C 5 rfl dX3_numberOf_6 ?_
      refine z_iload_n C 3 rfl rfl dX3_numberOf_8 ?_
      refine z_icmp_ge C (tgt := 35) dX3_numberOf_9 (by decide) (fun h9_1 => ?_) (fun h9_1 => absurd (nI_le (a := w) (b := w) (Nat.le_refl _) (by omega)) h9_1)
      refine z_iload C 4 rfl dX3_numberOf_35 ?_
      exact ret _ _ _ _ (by first | rfl | (simp only [h9_1, ↓reduceIte]; done) | (simp only [h9_1, ↓reduceIte]; rfl) | (simp [h9_1, ↓reduceIte]; done)) rfl dX3_numberOf_37
    | succ n ih6 => 
      intro j hj
      refine z_iload C 5 rfl dX3_numberOf_6 ?_
      refine z_iload_n C 3 rfl rfl dX3_numberOf_8 ?_
      refine z_icmp_ge C (tgt := 35) dX3_numberOf_9 (by decide) (fun h9_2 => absurd h9_2 (nI_ge (a := j) (b := w) (by omega) (by omega))) (fun h9_2 => ?_)
      refine z_iload C 4 rfl dX3_numberOf_12 ?_
      refine z_bipush C (v := 8) (by decide) dX3_numberOf_14 ?_
      refine z_ishl C dX3_numberOf_16 ?_
      refine z_aload_n C 0 rfl rfl dX3_numberOf_17 ?_
      refine z_iload_n C 1 rfl rfl dX3_numberOf_18 ?_
      refine z_iload_n C 2 rfl rfl dX3_numberOf_19 ?_
      refine z_iload C 5 rfl dX3_numberOf_20 ?_
      refine z_iadd C dX3_numberOf_22 ?_
      refine z_rVI C (c_X3_byteOf E N hN a b f s (u + (nI j))) gX3_numberOf_X3_byteOf (ci := 3) (q0 := 0) rfl rfl hyX3_byteOf rfl ⟨rfl, rfl⟩ ⟨by decide, by decide⟩ ⟨by decide, by decide⟩ [0, 1] rfl (by decide) (st := [.int ((nOf N f s u j) <<< (8 &&& 31))]) (Nat.le_of_ble_eq_true rfl) dX3_numberOf_23 ?_ rfl
      refine z_ior C dX3_numberOf_26 ?_
      refine z_istore C (lv' := [(4, .int (((nOf N f s u j) <<< (8 &&& 31)) ||| (bOf N f s (u + (nI j))))), (0, .ref a), (1, .int s), (2, .int u), (3, .int (nI w)), (5, .int (nI j))]) rfl (by decide) dX3_numberOf_27 ?_
      refine z_iinc C 5 rfl (v := (nI (j + 1))) (zinc _) (lv' := [(5, .int (nI (j + 1))), (4, .int (((nOf N f s u j) <<< (8 &&& 31)) ||| (bOf N f s (u + (nI j))))), (0, .ref a), (1, .int s), (2, .int u), (3, .int (nI w))]) rfl (by decide) dX3_numberOf_29 ?_
      refine z_goto C (tgt := 6) dX3_numberOf_32 (by decide) ?_
      refine z_lv (lv' := [(0, .ref a), (1, .int s), (2, .int u), (3, .int (nI w)), (4, .int (((nOf N f s u j) <<< (8 &&& 31)) ||| (bOf N f s (u + (nI j))))), (5, .int (nI (j + 1)))]) [2, 3, 4, 5, 1, 0] rfl ?_
      exact ih6 (j + 1) (by omega)
  refine z_lv (lv' := [(0, .ref a), (1, .int s), (2, .int u), (3, .int (nI w)), (4, .int 0), (5, .int 0)]) [2, 3, 4, 5, 1, 0] rfl ?_
  exact loop6 w 0 (by omega)
abbrev rmX3_setNumber : Room := { frames := 1, cells := 0, slots := 0, locals := 23 }
theorem hyX3_setNumber : yX3_setNumber.cls = RX3 ∧ yX3_setNumber.cls ≠ "java/lang/invoke/MethodHandle" ∧ yX3_setNumber.cls ≠ "java/lang/invoke/VarHandle" ∧ (parseMethodDescriptor yX3_setNumber.desc).map (fun d => d.parameters.length) = some 4 := by decide +kernel
set_option maxHeartbeats 4000000 in
set_option maxRecDepth 100000 in
theorem c_X3_setNumber (E : GE) (N : Nat) (hN : 16 ≤ N ∧ N ≤ 64) (a b : Nat) (f : Nat → Int32) (s u : Int32) (w : Nat) (x : Int32) (hw : w ≤ 4) : zV E yX3_setNumber wsX3_setNumber rmX3_setNumber [.ref a, .int s, .int u, .int (nI w), .int x] (wS E a b N f) (wS E a b N (sN N s u w f x)) := by
  refine zV_of (cc := cX3_setNumber) (maxL := 7) (by decide) rfl (Nat.le_of_ble_eq_true rfl) ?_
  intro K C ret
  replace C : zC E K cX3_setNumber wsX3_setNumber RX3 rmX3_setNumber 7 := C
  show Z E K 0 0 (wS E a b N f) 0 [(0, .ref a), (1, .int s), (2, .int u), (3, .int (nI w)), (4, .int x)] []
  refine z_iload C 4 rfl dX3_setNumber_0 ?_
  refine z_istore C (lv' := [(5, .int x), (0, .ref a), (1, .int s), (2, .int u), (3, .int (nI w)), (4, .int x)]) rfl (by decide) dX3_setNumber_2 ?_
  refine z_iload_n C 4 rfl rfl dX3_setNumber_4 ?_
  refine z_iconst C (v := 1) (by decide) dX3_setNumber_5 ?_
  refine z_isub C dX3_setNumber_6 ?_
  refine z_istore C (lv' := [(6, .int ((nI w) - 1)), (5, .int x), (0, .ref a), (1, .int s), (2, .int u), (3, .int (nI w)), (4, .int x)]) rfl (by decide) dX3_setNumber_7 ?_
  have loop9 : ∀ (n : Nat) (g : Nat → Int32) (y : Int32), n ≤ w → sN N s u n g y = sN N s u w f x → Z E K 0 0 (wS E a b N g) 9 [(0, .ref a), (1, .int s), (2, .int u), (5, .int y), (6, .int (nI n - 1))] [] := by
    intro n
    induction n with
    | zero => 
      intro g y hn hT
      refine z_iload C 4 rfl dX3_setNumber_9 ?_
      refine z_if_lt C (tgt := 38) dX3_setNumber_11 (by decide) (fun h11_1 => ?_) (fun h11_1 => absurd (by decide) h11_1)
      exact ret _ _ _ (by rw [← hT]; rfl) dX3_setNumber_38
    | succ n ih9 => 
      intro g y hn hT
      rw [nI_pred]
      refine z_iload C 4 rfl dX3_setNumber_9 ?_
      refine z_if_lt C (tgt := 38) dX3_setNumber_11 (by decide) (fun h11_2 => absurd h11_2 (nI_pos (by omega))) (fun h11_2 => ?_)
      refine z_aload_n C 0 rfl rfl dX3_setNumber_14 ?_
      refine z_iload_n C 1 rfl rfl dX3_setNumber_15 ?_
      refine z_iload_n C 2 rfl rfl dX3_setNumber_16 ?_
      refine z_iload C 4 rfl dX3_setNumber_17 ?_
      refine z_iadd C dX3_setNumber_19 ?_
      refine z_iload C 3 rfl dX3_setNumber_20 ?_
      refine z_callVV C (c_X3_setByte E N hN a b g s (u + (nI n)) y) gX3_setNumber_X3_setByte (ci := 3) (q0 := 0) rfl rfl hyX3_setByte rfl ⟨rfl, rfl⟩ ⟨by decide, by decide⟩ ⟨by decide, by decide⟩ [0, 1] [] [0, 1] (wr := []) (V' := (wS E a b N (sB N g s (u + (nI n)) y))) rfl rfl (by decide) (by decide) (by decide) rfl (by decide) (st := []) (Nat.le_of_ble_eq_true rfl) dX3_setNumber_22 ?_ rfl
      refine z_iload C 3 rfl dX3_setNumber_25 ?_
      refine z_bipush C (v := 8) (by decide) dX3_setNumber_27 ?_
      refine z_iushr C (v := (ush y 8)) rfl dX3_setNumber_29 ?_
      refine z_istore C (lv' := [(5, .int (ush y 8)), (0, .ref a), (1, .int s), (2, .int u), (6, .int (nI n))]) rfl (by decide) dX3_setNumber_30 ?_
      refine z_iinc C 4 rfl (v := (nI n - 1)) (by rw [Int32.sub_eq_add_neg]; rfl) (lv' := [(6, .int (nI n - 1)), (5, .int (ush y 8)), (0, .ref a), (1, .int s), (2, .int u)]) rfl (by decide) dX3_setNumber_32 ?_
      refine z_goto C (tgt := 9) dX3_setNumber_35 (by decide) ?_
      refine z_lv (lv' := [(0, .ref a), (1, .int s), (2, .int u), (5, .int (ush y 8)), (6, .int (nI n - 1))]) [2, 3, 4, 1, 0] rfl ?_
      exact ih9 _ _ (by omega) hT
  refine z_lv (lv' := [(0, .ref a), (1, .int s), (2, .int u), (5, .int x), (6, .int ((nI w) - 1))]) [2, 3, 4, 1, 0] rfl ?_
  exact loop9 w f x (by omega) rfl
abbrev rmX3_serialOf : Room := { frames := 2, cells := 0, slots := 0, locals := 47 }
theorem hyX3_serialOf : yX3_serialOf.cls = RX3 ∧ yX3_serialOf.cls ≠ "java/lang/invoke/MethodHandle" ∧ yX3_serialOf.cls ≠ "java/lang/invoke/VarHandle" ∧ (parseMethodDescriptor yX3_serialOf.desc).map (fun d => d.parameters.length) = some 1 := by decide +kernel
set_option maxHeartbeats 4000000 in
set_option maxRecDepth 100000 in
theorem c_X3_serialOf (E : GE) (N : Nat) (hN : 16 ≤ N ∧ N ≤ 64) (a b : Nat) (f : Nat → Int32) (s : Int32) : zI E yX3_serialOf wsX3_serialOf rmX3_serialOf [.ref a, .int s] (wS E a b N f) (nOf N f s 1 4) (wS E a b N f) := by
  refine zI_of (cc := cX3_serialOf) (maxL := 2) (ty := .int) (by decide) rfl (vp_nar_int _) (Nat.le_of_ble_eq_true rfl) ?_
  intro K C ret
  replace C : zC E K cX3_serialOf wsX3_serialOf RX3 rmX3_serialOf 2 := C
  show Z E K 0 0 (wS E a b N f) 0 [(0, .ref a), (1, .int s)] []
  refine z_aload_n C 0 rfl rfl dX3_serialOf_0 ?_
  refine z_iload_n C 1 rfl rfl dX3_serialOf_1 ?_
  refine z_iconst C (v := 1) (by decide) dX3_serialOf_2 ?_
  refine z_iconst C (v := 4) (by decide) dX3_serialOf_3 ?_
  refine z_rVI C (c_X3_numberOf E N hN a b f s 1 4 (by decide)) gX3_serialOf_X3_numberOf (ci := 3) (q0 := 0) rfl rfl hyX3_numberOf rfl ⟨rfl, rfl⟩ ⟨by decide, by decide⟩ ⟨by decide, by decide⟩ [0, 1] rfl (by decide) (st := []) (Nat.le_of_ble_eq_true rfl) dX3_serialOf_4 ?_ rfl
  exact ret _ _ _ _ (by first | rfl | (simp only [↓reduceIte]; done) | (simp only [↓reduceIte]; rfl) | (simp [↓reduceIte]; done)) rfl dX3_serialOf_7
abbrev rmX3_sumOf : Room := { frames := 0, cells := 0, slots := 0, locals := 0 }
theorem hyX3_sumOf : yX3_sumOf.cls = RX3 ∧ yX3_sumOf.cls ≠ "java/lang/invoke/MethodHandle" ∧ yX3_sumOf.cls ≠ "java/lang/invoke/VarHandle" ∧ (parseMethodDescriptor yX3_sumOf.desc).map (fun d => d.parameters.length) = some 1 := by decide +kernel
set_option maxHeartbeats 4000000 in
set_option maxRecDepth 100000 in
theorem c_X3_sumOf (E : GE) (N : Nat) (hN : 16 ≤ N ∧ N ≤ 64) (a b : Nat) (f : Nat → Int32) (s : Int32) : zI E yX3_sumOf wsX3_sumOf rmX3_sumOf [.ref a, .int s] (wS E a b N f) (smOf N f s) (wS E a b N f) := by
  refine zI_of (cc := cX3_sumOf) (maxL := 6) (ty := .int) (by decide) rfl (vp_nar_int _) (Nat.le_of_ble_eq_true rfl) ?_
  intro K C ret
  replace C : zC E K cX3_sumOf wsX3_sumOf RX3 rmX3_sumOf 6 := C
  have in3 : ∀ w ∈ wsX30, w ∈ wsX3_sumOf := fun w h => List.mem_cons_of_mem _ (List.mem_append_right _ (h))
  have l18 : zw K (.fieldLink RX3 18 "StoreLog3$Sectors" "size" "I") := C.w (List.mem_cons_of_mem _ (List.mem_append_left _ (List.mem_of_getElem? (i := 0) rfl)))
  have l24 : zw K (.fieldLink RX3 24 "StoreLog3$Sectors" "bytes" "[B") := C.w (List.mem_cons_of_mem _ (List.mem_append_left _ (List.mem_of_getElem? (i := 1) rfl)))
  have l47 : zw K (.constant RX3 47 (-2048144777)) := C.w (List.mem_cons_of_mem _ (List.mem_append_left _ (List.mem_of_getElem? (i := 2) rfl)))
  show Z E K 0 0 (wS E a b N f) 0 [(0, .ref a), (1, .int s)] []
  refine z_iload_n C 1 rfl rfl dX3_sumOf_0 ?_
  refine z_if_lt C (tgt := 12) dX3_sumOf_1 (by decide) (fun h1_1 => ?_) (fun h1_1 => ?_)
  · refine z_iconst C (v := 0) (by decide) dX3_sumOf_12 ?_
    exact ret _ _ _ _ (by first | rfl | (simp only [smOf, h1_1, ↓reduceIte]; done) | (simp only [smOf, h1_1, ↓reduceIte]; rfl) | (simp [smOf, h1_1, ↓reduceIte]; done)) rfl dX3_sumOf_13
  · refine z_iload_n C 1 rfl rfl dX3_sumOf_4 ?_
    refine z_aload_n C 0 rfl rfl dX3_sumOf_5 ?_
    refine z_get C (Cn := RX3) (T := TX3) (Nf := 2) (ci := 3) in3 0 0 l18 (v := .int (nI N)) rfl rfl (by decide) rfl dX3_sumOf_6 ?_
    refine z_icmp_lt C (tgt := 14) dX3_sumOf_9 (by decide) (fun h9_2 => ?_) (fun h9_2 => ?_)
    · refine z_iload_n C 1 rfl rfl dX3_sumOf_14 ?_
      refine z_bipush C (v := 32) (by decide) dX3_sumOf_15 ?_
      refine z_imul C dX3_sumOf_17 ?_
      refine z_istore_n C (lv' := [(2, .int (s * 32)), (0, .ref a), (1, .int s)]) rfl rfl (by decide) dX3_sumOf_18 ?_
      refine z_iload_n C 2 rfl rfl dX3_sumOf_19 ?_
      refine z_iconst C (v := 1) (by decide) dX3_sumOf_20 ?_
      refine z_iadd C dX3_sumOf_21 ?_
      refine z_istore_n C (lv' := [(3, .int (s + 1)), (2, .int (s * 32)), (0, .ref a), (1, .int s)]) rfl rfl (by decide) dX3_sumOf_22 ?_
      refine z_iconst C (v := 0) (by decide) dX3_sumOf_23 ?_
      refine z_istore C (lv' := [(4, .int 0), (3, .int (s + 1)), (2, .int (s * 32)), (0, .ref a), (1, .int s)]) rfl (by decide) dX3_sumOf_24 ?_
      have loop26 : ∀ (n j : Nat), j + n = 28 → Z E K 0 0 (wS E a b N f) 26 [(0, .ref a), (1, .int s), (2, .int (s * 32)), (3, .int (smL f s j)), (4, .int (nI j))] [] := by
        intro n
        induction n with
        | zero => 
          intro j hj
          obtain rfl : j = 28 := by omega
          refine z_iload C 4 rfl dX3_sumOf_26 ?_
          refine z_bipush C (v := 28) (by decide) dX3_sumOf_28 ?_
          refine z_icmp_ge C (tgt := 71) dX3_sumOf_30 (by decide) (fun h30_3 => ?_) (fun h30_3 => absurd (nI_le (a := 28) (b := 28) (Nat.le_refl _) (by omega)) h30_3)
          refine z_iload_n C 3 rfl rfl dX3_sumOf_71 ?_
          exact ret _ _ _ _ (by first | rfl | (simp only [smOf, h1_1, h9_2, h30_3, ↓reduceIte]; done) | (simp only [smOf, h1_1, h9_2, h30_3, ↓reduceIte]; rfl) | (simp [smOf, h1_1, h9_2, h30_3, ↓reduceIte]; done)) rfl dX3_sumOf_72
        | succ n ih26 => 
          intro j hj
          refine z_iload C 4 rfl dX3_sumOf_26 ?_
          refine z_bipush C (v := 28) (by decide) dX3_sumOf_28 ?_
          refine z_icmp_ge C (tgt := 71) dX3_sumOf_30 (by decide) (fun h30_4 => absurd h30_4 (nI_ge (a := j) (b := 28) (by omega) (by omega))) (fun h30_4 => ?_)
          refine z_iload_n C 3 rfl rfl dX3_sumOf_33 ?_
          refine z_aload_n C 0 rfl rfl dX3_sumOf_34 ?_
          refine z_get C (Cn := RX3) (T := TX3) (Nf := 2) (ci := 3) in3 0 1 l24 (v := .ref b) rfl rfl (by decide) rfl dX3_sumOf_35 ?_
          refine z_iload_n C 2 rfl rfl dX3_sumOf_38 ?_
          refine z_iload C 4 rfl dX3_sumOf_39 ?_
          refine z_iadd C dX3_sumOf_41 ?_
          refine z_bald C 1 rfl (zidx2 hN h1_1 h9_2 (by omega)) (v := (f ((s * 32) + (nI j)).toNatClampNeg)) rfl dX3_sumOf_42 ?_
          refine z_sipush C (v := 255) (by decide) dX3_sumOf_43 ?_
          refine z_iand C dX3_sumOf_46 ?_
          refine z_ixor C dX3_sumOf_47 ?_
          refine z_istore C (lv' := [(5, .int ((smL f s j) ^^^ ((f ((s * 32) + (nI j)).toNatClampNeg) &&& 255))), (0, .ref a), (1, .int s), (2, .int (s * 32)), (3, .int (smL f s j)), (4, .int (nI j))]) rfl (by decide) dX3_sumOf_48 ?_
          refine z_iload C 0 rfl dX3_sumOf_50 ?_
          refine z_bipush C (v := 11) (by decide) dX3_sumOf_52 ?_
          refine z_ishl C dX3_sumOf_54 ?_
          refine z_iload C 0 rfl dX3_sumOf_55 ?_
          refine z_bipush C (v := 21) (by decide) dX3_sumOf_57 ?_
          refine z_iushr C (v := (ush ((smL f s j) ^^^ ((f ((s * 32) + (nI j)).toNatClampNeg) &&& 255)) 21)) rfl dX3_sumOf_59 ?_
          refine z_ior C dX3_sumOf_60 ?_
          refine z_ldc C l47 dX3_sumOf_61 ?_
          refine z_imul C dX3_sumOf_63 ?_
          refine z_istore_n C (lv' := [(3, .int (((((smL f s j) ^^^ ((f ((s * 32) + (nI j)).toNatClampNeg) &&& 255)) <<< (11 &&& 31)) ||| (ush ((smL f s j) ^^^ ((f ((s * 32) + (nI j)).toNatClampNeg) &&& 255)) 21)) * (-2048144777))), (5, .int ((smL f s j) ^^^ ((f ((s * 32) + (nI j)).toNatClampNeg) &&& 255))), (0, .ref a), (1, .int s), (2, .int (s * 32)), (4, .int (nI j))]) rfl rfl (by decide) dX3_sumOf_64 ?_
          refine z_iinc C 5 rfl (v := (nI (j + 1))) (zinc _) (lv' := [(4, .int (nI (j + 1))), (3, .int (((((smL f s j) ^^^ ((f ((s * 32) + (nI j)).toNatClampNeg) &&& 255)) <<< (11 &&& 31)) ||| (ush ((smL f s j) ^^^ ((f ((s * 32) + (nI j)).toNatClampNeg) &&& 255)) 21)) * (-2048144777))), (5, .int ((smL f s j) ^^^ ((f ((s * 32) + (nI j)).toNatClampNeg) &&& 255))), (0, .ref a), (1, .int s), (2, .int (s * 32))]) rfl (by decide) dX3_sumOf_65 ?_
          refine z_goto C (tgt := 26) dX3_sumOf_68 (by decide) ?_
          refine z_lv (lv' := [(0, .ref a), (1, .int s), (2, .int (s * 32)), (3, .int (((((smL f s j) ^^^ ((f ((s * 32) + (nI j)).toNatClampNeg) &&& 255)) <<< (11 &&& 31)) ||| (ush ((smL f s j) ^^^ ((f ((s * 32) + (nI j)).toNatClampNeg) &&& 255)) 21)) * (-2048144777))), (4, .int (nI (j + 1)))]) [3, 4, 5, 1, 0] rfl ?_
          exact ih26 (j + 1)  (by omega)
      refine z_lv (lv' := [(0, .ref a), (1, .int s), (2, .int (s * 32)), (3, .int (s + 1)), (4, .int 0)]) [3, 4, 2, 1, 0] rfl ?_
      exact loop26 28 0  (by omega)
    · refine z_iconst C (v := 0) (by decide) dX3_sumOf_12 ?_
      exact ret _ _ _ _ (by first | rfl | (simp only [smOf, h1_1, h9_2, ↓reduceIte]; done) | (simp only [smOf, h1_1, h9_2, ↓reduceIte]; rfl) | (simp [smOf, h1_1, h9_2, ↓reduceIte]; done)) rfl dX3_sumOf_13
abbrev rmX3_isSound : Room := { frames := 2, cells := 0, slots := 0, locals := 47 }
theorem hyX3_isSound : yX3_isSound.cls = RX3 ∧ yX3_isSound.cls ≠ "java/lang/invoke/MethodHandle" ∧ yX3_isSound.cls ≠ "java/lang/invoke/VarHandle" ∧ (parseMethodDescriptor yX3_isSound.desc).map (fun d => d.parameters.length) = some 1 := by decide +kernel
set_option maxHeartbeats 4000000 in
set_option maxRecDepth 100000 in
theorem c_X3_isSound (E : GE) (N : Nat) (hN : 16 ≤ N ∧ N ≤ 64) (a b : Nat) (f : Nat → Int32) (s : Int32) : zI E yX3_isSound wsX3_isSound rmX3_isSound [.ref a, .int s] (wS E a b N f) (isS N f s) (wS E a b N f) := by
  refine zI_of (cc := cX3_isSound) (maxL := 2) (ty := .boolean) (by decide) rfl (by unfold isS; (repeat' split) <;> rfl) (Nat.le_of_ble_eq_true rfl) ?_
  intro K C ret
  replace C : zC E K cX3_isSound wsX3_isSound RX3 rmX3_isSound 2 := C
  show Z E K 0 0 (wS E a b N f) 0 [(0, .ref a), (1, .int s)] []
  refine z_aload_n C 0 rfl rfl dX3_isSound_0 ?_
  refine z_iload_n C 1 rfl rfl dX3_isSound_1 ?_
  refine z_bipush C (v := 28) (by decide) dX3_isSound_2 ?_
  refine z_rVI C (c_X3_byteOf E N hN a b f s 28) gX3_isSound_X3_byteOf (ci := 3) (q0 := 0) rfl rfl hyX3_byteOf rfl ⟨rfl, rfl⟩ ⟨by decide, by decide⟩ ⟨by decide, by decide⟩ [0, 1] rfl (by decide) (st := []) (Nat.le_of_ble_eq_true rfl) dX3_isSound_4 ?_ rfl
  refine z_iconst C (v := (-1)) (by decide) dX3_isSound_7 ?_
  refine z_icmp_eq C (tgt := 31) dX3_isSound_8 (by decide) (fun h8_1 => ?_) (fun h8_1 => ?_)
  · refine z_iconst C (v := 0) (by decide) dX3_isSound_31 ?_
    exact ret _ _ _ _ (by first | rfl | (simp only [isS, h8_1, ↓reduceIte]; done) | (simp only [isS, h8_1, ↓reduceIte]; rfl) | (simp [isS, h8_1, ↓reduceIte]; done)) rfl dX3_isSound_32
  · refine z_aload_n C 0 rfl rfl dX3_isSound_11 ?_
    refine z_iload_n C 1 rfl rfl dX3_isSound_12 ?_
    refine z_bipush C (v := 28) (by decide) dX3_isSound_13 ?_
    refine z_iconst C (v := 4) (by decide) dX3_isSound_15 ?_
    refine z_rVI C (c_X3_numberOf E N hN a b f s 28 4 (by decide)) gX3_isSound_X3_numberOf (ci := 3) (q0 := 0) rfl rfl hyX3_numberOf rfl ⟨rfl, rfl⟩ ⟨by decide, by decide⟩ ⟨by decide, by decide⟩ [0, 1] rfl (by decide) (st := []) (Nat.le_of_ble_eq_true rfl) dX3_isSound_16 ?_ rfl
    refine z_aload_n C 0 rfl rfl dX3_isSound_19 ?_
    refine z_iload_n C 1 rfl rfl dX3_isSound_20 ?_
    refine z_rVI C (c_X3_sumOf E N hN a b f s) gX3_isSound_X3_sumOf (ci := 3) (q0 := 0) rfl rfl hyX3_sumOf rfl ⟨rfl, rfl⟩ ⟨by decide, by decide⟩ ⟨by decide, by decide⟩ [0, 1] rfl (by decide) (st := [.int (nOf N f s 28 4)]) (Nat.le_of_ble_eq_true rfl) dX3_isSound_21 ?_ rfl
    refine z_icmp_ne C (tgt := 31) dX3_isSound_24 (by decide) (fun h24_2 => ?_) (fun h24_2 => ?_)
    · refine z_iconst C (v := 0) (by decide) dX3_isSound_31 ?_
      exact ret _ _ _ _ (by first | rfl | (simp only [isS, h8_1, h24_2, ↓reduceIte]; done) | (simp only [isS, h8_1, h24_2, ↓reduceIte]; rfl) | (simp [isS, h8_1, h24_2, ↓reduceIte]; done)) rfl dX3_isSound_32
    · refine z_iconst C (v := 1) (by decide) dX3_isSound_27 ?_
      refine z_goto C (tgt := 32) dX3_isSound_28 (by decide) ?_
      exact ret _ _ _ _ (by first | rfl | (simp only [isS, h8_1, h24_2, ↓reduceIte]; done) | (simp only [isS, h8_1, h24_2, ↓reduceIte]; rfl) | (simp [isS, h8_1, h24_2, ↓reduceIte]; done)) rfl dX3_isSound_32
abbrev rmX3_prepare : Room := { frames := 2, cells := 0, slots := 0, locals := 49 }
theorem hyX3_prepare : yX3_prepare.cls = RX3 ∧ yX3_prepare.cls ≠ "java/lang/invoke/MethodHandle" ∧ yX3_prepare.cls ≠ "java/lang/invoke/VarHandle" ∧ (parseMethodDescriptor yX3_prepare.desc).map (fun d => d.parameters.length) = some 4 := by decide +kernel
set_option maxHeartbeats 4000000 in
set_option maxRecDepth 100000 in
theorem c_X3_prepare (E : GE) (N : Nat) (hN : 16 ≤ N ∧ N ≤ 64) (a b : Nat) (f : Nat → Int32) (s kd se it : Int32) : zV E yX3_prepare wsX3_prepare rmX3_prepare [.ref a, .int s, .int kd, .int se, .int it] (wS E a b N f) (wS E a b N (prep N f s kd se it)) := by
  refine zV_of (cc := cX3_prepare) (maxL := 6) (by decide) rfl (Nat.le_of_ble_eq_true rfl) ?_
  intro K C ret
  replace C : zC E K cX3_prepare wsX3_prepare RX3 rmX3_prepare 6 := C
  show Z E K 0 0 (wS E a b N f) 0 [(0, .ref a), (1, .int s), (2, .int kd), (3, .int se), (4, .int it)] []
  refine z_iconst C (v := 0) (by decide) dX3_prepare_0 ?_
  refine z_istore C (lv' := [(5, .int 0), (0, .ref a), (1, .int s), (2, .int kd), (3, .int se), (4, .int it)]) rfl (by decide) dX3_prepare_1 ?_
  have loop3 : ∀ (n j : Nat), j + n = 32 → Z E K 0 0 (wS E a b N (clr N f s j)) 3 [(0, .ref a), (1, .int s), (2, .int kd), (3, .int se), (4, .int it), (5, .int (nI j))] [] := by
    intro n
    induction n with
    | zero => 
      intro j hj
      obtain rfl : j = 32 := by omega
      refine z_iload C 5 rfl dX3_prepare_3 ?_
      refine z_bipush C (v := 32) (by decide) dX3_prepare_5 ?_
      refine z_icmp_ge C (tgt := 24) dX3_prepare_7 (by decide) (fun h7_1 => ?_) (fun h7_1 => absurd (nI_le (a := 32) (b := 32) (Nat.le_refl _) (by omega)) h7_1)
      refine z_aload_n C 0 rfl rfl dX3_prepare_24 ?_
      refine z_iload_n C 1 rfl rfl dX3_prepare_25 ?_
      refine z_iconst C (v := 0) (by decide) dX3_prepare_26 ?_
      refine z_iload_n C 2 rfl rfl dX3_prepare_27 ?_
      refine z_callVV C (c_X3_setByte E N hN a b (clr N f s 32) s 0 kd) gX3_prepare_X3_setByte (ci := 3) (q0 := 0) rfl rfl hyX3_setByte rfl ⟨rfl, rfl⟩ ⟨by decide, by decide⟩ ⟨by decide, by decide⟩ [0, 1] [] [0, 1] (wr := []) (V' := (wS E a b N (sB N (clr N f s 32) s 0 kd))) rfl rfl (by decide) (by decide) (by decide) rfl (by decide) (st := []) (Nat.le_of_ble_eq_true rfl) dX3_prepare_28 ?_ rfl
      refine z_aload_n C 0 rfl rfl dX3_prepare_31 ?_
      refine z_iload_n C 1 rfl rfl dX3_prepare_32 ?_
      refine z_iconst C (v := 1) (by decide) dX3_prepare_33 ?_
      refine z_iconst C (v := 4) (by decide) dX3_prepare_34 ?_
      refine z_iload_n C 3 rfl rfl dX3_prepare_35 ?_
      refine z_callVV C (c_X3_setNumber E N hN a b (sB N (clr N f s 32) s 0 kd) s 1 4 se (by decide)) gX3_prepare_X3_setNumber (ci := 3) (q0 := 0) rfl rfl hyX3_setNumber rfl ⟨rfl, rfl⟩ ⟨by decide, by decide⟩ ⟨by decide, by decide⟩ [0, 1] [] [0, 1] (wr := []) (V' := (wS E a b N (sN N s 1 4 (sB N (clr N f s 32) s 0 kd) se))) rfl rfl (by decide) (by decide) (by decide) rfl (by decide) (st := []) (Nat.le_of_ble_eq_true rfl) dX3_prepare_36 ?_ rfl
      refine z_aload_n C 0 rfl rfl dX3_prepare_39 ?_
      refine z_iload_n C 1 rfl rfl dX3_prepare_40 ?_
      refine z_iconst C (v := 5) (by decide) dX3_prepare_41 ?_
      refine z_iload C 4 rfl dX3_prepare_42 ?_
      refine z_callVV C (c_X3_setByte E N hN a b (sN N s 1 4 (sB N (clr N f s 32) s 0 kd) se) s 5 it) gX3_prepare_X3_setByte (ci := 3) (q0 := 0) rfl rfl hyX3_setByte rfl ⟨rfl, rfl⟩ ⟨by decide, by decide⟩ ⟨by decide, by decide⟩ [0, 1] [] [0, 1] (wr := []) (V' := (wS E a b N (sB N (sN N s 1 4 (sB N (clr N f s 32) s 0 kd) se) s 5 it))) rfl rfl (by decide) (by decide) (by decide) rfl (by decide) (st := []) (Nat.le_of_ble_eq_true rfl) dX3_prepare_44 ?_ rfl
      exact ret _ _ _ (by first | rfl | (simp only [h7_1, ↓reduceIte]; done) | (simp only [h7_1, ↓reduceIte]; rfl) | (simp [h7_1, ↓reduceIte]; done)) dX3_prepare_47
    | succ n ih3 => 
      intro j hj
      refine z_iload C 5 rfl dX3_prepare_3 ?_
      refine z_bipush C (v := 32) (by decide) dX3_prepare_5 ?_
      refine z_icmp_ge C (tgt := 24) dX3_prepare_7 (by decide) (fun h7_2 => absurd h7_2 (nI_ge (a := j) (b := 32) (by omega) (by omega))) (fun h7_2 => ?_)
      refine z_aload_n C 0 rfl rfl dX3_prepare_10 ?_
      refine z_iload_n C 1 rfl rfl dX3_prepare_11 ?_
      refine z_iload C 5 rfl dX3_prepare_12 ?_
      refine z_iconst C (v := 0) (by decide) dX3_prepare_14 ?_
      refine z_callVV C (c_X3_setByte E N hN a b (clr N f s j) s (nI j) 0) gX3_prepare_X3_setByte (ci := 3) (q0 := 0) rfl rfl hyX3_setByte rfl ⟨rfl, rfl⟩ ⟨by decide, by decide⟩ ⟨by decide, by decide⟩ [0, 1] [] [0, 1] (wr := []) (V' := (wS E a b N (sB N (clr N f s j) s (nI j) 0))) rfl rfl (by decide) (by decide) (by decide) rfl (by decide) (st := []) (Nat.le_of_ble_eq_true rfl) dX3_prepare_15 ?_ rfl
      refine z_iinc C 5 rfl (v := (nI (j + 1))) (zinc _) (lv' := [(5, .int (nI (j + 1))), (0, .ref a), (1, .int s), (2, .int kd), (3, .int se), (4, .int it)]) rfl (by decide) dX3_prepare_18 ?_
      refine z_goto C (tgt := 3) dX3_prepare_21 (by decide) ?_
      refine z_lv (lv' := [(0, .ref a), (1, .int s), (2, .int kd), (3, .int se), (4, .int it), (5, .int (nI (j + 1)))]) [1, 2, 3, 4, 5, 0] rfl ?_
      exact ih3 (j + 1)  (by omega)
  refine z_lv (lv' := [(0, .ref a), (1, .int s), (2, .int kd), (3, .int se), (4, .int it), (5, .int 0)]) [1, 2, 3, 4, 5, 0] rfl ?_
  exact loop3 32 0  (by omega)
abbrev rmX3_seal : Room := { frames := 2, cells := 0, slots := 0, locals := 49 }
theorem hyX3_seal : yX3_seal.cls = RX3 ∧ yX3_seal.cls ≠ "java/lang/invoke/MethodHandle" ∧ yX3_seal.cls ≠ "java/lang/invoke/VarHandle" ∧ (parseMethodDescriptor yX3_seal.desc).map (fun d => d.parameters.length) = some 1 := by decide +kernel
set_option maxHeartbeats 4000000 in
set_option maxRecDepth 100000 in
theorem c_X3_seal (E : GE) (N : Nat) (hN : 16 ≤ N ∧ N ≤ 64) (a b : Nat) (f : Nat → Int32) (s : Int32) : zV E yX3_seal wsX3_seal rmX3_seal [.ref a, .int s] (wS E a b N f) (wS E a b N (sealS N f s)) := by
  refine zV_of (cc := cX3_seal) (maxL := 2) (by decide) rfl (Nat.le_of_ble_eq_true rfl) ?_
  intro K C ret
  replace C : zC E K cX3_seal wsX3_seal RX3 rmX3_seal 2 := C
  show Z E K 0 0 (wS E a b N f) 0 [(0, .ref a), (1, .int s)] []
  refine z_aload_n C 0 rfl rfl dX3_seal_0 ?_
  refine z_iload_n C 1 rfl rfl dX3_seal_1 ?_
  refine z_bipush C (v := 28) (by decide) dX3_seal_2 ?_
  refine z_iconst C (v := 4) (by decide) dX3_seal_4 ?_
  refine z_aload_n C 0 rfl rfl dX3_seal_5 ?_
  refine z_iload_n C 1 rfl rfl dX3_seal_6 ?_
  refine z_rVI C (c_X3_sumOf E N hN a b f s) gX3_seal_X3_sumOf (ci := 3) (q0 := 0) rfl rfl hyX3_sumOf rfl ⟨rfl, rfl⟩ ⟨by decide, by decide⟩ ⟨by decide, by decide⟩ [0, 1] rfl (by decide) (st := [.int 4, .int 28, .int s, .ref a]) (Nat.le_of_ble_eq_true rfl) dX3_seal_7 ?_ rfl
  refine z_callVV C (c_X3_setNumber E N hN a b f s 28 4 (smOf N f s) (by decide)) gX3_seal_X3_setNumber (ci := 3) (q0 := 0) rfl rfl hyX3_setNumber rfl ⟨rfl, rfl⟩ ⟨by decide, by decide⟩ ⟨by decide, by decide⟩ [0, 1] [] [0, 1] (wr := []) (V' := (wS E a b N (sN N s 28 4 f (smOf N f s)))) rfl rfl (by decide) (by decide) (by decide) rfl (by decide) (st := []) (Nat.le_of_ble_eq_true rfl) dX3_seal_10 ?_ rfl
  exact ret _ _ _ (by first | rfl | (simp only [↓reduceIte]; done) | (simp only [↓reduceIte]; rfl) | (simp [↓reduceIte]; done)) dX3_seal_13
abbrev rmX3_copyStart : Room := { frames := 1, cells := 0, slots := 0, locals := 23 }
theorem hyX3_copyStart : yX3_copyStart.cls = RX3 ∧ yX3_copyStart.cls ≠ "java/lang/invoke/MethodHandle" ∧ yX3_copyStart.cls ≠ "java/lang/invoke/VarHandle" ∧ (parseMethodDescriptor yX3_copyStart.desc).map (fun d => d.parameters.length) = some 3 := by decide +kernel
set_option maxHeartbeats 4000000 in
set_option maxRecDepth 100000 in
theorem c_X3_copyStart (E : GE) (N : Nat) (hN : 16 ≤ N ∧ N ≤ 64) (a b : Nat) (f : Nat → Int32) (a2 b2 : Nat) (g : Nat → Int32) (s : Int32) (L : Nat) (hL : L ≤ 32) : zV E yX3_copyStart wsX3_copyStart rmX3_copyStart [.ref a, .ref a2, .int s, .int (nI L)] ((wS E a b N f) ++ (wS E a2 b2 N g)) ((wS E a b N (cpS N f g s L)) ++ (wS E a2 b2 N g)) := by
  refine zV_of (cc := cX3_copyStart) (maxL := 5) (by decide) rfl (Nat.le_of_ble_eq_true rfl) ?_
  intro K C ret
  replace C : zC E K cX3_copyStart wsX3_copyStart RX3 rmX3_copyStart 5 := C
  show Z E K 0 0 ((wS E a b N f) ++ (wS E a2 b2 N g)) 0 [(0, .ref a), (1, .ref a2), (2, .int s), (3, .int (nI L))] []
  refine z_iconst C (v := 0) (by decide) dX3_copyStart_0 ?_
  refine z_istore C (lv' := [(4, .int 0), (0, .ref a), (1, .ref a2), (2, .int s), (3, .int (nI L))]) rfl (by decide) dX3_copyStart_1 ?_
  have loop3 : ∀ (n j : Nat), j + n = L → Z E K 0 0 ((wS E a b N (cpS N f g s j)) ++ (wS E a2 b2 N g)) 3 [(0, .ref a), (1, .ref a2), (2, .int s), (3, .int (nI L)), (4, .int (nI j))] [] := by
    intro n
    induction n with
    | zero => 
      intro j hj
      obtain rfl : L = j := by omega
      refine z_iload C 4 rfl dX3_copyStart_3 ?_
      refine z_iload_n C 3 rfl rfl dX3_copyStart_5 ?_
      refine z_icmp_ge C (tgt := 36) dX3_copyStart_6 (by decide) (fun h6_1 => ?_) (fun h6_1 => absurd (nI_le (a := L) (b := L) (Nat.le_refl _) (by omega)) h6_1)
      exact ret _ _ _ (by first | rfl | (simp only [h6_1, ↓reduceIte]; done) | (simp only [h6_1, ↓reduceIte]; rfl) | (simp [h6_1, ↓reduceIte]; done)) dX3_copyStart_36
    | succ n ih3 => 
      intro j hj
      refine z_iload C 4 rfl dX3_copyStart_3 ?_
      refine z_iload_n C 3 rfl rfl dX3_copyStart_5 ?_
      refine z_icmp_ge C (tgt := 36) dX3_copyStart_6 (by decide) (fun h6_2 => absurd h6_2 (nI_ge (a := j) (b := L) (by omega) (by omega))) (fun h6_2 => ?_)
      refine z_iload C 4 rfl dX3_copyStart_9 ?_
      refine z_bipush C (v := 32) (by decide) dX3_copyStart_11 ?_
      refine z_icmp_ge C (tgt := 36) dX3_copyStart_13 (by decide) (fun h13_3 => absurd h13_3 (nI_ge (a := j) (b := 32) (by omega) (by omega))) (fun h13_3 => ?_)
      refine z_aload_n C 0 rfl rfl dX3_copyStart_16 ?_
      refine z_iload_n C 2 rfl rfl dX3_copyStart_17 ?_
      refine z_iload C 4 rfl dX3_copyStart_18 ?_
      refine z_aload_n C 1 rfl rfl dX3_copyStart_20 ?_
      refine z_iload_n C 2 rfl rfl dX3_copyStart_21 ?_
      refine z_iload C 4 rfl dX3_copyStart_22 ?_
      refine z_rVI C (c_X3_byteOf E N hN a2 b2 g s (nI j)) gX3_copyStart_X3_byteOf (ci := 3) (q0 := 0) rfl rfl hyX3_byteOf rfl ⟨rfl, rfl⟩ ⟨by decide, by decide⟩ ⟨by decide, by decide⟩ [2, 3] rfl (by decide) (st := [.int (nI j), .int s, .ref a]) (Nat.le_of_ble_eq_true rfl) dX3_copyStart_24 ?_ rfl
      refine z_callVV C (c_X3_setByte E N hN a b (cpS N f g s j) s (nI j) (bOf N g s (nI j))) gX3_copyStart_X3_setByte (ci := 3) (q0 := 0) rfl rfl hyX3_setByte rfl ⟨rfl, rfl⟩ ⟨by decide, by decide⟩ ⟨by decide, by decide⟩ [0, 1] [2, 3] [2, 3, 0, 1] (wr := [(a2, .inr (3, [.int (nI N), .ref b2])), (b2, .inl (gB E, 32 * N, .inl g))]) (V' := ((wS E a b N (sB N (cpS N f g s j) s (nI j) (bOf N g s (nI j)))) ++ (wS E a2 b2 N g))) rfl rfl (by decide) (by decide) (by decide) rfl (by decide) (st := []) (Nat.le_of_ble_eq_true rfl) dX3_copyStart_27 ?_ rfl
      refine z_iinc C 4 rfl (v := (nI (j + 1))) (zinc _) (lv' := [(4, .int (nI (j + 1))), (0, .ref a), (1, .ref a2), (2, .int s), (3, .int (nI L))]) rfl (by decide) dX3_copyStart_30 ?_
      refine z_goto C (tgt := 3) dX3_copyStart_33 (by decide) ?_
      refine z_lv (lv' := [(0, .ref a), (1, .ref a2), (2, .int s), (3, .int (nI L)), (4, .int (nI (j + 1)))]) [1, 2, 3, 4, 0] rfl ?_
      exact ih3 (j + 1)  (by omega)
  refine z_lv (lv' := [(0, .ref a), (1, .ref a2), (2, .int s), (3, .int (nI L)), (4, .int 0)]) [1, 2, 3, 4, 0] rfl ?_
  exact loop3 L 0  (by omega)
abbrev rmX3_clear : Room := { frames := 0, cells := 0, slots := 0, locals := 0 }
theorem hyX3_clear : yX3_clear.cls = RX3 ∧ yX3_clear.cls ≠ "java/lang/invoke/MethodHandle" ∧ yX3_clear.cls ≠ "java/lang/invoke/VarHandle" ∧ (parseMethodDescriptor yX3_clear.desc).map (fun d => d.parameters.length) = some 0 := by decide +kernel
set_option maxHeartbeats 4000000 in
set_option maxRecDepth 100000 in
theorem c_X3_clear (E : GE) (N : Nat) (hN : 16 ≤ N ∧ N ≤ 64) (a b : Nat) (f : Nat → Int32) : zV E yX3_clear wsX3_clear rmX3_clear [.ref a] (wS E a b N f) (wS E a b N (clA f (32 * N))) := by
  refine zV_of (cc := cX3_clear) (maxL := 2) (by decide) rfl (Nat.le_of_ble_eq_true rfl) ?_
  intro K C ret
  replace C : zC E K cX3_clear wsX3_clear RX3 rmX3_clear 2 := C
  have in3 : ∀ w ∈ wsX30, w ∈ wsX3_clear := fun w h => List.mem_cons_of_mem _ (List.mem_append_right _ (h))
  have l24 : zw K (.fieldLink RX3 24 "StoreLog3$Sectors" "bytes" "[B") := C.w (List.mem_cons_of_mem _ (List.mem_append_left _ (List.mem_of_getElem? (i := 0) rfl)))
  show Z E K 0 0 (wS E a b N f) 0 [(0, .ref a)] []
  refine z_iconst C (v := 0) (by decide) dX3_clear_0 ?_
  refine z_istore_n C (lv' := [(1, .int 0), (0, .ref a)]) rfl rfl (by decide) dX3_clear_1 ?_
  have loop2 : ∀ (n j : Nat), j + n = 32 * N → Z E K 0 0 (wS E a b N (clA f j)) 2 [(0, .ref a), (1, .int (nI j))] [] := by
    intro n
    induction n with
    | zero => 
      intro j hj
      have hjB : j = 32 * N := by omega
      subst hjB
      refine z_iload_n C 1 rfl rfl dX3_clear_2 ?_
      refine z_aload_n C 0 rfl rfl dX3_clear_3 ?_
      refine z_get C (Cn := RX3) (T := TX3) (Nf := 2) (ci := 3) in3 0 1 l24 (v := .ref b) rfl rfl (by decide) rfl dX3_clear_4 ?_
      refine z_balen C 1 rfl (v := (nI (32 * N))) rfl dX3_clear_7 ?_
      refine z_icmp_ge C (tgt := 24) dX3_clear_8 (by decide) (fun h8_1 => ?_) (fun h8_1 => absurd (nI_le (a := 32 * N) (b := 32 * N) (Nat.le_refl _) (by omega)) h8_1)
      exact ret _ _ _ (by first | rfl | (simp only [h8_1, ↓reduceIte]; done) | (simp only [h8_1, ↓reduceIte]; rfl) | (simp [h8_1, ↓reduceIte]; done)) dX3_clear_24
    | succ n ih2 => 
      intro j hj
      refine z_iload_n C 1 rfl rfl dX3_clear_2 ?_
      refine z_aload_n C 0 rfl rfl dX3_clear_3 ?_
      refine z_get C (Cn := RX3) (T := TX3) (Nf := 2) (ci := 3) in3 0 1 l24 (v := .ref b) rfl rfl (by decide) rfl dX3_clear_4 ?_
      refine z_balen C 1 rfl (v := (nI (32 * N))) rfl dX3_clear_7 ?_
      refine z_icmp_ge C (tgt := 24) dX3_clear_8 (by decide) (fun h8_2 => absurd h8_2 (nI_ge (a := j) (b := 32 * N) (by omega) (by omega))) (fun h8_2 => ?_)
      refine z_aload_n C 0 rfl rfl dX3_clear_11 ?_
      refine z_get C (Cn := RX3) (T := TX3) (Nf := 2) (ci := 3) in3 0 1 l24 (v := .ref b) rfl rfl (by decide) rfl dX3_clear_12 ?_
      refine z_iload_n C 1 rfl rfl dX3_clear_15 ?_
      refine z_iconst C (v := 0) (by decide) dX3_clear_16 ?_
      refine z_bast C 1 rfl (vp_in_nI (by omega) (by omega)) (g := (upd (clA f j) j 0)) (by rw [b8_0, nI_clamp (by omega)]) (V' := (wS E a b N (upd (clA f j) j 0))) rfl dX3_clear_17 ?_
      refine z_iinc C 1 rfl (v := (nI (j + 1))) (zinc _) (lv' := [(1, .int (nI (j + 1))), (0, .ref a)]) rfl (by decide) dX3_clear_18 ?_
      refine z_goto C (tgt := 2) dX3_clear_21 (by decide) ?_
      refine z_lv (lv' := [(0, .ref a), (1, .int (nI (j + 1)))]) [1, 0] rfl ?_
      exact ih2 (j + 1)  (by omega)
  refine z_lv (lv' := [(0, .ref a), (1, .int 0)]) [1, 0] rfl ?_
  exact loop2 (32 * N) 0  (by omega)
end
section
/-! Part 11: the dictionary -/
theorem isK_in {k : Int32} (h : ¬ isK k = 0) : vp_in k 32 := by
  unfold isK at h
  by_cases h1 : k < 0
  · simp [h1] at h
  · by_cases h2 : (32 : Int32) ≤ k
    · simp [h1, h2] at h
    · have a1 := znlt h1
      have a2 := znle h2
      exact zvin (by simpa using a1) (by simpa using a2)
def dIsO (D : DS) (t : Int32) : Int32 := if isT t = 0 then 0 else if (dOp D >>> (t &&& 31)) &&& 1 = 1 then 1 else 0
def opL (D : DS) : Nat → Nat → Int32 × DS
  | 0, _ => (-1, D)
  | n + 1, j => if dIsO D (nI j) = 0 then (nI j, dsOp D (dOp D ||| (1 <<< (nI j &&& 31)))) else opL D n (j + 1)
def dHolder (D : DS) (k : Int32) : Int32 := if isK k = 0 then -1 else dHo D k.toNatClampNeg
def dValue (D : DS) (k : Int32) : Int32 := if isK k = 0 then -1 else dCo D k.toNatClampNeg
def dFor (D : DS) (t k : Int32) : Int32 := if isK k = 0 then -1 else if dHo D k.toNatClampNeg = t then dCh D k.toNatClampNeg else dCo D k.toNatClampNeg
def dSetC (D : DS) (k v : Int32) : DS := if isK k = 0 then D else dsCo D (upd (dCo D) k.toNatClampNeg v)
def dChg (D : DS) (t k v : Int32) : DS := if isT t = 0 then D else if isK k = 0 then D else dsCh (dsHo (dsOp D (dOp D ||| (1 <<< (t &&& 31)))) (upd (dHo D) k.toNatClampNeg t)) (upd (dCh D) k.toNatClampNeg v)
def clS (t kp : Int32) (j : Nat) (x : Int32 × DS) : Int32 × DS := if dHo x.2 j = t then (x.1 + 1, dsCo (dsHo x.2 (upd (dHo x.2) j (-1))) (upd (dCo x.2) j (if kp = 0 then dCo x.2 j else dCh x.2 j))) else x
def clL (t kp : Int32) : Nat → Nat → Int32 × DS → Int32 × DS
  | 0, _, x => x
  | n + 1, j, x => clL t kp n (j + 1) (clS t kp j x)
def dClose (D : DS) (t kp : Int32) : Int32 × DS := if dIsO D t = 0 then (0, D) else ((clL t kp 32 0 (0, D)).1, dsOp (clL t kp 32 0 (0, D)).2 (dOp (clL t kp 32 0 (0, D)).2 &&& ((1 <<< (t &&& 31)) ^^^ (-1))))
def pgF (D : DS) : Nat → Int32 × Int32
  | 0 => (0, 1)
  | n + 1 => if dCo D n = -1 then pgF D n else if (pgF D n).1 + 1 ≤ (pgF D n).2 * 5 then ((pgF D n).1 + 1, (pgF D n).2) else ((pgF D n).1 + 1, (pgF D n).2 + 1)
def nxN (D : DS) : Nat → Nat → Nat
  | 0, _ => 32
  | n + 1, j => if dCo D j = -1 then nxN D n (j + 1) else j
def dcl (D : DS) : Nat → DS
  | 0 => D
  | n + 1 => dsHo (dsCh (dsCo (dcl D n) (upd (dCo (dcl D n)) n (-1))) (upd (dCh (dcl D n)) n (-1))) (upd (dHo (dcl D n)) n (-1))
def dClear (D : DS) : DS := dsOp (dcl D 32) 0
abbrev rmX0_isOpen : Room := { frames := 1, cells := 0, slots := 0, locals := 20 }
theorem hyX0_isOpen : yX0_isOpen.cls = RX0 ∧ yX0_isOpen.cls ≠ "java/lang/invoke/MethodHandle" ∧ yX0_isOpen.cls ≠ "java/lang/invoke/VarHandle" ∧ (parseMethodDescriptor yX0_isOpen.desc).map (fun d => d.parameters.length) = some 1 := by decide +kernel
set_option maxHeartbeats 4000000 in
set_option maxRecDepth 100000 in
theorem c_X0_isOpen (E : GE) (a : Nat → Nat) (D : DS) (t : Int32) : zI E yX0_isOpen wsX0_isOpen rmX0_isOpen [.ref (a 0), .int t] (wD E a D) (dIsO D t) (wD E a D) := by
  refine zI_of (cc := cX0_isOpen) (maxL := 2) (ty := .boolean) (by decide) rfl (by unfold dIsO; (repeat' split) <;> rfl) (Nat.le_of_ble_eq_true rfl) ?_
  intro K C ret
  replace C : zC E K cX0_isOpen wsX0_isOpen RX0 rmX0_isOpen 2 := C
  have in0 : ∀ w ∈ wsX00, w ∈ wsX0_isOpen := fun w h => List.mem_cons_of_mem _ (List.mem_append_right _ (h))
  have l24 : zw K (.fieldLink RX0 24 "StoreLog3$Dictionary" "open" "I") := C.w (List.mem_cons_of_mem _ (List.mem_append_left _ (List.mem_of_getElem? (i := 0) rfl)))
  show Z E K 0 0 (wD E a D) 0 [(0, .ref (a 0)), (1, .int t)] []
  refine z_iload_n C 1 rfl rfl dX0_isOpen_0 ?_
  refine z_rNI C (c_X4_isTransaction E t) gX0_isOpen_X4_isTransaction_n32 (fun _ h => h.2.2.1) (C.w (List.mem_cons_of_mem _ (List.mem_append_left _ (List.mem_of_getElem? (i := 2) rfl)))) (C.w (List.mem_cons_of_mem _ (List.mem_append_left _ (List.mem_of_getElem? (i := 1) rfl)))) hyX4_isTransaction.2 rfl ⟨rfl, rfl⟩ ⟨by decide, by decide⟩ ⟨by decide, by decide⟩ [] rfl (by decide) (st := []) (Nat.le_of_ble_eq_true rfl) dX0_isOpen_1 ?_ rfl
  refine z_if_eq C (tgt := 23) dX0_isOpen_4 (by decide) (fun h4_1 => ?_) (fun h4_1 => ?_)
  · refine z_iconst C (v := 0) (by decide) dX0_isOpen_23 ?_
    exact ret _ _ _ _ (by first | rfl | (simp only [dIsO, h4_1, ↓reduceIte]; done) | (simp only [dIsO, h4_1, ↓reduceIte]; rfl) | (simp [dIsO, h4_1, ↓reduceIte]; done)) rfl dX0_isOpen_24
  · refine z_aload_n C 0 rfl rfl dX0_isOpen_7 ?_
    refine z_get C (Cn := RX0) (T := TX0) (Nf := 4) (ci := 0) in0 0 3 l24 (v := .int (dOp D)) rfl rfl (by decide) rfl dX0_isOpen_8 ?_
    refine z_iload_n C 1 rfl rfl dX0_isOpen_11 ?_
    refine z_ishr C dX0_isOpen_12 ?_
    refine z_iconst C (v := 1) (by decide) dX0_isOpen_13 ?_
    refine z_iand C dX0_isOpen_14 ?_
    refine z_iconst C (v := 1) (by decide) dX0_isOpen_15 ?_
    refine z_icmp_ne C (tgt := 23) dX0_isOpen_16 (by decide) (fun h16_2 => ?_) (fun h16_2 => ?_)
    · refine z_iconst C (v := 0) (by decide) dX0_isOpen_23 ?_
      exact ret _ _ _ _ (by first | rfl | (simp only [dIsO, h4_1, h16_2, ↓reduceIte]; done) | (simp only [dIsO, h4_1, h16_2, ↓reduceIte]; rfl) | (simp [dIsO, h4_1, h16_2, ↓reduceIte]; done)) rfl dX0_isOpen_24
    · refine z_iconst C (v := 1) (by decide) dX0_isOpen_19 ?_
      refine z_goto C (tgt := 24) dX0_isOpen_20 (by decide) ?_
      exact ret _ _ _ _ (by first | rfl | (simp only [dIsO, h4_1, h16_2, ↓reduceIte]; done) | (simp only [dIsO, h4_1, h16_2, ↓reduceIte]; rfl) | (simp [dIsO, h4_1, h16_2, ↓reduceIte]; done)) rfl dX0_isOpen_24
abbrev rmX0_openLeast : Room := { frames := 2, cells := 0, slots := 0, locals := 41 }
theorem hyX0_openLeast : yX0_openLeast.cls = RX0 ∧ yX0_openLeast.cls ≠ "java/lang/invoke/MethodHandle" ∧ yX0_openLeast.cls ≠ "java/lang/invoke/VarHandle" ∧ (parseMethodDescriptor yX0_openLeast.desc).map (fun d => d.parameters.length) = some 0 := by decide +kernel
set_option maxHeartbeats 4000000 in
set_option maxRecDepth 100000 in
theorem c_X0_openLeast (E : GE) (a : Nat → Nat) (D : DS) : zI E yX0_openLeast wsX0_openLeast rmX0_openLeast [.ref (a 0)] (wD E a D) ((opL D 3 0).1) (wD E a ((opL D 3 0).2)) := by
  refine zI_of (cc := cX0_openLeast) (maxL := 2) (ty := .int) (by decide) rfl (vp_nar_int _) (Nat.le_of_ble_eq_true rfl) ?_
  intro K C ret
  replace C : zC E K cX0_openLeast wsX0_openLeast RX0 rmX0_openLeast 2 := C
  have in0 : ∀ w ∈ wsX00, w ∈ wsX0_openLeast := fun w h => List.mem_cons_of_mem _ (List.mem_append_right _ (h))
  have l24 : zw K (.fieldLink RX0 24 "StoreLog3$Dictionary" "open" "I") := C.w (List.mem_cons_of_mem _ (List.mem_append_left _ (List.mem_of_getElem? (i := 0) rfl)))
  show Z E K 0 0 (wD E a D) 0 [(0, .ref (a 0))] []
  refine z_iconst C (v := 0) (by decide) dX0_openLeast_0 ?_
  refine z_istore_n C (lv' := [(1, .int 0), (0, .ref (a 0))]) rfl rfl (by decide) dX0_openLeast_1 ?_
  have loop2 : ∀ (n j : Nat), j + n = 3 → opL D n j = opL D 3 0 → Z E K 0 0 (wD E a D) 2 [(0, .ref (a 0)), (1, .int (nI j))] [] := by
    intro n
    induction n with
    | zero => 
      intro j hj hT
      obtain rfl : j = 3 := by omega
      refine z_iload_n C 1 rfl rfl dX0_openLeast_2 ?_
      refine z_iconst C (v := 3) (by decide) dX0_openLeast_3 ?_
      refine z_icmp_ge C (tgt := 35) dX0_openLeast_4 (by decide) (fun h4_1 => ?_) (fun h4_1 => absurd (nI_le (a := 3) (b := 3) (Nat.le_refl _) (by omega)) h4_1)
      refine z_iconst C (v := (-1)) (by decide) dX0_openLeast_35 ?_
      exact ret _ _ _ _ (by rw [← hT]; first | rfl | (simp only [opL, h4_1, ↓reduceIte]; done) | (simp only [opL, h4_1, ↓reduceIte]; rfl)) (by rw [← hT]; first | rfl | (simp only [opL, h4_1, ↓reduceIte]; done) | (simp only [opL, h4_1, ↓reduceIte]; rfl)) dX0_openLeast_36
    | succ n ih2 => 
      intro j hj hT
      refine z_iload_n C 1 rfl rfl dX0_openLeast_2 ?_
      refine z_iconst C (v := 3) (by decide) dX0_openLeast_3 ?_
      refine z_icmp_ge C (tgt := 35) dX0_openLeast_4 (by decide) (fun h4_2 => absurd h4_2 (nI_ge (a := j) (b := 3) (by omega) (by omega))) (fun h4_2 => ?_)
      refine z_aload_n C 0 rfl rfl dX0_openLeast_7 ?_
      refine z_iload_n C 1 rfl rfl dX0_openLeast_8 ?_
      refine z_rVI C (c_X0_isOpen E a D (nI j)) gX0_openLeast_X0_isOpen (ci := 0) (q0 := 0) rfl rfl hyX0_isOpen rfl ⟨rfl, rfl⟩ ⟨by decide, by decide⟩ ⟨by decide, by decide⟩ [0, 1, 2, 3] rfl (by decide) (st := []) (Nat.le_of_ble_eq_true rfl) dX0_openLeast_9 ?_ rfl
      refine z_if_ne C (tgt := 29) dX0_openLeast_12 (by decide) (fun h12_3 => ?_) (fun h12_3 => ?_)
      · refine z_iinc C 1 rfl (v := (nI (j + 1))) (zinc _) (lv' := [(1, .int (nI (j + 1))), (0, .ref (a 0))]) rfl (by decide) dX0_openLeast_29 ?_
        refine z_goto C (tgt := 2) dX0_openLeast_32 (by decide) ?_
        refine z_lv (lv' := [(0, .ref (a 0)), (1, .int (nI (j + 1)))]) [1, 0] rfl ?_
        exact ih2 (j + 1) (by omega) (by rw [← hT]; simp only [opL, h4_2, h12_3, ↓reduceIte])
      · refine z_aload_n C 0 rfl rfl dX0_openLeast_15 ?_
        refine z_dup C rfl dX0_openLeast_16 ?_
        refine z_get C (Cn := RX0) (T := TX0) (Nf := 4) (ci := 0) in0 0 3 l24 (v := .int (dOp D)) rfl rfl (by decide) rfl dX0_openLeast_17 ?_
        refine z_iconst C (v := 1) (by decide) dX0_openLeast_20 ?_
        refine z_iload_n C 1 rfl rfl dX0_openLeast_21 ?_
        refine z_ishl C dX0_openLeast_22 ?_
        refine z_ior C dX0_openLeast_23 ?_
        refine z_put C (Cn := RX0) (T := TX0) (Nf := 4) (ci := 0) in0 0 3 l24 rfl rfl (by decide) tyX0 tyX0_ok nmX0 rfl rfl rfl (Nat.le_of_ble_eq_true rfl) (V' := (wD E a (dsOp D ((dOp D) ||| (1 <<< ((nI j) &&& 31)))))) rfl dX0_openLeast_24 ?_
        refine z_iload_n C 1 rfl rfl dX0_openLeast_27 ?_
        exact ret _ _ _ _ (by rw [← hT]; first | rfl | (simp only [opL, h4_2, h12_3, ↓reduceIte]; done) | (simp only [opL, h4_2, h12_3, ↓reduceIte]; rfl)) (by rw [← hT]; first | rfl | (simp only [opL, h4_2, h12_3, ↓reduceIte]; done) | (simp only [opL, h4_2, h12_3, ↓reduceIte]; rfl)) dX0_openLeast_28
  refine z_lv (lv' := [(0, .ref (a 0)), (1, .int 0)]) [1, 0] rfl ?_
  exact loop2 3 0  (by omega) rfl
abbrev rmX0_openBits : Room := { frames := 0, cells := 0, slots := 0, locals := 0 }
theorem hyX0_openBits : yX0_openBits.cls = RX0 ∧ yX0_openBits.cls ≠ "java/lang/invoke/MethodHandle" ∧ yX0_openBits.cls ≠ "java/lang/invoke/VarHandle" ∧ (parseMethodDescriptor yX0_openBits.desc).map (fun d => d.parameters.length) = some 0 := by decide +kernel
set_option maxHeartbeats 4000000 in
set_option maxRecDepth 100000 in
theorem c_X0_openBits (E : GE) (a : Nat → Nat) (D : DS) : zI E yX0_openBits wsX0_openBits rmX0_openBits [.ref (a 0)] (wD E a D) (dOp D) (wD E a D) := by
  refine zI_of (cc := cX0_openBits) (maxL := 1) (ty := .int) (by decide) rfl (vp_nar_int _) (Nat.le_of_ble_eq_true rfl) ?_
  intro K C ret
  replace C : zC E K cX0_openBits wsX0_openBits RX0 rmX0_openBits 1 := C
  have in0 : ∀ w ∈ wsX00, w ∈ wsX0_openBits := fun w h => List.mem_cons_of_mem _ (List.mem_append_right _ (h))
  have l24 : zw K (.fieldLink RX0 24 "StoreLog3$Dictionary" "open" "I") := C.w (List.mem_cons_of_mem _ (List.mem_append_left _ (List.mem_of_getElem? (i := 0) rfl)))
  show Z E K 0 0 (wD E a D) 0 [(0, .ref (a 0))] []
  refine z_aload_n C 0 rfl rfl dX0_openBits_0 ?_
  refine z_get C (Cn := RX0) (T := TX0) (Nf := 4) (ci := 0) in0 0 3 l24 (v := .int (dOp D)) rfl rfl (by decide) rfl dX0_openBits_1 ?_
  exact ret _ _ _ _ (by first | rfl | (simp only [↓reduceIte]; done) | (simp only [↓reduceIte]; rfl) | (simp [↓reduceIte]; done)) rfl dX0_openBits_4
abbrev rmX0_holderOf : Room := { frames := 1, cells := 0, slots := 0, locals := 20 }
theorem hyX0_holderOf : yX0_holderOf.cls = RX0 ∧ yX0_holderOf.cls ≠ "java/lang/invoke/MethodHandle" ∧ yX0_holderOf.cls ≠ "java/lang/invoke/VarHandle" ∧ (parseMethodDescriptor yX0_holderOf.desc).map (fun d => d.parameters.length) = some 1 := by decide +kernel
set_option maxHeartbeats 4000000 in
set_option maxRecDepth 100000 in
theorem c_X0_holderOf (E : GE) (a : Nat → Nat) (D : DS) (k : Int32) : zI E yX0_holderOf wsX0_holderOf rmX0_holderOf [.ref (a 0), .int k] (wD E a D) (dHolder D k) (wD E a D) := by
  refine zI_of (cc := cX0_holderOf) (maxL := 2) (ty := .int) (by decide) rfl (vp_nar_int _) (Nat.le_of_ble_eq_true rfl) ?_
  intro K C ret
  replace C : zC E K cX0_holderOf wsX0_holderOf RX0 rmX0_holderOf 2 := C
  have in0 : ∀ w ∈ wsX00, w ∈ wsX0_holderOf := fun w h => List.mem_cons_of_mem _ (List.mem_append_right _ (h))
  have l18 : zw K (.fieldLink RX0 18 "StoreLog3$Dictionary" "holders" "[I") := C.w (List.mem_cons_of_mem _ (List.mem_append_left _ (List.mem_of_getElem? (i := 0) rfl)))
  show Z E K 0 0 (wD E a D) 0 [(0, .ref (a 0)), (1, .int k)] []
  refine z_iload_n C 1 rfl rfl dX0_holderOf_0 ?_
  refine z_rNI C (c_X4_isKey E k) gX0_holderOf_X4_isKey_n35 (fun _ h => h.2.2.2.1) (C.w (List.mem_cons_of_mem _ (List.mem_append_left _ (List.mem_of_getElem? (i := 2) rfl)))) (C.w (List.mem_cons_of_mem _ (List.mem_append_left _ (List.mem_of_getElem? (i := 1) rfl)))) hyX4_isKey.2 rfl ⟨rfl, rfl⟩ ⟨by decide, by decide⟩ ⟨by decide, by decide⟩ [] rfl (by decide) (st := []) (Nat.le_of_ble_eq_true rfl) dX0_holderOf_1 ?_ rfl
  refine z_if_eq C (tgt := 16) dX0_holderOf_4 (by decide) (fun h4_1 => ?_) (fun h4_1 => ?_)
  · refine z_iconst C (v := (-1)) (by decide) dX0_holderOf_16 ?_
    exact ret _ _ _ _ (by first | rfl | (simp only [dHolder, h4_1, ↓reduceIte]; done) | (simp only [dHolder, h4_1, ↓reduceIte]; rfl) | (simp [dHolder, h4_1, ↓reduceIte]; done)) rfl dX0_holderOf_17
  · refine z_aload_n C 0 rfl rfl dX0_holderOf_7 ?_
    refine z_get C (Cn := RX0) (T := TX0) (Nf := 4) (ci := 0) in0 0 2 l18 (v := .ref (a 3)) rfl rfl (by decide) rfl dX0_holderOf_8 ?_
    refine z_iload_n C 1 rfl rfl dX0_holderOf_11 ?_
    refine z_iald C 3 rfl (isK_in h4_1) (v := ((dHo D) k.toNatClampNeg)) rfl dX0_holderOf_12 ?_
    refine z_goto C (tgt := 17) dX0_holderOf_13 (by decide) ?_
    exact ret _ _ _ _ (by first | rfl | (simp only [dHolder, h4_1, ↓reduceIte]; done) | (simp only [dHolder, h4_1, ↓reduceIte]; rfl) | (simp [dHolder, h4_1, ↓reduceIte]; done)) rfl dX0_holderOf_17
abbrev rmX0_committedValue : Room := { frames := 1, cells := 0, slots := 0, locals := 20 }
theorem hyX0_committedValue : yX0_committedValue.cls = RX0 ∧ yX0_committedValue.cls ≠ "java/lang/invoke/MethodHandle" ∧ yX0_committedValue.cls ≠ "java/lang/invoke/VarHandle" ∧ (parseMethodDescriptor yX0_committedValue.desc).map (fun d => d.parameters.length) = some 1 := by decide +kernel
set_option maxHeartbeats 4000000 in
set_option maxRecDepth 100000 in
theorem c_X0_committedValue (E : GE) (a : Nat → Nat) (D : DS) (k : Int32) : zI E yX0_committedValue wsX0_committedValue rmX0_committedValue [.ref (a 0), .int k] (wD E a D) (dValue D k) (wD E a D) := by
  refine zI_of (cc := cX0_committedValue) (maxL := 2) (ty := .int) (by decide) rfl (vp_nar_int _) (Nat.le_of_ble_eq_true rfl) ?_
  intro K C ret
  replace C : zC E K cX0_committedValue wsX0_committedValue RX0 rmX0_committedValue 2 := C
  have in0 : ∀ w ∈ wsX00, w ∈ wsX0_committedValue := fun w h => List.mem_cons_of_mem _ (List.mem_append_right _ (h))
  have l9 : zw K (.fieldLink RX0 9 "StoreLog3$Dictionary" "committed" "[I") := C.w (List.mem_cons_of_mem _ (List.mem_append_left _ (List.mem_of_getElem? (i := 0) rfl)))
  show Z E K 0 0 (wD E a D) 0 [(0, .ref (a 0)), (1, .int k)] []
  refine z_iload_n C 1 rfl rfl dX0_committedValue_0 ?_
  refine z_rNI C (c_X4_isKey E k) gX0_committedValue_X4_isKey_n35 (fun _ h => h.2.2.2.1) (C.w (List.mem_cons_of_mem _ (List.mem_append_left _ (List.mem_of_getElem? (i := 2) rfl)))) (C.w (List.mem_cons_of_mem _ (List.mem_append_left _ (List.mem_of_getElem? (i := 1) rfl)))) hyX4_isKey.2 rfl ⟨rfl, rfl⟩ ⟨by decide, by decide⟩ ⟨by decide, by decide⟩ [] rfl (by decide) (st := []) (Nat.le_of_ble_eq_true rfl) dX0_committedValue_1 ?_ rfl
  refine z_if_eq C (tgt := 16) dX0_committedValue_4 (by decide) (fun h4_1 => ?_) (fun h4_1 => ?_)
  · refine z_iconst C (v := (-1)) (by decide) dX0_committedValue_16 ?_
    exact ret _ _ _ _ (by first | rfl | (simp only [dValue, h4_1, ↓reduceIte]; done) | (simp only [dValue, h4_1, ↓reduceIte]; rfl) | (simp [dValue, h4_1, ↓reduceIte]; done)) rfl dX0_committedValue_17
  · refine z_aload_n C 0 rfl rfl dX0_committedValue_7 ?_
    refine z_get C (Cn := RX0) (T := TX0) (Nf := 4) (ci := 0) in0 0 0 l9 (v := .ref (a 1)) rfl rfl (by decide) rfl dX0_committedValue_8 ?_
    refine z_iload_n C 1 rfl rfl dX0_committedValue_11 ?_
    refine z_iald C 1 rfl (isK_in h4_1) (v := ((dCo D) k.toNatClampNeg)) rfl dX0_committedValue_12 ?_
    refine z_goto C (tgt := 17) dX0_committedValue_13 (by decide) ?_
    exact ret _ _ _ _ (by first | rfl | (simp only [dValue, h4_1, ↓reduceIte]; done) | (simp only [dValue, h4_1, ↓reduceIte]; rfl) | (simp [dValue, h4_1, ↓reduceIte]; done)) rfl dX0_committedValue_17
abbrev rmX0_valueFor : Room := { frames := 1, cells := 0, slots := 0, locals := 20 }
theorem hyX0_valueFor : yX0_valueFor.cls = RX0 ∧ yX0_valueFor.cls ≠ "java/lang/invoke/MethodHandle" ∧ yX0_valueFor.cls ≠ "java/lang/invoke/VarHandle" ∧ (parseMethodDescriptor yX0_valueFor.desc).map (fun d => d.parameters.length) = some 2 := by decide +kernel
set_option maxHeartbeats 4000000 in
set_option maxRecDepth 100000 in
theorem c_X0_valueFor (E : GE) (a : Nat → Nat) (D : DS) (t k : Int32) : zI E yX0_valueFor wsX0_valueFor rmX0_valueFor [.ref (a 0), .int t, .int k] (wD E a D) (dFor D t k) (wD E a D) := by
  refine zI_of (cc := cX0_valueFor) (maxL := 3) (ty := .int) (by decide) rfl (vp_nar_int _) (Nat.le_of_ble_eq_true rfl) ?_
  intro K C ret
  replace C : zC E K cX0_valueFor wsX0_valueFor RX0 rmX0_valueFor 3 := C
  have in0 : ∀ w ∈ wsX00, w ∈ wsX0_valueFor := fun w h => List.mem_cons_of_mem _ (List.mem_append_right _ (h))
  have l9 : zw K (.fieldLink RX0 9 "StoreLog3$Dictionary" "committed" "[I") := C.w (List.mem_cons_of_mem _ (List.mem_append_left _ (List.mem_of_getElem? (i := 2) rfl)))
  have l15 : zw K (.fieldLink RX0 15 "StoreLog3$Dictionary" "changed" "[I") := C.w (List.mem_cons_of_mem _ (List.mem_append_left _ (List.mem_of_getElem? (i := 1) rfl)))
  have l18 : zw K (.fieldLink RX0 18 "StoreLog3$Dictionary" "holders" "[I") := C.w (List.mem_cons_of_mem _ (List.mem_append_left _ (List.mem_of_getElem? (i := 0) rfl)))
  show Z E K 0 0 (wD E a D) 0 [(0, .ref (a 0)), (1, .int t), (2, .int k)] []
  refine z_iload_n C 2 rfl rfl dX0_valueFor_0 ?_
  refine z_rNI C (c_X4_isKey E k) gX0_valueFor_X4_isKey_n35 (fun _ h => h.2.2.2.1) (C.w (List.mem_cons_of_mem _ (List.mem_append_left _ (List.mem_of_getElem? (i := 4) rfl)))) (C.w (List.mem_cons_of_mem _ (List.mem_append_left _ (List.mem_of_getElem? (i := 3) rfl)))) hyX4_isKey.2 rfl ⟨rfl, rfl⟩ ⟨by decide, by decide⟩ ⟨by decide, by decide⟩ [] rfl (by decide) (st := []) (Nat.le_of_ble_eq_true rfl) dX0_valueFor_1 ?_ rfl
  refine z_if_ne C (tgt := 9) dX0_valueFor_4 (by decide) (fun h4_1 => ?_) (fun h4_1 => ?_)
  · refine z_aload_n C 0 rfl rfl dX0_valueFor_9 ?_
    refine z_get C (Cn := RX0) (T := TX0) (Nf := 4) (ci := 0) in0 0 2 l18 (v := .ref (a 3)) rfl rfl (by decide) rfl dX0_valueFor_10 ?_
    refine z_iload_n C 2 rfl rfl dX0_valueFor_13 ?_
    refine z_iald C 3 rfl (isK_in h4_1) (v := ((dHo D) k.toNatClampNeg)) rfl dX0_valueFor_14 ?_
    refine z_iload_n C 1 rfl rfl dX0_valueFor_15 ?_
    refine z_icmp_ne C (tgt := 28) dX0_valueFor_16 (by decide) (fun h16_2 => ?_) (fun h16_2 => ?_)
    · refine z_aload_n C 0 rfl rfl dX0_valueFor_28 ?_
      refine z_get C (Cn := RX0) (T := TX0) (Nf := 4) (ci := 0) in0 0 0 l9 (v := .ref (a 1)) rfl rfl (by decide) rfl dX0_valueFor_29 ?_
      refine z_iload_n C 2 rfl rfl dX0_valueFor_32 ?_
      refine z_iald C 1 rfl (isK_in h4_1) (v := ((dCo D) k.toNatClampNeg)) rfl dX0_valueFor_33 ?_
      exact ret _ _ _ _ (by first | rfl | (simp only [dFor, h4_1, h16_2, ↓reduceIte]; done) | (simp only [dFor, h4_1, h16_2, ↓reduceIte]; rfl) | (simp [dFor, h4_1, h16_2, ↓reduceIte]; done)) rfl dX0_valueFor_34
    · refine z_aload_n C 0 rfl rfl dX0_valueFor_19 ?_
      refine z_get C (Cn := RX0) (T := TX0) (Nf := 4) (ci := 0) in0 0 1 l15 (v := .ref (a 2)) rfl rfl (by decide) rfl dX0_valueFor_20 ?_
      refine z_iload_n C 2 rfl rfl dX0_valueFor_23 ?_
      refine z_iald C 2 rfl (isK_in h4_1) (v := ((dCh D) k.toNatClampNeg)) rfl dX0_valueFor_24 ?_
      refine z_goto C (tgt := 34) dX0_valueFor_25 (by decide) ?_
      exact ret _ _ _ _ (by first | rfl | (simp only [dFor, h4_1, h16_2, ↓reduceIte]; done) | (simp only [dFor, h4_1, h16_2, ↓reduceIte]; rfl) | (simp [dFor, h4_1, h16_2, ↓reduceIte]; done)) rfl dX0_valueFor_34
  · refine z_iconst C (v := (-1)) (by decide) dX0_valueFor_7 ?_
    exact ret _ _ _ _ (by first | rfl | (simp only [dFor, h4_1, ↓reduceIte]; done) | (simp only [dFor, h4_1, ↓reduceIte]; rfl) | (simp [dFor, h4_1, ↓reduceIte]; done)) rfl dX0_valueFor_8
abbrev rmX0_setCommitted : Room := { frames := 1, cells := 0, slots := 0, locals := 20 }
theorem hyX0_setCommitted : yX0_setCommitted.cls = RX0 ∧ yX0_setCommitted.cls ≠ "java/lang/invoke/MethodHandle" ∧ yX0_setCommitted.cls ≠ "java/lang/invoke/VarHandle" ∧ (parseMethodDescriptor yX0_setCommitted.desc).map (fun d => d.parameters.length) = some 2 := by decide +kernel
set_option maxHeartbeats 4000000 in
set_option maxRecDepth 100000 in
theorem c_X0_setCommitted (E : GE) (a : Nat → Nat) (D : DS) (k v : Int32) : zV E yX0_setCommitted wsX0_setCommitted rmX0_setCommitted [.ref (a 0), .int k, .int v] (wD E a D) (wD E a (dSetC D k v)) := by
  refine zV_of (cc := cX0_setCommitted) (maxL := 3) (by decide) rfl (Nat.le_of_ble_eq_true rfl) ?_
  intro K C ret
  replace C : zC E K cX0_setCommitted wsX0_setCommitted RX0 rmX0_setCommitted 3 := C
  have in0 : ∀ w ∈ wsX00, w ∈ wsX0_setCommitted := fun w h => List.mem_cons_of_mem _ (List.mem_append_right _ (h))
  have l9 : zw K (.fieldLink RX0 9 "StoreLog3$Dictionary" "committed" "[I") := C.w (List.mem_cons_of_mem _ (List.mem_append_left _ (List.mem_of_getElem? (i := 0) rfl)))
  show Z E K 0 0 (wD E a D) 0 [(0, .ref (a 0)), (1, .int k), (2, .int v)] []
  refine z_iload_n C 1 rfl rfl dX0_setCommitted_0 ?_
  refine z_rNI C (c_X4_isKey E k) gX0_setCommitted_X4_isKey_n35 (fun _ h => h.2.2.2.1) (C.w (List.mem_cons_of_mem _ (List.mem_append_left _ (List.mem_of_getElem? (i := 2) rfl)))) (C.w (List.mem_cons_of_mem _ (List.mem_append_left _ (List.mem_of_getElem? (i := 1) rfl)))) hyX4_isKey.2 rfl ⟨rfl, rfl⟩ ⟨by decide, by decide⟩ ⟨by decide, by decide⟩ [] rfl (by decide) (st := []) (Nat.le_of_ble_eq_true rfl) dX0_setCommitted_1 ?_ rfl
  refine z_if_eq C (tgt := 14) dX0_setCommitted_4 (by decide) (fun h4_1 => ?_) (fun h4_1 => ?_)
  · exact ret _ _ _ (by first | rfl | (simp only [dSetC, h4_1, ↓reduceIte]; done) | (simp only [dSetC, h4_1, ↓reduceIte]; rfl) | (simp [dSetC, h4_1, ↓reduceIte]; done)) dX0_setCommitted_14
  · refine z_aload_n C 0 rfl rfl dX0_setCommitted_7 ?_
    refine z_get C (Cn := RX0) (T := TX0) (Nf := 4) (ci := 0) in0 0 0 l9 (v := .ref (a 1)) rfl rfl (by decide) rfl dX0_setCommitted_8 ?_
    refine z_iload_n C 1 rfl rfl dX0_setCommitted_11 ?_
    refine z_iload_n C 2 rfl rfl dX0_setCommitted_12 ?_
    refine z_iast C 1 rfl (isK_in h4_1) (g := (upd (dCo D) k.toNatClampNeg v)) rfl (V' := (wD E a (dsCo D (upd (dCo D) k.toNatClampNeg v)))) rfl dX0_setCommitted_13 ?_
    exact ret _ _ _ (by first | rfl | (simp only [dSetC, h4_1, ↓reduceIte]; done) | (simp only [dSetC, h4_1, ↓reduceIte]; rfl) | (simp [dSetC, h4_1, ↓reduceIte]; done)) dX0_setCommitted_14
abbrev rmX0_change : Room := { frames := 1, cells := 0, slots := 0, locals := 20 }
theorem hyX0_change : yX0_change.cls = RX0 ∧ yX0_change.cls ≠ "java/lang/invoke/MethodHandle" ∧ yX0_change.cls ≠ "java/lang/invoke/VarHandle" ∧ (parseMethodDescriptor yX0_change.desc).map (fun d => d.parameters.length) = some 3 := by decide +kernel
set_option maxHeartbeats 4000000 in
set_option maxRecDepth 100000 in
theorem c_X0_change (E : GE) (a : Nat → Nat) (D : DS) (t k v : Int32) : zV E yX0_change wsX0_change rmX0_change [.ref (a 0), .int t, .int k, .int v] (wD E a D) (wD E a (dChg D t k v)) := by
  refine zV_of (cc := cX0_change) (maxL := 4) (by decide) rfl (Nat.le_of_ble_eq_true rfl) ?_
  intro K C ret
  replace C : zC E K cX0_change wsX0_change RX0 rmX0_change 4 := C
  have in0 : ∀ w ∈ wsX00, w ∈ wsX0_change := fun w h => List.mem_cons_of_mem _ (List.mem_append_right _ (h))
  have l15 : zw K (.fieldLink RX0 15 "StoreLog3$Dictionary" "changed" "[I") := C.w (List.mem_cons_of_mem _ (List.mem_append_left _ (List.mem_of_getElem? (i := 2) rfl)))
  have l18 : zw K (.fieldLink RX0 18 "StoreLog3$Dictionary" "holders" "[I") := C.w (List.mem_cons_of_mem _ (List.mem_append_left _ (List.mem_of_getElem? (i := 1) rfl)))
  have l24 : zw K (.fieldLink RX0 24 "StoreLog3$Dictionary" "open" "I") := C.w (List.mem_cons_of_mem _ (List.mem_append_left _ (List.mem_of_getElem? (i := 0) rfl)))
  show Z E K 0 0 (wD E a D) 0 [(0, .ref (a 0)), (1, .int t), (2, .int k), (3, .int v)] []
  refine z_iload_n C 1 rfl rfl dX0_change_0 ?_
  refine z_rNI C (c_X4_isTransaction E t) gX0_change_X4_isTransaction_n32 (fun _ h => h.2.2.1) (C.w (List.mem_cons_of_mem _ (List.mem_append_left _ (List.mem_of_getElem? (i := 4) rfl)))) (C.w (List.mem_cons_of_mem _ (List.mem_append_left _ (List.mem_of_getElem? (i := 3) rfl)))) hyX4_isTransaction.2 rfl ⟨rfl, rfl⟩ ⟨by decide, by decide⟩ ⟨by decide, by decide⟩ [] rfl (by decide) (st := []) (Nat.le_of_ble_eq_true rfl) dX0_change_1 ?_ rfl
  refine z_if_eq C (tgt := 40) dX0_change_4 (by decide) (fun h4_1 => ?_) (fun h4_1 => ?_)
  · exact ret _ _ _ (by first | rfl | (simp only [dChg, h4_1, ↓reduceIte]; done) | (simp only [dChg, h4_1, ↓reduceIte]; rfl) | (simp [dChg, h4_1, ↓reduceIte]; done)) dX0_change_40
  · refine z_iload_n C 2 rfl rfl dX0_change_7 ?_
    refine z_rNI C (c_X4_isKey E k) gX0_change_X4_isKey_n35 (fun _ h => h.2.2.2.1) (C.w (List.mem_cons_of_mem _ (List.mem_append_left _ (List.mem_of_getElem? (i := 4) rfl)))) (C.w (List.mem_cons_of_mem _ (List.mem_append_left _ (List.mem_of_getElem? (i := 6) rfl)))) hyX4_isKey.2 rfl ⟨rfl, rfl⟩ ⟨by decide, by decide⟩ ⟨by decide, by decide⟩ [] rfl (by decide) (st := []) (Nat.le_of_ble_eq_true rfl) dX0_change_8 ?_ rfl
    refine z_if_eq C (tgt := 40) dX0_change_11 (by decide) (fun h11_2 => ?_) (fun h11_2 => ?_)
    · exact ret _ _ _ (by first | rfl | (simp only [dChg, h4_1, h11_2, ↓reduceIte]; done) | (simp only [dChg, h4_1, h11_2, ↓reduceIte]; rfl) | (simp [dChg, h4_1, h11_2, ↓reduceIte]; done)) dX0_change_40
    · refine z_aload_n C 0 rfl rfl dX0_change_14 ?_
      refine z_dup C rfl dX0_change_15 ?_
      refine z_get C (Cn := RX0) (T := TX0) (Nf := 4) (ci := 0) in0 0 3 l24 (v := .int (dOp D)) rfl rfl (by decide) rfl dX0_change_16 ?_
      refine z_iconst C (v := 1) (by decide) dX0_change_19 ?_
      refine z_iload_n C 1 rfl rfl dX0_change_20 ?_
      refine z_ishl C dX0_change_21 ?_
      refine z_ior C dX0_change_22 ?_
      refine z_put C (Cn := RX0) (T := TX0) (Nf := 4) (ci := 0) in0 0 3 l24 rfl rfl (by decide) tyX0 tyX0_ok nmX0 rfl rfl rfl (Nat.le_of_ble_eq_true rfl) (V' := (wD E a (dsOp D ((dOp D) ||| (1 <<< (t &&& 31)))))) rfl dX0_change_23 ?_
      refine z_aload_n C 0 rfl rfl dX0_change_26 ?_
      refine z_get C (Cn := RX0) (T := TX0) (Nf := 4) (ci := 0) in0 0 2 l18 (v := .ref (a 3)) rfl rfl (by decide) rfl dX0_change_27 ?_
      refine z_iload_n C 2 rfl rfl dX0_change_30 ?_
      refine z_iload_n C 1 rfl rfl dX0_change_31 ?_
      refine z_iast C 3 rfl (isK_in h11_2) (g := (upd (dHo D) k.toNatClampNeg t)) rfl (V' := (wD E a (dsHo (dsOp D ((dOp D) ||| (1 <<< (t &&& 31)))) (upd (dHo D) k.toNatClampNeg t)))) rfl dX0_change_32 ?_
      refine z_aload_n C 0 rfl rfl dX0_change_33 ?_
      refine z_get C (Cn := RX0) (T := TX0) (Nf := 4) (ci := 0) in0 0 1 l15 (v := .ref (a 2)) rfl rfl (by decide) rfl dX0_change_34 ?_
      refine z_iload_n C 2 rfl rfl dX0_change_37 ?_
      refine z_iload_n C 3 rfl rfl dX0_change_38 ?_
      refine z_iast C 2 rfl (isK_in h11_2) (g := (upd (dCh D) k.toNatClampNeg v)) rfl (V' := (wD E a (dsCh (dsHo (dsOp D ((dOp D) ||| (1 <<< (t &&& 31)))) (upd (dHo D) k.toNatClampNeg t)) (upd (dCh D) k.toNatClampNeg v)))) rfl dX0_change_39 ?_
      exact ret _ _ _ (by first | rfl | (simp only [dChg, h4_1, h11_2, ↓reduceIte]; done) | (simp only [dChg, h4_1, h11_2, ↓reduceIte]; rfl) | (simp [dChg, h4_1, h11_2, ↓reduceIte]; done)) dX0_change_40
abbrev rmX0_close : Room := { frames := 2, cells := 0, slots := 0, locals := 41 }
theorem hyX0_close : yX0_close.cls = RX0 ∧ yX0_close.cls ≠ "java/lang/invoke/MethodHandle" ∧ yX0_close.cls ≠ "java/lang/invoke/VarHandle" ∧ (parseMethodDescriptor yX0_close.desc).map (fun d => d.parameters.length) = some 2 := by decide +kernel
set_option maxHeartbeats 4000000 in
set_option maxRecDepth 100000 in
theorem c_X0_close (E : GE) (a : Nat → Nat) (D : DS) (t kp : Int32) : zI E yX0_close wsX0_close rmX0_close [.ref (a 0), .int t, .int kp] (wD E a D) ((dClose D t kp).1) (wD E a ((dClose D t kp).2)) := by
  refine zI_of (cc := cX0_close) (maxL := 5) (ty := .int) (by decide) rfl (vp_nar_int _) (Nat.le_of_ble_eq_true rfl) ?_
  intro K C ret
  replace C : zC E K cX0_close wsX0_close RX0 rmX0_close 5 := C
  have in0 : ∀ w ∈ wsX00, w ∈ wsX0_close := fun w h => List.mem_cons_of_mem _ (List.mem_append_right _ (h))
  have l9 : zw K (.fieldLink RX0 9 "StoreLog3$Dictionary" "committed" "[I") := C.w (List.mem_cons_of_mem _ (List.mem_append_left _ (List.mem_of_getElem? (i := 1) rfl)))
  have l15 : zw K (.fieldLink RX0 15 "StoreLog3$Dictionary" "changed" "[I") := C.w (List.mem_cons_of_mem _ (List.mem_append_left _ (List.mem_of_getElem? (i := 2) rfl)))
  have l18 : zw K (.fieldLink RX0 18 "StoreLog3$Dictionary" "holders" "[I") := C.w (List.mem_cons_of_mem _ (List.mem_append_left _ (List.mem_of_getElem? (i := 0) rfl)))
  have l24 : zw K (.fieldLink RX0 24 "StoreLog3$Dictionary" "open" "I") := C.w (List.mem_cons_of_mem _ (List.mem_append_left _ (List.mem_of_getElem? (i := 3) rfl)))
  show Z E K 0 0 (wD E a D) 0 [(0, .ref (a 0)), (1, .int t), (2, .int kp)] []
  refine z_aload_n C 0 rfl rfl dX0_close_0 ?_
  refine z_iload_n C 1 rfl rfl dX0_close_1 ?_
  refine z_rVI C (c_X0_isOpen E a D t) gX0_close_X0_isOpen (ci := 0) (q0 := 0) rfl rfl hyX0_isOpen rfl ⟨rfl, rfl⟩ ⟨by decide, by decide⟩ ⟨by decide, by decide⟩ [0, 1, 2, 3] rfl (by decide) (st := []) (Nat.le_of_ble_eq_true rfl) dX0_close_2 ?_ rfl
  refine z_if_ne C (tgt := 10) dX0_close_5 (by decide) (fun h5_1 => ?_) (fun h5_1 => ?_)
  · refine z_iconst C (v := 0) (by decide) dX0_close_10 ?_
    refine z_istore_n C (lv' := [(3, .int 0), (0, .ref (a 0)), (1, .int t), (2, .int kp)]) rfl rfl (by decide) dX0_close_11 ?_
    refine z_iconst C (v := 0) (by decide) dX0_close_12 ?_
    refine z_istore C (lv' := [(4, .int 0), (3, .int 0), (0, .ref (a 0)), (1, .int t), (2, .int kp)]) rfl (by decide) dX0_close_13 ?_
    have loop15 : ∀ (n j : Nat) (h : Int32) (D1 : DS), j + n = 32 → clL t kp n j (h, D1) = clL t kp 32 0 (0, D) → Z E K 0 0 (wD E a D1) 15 [(0, .ref (a 0)), (1, .int t), (2, .int kp), (3, .int h), (4, .int (nI j))] [] := by
      intro n
      induction n with
      | zero => 
        intro j h D1 hj hT
        obtain rfl : j = 32 := by omega
        refine z_iload C 4 rfl dX0_close_15 ?_
        refine z_bipush C (v := 32) (by decide) dX0_close_17 ?_
        refine z_icmp_ge C (tgt := 78) dX0_close_19 (by decide) (fun h19_2 => ?_) (fun h19_2 => absurd (nI_le (a := 32) (b := 32) (Nat.le_refl _) (by omega)) h19_2)
        refine z_aload_n C 0 rfl rfl dX0_close_78 ?_
        refine z_dup C rfl dX0_close_79 ?_
        refine z_get C (Cn := RX0) (T := TX0) (Nf := 4) (ci := 0) in0 0 3 l24 (v := .int (dOp D1)) rfl rfl (by decide) rfl dX0_close_80 ?_
        refine z_iconst C (v := 1) (by decide) dX0_close_83 ?_
        refine z_iload_n C 1 rfl rfl dX0_close_84 ?_
        refine z_ishl C dX0_close_85 ?_
        refine z_iconst C (v := (-1)) (by decide) dX0_close_86 ?_
        refine z_ixor C dX0_close_87 ?_
        refine z_iand C dX0_close_88 ?_
        refine z_put C (Cn := RX0) (T := TX0) (Nf := 4) (ci := 0) in0 0 3 l24 rfl rfl (by decide) tyX0 tyX0_ok nmX0 rfl rfl rfl (Nat.le_of_ble_eq_true rfl) (V' := (wD E a (dsOp D1 ((dOp D1) &&& ((1 <<< (t &&& 31)) ^^^ (-1)))))) rfl dX0_close_89 ?_
        refine z_iload_n C 3 rfl rfl dX0_close_92 ?_
        exact ret _ _ _ _ (by simp only [dClose, h5_1, ↓reduceIte, ← hT]; rfl) (by simp only [dClose, h5_1, ↓reduceIte, ← hT]; rfl) dX0_close_93
      | succ n ih15 => 
        intro j h D1 hj hT
        refine z_iload C 4 rfl dX0_close_15 ?_
        refine z_bipush C (v := 32) (by decide) dX0_close_17 ?_
        refine z_icmp_ge C (tgt := 78) dX0_close_19 (by decide) (fun h19_3 => absurd h19_3 (nI_ge (a := j) (b := 32) (by omega) (by omega))) (fun h19_3 => ?_)
        refine z_aload_n C 0 rfl rfl dX0_close_22 ?_
        refine z_get C (Cn := RX0) (T := TX0) (Nf := 4) (ci := 0) in0 0 2 l18 (v := .ref (a 3)) rfl rfl (by decide) rfl dX0_close_23 ?_
        refine z_iload C 4 rfl dX0_close_26 ?_
        refine z_iald C 3 rfl (vp_in_nI (by omega) (by omega)) (v := ((dHo D1) j)) (congrArg (dHo D1) (nI_clamp (by omega))) dX0_close_28 ?_
        refine z_iload_n C 1 rfl rfl dX0_close_29 ?_
        refine z_icmp_ne C (tgt := 72) dX0_close_30 (by decide) (fun h30_4 => ?_) (fun h30_4 => ?_)
        · refine z_iinc C 4 rfl (v := (nI (j + 1))) (zinc _) (lv' := [(4, .int (nI (j + 1))), (0, .ref (a 0)), (1, .int t), (2, .int kp), (3, .int h)]) rfl (by decide) dX0_close_72 ?_
          refine z_goto C (tgt := 15) dX0_close_75 (by decide) ?_
          refine z_lv (lv' := [(0, .ref (a 0)), (1, .int t), (2, .int kp), (3, .int h), (4, .int (nI (j + 1)))]) [1, 2, 3, 4, 0] rfl ?_
          exact ih15 (j + 1) _ _ (by omega) (by rw [← hT]; simp only [clL, clS, h5_1, h19_3, h30_4, ↓reduceIte])
        · refine z_iinc C 3 rfl (v := (h + 1)) rfl (lv' := [(3, .int (h + 1)), (0, .ref (a 0)), (1, .int t), (2, .int kp), (4, .int (nI j))]) rfl (by decide) dX0_close_33 ?_
          refine z_aload_n C 1 rfl rfl dX0_close_36 ?_
          refine z_get C (Cn := RX0) (T := TX0) (Nf := 4) (ci := 0) in0 0 2 l18 (v := .ref (a 3)) rfl rfl (by decide) rfl dX0_close_37 ?_
          refine z_iload C 4 rfl dX0_close_40 ?_
          refine z_iconst C (v := (-1)) (by decide) dX0_close_42 ?_
          refine z_iast C 3 rfl (vp_in_nI (by omega) (by omega)) (g := (upd (dHo D1) j (-1))) (by rw [nI_clamp (by omega)]) (V' := (wD E a (dsHo D1 (upd (dHo D1) j (-1))))) rfl dX0_close_43 ?_
          refine z_aload_n C 1 rfl rfl dX0_close_44 ?_
          refine z_get C (Cn := RX0) (T := TX0) (Nf := 4) (ci := 0) in0 0 0 l9 (v := .ref (a 1)) rfl rfl (by decide) rfl dX0_close_45 ?_
          refine z_iload C 4 rfl dX0_close_48 ?_
          refine z_iload_n C 3 rfl rfl dX0_close_50 ?_
          refine z_if_eq C (tgt := 64) dX0_close_51 (by decide) (fun h51_5 => ?_) (fun h51_5 => ?_)
          · refine z_aload_n C 1 rfl rfl dX0_close_64 ?_
            refine z_get C (Cn := RX0) (T := TX0) (Nf := 4) (ci := 0) in0 0 0 l9 (v := .ref (a 1)) rfl rfl (by decide) rfl dX0_close_65 ?_
            refine z_iload C 4 rfl dX0_close_68 ?_
            refine z_iald C 1 rfl (vp_in_nI (by omega) (by omega)) (v := ((dCo D1) j)) (congrArg (dCo D1) (nI_clamp (by omega))) dX0_close_70 ?_
            refine z_iast C 1 rfl (vp_in_nI (by omega) (by omega)) (g := (upd (dCo D1) j ((dCo D1) j))) (by rw [nI_clamp (by omega)]) (V' := (wD E a (dsCo (dsHo D1 (upd (dHo D1) j (-1))) (upd (dCo D1) j ((dCo D1) j))))) rfl dX0_close_71 ?_
            refine z_iinc C 4 rfl (v := (nI (j + 1))) (zinc _) (lv' := [(4, .int (nI (j + 1))), (3, .int (h + 1)), (0, .ref (a 0)), (1, .int t), (2, .int kp)]) rfl (by decide) dX0_close_72 ?_
            refine z_goto C (tgt := 15) dX0_close_75 (by decide) ?_
            refine z_lv (lv' := [(0, .ref (a 0)), (1, .int t), (2, .int kp), (3, .int (h + 1)), (4, .int (nI (j + 1)))]) [2, 3, 4, 1, 0] rfl ?_
            exact ih15 (j + 1) _ _ (by omega) (by rw [← hT]; simp only [clL, clS, h5_1, h19_3, h30_4, h51_5, ↓reduceIte])
          · refine z_aload_n C 1 rfl rfl dX0_close_54 ?_
            refine z_get C (Cn := RX0) (T := TX0) (Nf := 4) (ci := 0) in0 0 1 l15 (v := .ref (a 2)) rfl rfl (by decide) rfl dX0_close_55 ?_
            refine z_iload C 4 rfl dX0_close_58 ?_
            refine z_iald C 2 rfl (vp_in_nI (by omega) (by omega)) (v := ((dCh D1) j)) (congrArg (dCh D1) (nI_clamp (by omega))) dX0_close_60 ?_
            refine z_goto C (tgt := 71) dX0_close_61 (by decide) ?_
            refine z_iast C 1 rfl (vp_in_nI (by omega) (by omega)) (g := (upd (dCo D1) j ((dCh D1) j))) (by rw [nI_clamp (by omega)]) (V' := (wD E a (dsCo (dsHo D1 (upd (dHo D1) j (-1))) (upd (dCo D1) j ((dCh D1) j))))) rfl dX0_close_71 ?_
            refine z_iinc C 4 rfl (v := (nI (j + 1))) (zinc _) (lv' := [(4, .int (nI (j + 1))), (3, .int (h + 1)), (0, .ref (a 0)), (1, .int t), (2, .int kp)]) rfl (by decide) dX0_close_72 ?_
            refine z_goto C (tgt := 15) dX0_close_75 (by decide) ?_
            refine z_lv (lv' := [(0, .ref (a 0)), (1, .int t), (2, .int kp), (3, .int (h + 1)), (4, .int (nI (j + 1)))]) [2, 3, 4, 1, 0] rfl ?_
            exact ih15 (j + 1) _ _ (by omega) (by rw [← hT]; simp only [clL, clS, h5_1, h19_3, h30_4, h51_5, ↓reduceIte])
    refine z_lv (lv' := [(0, .ref (a 0)), (1, .int t), (2, .int kp), (3, .int 0), (4, .int 0)]) [2, 3, 4, 1, 0] rfl ?_
    exact loop15 32 0 0 D (by omega) rfl
  · refine z_iconst C (v := 0) (by decide) dX0_close_8 ?_
    exact ret _ _ _ _ (by first | rfl | (simp only [dClose, h5_1, ↓reduceIte]; done) | (simp only [dClose, h5_1, ↓reduceIte]; rfl) | (simp [dClose, h5_1, ↓reduceIte]; done)) (by first | rfl | (simp only [dClose, h5_1, ↓reduceIte]; done) | (simp only [dClose, h5_1, ↓reduceIte]; rfl) | (simp [dClose, h5_1, ↓reduceIte]; done)) dX0_close_9
abbrev rmX0_pagesDue : Room := { frames := 0, cells := 0, slots := 0, locals := 0 }
theorem hyX0_pagesDue : yX0_pagesDue.cls = RX0 ∧ yX0_pagesDue.cls ≠ "java/lang/invoke/MethodHandle" ∧ yX0_pagesDue.cls ≠ "java/lang/invoke/VarHandle" ∧ (parseMethodDescriptor yX0_pagesDue.desc).map (fun d => d.parameters.length) = some 0 := by decide +kernel
set_option maxHeartbeats 4000000 in
set_option maxRecDepth 100000 in
theorem c_X0_pagesDue (E : GE) (a : Nat → Nat) (D : DS) : zI E yX0_pagesDue wsX0_pagesDue rmX0_pagesDue [.ref (a 0)] (wD E a D) ((pgF D 32).2) (wD E a D) := by
  refine zI_of (cc := cX0_pagesDue) (maxL := 4) (ty := .int) (by decide) rfl (vp_nar_int _) (Nat.le_of_ble_eq_true rfl) ?_
  intro K C ret
  replace C : zC E K cX0_pagesDue wsX0_pagesDue RX0 rmX0_pagesDue 4 := C
  have in0 : ∀ w ∈ wsX00, w ∈ wsX0_pagesDue := fun w h => List.mem_cons_of_mem _ (List.mem_append_right _ (h))
  have l9 : zw K (.fieldLink RX0 9 "StoreLog3$Dictionary" "committed" "[I") := C.w (List.mem_cons_of_mem _ (List.mem_append_left _ (List.mem_of_getElem? (i := 0) rfl)))
  show Z E K 0 0 (wD E a D) 0 [(0, .ref (a 0))] []
  refine z_iconst C (v := 0) (by decide) dX0_pagesDue_0 ?_
  refine z_istore_n C (lv' := [(1, .int 0), (0, .ref (a 0))]) rfl rfl (by decide) dX0_pagesDue_1 ?_
  refine z_iconst C (v := 1) (by decide) dX0_pagesDue_2 ?_
  refine z_istore_n C (lv' := [(2, .int 1), (1, .int 0), (0, .ref (a 0))]) rfl rfl (by decide) dX0_pagesDue_3 ?_
  refine z_iconst C (v := 0) (by decide) dX0_pagesDue_4 ?_
  refine z_istore_n C (lv' := [(3, .int 0), (2, .int 1), (1, .int 0), (0, .ref (a 0))]) rfl rfl (by decide) dX0_pagesDue_5 ?_
  have loop6 : ∀ (n j : Nat), j + n = 32 → Z E K 0 0 (wD E a D) 6 [(0, .ref (a 0)), (1, .int (pgF D j).1), (2, .int (pgF D j).2), (3, .int (nI j))] [] := by
    intro n
    induction n with
    | zero => 
      intro j hj
      obtain rfl : j = 32 := by omega
      refine z_iload_n C 3 rfl rfl dX0_pagesDue_6 ?_
      refine z_bipush C (v := 32) (by decide) dX0_pagesDue_7 ?_
      refine z_icmp_ge C (tgt := 41) dX0_pagesDue_9 (by decide) (fun h9_1 => ?_) (fun h9_1 => absurd (nI_le (a := 32) (b := 32) (Nat.le_refl _) (by omega)) h9_1)
      refine z_iload_n C 2 rfl rfl dX0_pagesDue_41 ?_
      exact ret _ _ _ _ (by first | rfl | (simp only [pgF, h9_1, ↓reduceIte]; done) | (simp only [pgF, h9_1, ↓reduceIte]; rfl) | (simp [pgF, h9_1, ↓reduceIte]; done)) rfl dX0_pagesDue_42
    | succ n ih6 => 
      intro j hj
      refine z_iload_n C 3 rfl rfl dX0_pagesDue_6 ?_
      refine z_bipush C (v := 32) (by decide) dX0_pagesDue_7 ?_
      refine z_icmp_ge C (tgt := 41) dX0_pagesDue_9 (by decide) (fun h9_2 => absurd h9_2 (nI_ge (a := j) (b := 32) (by omega) (by omega))) (fun h9_2 => ?_)
      refine z_aload_n C 0 rfl rfl dX0_pagesDue_12 ?_
      refine z_get C (Cn := RX0) (T := TX0) (Nf := 4) (ci := 0) in0 0 0 l9 (v := .ref (a 1)) rfl rfl (by decide) rfl dX0_pagesDue_13 ?_
      refine z_iload_n C 3 rfl rfl dX0_pagesDue_16 ?_
      refine z_iald C 1 rfl (vp_in_nI (by omega) (by omega)) (v := ((dCo D) j)) (congrArg (dCo D) (nI_clamp (by omega))) dX0_pagesDue_17 ?_
      refine z_iconst C (v := (-1)) (by decide) dX0_pagesDue_18 ?_
      refine z_icmp_eq C (tgt := 35) dX0_pagesDue_19 (by decide) (fun h19_3 => ?_) (fun h19_3 => ?_)
      · refine z_iinc C 3 rfl (v := (nI (j + 1))) (zinc _) (lv' := [(3, .int (nI (j + 1))), (0, .ref (a 0)), (1, .int (pgF D j).1), (2, .int (pgF D j).2)]) rfl (by decide) dX0_pagesDue_35 ?_
        refine z_goto C (tgt := 6) dX0_pagesDue_38 (by decide) ?_
        refine z_lv (lv' := [(0, .ref (a 0)), (1, .int (pgF D j).1), (2, .int (pgF D j).2), (3, .int (nI (j + 1)))]) [1, 2, 3, 0] rfl ?_
        refine z_eq (V2 := (wD E a D)) (lv2 := [(0, .ref (a 0)), (1, .int (pgF D (j + 1)).1), (2, .int (pgF D (j + 1)).2), (3, .int (nI (j + 1)))]) (by first | rfl | (simp only [pgF, h9_2, h19_3, ↓reduceIte]; done) | (simp only [pgF, h9_2, h19_3, ↓reduceIte]; rfl)) (by first | rfl | (simp only [pgF, h9_2, h19_3, ↓reduceIte]; done) | (simp only [pgF, h9_2, h19_3, ↓reduceIte]; rfl)) rfl ?_
        exact ih6 (j + 1)  (by omega)
      · refine z_iinc C 1 rfl (v := ((pgF D j).1 + 1)) rfl (lv' := [(1, .int ((pgF D j).1 + 1)), (0, .ref (a 0)), (2, .int (pgF D j).2), (3, .int (nI j))]) rfl (by decide) dX0_pagesDue_22 ?_
        refine z_iload_n C 0 rfl rfl dX0_pagesDue_25 ?_
        refine z_iload_n C 2 rfl rfl dX0_pagesDue_26 ?_
        refine z_iconst C (v := 5) (by decide) dX0_pagesDue_27 ?_
        refine z_imul C dX0_pagesDue_28 ?_
        refine z_icmp_le C (tgt := 35) dX0_pagesDue_29 (by decide) (fun h29_4 => ?_) (fun h29_4 => ?_)
        · refine z_iinc C 3 rfl (v := (nI (j + 1))) (zinc _) (lv' := [(3, .int (nI (j + 1))), (1, .int ((pgF D j).1 + 1)), (0, .ref (a 0)), (2, .int (pgF D j).2)]) rfl (by decide) dX0_pagesDue_35 ?_
          refine z_goto C (tgt := 6) dX0_pagesDue_38 (by decide) ?_
          refine z_lv (lv' := [(0, .ref (a 0)), (1, .int ((pgF D j).1 + 1)), (2, .int (pgF D j).2), (3, .int (nI (j + 1)))]) [2, 1, 3, 0] rfl ?_
          refine z_eq (V2 := (wD E a D)) (lv2 := [(0, .ref (a 0)), (1, .int (pgF D (j + 1)).1), (2, .int (pgF D (j + 1)).2), (3, .int (nI (j + 1)))]) (by first | rfl | (simp only [pgF, h9_2, h19_3, h29_4, ↓reduceIte]; done) | (simp only [pgF, h9_2, h19_3, h29_4, ↓reduceIte]; rfl)) (by first | rfl | (simp only [pgF, h9_2, h19_3, h29_4, ↓reduceIte]; done) | (simp only [pgF, h9_2, h19_3, h29_4, ↓reduceIte]; rfl)) rfl ?_
          exact ih6 (j + 1)  (by omega)
        · refine z_iinc C 2 rfl (v := ((pgF D j).2 + 1)) rfl (lv' := [(2, .int ((pgF D j).2 + 1)), (1, .int ((pgF D j).1 + 1)), (0, .ref (a 0)), (3, .int (nI j))]) rfl (by decide) dX0_pagesDue_32 ?_
          refine z_iinc C 3 rfl (v := (nI (j + 1))) (zinc _) (lv' := [(3, .int (nI (j + 1))), (2, .int ((pgF D j).2 + 1)), (1, .int ((pgF D j).1 + 1)), (0, .ref (a 0))]) rfl (by decide) dX0_pagesDue_35 ?_
          refine z_goto C (tgt := 6) dX0_pagesDue_38 (by decide) ?_
          refine z_lv (lv' := [(0, .ref (a 0)), (1, .int ((pgF D j).1 + 1)), (2, .int ((pgF D j).2 + 1)), (3, .int (nI (j + 1)))]) [3, 2, 1, 0] rfl ?_
          refine z_eq (V2 := (wD E a D)) (lv2 := [(0, .ref (a 0)), (1, .int (pgF D (j + 1)).1), (2, .int (pgF D (j + 1)).2), (3, .int (nI (j + 1)))]) (by first | rfl | (simp only [pgF, h9_2, h19_3, h29_4, ↓reduceIte]; done) | (simp only [pgF, h9_2, h19_3, h29_4, ↓reduceIte]; rfl)) (by first | rfl | (simp only [pgF, h9_2, h19_3, h29_4, ↓reduceIte]; done) | (simp only [pgF, h9_2, h19_3, h29_4, ↓reduceIte]; rfl)) rfl ?_
          exact ih6 (j + 1)  (by omega)
  refine z_lv (lv' := [(0, .ref (a 0)), (1, .int 0), (2, .int 1), (3, .int 0)]) [3, 2, 1, 0] rfl ?_
  exact loop6 32 0  (by omega)
abbrev rmX0_nextWithValue : Room := { frames := 1, cells := 0, slots := 0, locals := 21 }
theorem hyX0_nextWithValue : yX0_nextWithValue.cls = RX0 ∧ yX0_nextWithValue.cls ≠ "java/lang/invoke/MethodHandle" ∧ yX0_nextWithValue.cls ≠ "java/lang/invoke/VarHandle" ∧ (parseMethodDescriptor yX0_nextWithValue.desc).map (fun d => d.parameters.length) = some 1 := by decide +kernel
set_option maxHeartbeats 4000000 in
set_option maxRecDepth 100000 in
theorem c_X0_nextWithValue (E : GE) (a : Nat → Nat) (D : DS) (k : Nat) (hk : k ≤ 32) : zI E yX0_nextWithValue wsX0_nextWithValue rmX0_nextWithValue [.ref (a 0), .int (nI k)] (wD E a D) (nI (nxN D (32 - k) k)) (wD E a D) := by
  refine zI_of (cc := cX0_nextWithValue) (maxL := 3) (ty := .int) (by decide) rfl (vp_nar_int _) (Nat.le_of_ble_eq_true rfl) ?_
  intro K C ret
  replace C : zC E K cX0_nextWithValue wsX0_nextWithValue RX0 rmX0_nextWithValue 3 := C
  have in0 : ∀ w ∈ wsX00, w ∈ wsX0_nextWithValue := fun w h => List.mem_cons_of_mem _ (List.mem_append_right _ (h))
  have l9 : zw K (.fieldLink RX0 9 "StoreLog3$Dictionary" "committed" "[I") := C.w (List.mem_cons_of_mem _ (List.mem_append_left _ (List.mem_of_getElem? (i := 4) rfl)))
  show Z E K 0 0 (wD E a D) 0 [(0, .ref (a 0)), (1, .int (nI k))] []
  refine z_iload_n C 1 rfl rfl dX0_nextWithValue_0 ?_
  refine z_iconst C (v := 0) (by decide) dX0_nextWithValue_1 ?_
  refine z_mmax C (v := (nI k)) (if_neg (nI_pos (by omega))) (C.w (List.mem_cons_of_mem _ (List.mem_append_left _ (List.mem_of_getElem? (i := 0) rfl)))) (C.w (List.mem_cons_of_mem _ (List.mem_append_left _ (List.mem_of_getElem? (i := 1) rfl)))) (C.w (List.mem_cons_of_mem _ (List.mem_append_left _ (List.mem_of_getElem? (i := 2) rfl)))) (C.w (List.mem_cons_of_mem _ (List.mem_append_left _ (List.mem_of_getElem? (i := 3) rfl)))) ⟨by decide, by decide, by decide, by decide⟩ dX0_nextWithValue_2 ?_
  refine z_istore_n C (lv' := [(2, .int (nI k)), (0, .ref (a 0)), (1, .int (nI k))]) rfl rfl (by decide) dX0_nextWithValue_5 ?_
  have loop6 : ∀ (n j : Nat), j + n = 32 → nxN D n j = nxN D (32 - k) k → Z E K 0 0 (wD E a D) 6 [(0, .ref (a 0)), (1, .int (nI k)), (2, .int (nI j))] [] := by
    intro n
    induction n with
    | zero => 
      intro j hj hT
      obtain rfl : j = 32 := by omega
      refine z_iload_n C 2 rfl rfl dX0_nextWithValue_6 ?_
      refine z_bipush C (v := 32) (by decide) dX0_nextWithValue_7 ?_
      refine z_icmp_ge C (tgt := 30) dX0_nextWithValue_9 (by decide) (fun h9_1 => ?_) (fun h9_1 => absurd (nI_le (a := 32) (b := 32) (Nat.le_refl _) (by omega)) h9_1)
      refine z_bipush C (v := 32) (by decide) dX0_nextWithValue_30 ?_
      exact ret _ _ _ _ (by rw [← hT]; first | rfl | (simp only [nxN, h9_1, ↓reduceIte]; done) | (simp only [nxN, h9_1, ↓reduceIte]; rfl)) rfl dX0_nextWithValue_32
    | succ n ih6 => 
      intro j hj hT
      refine z_iload_n C 2 rfl rfl dX0_nextWithValue_6 ?_
      refine z_bipush C (v := 32) (by decide) dX0_nextWithValue_7 ?_
      refine z_icmp_ge C (tgt := 30) dX0_nextWithValue_9 (by decide) (fun h9_2 => absurd h9_2 (nI_ge (a := j) (b := 32) (by omega) (by omega))) (fun h9_2 => ?_)
      refine z_aload_n C 0 rfl rfl dX0_nextWithValue_12 ?_
      refine z_get C (Cn := RX0) (T := TX0) (Nf := 4) (ci := 0) in0 0 0 l9 (v := .ref (a 1)) rfl rfl (by decide) rfl dX0_nextWithValue_13 ?_
      refine z_iload_n C 2 rfl rfl dX0_nextWithValue_16 ?_
      refine z_iald C 1 rfl (vp_in_nI (by omega) (by omega)) (v := ((dCo D) j)) (congrArg (dCo D) (nI_clamp (by omega))) dX0_nextWithValue_17 ?_
      refine z_iconst C (v := (-1)) (by decide) dX0_nextWithValue_18 ?_
      refine z_icmp_eq C (tgt := 24) dX0_nextWithValue_19 (by decide) (fun h19_3 => ?_) (fun h19_3 => ?_)
      · refine z_iinc C 2 rfl (v := (nI (j + 1))) (zinc _) (lv' := [(2, .int (nI (j + 1))), (0, .ref (a 0)), (1, .int (nI k))]) rfl (by decide) dX0_nextWithValue_24 ?_
        refine z_goto C (tgt := 6) dX0_nextWithValue_27 (by decide) ?_
        refine z_lv (lv' := [(0, .ref (a 0)), (1, .int (nI k)), (2, .int (nI (j + 1)))]) [1, 2, 0] rfl ?_
        exact ih6 (j + 1) (by omega) (by rw [← hT]; simp only [nxN, h9_2, h19_3, ↓reduceIte])
      · refine z_iload_n C 2 rfl rfl dX0_nextWithValue_22 ?_
        exact ret _ _ _ _ (by rw [← hT]; first | rfl | (simp only [nxN, h9_2, h19_3, ↓reduceIte]; done) | (simp only [nxN, h9_2, h19_3, ↓reduceIte]; rfl)) rfl dX0_nextWithValue_23
  refine z_lv (lv' := [(0, .ref (a 0)), (1, .int (nI k)), (2, .int (nI k))]) [1, 2, 0] rfl ?_
  exact loop6 (32 - k) k  (by omega) rfl
abbrev rmX0_clear : Room := { frames := 0, cells := 0, slots := 0, locals := 0 }
theorem hyX0_clear : yX0_clear.cls = RX0 ∧ yX0_clear.cls ≠ "java/lang/invoke/MethodHandle" ∧ yX0_clear.cls ≠ "java/lang/invoke/VarHandle" ∧ (parseMethodDescriptor yX0_clear.desc).map (fun d => d.parameters.length) = some 0 := by decide +kernel
set_option maxHeartbeats 4000000 in
set_option maxRecDepth 100000 in
theorem c_X0_clear (E : GE) (a : Nat → Nat) (D : DS) : zV E yX0_clear wsX0_clear rmX0_clear [.ref (a 0)] (wD E a D) (wD E a (dClear D)) := by
  refine zV_of (cc := cX0_clear) (maxL := 2) (by decide) rfl (Nat.le_of_ble_eq_true rfl) ?_
  intro K C ret
  replace C : zC E K cX0_clear wsX0_clear RX0 rmX0_clear 2 := C
  have in0 : ∀ w ∈ wsX00, w ∈ wsX0_clear := fun w h => List.mem_cons_of_mem _ (List.mem_append_right _ (h))
  have l9 : zw K (.fieldLink RX0 9 "StoreLog3$Dictionary" "committed" "[I") := C.w (List.mem_cons_of_mem _ (List.mem_append_left _ (List.mem_of_getElem? (i := 0) rfl)))
  have l15 : zw K (.fieldLink RX0 15 "StoreLog3$Dictionary" "changed" "[I") := C.w (List.mem_cons_of_mem _ (List.mem_append_left _ (List.mem_of_getElem? (i := 1) rfl)))
  have l18 : zw K (.fieldLink RX0 18 "StoreLog3$Dictionary" "holders" "[I") := C.w (List.mem_cons_of_mem _ (List.mem_append_left _ (List.mem_of_getElem? (i := 2) rfl)))
  have l24 : zw K (.fieldLink RX0 24 "StoreLog3$Dictionary" "open" "I") := C.w (List.mem_cons_of_mem _ (List.mem_append_left _ (List.mem_of_getElem? (i := 3) rfl)))
  show Z E K 0 0 (wD E a D) 0 [(0, .ref (a 0))] []
  refine z_iconst C (v := 0) (by decide) dX0_clear_0 ?_
  refine z_istore_n C (lv' := [(1, .int 0), (0, .ref (a 0))]) rfl rfl (by decide) dX0_clear_1 ?_
  have loop2 : ∀ (n j : Nat), j + n = 32 → Z E K 0 0 (wD E a (dcl D j)) 2 [(0, .ref (a 0)), (1, .int (nI j))] [] := by
    intro n
    induction n with
    | zero => 
      intro j hj
      obtain rfl : j = 32 := by omega
      refine z_iload_n C 1 rfl rfl dX0_clear_2 ?_
      refine z_bipush C (v := 32) (by decide) dX0_clear_3 ?_
      refine z_icmp_ge C (tgt := 35) dX0_clear_5 (by decide) (fun h5_1 => ?_) (fun h5_1 => absurd (nI_le (a := 32) (b := 32) (Nat.le_refl _) (by omega)) h5_1)
      refine z_aload_n C 0 rfl rfl dX0_clear_35 ?_
      refine z_iconst C (v := 0) (by decide) dX0_clear_36 ?_
      refine z_put C (Cn := RX0) (T := TX0) (Nf := 4) (ci := 0) in0 0 3 l24 rfl rfl (by decide) tyX0 tyX0_ok nmX0 rfl rfl rfl (Nat.le_of_ble_eq_true rfl) (V' := (wD E a (dsOp (dcl D 32) 0))) rfl dX0_clear_37 ?_
      exact ret _ _ _ (by first | rfl | (simp only [h5_1, ↓reduceIte]; done) | (simp only [h5_1, ↓reduceIte]; rfl) | (simp [h5_1, ↓reduceIte]; done)) dX0_clear_40
    | succ n ih2 => 
      intro j hj
      refine z_iload_n C 1 rfl rfl dX0_clear_2 ?_
      refine z_bipush C (v := 32) (by decide) dX0_clear_3 ?_
      refine z_icmp_ge C (tgt := 35) dX0_clear_5 (by decide) (fun h5_2 => absurd h5_2 (nI_ge (a := j) (b := 32) (by omega) (by omega))) (fun h5_2 => ?_)
      refine z_aload_n C 0 rfl rfl dX0_clear_8 ?_
      refine z_get C (Cn := RX0) (T := TX0) (Nf := 4) (ci := 0) in0 0 0 l9 (v := .ref (a 1)) rfl rfl (by decide) rfl dX0_clear_9 ?_
      refine z_iload_n C 1 rfl rfl dX0_clear_12 ?_
      refine z_iconst C (v := (-1)) (by decide) dX0_clear_13 ?_
      refine z_iast C 1 rfl (vp_in_nI (by omega) (by omega)) (g := (upd (dCo (dcl D j)) j (-1))) (by rw [nI_clamp (by omega)]) (V' := (wD E a (dsCo (dcl D j) (upd (dCo (dcl D j)) j (-1))))) rfl dX0_clear_14 ?_
      refine z_aload_n C 0 rfl rfl dX0_clear_15 ?_
      refine z_get C (Cn := RX0) (T := TX0) (Nf := 4) (ci := 0) in0 0 1 l15 (v := .ref (a 2)) rfl rfl (by decide) rfl dX0_clear_16 ?_
      refine z_iload_n C 1 rfl rfl dX0_clear_19 ?_
      refine z_iconst C (v := (-1)) (by decide) dX0_clear_20 ?_
      refine z_iast C 2 rfl (vp_in_nI (by omega) (by omega)) (g := (upd (dCh (dcl D j)) j (-1))) (by rw [nI_clamp (by omega)]) (V' := (wD E a (dsCh (dsCo (dcl D j) (upd (dCo (dcl D j)) j (-1))) (upd (dCh (dcl D j)) j (-1))))) rfl dX0_clear_21 ?_
      refine z_aload_n C 0 rfl rfl dX0_clear_22 ?_
      refine z_get C (Cn := RX0) (T := TX0) (Nf := 4) (ci := 0) in0 0 2 l18 (v := .ref (a 3)) rfl rfl (by decide) rfl dX0_clear_23 ?_
      refine z_iload_n C 1 rfl rfl dX0_clear_26 ?_
      refine z_iconst C (v := (-1)) (by decide) dX0_clear_27 ?_
      refine z_iast C 3 rfl (vp_in_nI (by omega) (by omega)) (g := (upd (dHo (dcl D j)) j (-1))) (by rw [nI_clamp (by omega)]) (V' := (wD E a (dsHo (dsCh (dsCo (dcl D j) (upd (dCo (dcl D j)) j (-1))) (upd (dCh (dcl D j)) j (-1))) (upd (dHo (dcl D j)) j (-1))))) rfl dX0_clear_28 ?_
      refine z_iinc C 1 rfl (v := (nI (j + 1))) (zinc _) (lv' := [(1, .int (nI (j + 1))), (0, .ref (a 0))]) rfl (by decide) dX0_clear_29 ?_
      refine z_goto C (tgt := 2) dX0_clear_32 (by decide) ?_
      refine z_lv (lv' := [(0, .ref (a 0)), (1, .int (nI (j + 1)))]) [1, 0] rfl ?_
      exact ih2 (j + 1)  (by omega)
  refine z_lv (lv' := [(0, .ref (a 0)), (1, .int 0)]) [1, 0] rfl ?_
  exact loop2 32 0  (by omega)
end
section
/-! Part 12: the journal -/
theorem nxN_le (D : DS) : ∀ n j : Nat, j + n = 32 → nxN D n j ≤ 32 := by
  intro n
  induction n with
  | zero => intro j _; exact Nat.le_refl 32
  | succ n ih =>
    intro j hj
    unfold nxN
    split
    · exact ih (j + 1) (by omega)
    · omega
theorem zk32 {k : Nat} (h0 : k ≤ 32) (h : ¬ (32 : Int32) ≤ nI k) : k < 32 := by
  refine Nat.lt_of_le_of_ne h0 (fun e => h ?_)
  subst e
  exact nI_le (a := 32) (b := 32) (by omega) (by omega)
def jNeed (N : Nat) (J : JS) : Int32 := stp N (jFn J) (jSc J) + 1
def jRoom (N : Nat) (J : JS) (w : Int32) : Int32 := if nI N < jNeed N J + w then 0 else 1
def jDue (J : JS) : Int32 := if jEn J ≤ 0 then 0 else 1
def jCan (N : Nat) (J : JS) : Int32 := if jEn J < 3 then 1 else if jRoom N J 1 = 0 then 0 else 1
def jNext (N : Nat) (J : JS) : JS := if jWa J = 0 then jsWa (jsFw (jsSc (jsSe J (jSe J + 1)) (bhd N (jSc J))) (bhd N (jSc J))) (jWa J + 1) else jsWa (jsSc (jsSe J (jSe J + 1)) (bhd N (jSc J))) (jWa J + 1)
theorem jNext_En (N : Nat) (J : JS) : jEn (jNext N J) = jEn J := by unfold jNext; split <;> rfl
def wlL (N : Nat) (sc : Int32) (eh ek ev g : Nat → Int32) : Nat → Nat → Int32
  | 0 => g
  | n + 1 => sN N sc (6 + nI n * 5 + 2) 3 (sB N (sB N (wlL N sc eh ek ev g n) sc (6 + nI n * 5) (eh n)) sc (6 + nI n * 5 + 1) (ek n)) (ev n)
def jWL (N : Nat) (J : JS) (e : Nat) : JS := if jEn J = 0 then J else jsEn (jsMm (jNext N J) (sealS N (wlL N (jSc (jNext N J)) (jEh (jNext N J)) (jEk (jNext N J)) (jEv (jNext N J)) (prep N (jMm (jNext N J)) (jSc (jNext N J)) 1 (jSe (jNext N J)) (nI e)) e) (jSc (jNext N J)))) 0
def jPut1 (J : JS) (t w k v : Int32) (e : Nat) : JS := jsEn (jsEv (jsEk (jsEh J (upd (jEh J) e (4 * t + w))) (upd (jEk J) e k)) (upd (jEv J) e v)) (nI (e + 1))
def jTake (N : Nat) (J : JS) (t w k v : Int32) (e : Nat) : JS := if nI (e + 1) = 4 then jWL N (jPut1 J t w k v e) 4 else jPut1 J t w k v e
def wpL (N : Nat) (D : DS) (sc : Int32) : Nat → Nat → Nat → (Nat → Int32) → Nat × Nat × (Nat → Int32)
  | 0, m, k, g => (m, k, g)
  | n + 1, m, k, g => if (32 : Int32) ≤ nI k then (m, k, g) else wpL N D sc n (m + 1) (nxN D (32 - (k + 1)) (k + 1)) (sN N sc (6 + nI m * 4 + 1) 3 (sB N g sc (6 + nI m * 4) (nI k)) (dValue D (nI k)))
def jWPx (N : Nat) (J : JS) (D : DS) (fk : Nat) : Nat × Nat × (Nat → Int32) := wpL N D (jSc J) 5 0 fk (prep N (jMm J) (jSc J) 2 (jSe J) 0)
def jWPk (N : Nat) (J : JS) (D : DS) (fk : Nat) : Nat := (jWPx N J D fk).2.1
def jWPr (N : Nat) (J : JS) (D : DS) (fk : Nat) : JS := jsMm J (sB N (jWPx N J D fk).2.2 (jSc J) 5 (nI (jWPx N J D fk).1))
theorem wpL_le (N : Nat) (D : DS) (sc : Int32) : ∀ (n m k : Nat) (g : Nat → Int32), k ≤ 32 → (wpL N D sc n m k g).2.1 ≤ 32 := by
  intro n
  induction n with
  | zero => intro m k g h; exact h
  | succ n ih =>
    intro m k g h
    unfold wpL
    split
    · exact h
    · next h2 => exact ih _ _ _ (nxN_le D _ _ (by have := zk32 h h2; omega))
theorem jWPk_le (N : Nat) (J : JS) (D : DS) (fk : Nat) (h : fk ≤ 32) : jWPk N J D fk ≤ 32 := by
  unfold jWPk jWPx
  exact wpL_le N D _ _ _ _ _ h
def wp1 (N : Nat) (j : Nat) (J : JS) : JS := if nI j = 0 then jsFp (jNext N J) (jSc (jNext N J)) else jNext N J
def wp2 (N : Nat) (D : DS) (P j k : Nat) (J : JS) : JS := jsMm (jWPr N (wp1 N j J) D k) (sealS N (sB N (sB N (jMm (jWPr N (wp1 N j J) D k)) (jSc (jWPr N (wp1 N j J) D k)) 26 (nI j)) (jSc (jWPr N (wp1 N j J) D k)) 27 (nI P)) (jSc (jWPr N (wp1 N j J) D k)))
def wpg (N : Nat) (D : DS) (P : Nat) : Nat → Nat → Nat → JS → JS
  | 0, _, _, J => J
  | n + 1, j, k, J => wpg N D P n (j + 1) (jWPk N (wp1 N j J) D k) (wp2 N D P j k J)
def jWPg (N : Nat) (J : JS) (D : DS) (P : Nat) : JS := wpg N D P P 0 (nxN D (32 - 0) 0) J
def pod (N : Nat) (mm : Nat → Int32) : Nat → Int32 → (Nat → Int32) → Int32 × (Nat → Int32)
  | 0, s, d => (s, d)
  | n + 1, s, d => pod N mm n (bhd N s) (cpS N d mm s 32)
def jPod (N : Nat) (J : JS) (w : Nat) : Int32 × (Nat → Int32) := pod N (jMm J) w (jFw J) (jDk J)
def jAll (N : Nat) (J : JS) (w : Nat) : JS := if jFp J = -1 then jsWa (jsDk J (jPod N J w).2) 0 else jsFp (jsFn (jsWa (jsDk J (jPod N J w).2) 0) (jFp J)) (-1)
def jForget (J : JS) : JS := jsFp (jsWa (jsEn J 0) 0) (-1)
def jLose (N : Nat) (J : JS) (kp tr w : Nat) : JS := if nI w ≤ nI kp then jForget (jsDk J (jPod N J kp).2) else jForget (jsDk J (cpS N (jPod N J kp).2 (jMm J) (jPod N J kp).1 tr))
def jGoOn (N : Nat) (J : JS) (fp re : Int32) : JS := jsSe (jsSc (jsFn J fp) re) (nOf N (jDk J) re 1 4)
def jBegin (N : Nat) (J : JS) : JS := jForget (jsFn (jsSc (jsSe (jsDk J (sealS N (sB N (prep N (clA (jDk J) (32 * N)) 0 2 1 0) 0 27 1) 0)) 1) 0) 0)
abbrev rmX2_entries : Room := { frames := 0, cells := 0, slots := 0, locals := 0 }
theorem hyX2_entries : yX2_entries.cls = RX2 ∧ yX2_entries.cls ≠ "java/lang/invoke/MethodHandle" ∧ yX2_entries.cls ≠ "java/lang/invoke/VarHandle" ∧ (parseMethodDescriptor yX2_entries.desc).map (fun d => d.parameters.length) = some 0 := by decide +kernel
set_option maxHeartbeats 4000000 in
set_option maxRecDepth 100000 in
theorem c_X2_entries (E : GE) (N : Nat) (hN : 16 ≤ N ∧ N ≤ 64) (a : Nat → Nat) (J : JS) : zI E yX2_entries wsX2_entries rmX2_entries [.ref (a 0)] (wJ E a N J) (jEn J) (wJ E a N J) := by
  refine zI_of (cc := cX2_entries) (maxL := 1) (ty := .int) (by decide) rfl (vp_nar_int _) (Nat.le_of_ble_eq_true rfl) ?_
  intro K C ret
  replace C : zC E K cX2_entries wsX2_entries RX2 rmX2_entries 1 := C
  have in2 : ∀ w ∈ wsX20, w ∈ wsX2_entries := fun w h => List.mem_cons_of_mem _ (List.mem_append_right _ (h))
  have l63 : zw K (.fieldLink RX2 63 "StoreLog3$Journal" "entries" "I") := C.w (List.mem_cons_of_mem _ (List.mem_append_left _ (List.mem_of_getElem? (i := 0) rfl)))
  show Z E K 0 0 (wJ E a N J) 0 [(0, .ref (a 0))] []
  refine z_aload_n C 0 rfl rfl dX2_entries_0 ?_
  refine z_get C (Cn := RX2) (T := TX2) (Nf := 12) (ci := 2) in2 0 5 l63 (v := .int (jEn J)) rfl rfl (by decide) rfl dX2_entries_1 ?_
  exact ret _ _ _ _ (by first | rfl | (simp only [↓reduceIte]; done) | (simp only [↓reduceIte]; rfl) | (simp [↓reduceIte]; done)) rfl dX2_entries_4
abbrev rmX2_waiting : Room := { frames := 0, cells := 0, slots := 0, locals := 0 }
theorem hyX2_waiting : yX2_waiting.cls = RX2 ∧ yX2_waiting.cls ≠ "java/lang/invoke/MethodHandle" ∧ yX2_waiting.cls ≠ "java/lang/invoke/VarHandle" ∧ (parseMethodDescriptor yX2_waiting.desc).map (fun d => d.parameters.length) = some 0 := by decide +kernel
set_option maxHeartbeats 4000000 in
set_option maxRecDepth 100000 in
theorem c_X2_waiting (E : GE) (N : Nat) (hN : 16 ≤ N ∧ N ≤ 64) (a : Nat → Nat) (J : JS) : zI E yX2_waiting wsX2_waiting rmX2_waiting [.ref (a 0)] (wJ E a N J) (jWa J) (wJ E a N J) := by
  refine zI_of (cc := cX2_waiting) (maxL := 1) (ty := .int) (by decide) rfl (vp_nar_int _) (Nat.le_of_ble_eq_true rfl) ?_
  intro K C ret
  replace C : zC E K cX2_waiting wsX2_waiting RX2 rmX2_waiting 1 := C
  have in2 : ∀ w ∈ wsX20, w ∈ wsX2_waiting := fun w h => List.mem_cons_of_mem _ (List.mem_append_right _ (h))
  have l66 : zw K (.fieldLink RX2 66 "StoreLog3$Journal" "waiting" "I") := C.w (List.mem_cons_of_mem _ (List.mem_append_left _ (List.mem_of_getElem? (i := 0) rfl)))
  show Z E K 0 0 (wJ E a N J) 0 [(0, .ref (a 0))] []
  refine z_aload_n C 0 rfl rfl dX2_waiting_0 ?_
  refine z_get C (Cn := RX2) (T := TX2) (Nf := 12) (ci := 2) in2 0 6 l66 (v := .int (jWa J)) rfl rfl (by decide) rfl dX2_waiting_1 ?_
  exact ret _ _ _ _ (by first | rfl | (simp only [↓reduceIte]; done) | (simp only [↓reduceIte]; rfl) | (simp [↓reduceIte]; done)) rfl dX2_waiting_4
abbrev rmX2_lastSerial : Room := { frames := 0, cells := 0, slots := 0, locals := 0 }
theorem hyX2_lastSerial : yX2_lastSerial.cls = RX2 ∧ yX2_lastSerial.cls ≠ "java/lang/invoke/MethodHandle" ∧ yX2_lastSerial.cls ≠ "java/lang/invoke/VarHandle" ∧ (parseMethodDescriptor yX2_lastSerial.desc).map (fun d => d.parameters.length) = some 0 := by decide +kernel
set_option maxHeartbeats 4000000 in
set_option maxRecDepth 100000 in
theorem c_X2_lastSerial (E : GE) (N : Nat) (hN : 16 ≤ N ∧ N ≤ 64) (a : Nat → Nat) (J : JS) : zI E yX2_lastSerial wsX2_lastSerial rmX2_lastSerial [.ref (a 0)] (wJ E a N J) (jSe J) (wJ E a N J) := by
  refine zI_of (cc := cX2_lastSerial) (maxL := 1) (ty := .int) (by decide) rfl (vp_nar_int _) (Nat.le_of_ble_eq_true rfl) ?_
  intro K C ret
  replace C : zC E K cX2_lastSerial wsX2_lastSerial RX2 rmX2_lastSerial 1 := C
  have in2 : ∀ w ∈ wsX20, w ∈ wsX2_lastSerial := fun w h => List.mem_cons_of_mem _ (List.mem_append_right _ (h))
  have l50 : zw K (.fieldLink RX2 50 "StoreLog3$Journal" "lastSerial" "I") := C.w (List.mem_cons_of_mem _ (List.mem_append_left _ (List.mem_of_getElem? (i := 0) rfl)))
  show Z E K 0 0 (wJ E a N J) 0 [(0, .ref (a 0))] []
  refine z_aload_n C 0 rfl rfl dX2_lastSerial_0 ?_
  refine z_get C (Cn := RX2) (T := TX2) (Nf := 12) (ci := 2) in2 0 8 l50 (v := .int (jSe J)) rfl rfl (by decide) rfl dX2_lastSerial_1 ?_
  exact ret _ _ _ _ (by first | rfl | (simp only [↓reduceIte]; done) | (simp only [↓reduceIte]; rfl) | (simp [↓reduceIte]; done)) rfl dX2_lastSerial_4
abbrev rmX2_lastSector : Room := { frames := 0, cells := 0, slots := 0, locals := 0 }
theorem hyX2_lastSector : yX2_lastSector.cls = RX2 ∧ yX2_lastSector.cls ≠ "java/lang/invoke/MethodHandle" ∧ yX2_lastSector.cls ≠ "java/lang/invoke/VarHandle" ∧ (parseMethodDescriptor yX2_lastSector.desc).map (fun d => d.parameters.length) = some 0 := by decide +kernel
set_option maxHeartbeats 4000000 in
set_option maxRecDepth 100000 in
theorem c_X2_lastSector (E : GE) (N : Nat) (hN : 16 ≤ N ∧ N ≤ 64) (a : Nat → Nat) (J : JS) : zI E yX2_lastSector wsX2_lastSector rmX2_lastSector [.ref (a 0)] (wJ E a N J) (jSc J) (wJ E a N J) := by
  refine zI_of (cc := cX2_lastSector) (maxL := 1) (ty := .int) (by decide) rfl (vp_nar_int _) (Nat.le_of_ble_eq_true rfl) ?_
  intro K C ret
  replace C : zC E K cX2_lastSector wsX2_lastSector RX2 rmX2_lastSector 1 := C
  have in2 : ∀ w ∈ wsX20, w ∈ wsX2_lastSector := fun w h => List.mem_cons_of_mem _ (List.mem_append_right _ (h))
  have l54 : zw K (.fieldLink RX2 54 "StoreLog3$Journal" "lastSector" "I") := C.w (List.mem_cons_of_mem _ (List.mem_append_left _ (List.mem_of_getElem? (i := 0) rfl)))
  show Z E K 0 0 (wJ E a N J) 0 [(0, .ref (a 0))] []
  refine z_aload_n C 0 rfl rfl dX2_lastSector_0 ?_
  refine z_get C (Cn := RX2) (T := TX2) (Nf := 12) (ci := 2) in2 0 9 l54 (v := .int (jSc J)) rfl rfl (by decide) rfl dX2_lastSector_1 ?_
  exact ret _ _ _ _ (by first | rfl | (simp only [↓reduceIte]; done) | (simp only [↓reduceIte]; rfl) | (simp [↓reduceIte]; done)) rfl dX2_lastSector_4
abbrev rmX2_needed : Room := { frames := 1, cells := 0, slots := 0, locals := 22 }
theorem hyX2_needed : yX2_needed.cls = RX2 ∧ yX2_needed.cls ≠ "java/lang/invoke/MethodHandle" ∧ yX2_needed.cls ≠ "java/lang/invoke/VarHandle" ∧ (parseMethodDescriptor yX2_needed.desc).map (fun d => d.parameters.length) = some 0 := by decide +kernel
set_option maxHeartbeats 4000000 in
set_option maxRecDepth 100000 in
theorem c_X2_needed (E : GE) (N : Nat) (hN : 16 ≤ N ∧ N ≤ 64) (a : Nat → Nat) (J : JS) : zI E yX2_needed wsX2_needed rmX2_needed [.ref (a 0)] (wJ E a N J) (jNeed N J) (wJ E a N J) := by
  refine zI_of (cc := cX2_needed) (maxL := 1) (ty := .int) (by decide) rfl (vp_nar_int _) (Nat.le_of_ble_eq_true rfl) ?_
  intro K C ret
  replace C : zC E K cX2_needed wsX2_needed RX2 rmX2_needed 1 := C
  have in2 : ∀ w ∈ wsX20, w ∈ wsX2_needed := fun w h => List.mem_cons_of_mem _ (List.mem_append_left _ (List.mem_append_right _ (h)))
  have l26 : zw K (.fieldLink RX2 26 "StoreLog3$Journal" "disk" "LStoreLog3$Sectors;") := C.w (List.mem_cons_of_mem _ (List.mem_append_left _ (List.mem_append_left _ (List.mem_of_getElem? (i := 0) rfl))))
  have l54 : zw K (.fieldLink RX2 54 "StoreLog3$Journal" "lastSector" "I") := C.w (List.mem_cons_of_mem _ (List.mem_append_left _ (List.mem_append_left _ (List.mem_of_getElem? (i := 2) rfl))))
  have l57 : zw K (.fieldLink RX2 57 "StoreLog3$Journal" "firstNeeded" "I") := C.w (List.mem_cons_of_mem _ (List.mem_append_left _ (List.mem_append_left _ (List.mem_of_getElem? (i := 1) rfl))))
  show Z E K 0 0 (wJ E a N J) 0 [(0, .ref (a 0))] []
  refine z_aload_n C 0 rfl rfl dX2_needed_0 ?_
  refine z_get C (Cn := RX2) (T := TX2) (Nf := 12) (ci := 2) in2 0 0 l26 (v := .ref (a 1)) rfl rfl (by decide) rfl dX2_needed_1 ?_
  refine z_aload_n C 0 rfl rfl dX2_needed_4 ?_
  refine z_get C (Cn := RX2) (T := TX2) (Nf := 12) (ci := 2) in2 0 10 l57 (v := .int (jFn J)) rfl rfl (by decide) rfl dX2_needed_5 ?_
  refine z_aload_n C 0 rfl rfl dX2_needed_8 ?_
  refine z_get C (Cn := RX2) (T := TX2) (Nf := 12) (ci := 2) in2 0 9 l54 (v := .int (jSc J)) rfl rfl (by decide) rfl dX2_needed_9 ?_
  refine z_rVI C (c_X3_stepsBetween E N hN (a 1) (a 2) (jDk J) (jFn J) (jSc J)) gX2_needed_X3_stepsBetween (ci := 3) (q0 := 0) rfl rfl hyX3_stepsBetween rfl ⟨rfl, rfl⟩ ⟨by decide, by decide⟩ ⟨by decide, by decide⟩ [1, 2] rfl (by decide) (st := []) (Nat.le_of_ble_eq_true rfl) dX2_needed_12 ?_ rfl
  refine z_iconst C (v := 1) (by decide) dX2_needed_15 ?_
  refine z_iadd C dX2_needed_16 ?_
  exact ret _ _ _ _ (by first | rfl | (simp only [↓reduceIte]; done) | (simp only [↓reduceIte]; rfl) | (simp [↓reduceIte]; done)) rfl dX2_needed_17
abbrev rmX2_hasRoom : Room := { frames := 2, cells := 0, slots := 0, locals := 42 }
theorem hyX2_hasRoom : yX2_hasRoom.cls = RX2 ∧ yX2_hasRoom.cls ≠ "java/lang/invoke/MethodHandle" ∧ yX2_hasRoom.cls ≠ "java/lang/invoke/VarHandle" ∧ (parseMethodDescriptor yX2_hasRoom.desc).map (fun d => d.parameters.length) = some 1 := by decide +kernel
set_option maxHeartbeats 4000000 in
set_option maxRecDepth 100000 in
theorem c_X2_hasRoom (E : GE) (N : Nat) (hN : 16 ≤ N ∧ N ≤ 64) (a : Nat → Nat) (J : JS) (w : Int32) : zI E yX2_hasRoom wsX2_hasRoom rmX2_hasRoom [.ref (a 0), .int w] (wJ E a N J) (jRoom N J w) (wJ E a N J) := by
  refine zI_of (cc := cX2_hasRoom) (maxL := 2) (ty := .boolean) (by decide) rfl (by unfold jRoom; (repeat' split) <;> rfl) (Nat.le_of_ble_eq_true rfl) ?_
  intro K C ret
  replace C : zC E K cX2_hasRoom wsX2_hasRoom RX2 rmX2_hasRoom 2 := C
  have in2 : ∀ w ∈ wsX20, w ∈ wsX2_hasRoom := fun w h => List.mem_cons_of_mem _ (List.mem_append_left _ (List.mem_append_right _ (h)))
  have l26 : zw K (.fieldLink RX2 26 "StoreLog3$Journal" "disk" "LStoreLog3$Sectors;") := C.w (List.mem_cons_of_mem _ (List.mem_append_left _ (List.mem_append_left _ (List.mem_of_getElem? (i := 0) rfl))))
  show Z E K 0 0 (wJ E a N J) 0 [(0, .ref (a 0)), (1, .int w)] []
  refine z_aload_n C 0 rfl rfl dX2_hasRoom_0 ?_
  refine z_rVI C (c_X2_needed E N hN a J) gX2_hasRoom_X2_needed (ci := 2) (q0 := 0) rfl rfl hyX2_needed rfl ⟨rfl, rfl⟩ ⟨by decide, by decide⟩ ⟨by decide, by decide⟩ [0, 1, 2, 3, 4, 5, 6, 7] rfl (by decide) (st := []) (Nat.le_of_ble_eq_true rfl) dX2_hasRoom_1 ?_ rfl
  refine z_iload_n C 1 rfl rfl dX2_hasRoom_4 ?_
  refine z_iadd C dX2_hasRoom_5 ?_
  refine z_aload_n C 0 rfl rfl dX2_hasRoom_6 ?_
  refine z_get C (Cn := RX2) (T := TX2) (Nf := 12) (ci := 2) in2 0 0 l26 (v := .ref (a 1)) rfl rfl (by decide) rfl dX2_hasRoom_7 ?_
  refine z_rVI C (c_X3_size E N hN (a 1) (a 2) (jDk J)) gX2_hasRoom_X3_size (ci := 3) (q0 := 0) rfl rfl hyX3_size rfl ⟨rfl, rfl⟩ ⟨by decide, by decide⟩ ⟨by decide, by decide⟩ [1, 2] rfl (by decide) (st := [.int ((jNeed N J) + w)]) (Nat.le_of_ble_eq_true rfl) dX2_hasRoom_10 ?_ rfl
  refine z_icmp_gt C (tgt := 20) dX2_hasRoom_13 (by decide) (fun h13_1 => ?_) (fun h13_1 => ?_)
  · refine z_iconst C (v := 0) (by decide) dX2_hasRoom_20 ?_
    exact ret _ _ _ _ (by first | rfl | (simp only [jRoom, h13_1, ↓reduceIte]; done) | (simp only [jRoom, h13_1, ↓reduceIte]; rfl) | (simp [jRoom, h13_1, ↓reduceIte]; done)) rfl dX2_hasRoom_21
  · refine z_iconst C (v := 1) (by decide) dX2_hasRoom_16 ?_
    refine z_goto C (tgt := 21) dX2_hasRoom_17 (by decide) ?_
    exact ret _ _ _ _ (by first | rfl | (simp only [jRoom, h13_1, ↓reduceIte]; done) | (simp only [jRoom, h13_1, ↓reduceIte]; rfl) | (simp [jRoom, h13_1, ↓reduceIte]; done)) rfl dX2_hasRoom_21
abbrev rmX2_logsDue : Room := { frames := 0, cells := 0, slots := 0, locals := 0 }
theorem hyX2_logsDue : yX2_logsDue.cls = RX2 ∧ yX2_logsDue.cls ≠ "java/lang/invoke/MethodHandle" ∧ yX2_logsDue.cls ≠ "java/lang/invoke/VarHandle" ∧ (parseMethodDescriptor yX2_logsDue.desc).map (fun d => d.parameters.length) = some 0 := by decide +kernel
set_option maxHeartbeats 4000000 in
set_option maxRecDepth 100000 in
theorem c_X2_logsDue (E : GE) (N : Nat) (hN : 16 ≤ N ∧ N ≤ 64) (a : Nat → Nat) (J : JS) : zI E yX2_logsDue wsX2_logsDue rmX2_logsDue [.ref (a 0)] (wJ E a N J) (jDue J) (wJ E a N J) := by
  refine zI_of (cc := cX2_logsDue) (maxL := 1) (ty := .int) (by decide) rfl (vp_nar_int _) (Nat.le_of_ble_eq_true rfl) ?_
  intro K C ret
  replace C : zC E K cX2_logsDue wsX2_logsDue RX2 rmX2_logsDue 1 := C
  have in2 : ∀ w ∈ wsX20, w ∈ wsX2_logsDue := fun w h => List.mem_cons_of_mem _ (List.mem_append_right _ (h))
  have l63 : zw K (.fieldLink RX2 63 "StoreLog3$Journal" "entries" "I") := C.w (List.mem_cons_of_mem _ (List.mem_append_left _ (List.mem_of_getElem? (i := 0) rfl)))
  show Z E K 0 0 (wJ E a N J) 0 [(0, .ref (a 0))] []
  refine z_aload_n C 0 rfl rfl dX2_logsDue_0 ?_
  refine z_get C (Cn := RX2) (T := TX2) (Nf := 12) (ci := 2) in2 0 5 l63 (v := .int (jEn J)) rfl rfl (by decide) rfl dX2_logsDue_1 ?_
  refine z_if_le C (tgt := 11) dX2_logsDue_4 (by decide) (fun h4_1 => ?_) (fun h4_1 => ?_)
  · refine z_iconst C (v := 0) (by decide) dX2_logsDue_11 ?_
    exact ret _ _ _ _ (by first | rfl | (simp only [jDue, h4_1, ↓reduceIte]; done) | (simp only [jDue, h4_1, ↓reduceIte]; rfl) | (simp [jDue, h4_1, ↓reduceIte]; done)) rfl dX2_logsDue_12
  · refine z_iconst C (v := 1) (by decide) dX2_logsDue_7 ?_
    refine z_goto C (tgt := 12) dX2_logsDue_8 (by decide) ?_
    exact ret _ _ _ _ (by first | rfl | (simp only [jDue, h4_1, ↓reduceIte]; done) | (simp only [jDue, h4_1, ↓reduceIte]; rfl) | (simp [jDue, h4_1, ↓reduceIte]; done)) rfl dX2_logsDue_12
abbrev rmX2_canTakeEntry : Room := { frames := 3, cells := 0, slots := 0, locals := 63 }
theorem hyX2_canTakeEntry : yX2_canTakeEntry.cls = RX2 ∧ yX2_canTakeEntry.cls ≠ "java/lang/invoke/MethodHandle" ∧ yX2_canTakeEntry.cls ≠ "java/lang/invoke/VarHandle" ∧ (parseMethodDescriptor yX2_canTakeEntry.desc).map (fun d => d.parameters.length) = some 0 := by decide +kernel
set_option maxHeartbeats 4000000 in
set_option maxRecDepth 100000 in
theorem c_X2_canTakeEntry (E : GE) (N : Nat) (hN : 16 ≤ N ∧ N ≤ 64) (a : Nat → Nat) (J : JS) : zI E yX2_canTakeEntry wsX2_canTakeEntry rmX2_canTakeEntry [.ref (a 0)] (wJ E a N J) (jCan N J) (wJ E a N J) := by
  refine zI_of (cc := cX2_canTakeEntry) (maxL := 1) (ty := .boolean) (by decide) rfl (by unfold jCan; (repeat' split) <;> rfl) (Nat.le_of_ble_eq_true rfl) ?_
  intro K C ret
  replace C : zC E K cX2_canTakeEntry wsX2_canTakeEntry RX2 rmX2_canTakeEntry 1 := C
  have in2 : ∀ w ∈ wsX20, w ∈ wsX2_canTakeEntry := fun w h => List.mem_cons_of_mem _ (List.mem_append_left _ (List.mem_append_right _ (h)))
  have l63 : zw K (.fieldLink RX2 63 "StoreLog3$Journal" "entries" "I") := C.w (List.mem_cons_of_mem _ (List.mem_append_left _ (List.mem_append_left _ (List.mem_of_getElem? (i := 0) rfl))))
  show Z E K 0 0 (wJ E a N J) 0 [(0, .ref (a 0))] []
  refine z_aload_n C 0 rfl rfl dX2_canTakeEntry_0 ?_
  refine z_get C (Cn := RX2) (T := TX2) (Nf := 12) (ci := 2) in2 0 5 l63 (v := .int (jEn J)) rfl rfl (by decide) rfl dX2_canTakeEntry_1 ?_
  refine z_iconst C (v := 3) (by decide) dX2_canTakeEntry_4 ?_
  refine z_icmp_lt C (tgt := 16) dX2_canTakeEntry_5 (by decide) (fun h5_1 => ?_) (fun h5_1 => ?_)
  · refine z_iconst C (v := 1) (by decide) dX2_canTakeEntry_16 ?_
    refine z_goto C (tgt := 21) dX2_canTakeEntry_17 (by decide) ?_
    exact ret _ _ _ _ (by first | rfl | (simp only [jCan, h5_1, ↓reduceIte]; done) | (simp only [jCan, h5_1, ↓reduceIte]; rfl) | (simp [jCan, h5_1, ↓reduceIte]; done)) rfl dX2_canTakeEntry_21
  · refine z_aload_n C 0 rfl rfl dX2_canTakeEntry_8 ?_
    refine z_iconst C (v := 1) (by decide) dX2_canTakeEntry_9 ?_
    refine z_rVI C (c_X2_hasRoom E N hN a J 1) gX2_canTakeEntry_X2_hasRoom (ci := 2) (q0 := 0) rfl rfl hyX2_hasRoom rfl ⟨rfl, rfl⟩ ⟨by decide, by decide⟩ ⟨by decide, by decide⟩ [0, 1, 2, 3, 4, 5, 6, 7] rfl (by decide) (st := []) (Nat.le_of_ble_eq_true rfl) dX2_canTakeEntry_10 ?_ rfl
    refine z_if_eq C (tgt := 20) dX2_canTakeEntry_13 (by decide) (fun h13_2 => ?_) (fun h13_2 => ?_)
    · refine z_iconst C (v := 0) (by decide) dX2_canTakeEntry_20 ?_
      exact ret _ _ _ _ (by first | rfl | (simp only [jCan, h5_1, h13_2, ↓reduceIte]; done) | (simp only [jCan, h5_1, h13_2, ↓reduceIte]; rfl) | (simp [jCan, h5_1, h13_2, ↓reduceIte]; done)) rfl dX2_canTakeEntry_21
    · refine z_iconst C (v := 1) (by decide) dX2_canTakeEntry_16 ?_
      refine z_goto C (tgt := 21) dX2_canTakeEntry_17 (by decide) ?_
      exact ret _ _ _ _ (by first | rfl | (simp only [jCan, h5_1, h13_2, ↓reduceIte]; done) | (simp only [jCan, h5_1, h13_2, ↓reduceIte]; rfl) | (simp [jCan, h5_1, h13_2, ↓reduceIte]; done)) rfl dX2_canTakeEntry_21
abbrev rmX2_goToNext : Room := { frames := 1, cells := 0, slots := 0, locals := 21 }
theorem hyX2_goToNext : yX2_goToNext.cls = RX2 ∧ yX2_goToNext.cls ≠ "java/lang/invoke/MethodHandle" ∧ yX2_goToNext.cls ≠ "java/lang/invoke/VarHandle" ∧ (parseMethodDescriptor yX2_goToNext.desc).map (fun d => d.parameters.length) = some 0 := by decide +kernel
set_option maxHeartbeats 4000000 in
set_option maxRecDepth 100000 in
theorem c_X2_goToNext (E : GE) (N : Nat) (hN : 16 ≤ N ∧ N ≤ 64) (a : Nat → Nat) (J : JS) : zV E yX2_goToNext wsX2_goToNext rmX2_goToNext [.ref (a 0)] (wJ E a N J) (wJ E a N (jNext N J)) := by
  refine zV_of (cc := cX2_goToNext) (maxL := 1) (by decide) rfl (Nat.le_of_ble_eq_true rfl) ?_
  intro K C ret
  replace C : zC E K cX2_goToNext wsX2_goToNext RX2 rmX2_goToNext 1 := C
  have in2 : ∀ w ∈ wsX20, w ∈ wsX2_goToNext := fun w h => List.mem_cons_of_mem _ (List.mem_append_left _ (List.mem_append_right _ (h)))
  have l26 : zw K (.fieldLink RX2 26 "StoreLog3$Journal" "disk" "LStoreLog3$Sectors;") := C.w (List.mem_cons_of_mem _ (List.mem_append_left _ (List.mem_append_left _ (List.mem_of_getElem? (i := 1) rfl))))
  have l50 : zw K (.fieldLink RX2 50 "StoreLog3$Journal" "lastSerial" "I") := C.w (List.mem_cons_of_mem _ (List.mem_append_left _ (List.mem_append_left _ (List.mem_of_getElem? (i := 0) rfl))))
  have l54 : zw K (.fieldLink RX2 54 "StoreLog3$Journal" "lastSector" "I") := C.w (List.mem_cons_of_mem _ (List.mem_append_left _ (List.mem_append_left _ (List.mem_of_getElem? (i := 2) rfl))))
  have l66 : zw K (.fieldLink RX2 66 "StoreLog3$Journal" "waiting" "I") := C.w (List.mem_cons_of_mem _ (List.mem_append_left _ (List.mem_append_left _ (List.mem_of_getElem? (i := 3) rfl))))
  have l122 : zw K (.fieldLink RX2 122 "StoreLog3$Journal" "firstWaiting" "I") := C.w (List.mem_cons_of_mem _ (List.mem_append_left _ (List.mem_append_left _ (List.mem_of_getElem? (i := 4) rfl))))
  show Z E K 0 0 (wJ E a N J) 0 [(0, .ref (a 0))] []
  refine z_aload_n C 0 rfl rfl dX2_goToNext_0 ?_
  refine z_dup C rfl dX2_goToNext_1 ?_
  refine z_get C (Cn := RX2) (T := TX2) (Nf := 12) (ci := 2) in2 0 8 l50 (v := .int (jSe J)) rfl rfl (by decide) rfl dX2_goToNext_2 ?_
  refine z_iconst C (v := 1) (by decide) dX2_goToNext_5 ?_
  refine z_iadd C dX2_goToNext_6 ?_
  refine z_put C (Cn := RX2) (T := TX2) (Nf := 12) (ci := 2) in2 0 8 l50 rfl rfl (by decide) tyX2 tyX2_ok nmX2 rfl rfl rfl (Nat.le_of_ble_eq_true rfl) (V' := (wJ E a N (jsSe J ((jSe J) + 1)))) rfl dX2_goToNext_7 ?_
  refine z_aload_n C 0 rfl rfl dX2_goToNext_10 ?_
  refine z_aload_n C 0 rfl rfl dX2_goToNext_11 ?_
  refine z_get C (Cn := RX2) (T := TX2) (Nf := 12) (ci := 2) in2 0 0 l26 (v := .ref (a 1)) rfl rfl (by decide) rfl dX2_goToNext_12 ?_
  refine z_aload_n C 0 rfl rfl dX2_goToNext_15 ?_
  refine z_get C (Cn := RX2) (T := TX2) (Nf := 12) (ci := 2) in2 0 9 l54 (v := .int (jSc J)) rfl rfl (by decide) rfl dX2_goToNext_16 ?_
  refine z_rVI C (c_X3_behind E N hN (a 1) (a 2) (jDk J) (jSc J)) gX2_goToNext_X3_behind (ci := 3) (q0 := 0) rfl rfl hyX3_behind rfl ⟨rfl, rfl⟩ ⟨by decide, by decide⟩ ⟨by decide, by decide⟩ [1, 2] rfl (by decide) (st := [.ref (a 0)]) (Nat.le_of_ble_eq_true rfl) dX2_goToNext_19 ?_ rfl
  refine z_put C (Cn := RX2) (T := TX2) (Nf := 12) (ci := 2) in2 0 9 l54 rfl rfl (by decide) tyX2 tyX2_ok nmX2 rfl rfl rfl (Nat.le_of_ble_eq_true rfl) (V' := (wJ E a N (jsSc (jsSe J ((jSe J) + 1)) (bhd N (jSc J))))) rfl dX2_goToNext_22 ?_
  refine z_aload_n C 0 rfl rfl dX2_goToNext_25 ?_
  refine z_get C (Cn := RX2) (T := TX2) (Nf := 12) (ci := 2) in2 0 6 l66 (v := .int (jWa J)) rfl rfl (by decide) rfl dX2_goToNext_26 ?_
  refine z_if_ne C (tgt := 40) dX2_goToNext_29 (by decide) (fun h29_1 => ?_) (fun h29_1 => ?_)
  · refine z_aload_n C 0 rfl rfl dX2_goToNext_40 ?_
    refine z_dup C rfl dX2_goToNext_41 ?_
    refine z_get C (Cn := RX2) (T := TX2) (Nf := 12) (ci := 2) in2 0 6 l66 (v := .int (jWa J)) rfl rfl (by decide) rfl dX2_goToNext_42 ?_
    refine z_iconst C (v := 1) (by decide) dX2_goToNext_45 ?_
    refine z_iadd C dX2_goToNext_46 ?_
    refine z_put C (Cn := RX2) (T := TX2) (Nf := 12) (ci := 2) in2 0 6 l66 rfl rfl (by decide) tyX2 tyX2_ok nmX2 rfl rfl rfl (Nat.le_of_ble_eq_true rfl) (V' := (wJ E a N (jsWa (jsSc (jsSe J ((jSe J) + 1)) (bhd N (jSc J))) ((jWa J) + 1)))) rfl dX2_goToNext_47 ?_
    exact ret _ _ _ (by first | rfl | (simp only [jNext, h29_1, ↓reduceIte]; done) | (simp only [jNext, h29_1, ↓reduceIte]; rfl) | (simp [jNext, h29_1, ↓reduceIte]; done)) dX2_goToNext_50
  · refine z_aload_n C 0 rfl rfl dX2_goToNext_32 ?_
    refine z_aload_n C 0 rfl rfl dX2_goToNext_33 ?_
    refine z_get C (Cn := RX2) (T := TX2) (Nf := 12) (ci := 2) in2 0 9 l54 (v := .int (bhd N (jSc J))) rfl rfl (by decide) rfl dX2_goToNext_34 ?_
    refine z_put C (Cn := RX2) (T := TX2) (Nf := 12) (ci := 2) in2 0 7 l122 rfl rfl (by decide) tyX2 tyX2_ok nmX2 rfl rfl rfl (Nat.le_of_ble_eq_true rfl) (V' := (wJ E a N (jsFw (jsSc (jsSe J ((jSe J) + 1)) (bhd N (jSc J))) (bhd N (jSc J))))) rfl dX2_goToNext_37 ?_
    refine z_aload_n C 0 rfl rfl dX2_goToNext_40 ?_
    refine z_dup C rfl dX2_goToNext_41 ?_
    refine z_get C (Cn := RX2) (T := TX2) (Nf := 12) (ci := 2) in2 0 6 l66 (v := .int (jWa J)) rfl rfl (by decide) rfl dX2_goToNext_42 ?_
    refine z_iconst C (v := 1) (by decide) dX2_goToNext_45 ?_
    refine z_iadd C dX2_goToNext_46 ?_
    refine z_put C (Cn := RX2) (T := TX2) (Nf := 12) (ci := 2) in2 0 6 l66 rfl rfl (by decide) tyX2 tyX2_ok nmX2 rfl rfl rfl (Nat.le_of_ble_eq_true rfl) (V' := (wJ E a N (jsWa (jsFw (jsSc (jsSe J ((jSe J) + 1)) (bhd N (jSc J))) (bhd N (jSc J))) ((jWa J) + 1)))) rfl dX2_goToNext_47 ?_
    exact ret _ _ _ (by first | rfl | (simp only [jNext, h29_1, ↓reduceIte]; done) | (simp only [jNext, h29_1, ↓reduceIte]; rfl) | (simp [jNext, h29_1, ↓reduceIte]; done)) dX2_goToNext_50
abbrev rmX2_writeLog : Room := { frames := 3, cells := 0, slots := 0, locals := 74 }
theorem hyX2_writeLog : yX2_writeLog.cls = RX2 ∧ yX2_writeLog.cls ≠ "java/lang/invoke/MethodHandle" ∧ yX2_writeLog.cls ≠ "java/lang/invoke/VarHandle" ∧ (parseMethodDescriptor yX2_writeLog.desc).map (fun d => d.parameters.length) = some 0 := by decide +kernel
set_option maxHeartbeats 4000000 in
set_option maxRecDepth 100000 in
theorem c_X2_writeLog (E : GE) (N : Nat) (hN : 16 ≤ N ∧ N ≤ 64) (a : Nat → Nat) (J : JS) (e : Nat) (he : jEn J = nI e) (he4 : e ≤ 4) : zV E yX2_writeLog wsX2_writeLog rmX2_writeLog [.ref (a 0)] (wJ E a N J) (wJ E a N (jWL N J e)) := by
  have heN : jEn (jNext N J) = nI e := (jNext_En N J).trans he
  refine zV_of (cc := cX2_writeLog) (maxL := 3) (by decide) rfl (Nat.le_of_ble_eq_true rfl) ?_
  intro K C ret
  replace C : zC E K cX2_writeLog wsX2_writeLog RX2 rmX2_writeLog 3 := C
  have in2 : ∀ w ∈ wsX20, w ∈ wsX2_writeLog := fun w h => List.mem_cons_of_mem _ (List.mem_append_left _ (List.mem_append_right _ (h)))
  have l9 : zw K (.fieldLink RX2 9 "StoreLog3$Journal" "entryHeads" "[I") := C.w (List.mem_cons_of_mem _ (List.mem_append_left _ (List.mem_append_left _ (List.mem_append_left _ (List.mem_of_getElem? (i := 4) rfl)))))
  have l15 : zw K (.fieldLink RX2 15 "StoreLog3$Journal" "entryKeys" "[I") := C.w (List.mem_cons_of_mem _ (List.mem_append_left _ (List.mem_append_left _ (List.mem_append_left _ (List.mem_of_getElem? (i := 5) rfl)))))
  have l18 : zw K (.fieldLink RX2 18 "StoreLog3$Journal" "entryValues" "[I") := C.w (List.mem_cons_of_mem _ (List.mem_append_left _ (List.mem_append_left _ (List.mem_append_left _ (List.mem_of_getElem? (i := 6) rfl)))))
  have l30 : zw K (.fieldLink RX2 30 "StoreLog3$Journal" "memory" "LStoreLog3$Sectors;") := C.w (List.mem_cons_of_mem _ (List.mem_append_left _ (List.mem_append_left _ (List.mem_append_left _ (List.mem_of_getElem? (i := 1) rfl)))))
  have l50 : zw K (.fieldLink RX2 50 "StoreLog3$Journal" "lastSerial" "I") := C.w (List.mem_cons_of_mem _ (List.mem_append_left _ (List.mem_append_left _ (List.mem_append_left _ (List.mem_of_getElem? (i := 3) rfl)))))
  have l54 : zw K (.fieldLink RX2 54 "StoreLog3$Journal" "lastSector" "I") := C.w (List.mem_cons_of_mem _ (List.mem_append_left _ (List.mem_append_left _ (List.mem_append_left _ (List.mem_of_getElem? (i := 2) rfl)))))
  have l63 : zw K (.fieldLink RX2 63 "StoreLog3$Journal" "entries" "I") := C.w (List.mem_cons_of_mem _ (List.mem_append_left _ (List.mem_append_left _ (List.mem_append_left _ (List.mem_of_getElem? (i := 0) rfl)))))
  show Z E K 0 0 (wJ E a N J) 0 [(0, .ref (a 0))] []
  refine z_aload_n C 0 rfl rfl dX2_writeLog_0 ?_
  refine z_get C (Cn := RX2) (T := TX2) (Nf := 12) (ci := 2) in2 0 5 l63 (v := .int (jEn J)) rfl rfl (by decide) rfl dX2_writeLog_1 ?_
  refine z_if_ne C (tgt := 8) dX2_writeLog_4 (by decide) (fun h4_1 => ?_) (fun h4_1 => ?_)
  · refine z_aload_n C 0 rfl rfl dX2_writeLog_8 ?_
    refine z_callVV C (c_X2_goToNext E N hN a J) gX2_writeLog_X2_goToNext (ci := 2) (q0 := 0) rfl rfl hyX2_goToNext rfl ⟨rfl, rfl⟩ ⟨by decide, by decide⟩ ⟨by decide, by decide⟩ [0, 1, 2, 3, 4, 5, 6, 7] [] [0, 1, 2, 3, 4, 5, 6, 7] (wr := []) (V' := (wJ E a N (jNext N J))) rfl rfl (by decide) (by decide) (by decide) rfl (by decide) (st := []) (Nat.le_of_ble_eq_true rfl) dX2_writeLog_9 ?_ rfl
    refine z_aload_n C 0 rfl rfl dX2_writeLog_12 ?_
    refine z_get C (Cn := RX2) (T := TX2) (Nf := 12) (ci := 2) in2 0 1 l30 (v := .ref (a 3)) rfl rfl (by decide) rfl dX2_writeLog_13 ?_
    refine z_aload_n C 0 rfl rfl dX2_writeLog_16 ?_
    refine z_get C (Cn := RX2) (T := TX2) (Nf := 12) (ci := 2) in2 0 9 l54 (v := .int (jSc (jNext N J))) rfl rfl (by decide) rfl dX2_writeLog_17 ?_
    refine z_iconst C (v := 1) (by decide) dX2_writeLog_20 ?_
    refine z_aload_n C 0 rfl rfl dX2_writeLog_21 ?_
    refine z_get C (Cn := RX2) (T := TX2) (Nf := 12) (ci := 2) in2 0 8 l50 (v := .int (jSe (jNext N J))) rfl rfl (by decide) rfl dX2_writeLog_22 ?_
    refine z_aload_n C 0 rfl rfl dX2_writeLog_25 ?_
    refine z_get C (Cn := RX2) (T := TX2) (Nf := 12) (ci := 2) in2 0 5 l63 (v := .int (jEn (jNext N J))) rfl rfl (by decide) rfl dX2_writeLog_26 ?_
    refine z_top (y := (nI e)) heN ?_
    refine z_callVV C (c_X3_prepare E N hN (a 3) (a 4) (jMm (jNext N J)) (jSc (jNext N J)) 1 (jSe (jNext N J)) (nI e)) gX2_writeLog_X3_prepare (ci := 3) (q0 := 0) rfl rfl hyX3_prepare rfl ⟨rfl, rfl⟩ ⟨by decide, by decide⟩ ⟨by decide, by decide⟩ [3, 4] [0, 1, 2, 5, 6, 7] [0, 1, 2, 6, 7, 3, 4, 5] (wr := [((a 0), .inr (2, [.ref (a 1), .ref (a 3), .ref (a 5), .ref (a 6), .ref (a 7), .int (jEn (jNext N J)), .int (jWa (jNext N J)), .int (jFw (jNext N J)), .int (jSe (jNext N J)), .int (jSc (jNext N J)), .int (jFn (jNext N J)), .int (jFp (jNext N J))])), ((a 1), .inr (3, [.int (nI N), .ref (a 2)])), ((a 2), .inl (gB E, 32 * N, .inl (jDk (jNext N J)))), ((a 5), .inl (gI E, 4, .inl (jEh (jNext N J)))), ((a 6), .inl (gI E, 4, .inl (jEk (jNext N J)))), ((a 7), .inl (gI E, 4, .inl (jEv (jNext N J))))]) (V' := (wJ E a N (jsMm (jNext N J) (prep N (jMm (jNext N J)) (jSc (jNext N J)) 1 (jSe (jNext N J)) (nI e))))) rfl rfl (by decide) (by decide) (by decide) rfl (by decide) (st := []) (Nat.le_of_ble_eq_true rfl) dX2_writeLog_29 ?_ rfl
    refine z_iconst C (v := 0) (by decide) dX2_writeLog_32 ?_
    refine z_istore_n C (lv' := [(1, .int 0), (0, .ref (a 0))]) rfl rfl (by decide) dX2_writeLog_33 ?_
    have loop34 : ∀ (n j : Nat), j + n = e → Z E K 0 0 (wJ E a N (jsMm (jNext N J) (wlL N (jSc (jNext N J)) (jEh (jNext N J)) (jEk (jNext N J)) (jEv (jNext N J)) (prep N (jMm (jNext N J)) (jSc (jNext N J)) 1 (jSe (jNext N J)) (nI e)) j))) 34 [(0, .ref (a 0)), (1, .int (nI j))] [] := by
      intro n
      induction n with
      | zero => 
        intro j hj
        obtain rfl : e = j := by omega
        refine z_iload_n C 1 rfl rfl dX2_writeLog_34 ?_
        refine z_aload_n C 0 rfl rfl dX2_writeLog_35 ?_
        refine z_get C (Cn := RX2) (T := TX2) (Nf := 12) (ci := 2) in2 0 5 l63 (v := .int (jEn (jNext N J))) rfl rfl (by decide) rfl dX2_writeLog_36 ?_
        refine z_top (y := (nI e)) heN ?_
        refine z_icmp_ge C (tgt := 119) dX2_writeLog_39 (by decide) (fun h39_2 => ?_) (fun h39_2 => absurd (nI_le (a := e) (b := e) (Nat.le_refl _) (by omega)) h39_2)
        refine z_aload_n C 0 rfl rfl dX2_writeLog_119 ?_
        refine z_get C (Cn := RX2) (T := TX2) (Nf := 12) (ci := 2) in2 0 1 l30 (v := .ref (a 3)) rfl rfl (by decide) rfl dX2_writeLog_120 ?_
        refine z_aload_n C 0 rfl rfl dX2_writeLog_123 ?_
        refine z_get C (Cn := RX2) (T := TX2) (Nf := 12) (ci := 2) in2 0 9 l54 (v := .int (jSc (jNext N J))) rfl rfl (by decide) rfl dX2_writeLog_124 ?_
        refine z_callVV C (c_X3_seal E N hN (a 3) (a 4) (wlL N (jSc (jNext N J)) (jEh (jNext N J)) (jEk (jNext N J)) (jEv (jNext N J)) (prep N (jMm (jNext N J)) (jSc (jNext N J)) 1 (jSe (jNext N J)) (nI e)) e) (jSc (jNext N J))) gX2_writeLog_X3_seal (ci := 3) (q0 := 0) rfl rfl hyX3_seal rfl ⟨rfl, rfl⟩ ⟨by decide, by decide⟩ ⟨by decide, by decide⟩ [3, 4] [0, 1, 2, 5, 6, 7] [0, 1, 2, 6, 7, 3, 4, 5] (wr := [((a 0), .inr (2, [.ref (a 1), .ref (a 3), .ref (a 5), .ref (a 6), .ref (a 7), .int (jEn (jNext N J)), .int (jWa (jNext N J)), .int (jFw (jNext N J)), .int (jSe (jNext N J)), .int (jSc (jNext N J)), .int (jFn (jNext N J)), .int (jFp (jNext N J))])), ((a 1), .inr (3, [.int (nI N), .ref (a 2)])), ((a 2), .inl (gB E, 32 * N, .inl (jDk (jNext N J)))), ((a 5), .inl (gI E, 4, .inl (jEh (jNext N J)))), ((a 6), .inl (gI E, 4, .inl (jEk (jNext N J)))), ((a 7), .inl (gI E, 4, .inl (jEv (jNext N J))))]) (V' := (wJ E a N (jsMm (jNext N J) (sealS N (wlL N (jSc (jNext N J)) (jEh (jNext N J)) (jEk (jNext N J)) (jEv (jNext N J)) (prep N (jMm (jNext N J)) (jSc (jNext N J)) 1 (jSe (jNext N J)) (nI e)) e) (jSc (jNext N J)))))) rfl rfl (by decide) (by decide) (by decide) rfl (by decide) (st := []) (Nat.le_of_ble_eq_true rfl) dX2_writeLog_127 ?_ rfl
        refine z_aload_n C 0 rfl rfl dX2_writeLog_130 ?_
        refine z_iconst C (v := 0) (by decide) dX2_writeLog_131 ?_
        refine z_put C (Cn := RX2) (T := TX2) (Nf := 12) (ci := 2) in2 0 5 l63 rfl rfl (by decide) tyX2 tyX2_ok nmX2 rfl rfl rfl (Nat.le_of_ble_eq_true rfl) (V' := (wJ E a N (jsEn (jsMm (jNext N J) (sealS N (wlL N (jSc (jNext N J)) (jEh (jNext N J)) (jEk (jNext N J)) (jEv (jNext N J)) (prep N (jMm (jNext N J)) (jSc (jNext N J)) 1 (jSe (jNext N J)) (nI e)) e) (jSc (jNext N J)))) 0))) rfl dX2_writeLog_132 ?_
        exact ret _ _ _ (by first | rfl | (simp only [jWL, h4_1, h39_2, ↓reduceIte]; done) | (simp only [jWL, h4_1, h39_2, ↓reduceIte]; rfl) | (simp [jWL, h4_1, h39_2, ↓reduceIte]; done)) dX2_writeLog_135
      | succ n ih34 => 
        intro j hj
        refine z_iload_n C 1 rfl rfl dX2_writeLog_34 ?_
        refine z_aload_n C 0 rfl rfl dX2_writeLog_35 ?_
        refine z_get C (Cn := RX2) (T := TX2) (Nf := 12) (ci := 2) in2 0 5 l63 (v := .int (jEn (jNext N J))) rfl rfl (by decide) rfl dX2_writeLog_36 ?_
        refine z_top (y := (nI e)) heN ?_
        refine z_icmp_ge C (tgt := 119) dX2_writeLog_39 (by decide) (fun h39_3 => absurd h39_3 (nI_ge (a := j) (b := e) (by omega) (by omega))) (fun h39_3 => ?_)
        refine z_iload_n C 1 rfl rfl dX2_writeLog_42 ?_
        refine z_iconst C (v := 4) (by decide) dX2_writeLog_43 ?_
        refine z_icmp_ge C (tgt := 119) dX2_writeLog_44 (by decide) (fun h44_4 => absurd h44_4 (nI_ge (a := j) (b := 4) (by omega) (by omega))) (fun h44_4 => ?_)
        refine z_bipush C (v := 6) (by decide) dX2_writeLog_47 ?_
        refine z_iload_n C 1 rfl rfl dX2_writeLog_49 ?_
        refine z_iconst C (v := 5) (by decide) dX2_writeLog_50 ?_
        refine z_imul C dX2_writeLog_51 ?_
        refine z_iadd C dX2_writeLog_52 ?_
        refine z_istore_n C (lv' := [(2, .int (6 + ((nI j) * 5))), (0, .ref (a 0)), (1, .int (nI j))]) rfl rfl (by decide) dX2_writeLog_53 ?_
        refine z_aload_n C 1 rfl rfl dX2_writeLog_54 ?_
        refine z_get C (Cn := RX2) (T := TX2) (Nf := 12) (ci := 2) in2 0 1 l30 (v := .ref (a 3)) rfl rfl (by decide) rfl dX2_writeLog_55 ?_
        refine z_aload_n C 1 rfl rfl dX2_writeLog_58 ?_
        refine z_get C (Cn := RX2) (T := TX2) (Nf := 12) (ci := 2) in2 0 9 l54 (v := .int (jSc (jNext N J))) rfl rfl (by decide) rfl dX2_writeLog_59 ?_
        refine z_iload_n C 0 rfl rfl dX2_writeLog_62 ?_
        refine z_aload_n C 1 rfl rfl dX2_writeLog_63 ?_
        refine z_get C (Cn := RX2) (T := TX2) (Nf := 12) (ci := 2) in2 0 2 l9 (v := .ref (a 5)) rfl rfl (by decide) rfl dX2_writeLog_64 ?_
        refine z_iload_n C 2 rfl rfl dX2_writeLog_67 ?_
        refine z_iald C 5 rfl (vp_in_nI (by omega) (by omega)) (v := ((jEh (jNext N J)) j)) (congrArg (jEh (jNext N J)) (nI_clamp (by omega))) dX2_writeLog_68 ?_
        refine z_callVV C (c_X3_setByte E N hN (a 3) (a 4) (wlL N (jSc (jNext N J)) (jEh (jNext N J)) (jEk (jNext N J)) (jEv (jNext N J)) (prep N (jMm (jNext N J)) (jSc (jNext N J)) 1 (jSe (jNext N J)) (nI e)) j) (jSc (jNext N J)) (6 + ((nI j) * 5)) ((jEh (jNext N J)) j)) gX2_writeLog_X3_setByte (ci := 3) (q0 := 0) rfl rfl hyX3_setByte rfl ⟨rfl, rfl⟩ ⟨by decide, by decide⟩ ⟨by decide, by decide⟩ [3, 4] [0, 1, 2, 5, 6, 7] [0, 1, 2, 6, 7, 3, 4, 5] (wr := [((a 0), .inr (2, [.ref (a 1), .ref (a 3), .ref (a 5), .ref (a 6), .ref (a 7), .int (jEn (jNext N J)), .int (jWa (jNext N J)), .int (jFw (jNext N J)), .int (jSe (jNext N J)), .int (jSc (jNext N J)), .int (jFn (jNext N J)), .int (jFp (jNext N J))])), ((a 1), .inr (3, [.int (nI N), .ref (a 2)])), ((a 2), .inl (gB E, 32 * N, .inl (jDk (jNext N J)))), ((a 5), .inl (gI E, 4, .inl (jEh (jNext N J)))), ((a 6), .inl (gI E, 4, .inl (jEk (jNext N J)))), ((a 7), .inl (gI E, 4, .inl (jEv (jNext N J))))]) (V' := (wJ E a N (jsMm (jNext N J) (sB N (wlL N (jSc (jNext N J)) (jEh (jNext N J)) (jEk (jNext N J)) (jEv (jNext N J)) (prep N (jMm (jNext N J)) (jSc (jNext N J)) 1 (jSe (jNext N J)) (nI e)) j) (jSc (jNext N J)) (6 + ((nI j) * 5)) ((jEh (jNext N J)) j))))) rfl rfl (by decide) (by decide) (by decide) rfl (by decide) (st := []) (Nat.le_of_ble_eq_true rfl) dX2_writeLog_69 ?_ rfl
        refine z_aload_n C 1 rfl rfl dX2_writeLog_72 ?_
        refine z_get C (Cn := RX2) (T := TX2) (Nf := 12) (ci := 2) in2 0 1 l30 (v := .ref (a 3)) rfl rfl (by decide) rfl dX2_writeLog_73 ?_
        refine z_aload_n C 1 rfl rfl dX2_writeLog_76 ?_
        refine z_get C (Cn := RX2) (T := TX2) (Nf := 12) (ci := 2) in2 0 9 l54 (v := .int (jSc (jNext N J))) rfl rfl (by decide) rfl dX2_writeLog_77 ?_
        refine z_iload_n C 0 rfl rfl dX2_writeLog_80 ?_
        refine z_iconst C (v := 1) (by decide) dX2_writeLog_81 ?_
        refine z_iadd C dX2_writeLog_82 ?_
        refine z_aload_n C 1 rfl rfl dX2_writeLog_83 ?_
        refine z_get C (Cn := RX2) (T := TX2) (Nf := 12) (ci := 2) in2 0 3 l15 (v := .ref (a 6)) rfl rfl (by decide) rfl dX2_writeLog_84 ?_
        refine z_iload_n C 2 rfl rfl dX2_writeLog_87 ?_
        refine z_iald C 6 rfl (vp_in_nI (by omega) (by omega)) (v := ((jEk (jNext N J)) j)) (congrArg (jEk (jNext N J)) (nI_clamp (by omega))) dX2_writeLog_88 ?_
        refine z_callVV C (c_X3_setByte E N hN (a 3) (a 4) (sB N (wlL N (jSc (jNext N J)) (jEh (jNext N J)) (jEk (jNext N J)) (jEv (jNext N J)) (prep N (jMm (jNext N J)) (jSc (jNext N J)) 1 (jSe (jNext N J)) (nI e)) j) (jSc (jNext N J)) (6 + ((nI j) * 5)) ((jEh (jNext N J)) j)) (jSc (jNext N J)) ((6 + ((nI j) * 5)) + 1) ((jEk (jNext N J)) j)) gX2_writeLog_X3_setByte (ci := 3) (q0 := 0) rfl rfl hyX3_setByte rfl ⟨rfl, rfl⟩ ⟨by decide, by decide⟩ ⟨by decide, by decide⟩ [3, 4] [0, 1, 2, 5, 6, 7] [0, 1, 2, 6, 7, 3, 4, 5] (wr := [((a 0), .inr (2, [.ref (a 1), .ref (a 3), .ref (a 5), .ref (a 6), .ref (a 7), .int (jEn (jNext N J)), .int (jWa (jNext N J)), .int (jFw (jNext N J)), .int (jSe (jNext N J)), .int (jSc (jNext N J)), .int (jFn (jNext N J)), .int (jFp (jNext N J))])), ((a 1), .inr (3, [.int (nI N), .ref (a 2)])), ((a 2), .inl (gB E, 32 * N, .inl (jDk (jNext N J)))), ((a 5), .inl (gI E, 4, .inl (jEh (jNext N J)))), ((a 6), .inl (gI E, 4, .inl (jEk (jNext N J)))), ((a 7), .inl (gI E, 4, .inl (jEv (jNext N J))))]) (V' := (wJ E a N (jsMm (jNext N J) (sB N (sB N (wlL N (jSc (jNext N J)) (jEh (jNext N J)) (jEk (jNext N J)) (jEv (jNext N J)) (prep N (jMm (jNext N J)) (jSc (jNext N J)) 1 (jSe (jNext N J)) (nI e)) j) (jSc (jNext N J)) (6 + ((nI j) * 5)) ((jEh (jNext N J)) j)) (jSc (jNext N J)) ((6 + ((nI j) * 5)) + 1) ((jEk (jNext N J)) j))))) rfl rfl (by decide) (by decide) (by decide) rfl (by decide) (st := []) (Nat.le_of_ble_eq_true rfl) dX2_writeLog_89 ?_ rfl
        refine z_aload_n C 1 rfl rfl dX2_writeLog_92 ?_
        refine z_get C (Cn := RX2) (T := TX2) (Nf := 12) (ci := 2) in2 0 1 l30 (v := .ref (a 3)) rfl rfl (by decide) rfl dX2_writeLog_93 ?_
        refine z_aload_n C 1 rfl rfl dX2_writeLog_96 ?_
        refine z_get C (Cn := RX2) (T := TX2) (Nf := 12) (ci := 2) in2 0 9 l54 (v := .int (jSc (jNext N J))) rfl rfl (by decide) rfl dX2_writeLog_97 ?_
        refine z_iload_n C 0 rfl rfl dX2_writeLog_100 ?_
        refine z_iconst C (v := 2) (by decide) dX2_writeLog_101 ?_
        refine z_iadd C dX2_writeLog_102 ?_
        refine z_iconst C (v := 3) (by decide) dX2_writeLog_103 ?_
        refine z_aload_n C 1 rfl rfl dX2_writeLog_104 ?_
        refine z_get C (Cn := RX2) (T := TX2) (Nf := 12) (ci := 2) in2 0 4 l18 (v := .ref (a 7)) rfl rfl (by decide) rfl dX2_writeLog_105 ?_
        refine z_iload_n C 2 rfl rfl dX2_writeLog_108 ?_
        refine z_iald C 7 rfl (vp_in_nI (by omega) (by omega)) (v := ((jEv (jNext N J)) j)) (congrArg (jEv (jNext N J)) (nI_clamp (by omega))) dX2_writeLog_109 ?_
        refine z_callVV C (c_X3_setNumber E N hN (a 3) (a 4) (sB N (sB N (wlL N (jSc (jNext N J)) (jEh (jNext N J)) (jEk (jNext N J)) (jEv (jNext N J)) (prep N (jMm (jNext N J)) (jSc (jNext N J)) 1 (jSe (jNext N J)) (nI e)) j) (jSc (jNext N J)) (6 + ((nI j) * 5)) ((jEh (jNext N J)) j)) (jSc (jNext N J)) ((6 + ((nI j) * 5)) + 1) ((jEk (jNext N J)) j)) (jSc (jNext N J)) ((6 + ((nI j) * 5)) + 2) 3 ((jEv (jNext N J)) j) (by decide)) gX2_writeLog_X3_setNumber (ci := 3) (q0 := 0) rfl rfl hyX3_setNumber rfl ⟨rfl, rfl⟩ ⟨by decide, by decide⟩ ⟨by decide, by decide⟩ [3, 4] [0, 1, 2, 5, 6, 7] [0, 1, 2, 6, 7, 3, 4, 5] (wr := [((a 0), .inr (2, [.ref (a 1), .ref (a 3), .ref (a 5), .ref (a 6), .ref (a 7), .int (jEn (jNext N J)), .int (jWa (jNext N J)), .int (jFw (jNext N J)), .int (jSe (jNext N J)), .int (jSc (jNext N J)), .int (jFn (jNext N J)), .int (jFp (jNext N J))])), ((a 1), .inr (3, [.int (nI N), .ref (a 2)])), ((a 2), .inl (gB E, 32 * N, .inl (jDk (jNext N J)))), ((a 5), .inl (gI E, 4, .inl (jEh (jNext N J)))), ((a 6), .inl (gI E, 4, .inl (jEk (jNext N J)))), ((a 7), .inl (gI E, 4, .inl (jEv (jNext N J))))]) (V' := (wJ E a N (jsMm (jNext N J) (sN N (jSc (jNext N J)) ((6 + ((nI j) * 5)) + 2) 3 (sB N (sB N (wlL N (jSc (jNext N J)) (jEh (jNext N J)) (jEk (jNext N J)) (jEv (jNext N J)) (prep N (jMm (jNext N J)) (jSc (jNext N J)) 1 (jSe (jNext N J)) (nI e)) j) (jSc (jNext N J)) (6 + ((nI j) * 5)) ((jEh (jNext N J)) j)) (jSc (jNext N J)) ((6 + ((nI j) * 5)) + 1) ((jEk (jNext N J)) j)) ((jEv (jNext N J)) j))))) rfl rfl (by decide) (by decide) (by decide) rfl (by decide) (st := []) (Nat.le_of_ble_eq_true rfl) dX2_writeLog_110 ?_ rfl
        refine z_iinc C 2 rfl (v := (nI (j + 1))) (zinc _) (lv' := [(1, .int (nI (j + 1))), (2, .int (6 + ((nI j) * 5))), (0, .ref (a 0))]) rfl (by decide) dX2_writeLog_113 ?_
        refine z_goto C (tgt := 34) dX2_writeLog_116 (by decide) ?_
        refine z_lv (lv' := [(0, .ref (a 0)), (1, .int (nI (j + 1)))]) [2, 0] rfl ?_
        exact ih34 (j + 1)  (by omega)
    refine z_lv (lv' := [(0, .ref (a 0)), (1, .int 0)]) [1, 0] rfl ?_
    exact loop34 e 0  (by omega)
  · exact ret _ _ _ (by first | rfl | (simp only [jWL, h4_1, ↓reduceIte]; done) | (simp only [jWL, h4_1, ↓reduceIte]; rfl) | (simp [jWL, h4_1, ↓reduceIte]; done)) dX2_writeLog_7
abbrev rmX2_takeEntry : Room := { frames := 4, cells := 0, slots := 0, locals := 96 }
theorem hyX2_takeEntry : yX2_takeEntry.cls = RX2 ∧ yX2_takeEntry.cls ≠ "java/lang/invoke/MethodHandle" ∧ yX2_takeEntry.cls ≠ "java/lang/invoke/VarHandle" ∧ (parseMethodDescriptor yX2_takeEntry.desc).map (fun d => d.parameters.length) = some 4 := by decide +kernel
set_option maxHeartbeats 4000000 in
set_option maxRecDepth 100000 in
theorem c_X2_takeEntry (E : GE) (N : Nat) (hN : 16 ≤ N ∧ N ≤ 64) (a : Nat → Nat) (J : JS) (t w k v : Int32) (e : Nat) (he : jEn J = nI e) (he3 : e ≤ 3) : zV E yX2_takeEntry wsX2_takeEntry rmX2_takeEntry [.ref (a 0), .int t, .int w, .int k, .int v] (wJ E a N J) (wJ E a N (jTake N J t w k v e)) := by
  refine zV_of (cc := cX2_takeEntry) (maxL := 5) (by decide) rfl (Nat.le_of_ble_eq_true rfl) ?_
  intro K C ret
  replace C : zC E K cX2_takeEntry wsX2_takeEntry RX2 rmX2_takeEntry 5 := C
  have in2 : ∀ w ∈ wsX20, w ∈ wsX2_takeEntry := fun w h => List.mem_cons_of_mem _ (List.mem_append_left _ (List.mem_append_right _ (h)))
  have l9 : zw K (.fieldLink RX2 9 "StoreLog3$Journal" "entryHeads" "[I") := C.w (List.mem_cons_of_mem _ (List.mem_append_left _ (List.mem_append_left _ (List.mem_append_left _ (List.mem_of_getElem? (i := 1) rfl)))))
  have l15 : zw K (.fieldLink RX2 15 "StoreLog3$Journal" "entryKeys" "[I") := C.w (List.mem_cons_of_mem _ (List.mem_append_left _ (List.mem_append_left _ (List.mem_append_left _ (List.mem_of_getElem? (i := 2) rfl)))))
  have l18 : zw K (.fieldLink RX2 18 "StoreLog3$Journal" "entryValues" "[I") := C.w (List.mem_cons_of_mem _ (List.mem_append_left _ (List.mem_append_left _ (List.mem_append_left _ (List.mem_of_getElem? (i := 3) rfl)))))
  have l63 : zw K (.fieldLink RX2 63 "StoreLog3$Journal" "entries" "I") := C.w (List.mem_cons_of_mem _ (List.mem_append_left _ (List.mem_append_left _ (List.mem_append_left _ (List.mem_of_getElem? (i := 0) rfl)))))
  show Z E K 0 0 (wJ E a N J) 0 [(0, .ref (a 0)), (1, .int t), (2, .int w), (3, .int k), (4, .int v)] []
  refine z_aload_n C 0 rfl rfl dX2_takeEntry_0 ?_
  refine z_get C (Cn := RX2) (T := TX2) (Nf := 12) (ci := 2) in2 0 5 l63 (v := .int (jEn J)) rfl rfl (by decide) rfl dX2_takeEntry_1 ?_
  refine z_top (y := (nI e)) he ?_
  refine z_if_lt C (tgt := 15) dX2_takeEntry_4 (by decide) (fun h4_1 => absurd h4_1 (nI_pos (by omega))) (fun h4_1 => ?_)
  refine z_aload_n C 0 rfl rfl dX2_takeEntry_7 ?_
  refine z_get C (Cn := RX2) (T := TX2) (Nf := 12) (ci := 2) in2 0 5 l63 (v := .int (jEn J)) rfl rfl (by decide) rfl dX2_takeEntry_8 ?_
  refine z_top (y := (nI e)) he ?_
  refine z_iconst C (v := 4) (by decide) dX2_takeEntry_11 ?_
  refine z_icmp_lt C (tgt := 16) dX2_takeEntry_12 (by decide) (fun h12_2 => ?_) (fun h12_2 => absurd (nI_lt (a := e) (b := 4) (by omega) (by omega)) h12_2)
  refine z_aload_n C 0 rfl rfl dX2_takeEntry_16 ?_
  refine z_get C (Cn := RX2) (T := TX2) (Nf := 12) (ci := 2) in2 0 2 l9 (v := .ref (a 5)) rfl rfl (by decide) rfl dX2_takeEntry_17 ?_
  refine z_aload_n C 0 rfl rfl dX2_takeEntry_20 ?_
  refine z_get C (Cn := RX2) (T := TX2) (Nf := 12) (ci := 2) in2 0 5 l63 (v := .int (jEn J)) rfl rfl (by decide) rfl dX2_takeEntry_21 ?_
  refine z_top (y := (nI e)) he ?_
  refine z_iconst C (v := 4) (by decide) dX2_takeEntry_24 ?_
  refine z_iload_n C 1 rfl rfl dX2_takeEntry_25 ?_
  refine z_imul C dX2_takeEntry_26 ?_
  refine z_iload_n C 2 rfl rfl dX2_takeEntry_27 ?_
  refine z_iadd C dX2_takeEntry_28 ?_
  refine z_iast C 5 rfl (vp_in_nI (by omega) (by omega)) (g := (upd (jEh J) e ((4 * t) + w))) (by rw [nI_clamp (by omega)]) (V' := (wJ E a N (jsEh J (upd (jEh J) e ((4 * t) + w))))) rfl dX2_takeEntry_29 ?_
  refine z_aload_n C 0 rfl rfl dX2_takeEntry_30 ?_
  refine z_get C (Cn := RX2) (T := TX2) (Nf := 12) (ci := 2) in2 0 3 l15 (v := .ref (a 6)) rfl rfl (by decide) rfl dX2_takeEntry_31 ?_
  refine z_aload_n C 0 rfl rfl dX2_takeEntry_34 ?_
  refine z_get C (Cn := RX2) (T := TX2) (Nf := 12) (ci := 2) in2 0 5 l63 (v := .int (jEn J)) rfl rfl (by decide) rfl dX2_takeEntry_35 ?_
  refine z_top (y := (nI e)) he ?_
  refine z_iload_n C 3 rfl rfl dX2_takeEntry_38 ?_
  refine z_iast C 6 rfl (vp_in_nI (by omega) (by omega)) (g := (upd (jEk J) e k)) (by rw [nI_clamp (by omega)]) (V' := (wJ E a N (jsEk (jsEh J (upd (jEh J) e ((4 * t) + w))) (upd (jEk J) e k)))) rfl dX2_takeEntry_39 ?_
  refine z_aload_n C 0 rfl rfl dX2_takeEntry_40 ?_
  refine z_get C (Cn := RX2) (T := TX2) (Nf := 12) (ci := 2) in2 0 4 l18 (v := .ref (a 7)) rfl rfl (by decide) rfl dX2_takeEntry_41 ?_
  refine z_aload_n C 0 rfl rfl dX2_takeEntry_44 ?_
  refine z_get C (Cn := RX2) (T := TX2) (Nf := 12) (ci := 2) in2 0 5 l63 (v := .int (jEn J)) rfl rfl (by decide) rfl dX2_takeEntry_45 ?_
  refine z_top (y := (nI e)) he ?_
  refine z_iload C 4 rfl dX2_takeEntry_48 ?_
  refine z_iast C 7 rfl (vp_in_nI (by omega) (by omega)) (g := (upd (jEv J) e v)) (by rw [nI_clamp (by omega)]) (V' := (wJ E a N (jsEv (jsEk (jsEh J (upd (jEh J) e ((4 * t) + w))) (upd (jEk J) e k)) (upd (jEv J) e v)))) rfl dX2_takeEntry_50 ?_
  refine z_aload_n C 0 rfl rfl dX2_takeEntry_51 ?_
  refine z_dup C rfl dX2_takeEntry_52 ?_
  refine z_get C (Cn := RX2) (T := TX2) (Nf := 12) (ci := 2) in2 0 5 l63 (v := .int (jEn J)) rfl rfl (by decide) rfl dX2_takeEntry_53 ?_
  refine z_top (y := (nI e)) he ?_
  refine z_iconst C (v := 1) (by decide) dX2_takeEntry_56 ?_
  refine z_iadd C dX2_takeEntry_57 ?_
  refine z_top (y := (nI (e + 1))) (nI_1 _) ?_
  refine z_put C (Cn := RX2) (T := TX2) (Nf := 12) (ci := 2) in2 0 5 l63 rfl rfl (by decide) tyX2 tyX2_ok nmX2 rfl rfl rfl (Nat.le_of_ble_eq_true rfl) (V' := (wJ E a N (jsEn (jsEv (jsEk (jsEh J (upd (jEh J) e ((4 * t) + w))) (upd (jEk J) e k)) (upd (jEv J) e v)) (nI (e + 1))))) rfl dX2_takeEntry_58 ?_
  refine z_aload_n C 0 rfl rfl dX2_takeEntry_61 ?_
  refine z_get C (Cn := RX2) (T := TX2) (Nf := 12) (ci := 2) in2 0 5 l63 (v := .int (nI (e + 1))) rfl rfl (by decide) rfl dX2_takeEntry_62 ?_
  refine z_iconst C (v := 4) (by decide) dX2_takeEntry_65 ?_
  refine z_icmp_ne C (tgt := 73) dX2_takeEntry_66 (by decide) (fun h66_3 => ?_) (fun h66_3 => ?_)
  · exact ret _ _ _ (by first | rfl | (simp only [jTake, jPut1, h4_1, h12_2, h66_3, ↓reduceIte]; done) | (simp only [jTake, jPut1, h4_1, h12_2, h66_3, ↓reduceIte]; rfl) | (simp [jTake, jPut1, h4_1, h12_2, h66_3, ↓reduceIte]; done)) dX2_takeEntry_73
  · refine z_aload_n C 0 rfl rfl dX2_takeEntry_69 ?_
    refine z_callVV C (c_X2_writeLog E N hN a (jsEn (jsEv (jsEk (jsEh J (upd (jEh J) e ((4 * t) + w))) (upd (jEk J) e k)) (upd (jEv J) e v)) (nI (e + 1))) 4 h66_3 (by decide)) gX2_takeEntry_X2_writeLog (ci := 2) (q0 := 0) rfl rfl hyX2_writeLog rfl ⟨rfl, rfl⟩ ⟨by decide, by decide⟩ ⟨by decide, by decide⟩ [0, 1, 2, 3, 4, 5, 6, 7] [] [0, 1, 2, 3, 4, 5, 6, 7] (wr := []) (V' := (wJ E a N (jWL N (jsEn (jsEv (jsEk (jsEh J (upd (jEh J) e ((4 * t) + w))) (upd (jEk J) e k)) (upd (jEv J) e v)) (nI (e + 1))) 4))) rfl rfl (by decide) (by decide) (by decide) rfl (by decide) (st := []) (Nat.le_of_ble_eq_true rfl) dX2_takeEntry_70 ?_ rfl
    exact ret _ _ _ (by first | rfl | (simp only [jTake, jPut1, h4_1, h12_2, h66_3, ↓reduceIte]; done) | (simp only [jTake, jPut1, h4_1, h12_2, h66_3, ↓reduceIte]; rfl) | (simp [jTake, jPut1, h4_1, h12_2, h66_3, ↓reduceIte]; done)) dX2_takeEntry_73
abbrev rmX2_writePairs : Room := { frames := 3, cells := 0, slots := 0, locals := 74 }
theorem hyX2_writePairs : yX2_writePairs.cls = RX2 ∧ yX2_writePairs.cls ≠ "java/lang/invoke/MethodHandle" ∧ yX2_writePairs.cls ≠ "java/lang/invoke/VarHandle" ∧ (parseMethodDescriptor yX2_writePairs.desc).map (fun d => d.parameters.length) = some 2 := by decide +kernel
set_option maxHeartbeats 4000000 in
set_option maxRecDepth 100000 in
theorem c_X2_writePairs (E : GE) (N : Nat) (hN : 16 ≤ N ∧ N ≤ 64) (a : Nat → Nat) (J : JS) (a2 : Nat → Nat) (D : DS) (fk : Nat) (hk : fk ≤ 32) : zI E yX2_writePairs wsX2_writePairs rmX2_writePairs [.ref (a 0), .ref (a2 0), .int (nI fk)] ((wJ E a N J) ++ (wD E a2 D)) (nI (jWPk N J D fk)) ((wJ E a N (jWPr N J D fk)) ++ (wD E a2 D)) := by
  refine zI_of (cc := cX2_writePairs) (maxL := 6) (ty := .int) (by decide) rfl (vp_nar_int _) (Nat.le_of_ble_eq_true rfl) ?_
  intro K C ret
  replace C : zC E K cX2_writePairs wsX2_writePairs RX2 rmX2_writePairs 6 := C
  have in2 : ∀ w ∈ wsX20, w ∈ wsX2_writePairs := fun w h => List.mem_cons_of_mem _ (List.mem_append_left _ (List.mem_append_left _ (List.mem_append_right _ (h))))
  have l30 : zw K (.fieldLink RX2 30 "StoreLog3$Journal" "memory" "LStoreLog3$Sectors;") := C.w (List.mem_cons_of_mem _ (List.mem_append_left _ (List.mem_append_left _ (List.mem_append_left _ (List.mem_append_left _ (List.mem_of_getElem? (i := 0) rfl))))))
  have l50 : zw K (.fieldLink RX2 50 "StoreLog3$Journal" "lastSerial" "I") := C.w (List.mem_cons_of_mem _ (List.mem_append_left _ (List.mem_append_left _ (List.mem_append_left _ (List.mem_append_left _ (List.mem_of_getElem? (i := 2) rfl))))))
  have l54 : zw K (.fieldLink RX2 54 "StoreLog3$Journal" "lastSector" "I") := C.w (List.mem_cons_of_mem _ (List.mem_append_left _ (List.mem_append_left _ (List.mem_append_left _ (List.mem_append_left _ (List.mem_of_getElem? (i := 1) rfl))))))
  show Z E K 0 0 ((wJ E a N J) ++ (wD E a2 D)) 0 [(0, .ref (a 0)), (1, .ref (a2 0)), (2, .int (nI fk))] []
  refine z_aload_n C 0 rfl rfl dX2_writePairs_0 ?_
  refine z_get C (Cn := RX2) (T := TX2) (Nf := 12) (ci := 2) in2 0 1 l30 (v := .ref (a 3)) rfl rfl (by decide) rfl dX2_writePairs_1 ?_
  refine z_aload_n C 0 rfl rfl dX2_writePairs_4 ?_
  refine z_get C (Cn := RX2) (T := TX2) (Nf := 12) (ci := 2) in2 0 9 l54 (v := .int (jSc J)) rfl rfl (by decide) rfl dX2_writePairs_5 ?_
  refine z_iconst C (v := 2) (by decide) dX2_writePairs_8 ?_
  refine z_aload_n C 0 rfl rfl dX2_writePairs_9 ?_
  refine z_get C (Cn := RX2) (T := TX2) (Nf := 12) (ci := 2) in2 0 8 l50 (v := .int (jSe J)) rfl rfl (by decide) rfl dX2_writePairs_10 ?_
  refine z_iconst C (v := 0) (by decide) dX2_writePairs_13 ?_
  refine z_callVV C (c_X3_prepare E N hN (a 3) (a 4) (jMm J) (jSc J) 2 (jSe J) 0) gX2_writePairs_X3_prepare (ci := 3) (q0 := 0) rfl rfl hyX3_prepare rfl ⟨rfl, rfl⟩ ⟨by decide, by decide⟩ ⟨by decide, by decide⟩ [3, 4] [0, 1, 2, 5, 6, 7, 8, 9, 10, 11] [0, 1, 2, 10, 11, 3, 4, 5, 6, 7, 8, 9] (wr := [((a 0), .inr (2, [.ref (a 1), .ref (a 3), .ref (a 5), .ref (a 6), .ref (a 7), .int (jEn J), .int (jWa J), .int (jFw J), .int (jSe J), .int (jSc J), .int (jFn J), .int (jFp J)])), ((a 1), .inr (3, [.int (nI N), .ref (a 2)])), ((a 2), .inl (gB E, 32 * N, .inl (jDk J))), ((a 5), .inl (gI E, 4, .inl (jEh J))), ((a 6), .inl (gI E, 4, .inl (jEk J))), ((a 7), .inl (gI E, 4, .inl (jEv J))), ((a2 0), .inr (0, [.ref (a2 1), .ref (a2 2), .ref (a2 3), .int (dOp D)])), ((a2 1), .inl (gI E, 32, .inl (dCo D))), ((a2 2), .inl (gI E, 32, .inl (dCh D))), ((a2 3), .inl (gI E, 32, .inl (dHo D)))]) (V' := ((wJ E a N (jsMm J (prep N (jMm J) (jSc J) 2 (jSe J) 0))) ++ (wD E a2 D))) rfl rfl (by decide) (by decide) (by decide) rfl (by decide) (st := []) (Nat.le_of_ble_eq_true rfl) dX2_writePairs_14 ?_ rfl
  refine z_iload_n C 2 rfl rfl dX2_writePairs_17 ?_
  refine z_istore_n C (lv' := [(3, .int (nI fk)), (0, .ref (a 0)), (1, .ref (a2 0)), (2, .int (nI fk))]) rfl rfl (by decide) dX2_writePairs_18 ?_
  refine z_iconst C (v := 0) (by decide) dX2_writePairs_19 ?_
  refine z_istore C (lv' := [(4, .int 0), (3, .int (nI fk)), (0, .ref (a 0)), (1, .ref (a2 0)), (2, .int (nI fk))]) rfl (by decide) dX2_writePairs_20 ?_
  have loop22 : ∀ (n m k : Nat) (g : Nat → Int32), m + n = 5 → k ≤ 32 → wpL N D (jSc J) n m k g = wpL N D (jSc J) 5 0 fk (prep N (jMm J) (jSc J) 2 (jSe J) 0) → Z E K 0 0 ((wJ E a N (jsMm J g)) ++ (wD E a2 D)) 22 [(0, .ref (a 0)), (1, .ref (a2 0)), (3, .int (nI k)), (4, .int (nI m))] [] := by
    intro n
    induction n with
    | zero => 
      intro m k g hj hkk hT
      obtain rfl : m = 5 := by omega
      refine z_iload C 3 rfl dX2_writePairs_22 ?_
      refine z_iconst C (v := 5) (by decide) dX2_writePairs_24 ?_
      refine z_icmp_ge C (tgt := 92) dX2_writePairs_25 (by decide) (fun h25_1 => ?_) (fun h25_1 => absurd (nI_le (a := 5) (b := 5) (Nat.le_refl _) (by omega)) h25_1)
      refine z_aload_n C 0 rfl rfl dX2_writePairs_92 ?_
      refine z_get C (Cn := RX2) (T := TX2) (Nf := 12) (ci := 2) in2 0 1 l30 (v := .ref (a 3)) rfl rfl (by decide) rfl dX2_writePairs_93 ?_
      refine z_aload_n C 0 rfl rfl dX2_writePairs_96 ?_
      refine z_get C (Cn := RX2) (T := TX2) (Nf := 12) (ci := 2) in2 0 9 l54 (v := .int (jSc J)) rfl rfl (by decide) rfl dX2_writePairs_97 ?_
      refine z_iconst C (v := 5) (by decide) dX2_writePairs_100 ?_
      refine z_iload C 3 rfl dX2_writePairs_101 ?_
      refine z_callVV C (c_X3_setByte E N hN (a 3) (a 4) g (jSc J) 5 (nI 5)) gX2_writePairs_X3_setByte (ci := 3) (q0 := 0) rfl rfl hyX3_setByte rfl ⟨rfl, rfl⟩ ⟨by decide, by decide⟩ ⟨by decide, by decide⟩ [3, 4] [0, 1, 2, 5, 6, 7, 8, 9, 10, 11] [0, 1, 2, 10, 11, 3, 4, 5, 6, 7, 8, 9] (wr := [((a 0), .inr (2, [.ref (a 1), .ref (a 3), .ref (a 5), .ref (a 6), .ref (a 7), .int (jEn J), .int (jWa J), .int (jFw J), .int (jSe J), .int (jSc J), .int (jFn J), .int (jFp J)])), ((a 1), .inr (3, [.int (nI N), .ref (a 2)])), ((a 2), .inl (gB E, 32 * N, .inl (jDk J))), ((a 5), .inl (gI E, 4, .inl (jEh J))), ((a 6), .inl (gI E, 4, .inl (jEk J))), ((a 7), .inl (gI E, 4, .inl (jEv J))), ((a2 0), .inr (0, [.ref (a2 1), .ref (a2 2), .ref (a2 3), .int (dOp D)])), ((a2 1), .inl (gI E, 32, .inl (dCo D))), ((a2 2), .inl (gI E, 32, .inl (dCh D))), ((a2 3), .inl (gI E, 32, .inl (dHo D)))]) (V' := ((wJ E a N (jsMm J (sB N g (jSc J) 5 (nI 5)))) ++ (wD E a2 D))) rfl rfl (by decide) (by decide) (by decide) rfl (by decide) (st := []) (Nat.le_of_ble_eq_true rfl) dX2_writePairs_103 ?_ rfl
      refine z_iload_n C 2 rfl rfl dX2_writePairs_106 ?_
      exact ret _ _ _ _ (by unfold jWPk jWPx; rw [← hT]; first | rfl | (simp only [wpL, h25_1, ↓reduceIte]; done) | (simp only [wpL, h25_1, ↓reduceIte]; rfl)) (by unfold jWPr jWPx; rw [← hT]; first | rfl | (simp only [wpL, h25_1, ↓reduceIte]; done) | (simp only [wpL, h25_1, ↓reduceIte]; rfl)) dX2_writePairs_107
    | succ n ih22 => 
      intro m k g hj hkk hT
      refine z_iload C 3 rfl dX2_writePairs_22 ?_
      refine z_iconst C (v := 5) (by decide) dX2_writePairs_24 ?_
      refine z_icmp_ge C (tgt := 92) dX2_writePairs_25 (by decide) (fun h25_2 => absurd h25_2 (nI_ge (a := m) (b := 5) (by omega) (by omega))) (fun h25_2 => ?_)
      refine z_iload_n C 2 rfl rfl dX2_writePairs_28 ?_
      refine z_bipush C (v := 32) (by decide) dX2_writePairs_29 ?_
      refine z_icmp_ge C (tgt := 92) dX2_writePairs_31 (by decide) (fun h31_3 => ?_) (fun h31_3 => ?_)
      · refine z_aload_n C 0 rfl rfl dX2_writePairs_92 ?_
        refine z_get C (Cn := RX2) (T := TX2) (Nf := 12) (ci := 2) in2 0 1 l30 (v := .ref (a 3)) rfl rfl (by decide) rfl dX2_writePairs_93 ?_
        refine z_aload_n C 0 rfl rfl dX2_writePairs_96 ?_
        refine z_get C (Cn := RX2) (T := TX2) (Nf := 12) (ci := 2) in2 0 9 l54 (v := .int (jSc J)) rfl rfl (by decide) rfl dX2_writePairs_97 ?_
        refine z_iconst C (v := 5) (by decide) dX2_writePairs_100 ?_
        refine z_iload C 3 rfl dX2_writePairs_101 ?_
        refine z_callVV C (c_X3_setByte E N hN (a 3) (a 4) g (jSc J) 5 (nI m)) gX2_writePairs_X3_setByte (ci := 3) (q0 := 0) rfl rfl hyX3_setByte rfl ⟨rfl, rfl⟩ ⟨by decide, by decide⟩ ⟨by decide, by decide⟩ [3, 4] [0, 1, 2, 5, 6, 7, 8, 9, 10, 11] [0, 1, 2, 10, 11, 3, 4, 5, 6, 7, 8, 9] (wr := [((a 0), .inr (2, [.ref (a 1), .ref (a 3), .ref (a 5), .ref (a 6), .ref (a 7), .int (jEn J), .int (jWa J), .int (jFw J), .int (jSe J), .int (jSc J), .int (jFn J), .int (jFp J)])), ((a 1), .inr (3, [.int (nI N), .ref (a 2)])), ((a 2), .inl (gB E, 32 * N, .inl (jDk J))), ((a 5), .inl (gI E, 4, .inl (jEh J))), ((a 6), .inl (gI E, 4, .inl (jEk J))), ((a 7), .inl (gI E, 4, .inl (jEv J))), ((a2 0), .inr (0, [.ref (a2 1), .ref (a2 2), .ref (a2 3), .int (dOp D)])), ((a2 1), .inl (gI E, 32, .inl (dCo D))), ((a2 2), .inl (gI E, 32, .inl (dCh D))), ((a2 3), .inl (gI E, 32, .inl (dHo D)))]) (V' := ((wJ E a N (jsMm J (sB N g (jSc J) 5 (nI m)))) ++ (wD E a2 D))) rfl rfl (by decide) (by decide) (by decide) rfl (by decide) (st := []) (Nat.le_of_ble_eq_true rfl) dX2_writePairs_103 ?_ rfl
        refine z_iload_n C 2 rfl rfl dX2_writePairs_106 ?_
        exact ret _ _ _ _ (by unfold jWPk jWPx; rw [← hT]; first | rfl | (simp only [wpL, h25_2, h31_3, ↓reduceIte]; done) | (simp only [wpL, h25_2, h31_3, ↓reduceIte]; rfl)) (by unfold jWPr jWPx; rw [← hT]; first | rfl | (simp only [wpL, h25_2, h31_3, ↓reduceIte]; done) | (simp only [wpL, h25_2, h31_3, ↓reduceIte]; rfl)) dX2_writePairs_107
      · have hk32 : k < 32 := zk32 hkk h31_3
        refine z_bipush C (v := 6) (by decide) dX2_writePairs_34 ?_
        refine z_iload C 3 rfl dX2_writePairs_36 ?_
        refine z_iconst C (v := 4) (by decide) dX2_writePairs_38 ?_
        refine z_imul C dX2_writePairs_39 ?_
        refine z_iadd C dX2_writePairs_40 ?_
        refine z_istore C (lv' := [(5, .int (6 + ((nI m) * 4))), (0, .ref (a 0)), (1, .ref (a2 0)), (3, .int (nI k)), (4, .int (nI m))]) rfl (by decide) dX2_writePairs_41 ?_
        refine z_aload_n C 1 rfl rfl dX2_writePairs_43 ?_
        refine z_get C (Cn := RX2) (T := TX2) (Nf := 12) (ci := 2) in2 0 1 l30 (v := .ref (a 3)) rfl rfl (by decide) rfl dX2_writePairs_44 ?_
        refine z_aload_n C 1 rfl rfl dX2_writePairs_47 ?_
        refine z_get C (Cn := RX2) (T := TX2) (Nf := 12) (ci := 2) in2 0 9 l54 (v := .int (jSc J)) rfl rfl (by decide) rfl dX2_writePairs_48 ?_
        refine z_iload C 0 rfl dX2_writePairs_51 ?_
        refine z_iload_n C 3 rfl rfl dX2_writePairs_53 ?_
        refine z_callVV C (c_X3_setByte E N hN (a 3) (a 4) g (jSc J) (6 + ((nI m) * 4)) (nI k)) gX2_writePairs_X3_setByte (ci := 3) (q0 := 0) rfl rfl hyX3_setByte rfl ⟨rfl, rfl⟩ ⟨by decide, by decide⟩ ⟨by decide, by decide⟩ [3, 4] [0, 1, 2, 5, 6, 7, 8, 9, 10, 11] [0, 1, 2, 10, 11, 3, 4, 5, 6, 7, 8, 9] (wr := [((a 0), .inr (2, [.ref (a 1), .ref (a 3), .ref (a 5), .ref (a 6), .ref (a 7), .int (jEn J), .int (jWa J), .int (jFw J), .int (jSe J), .int (jSc J), .int (jFn J), .int (jFp J)])), ((a 1), .inr (3, [.int (nI N), .ref (a 2)])), ((a 2), .inl (gB E, 32 * N, .inl (jDk J))), ((a 5), .inl (gI E, 4, .inl (jEh J))), ((a 6), .inl (gI E, 4, .inl (jEk J))), ((a 7), .inl (gI E, 4, .inl (jEv J))), ((a2 0), .inr (0, [.ref (a2 1), .ref (a2 2), .ref (a2 3), .int (dOp D)])), ((a2 1), .inl (gI E, 32, .inl (dCo D))), ((a2 2), .inl (gI E, 32, .inl (dCh D))), ((a2 3), .inl (gI E, 32, .inl (dHo D)))]) (V' := ((wJ E a N (jsMm J (sB N g (jSc J) (6 + ((nI m) * 4)) (nI k)))) ++ (wD E a2 D))) rfl rfl (by decide) (by decide) (by decide) rfl (by decide) (st := []) (Nat.le_of_ble_eq_true rfl) dX2_writePairs_54 ?_ rfl
        refine z_aload_n C 1 rfl rfl dX2_writePairs_57 ?_
        refine z_get C (Cn := RX2) (T := TX2) (Nf := 12) (ci := 2) in2 0 1 l30 (v := .ref (a 3)) rfl rfl (by decide) rfl dX2_writePairs_58 ?_
        refine z_aload_n C 1 rfl rfl dX2_writePairs_61 ?_
        refine z_get C (Cn := RX2) (T := TX2) (Nf := 12) (ci := 2) in2 0 9 l54 (v := .int (jSc J)) rfl rfl (by decide) rfl dX2_writePairs_62 ?_
        refine z_iload C 0 rfl dX2_writePairs_65 ?_
        refine z_iconst C (v := 1) (by decide) dX2_writePairs_67 ?_
        refine z_iadd C dX2_writePairs_68 ?_
        refine z_iconst C (v := 3) (by decide) dX2_writePairs_69 ?_
        refine z_aload_n C 2 rfl rfl dX2_writePairs_70 ?_
        refine z_iload_n C 3 rfl rfl dX2_writePairs_71 ?_
        refine z_rVI C (c_X0_committedValue E a2 D (nI k)) gX2_writePairs_X0_committedValue (ci := 0) (q0 := 0) rfl rfl hyX0_committedValue rfl ⟨rfl, rfl⟩ ⟨by decide, by decide⟩ ⟨by decide, by decide⟩ [8, 9, 10, 11] rfl (by decide) (st := [.int 3, .int ((6 + ((nI m) * 4)) + 1), .int (jSc J), .ref (a 3)]) (Nat.le_of_ble_eq_true rfl) dX2_writePairs_72 ?_ rfl
        refine z_callVV C (c_X3_setNumber E N hN (a 3) (a 4) (sB N g (jSc J) (6 + ((nI m) * 4)) (nI k)) (jSc J) ((6 + ((nI m) * 4)) + 1) 3 (dValue D (nI k)) (by decide)) gX2_writePairs_X3_setNumber (ci := 3) (q0 := 0) rfl rfl hyX3_setNumber rfl ⟨rfl, rfl⟩ ⟨by decide, by decide⟩ ⟨by decide, by decide⟩ [3, 4] [0, 1, 2, 5, 6, 7, 8, 9, 10, 11] [0, 1, 2, 10, 11, 3, 4, 5, 6, 7, 8, 9] (wr := [((a 0), .inr (2, [.ref (a 1), .ref (a 3), .ref (a 5), .ref (a 6), .ref (a 7), .int (jEn J), .int (jWa J), .int (jFw J), .int (jSe J), .int (jSc J), .int (jFn J), .int (jFp J)])), ((a 1), .inr (3, [.int (nI N), .ref (a 2)])), ((a 2), .inl (gB E, 32 * N, .inl (jDk J))), ((a 5), .inl (gI E, 4, .inl (jEh J))), ((a 6), .inl (gI E, 4, .inl (jEk J))), ((a 7), .inl (gI E, 4, .inl (jEv J))), ((a2 0), .inr (0, [.ref (a2 1), .ref (a2 2), .ref (a2 3), .int (dOp D)])), ((a2 1), .inl (gI E, 32, .inl (dCo D))), ((a2 2), .inl (gI E, 32, .inl (dCh D))), ((a2 3), .inl (gI E, 32, .inl (dHo D)))]) (V' := ((wJ E a N (jsMm J (sN N (jSc J) ((6 + ((nI m) * 4)) + 1) 3 (sB N g (jSc J) (6 + ((nI m) * 4)) (nI k)) (dValue D (nI k))))) ++ (wD E a2 D))) rfl rfl (by decide) (by decide) (by decide) rfl (by decide) (st := []) (Nat.le_of_ble_eq_true rfl) dX2_writePairs_75 ?_ rfl
        refine z_iinc C 4 rfl (v := (nI (m + 1))) (zinc _) (lv' := [(4, .int (nI (m + 1))), (5, .int (6 + ((nI m) * 4))), (0, .ref (a 0)), (1, .ref (a2 0)), (3, .int (nI k))]) rfl (by decide) dX2_writePairs_78 ?_
        refine z_aload_n C 3 rfl rfl dX2_writePairs_81 ?_
        refine z_iload_n C 4 rfl rfl dX2_writePairs_82 ?_
        refine z_iconst C (v := 1) (by decide) dX2_writePairs_83 ?_
        refine z_iadd C dX2_writePairs_84 ?_
        refine z_top (y := (nI (k + 1))) (nI_1 _) ?_
        refine z_rVI C (c_X0_nextWithValue E a2 D (k + 1) (by omega)) gX2_writePairs_X0_nextWithValue (ci := 0) (q0 := 0) rfl rfl hyX0_nextWithValue rfl ⟨rfl, rfl⟩ ⟨by decide, by decide⟩ ⟨by decide, by decide⟩ [8, 9, 10, 11] rfl (by decide) (st := []) (Nat.le_of_ble_eq_true rfl) dX2_writePairs_85 ?_ rfl
        refine z_istore_n C (lv' := [(3, .int (nI (nxN D (32 - (k + 1)) (k + 1)))), (4, .int (nI (m + 1))), (5, .int (6 + ((nI m) * 4))), (0, .ref (a 0)), (1, .ref (a2 0))]) rfl rfl (by decide) dX2_writePairs_88 ?_
        refine z_goto C (tgt := 22) dX2_writePairs_89 (by decide) ?_
        refine z_lv (lv' := [(0, .ref (a 0)), (1, .ref (a2 0)), (3, .int (nI (nxN D (32 - (k + 1)) (k + 1)))), (4, .int (nI (m + 1)))]) [3, 4, 0, 1] rfl ?_
        exact ih22 (m + 1) _ _ (by omega) (nxN_le D _ _ (by omega)) (by rw [← hT]; simp only [wpL, h25_2, h31_3, ↓reduceIte])
  refine z_lv (lv' := [(0, .ref (a 0)), (1, .ref (a2 0)), (3, .int (nI fk)), (4, .int 0)]) [2, 3, 1, 0] rfl ?_
  exact loop22 5 0 fk _ (by omega) hk rfl
abbrev rmX2_writePages : Room := { frames := 4, cells := 0, slots := 0, locals := 99 }
theorem hyX2_writePages : yX2_writePages.cls = RX2 ∧ yX2_writePages.cls ≠ "java/lang/invoke/MethodHandle" ∧ yX2_writePages.cls ≠ "java/lang/invoke/VarHandle" ∧ (parseMethodDescriptor yX2_writePages.desc).map (fun d => d.parameters.length) = some 2 := by decide +kernel
set_option maxHeartbeats 4000000 in
set_option maxRecDepth 100000 in
theorem c_X2_writePages (E : GE) (N : Nat) (hN : 16 ≤ N ∧ N ≤ 64) (a : Nat → Nat) (J : JS) (a2 : Nat → Nat) (D : DS) (P : Nat) (hP : P ≤ 64) : zV E yX2_writePages wsX2_writePages rmX2_writePages [.ref (a 0), .ref (a2 0), .int (nI P)] ((wJ E a N J) ++ (wD E a2 D)) ((wJ E a N (jWPg N J D P)) ++ (wD E a2 D)) := by
  refine zV_of (cc := cX2_writePages) (maxL := 5) (by decide) rfl (Nat.le_of_ble_eq_true rfl) ?_
  intro K C ret
  replace C : zC E K cX2_writePages wsX2_writePages RX2 rmX2_writePages 5 := C
  have in2 : ∀ w ∈ wsX20, w ∈ wsX2_writePages := fun w h => List.mem_cons_of_mem _ (List.mem_append_left _ (List.mem_append_left _ (List.mem_append_right _ (h))))
  have l30 : zw K (.fieldLink RX2 30 "StoreLog3$Journal" "memory" "LStoreLog3$Sectors;") := C.w (List.mem_cons_of_mem _ (List.mem_append_left _ (List.mem_append_left _ (List.mem_append_left _ (List.mem_append_left _ (List.mem_of_getElem? (i := 2) rfl))))))
  have l54 : zw K (.fieldLink RX2 54 "StoreLog3$Journal" "lastSector" "I") := C.w (List.mem_cons_of_mem _ (List.mem_append_left _ (List.mem_append_left _ (List.mem_append_left _ (List.mem_append_left _ (List.mem_of_getElem? (i := 0) rfl))))))
  have l99 : zw K (.fieldLink RX2 99 "StoreLog3$Journal" "firstPageWaiting" "I") := C.w (List.mem_cons_of_mem _ (List.mem_append_left _ (List.mem_append_left _ (List.mem_append_left _ (List.mem_append_left _ (List.mem_of_getElem? (i := 1) rfl))))))
  show Z E K 0 0 ((wJ E a N J) ++ (wD E a2 D)) 0 [(0, .ref (a 0)), (1, .ref (a2 0)), (2, .int (nI P))] []
  refine z_aload_n C 1 rfl rfl dX2_writePages_0 ?_
  refine z_iconst C (v := 0) (by decide) dX2_writePages_1 ?_
  refine z_rVI C (c_X0_nextWithValue E a2 D 0 (by decide)) gX2_writePages_X0_nextWithValue (ci := 0) (q0 := 0) rfl rfl hyX0_nextWithValue rfl ⟨rfl, rfl⟩ ⟨by decide, by decide⟩ ⟨by decide, by decide⟩ [8, 9, 10, 11] rfl (by decide) (st := []) (Nat.le_of_ble_eq_true rfl) dX2_writePages_2 ?_ rfl
  refine z_istore_n C (lv' := [(3, .int (nI (nxN D (32 - 0) 0))), (0, .ref (a 0)), (1, .ref (a2 0)), (2, .int (nI P))]) rfl rfl (by decide) dX2_writePages_5 ?_
  refine z_iconst C (v := 0) (by decide) dX2_writePages_6 ?_
  refine z_istore C (lv' := [(4, .int 0), (3, .int (nI (nxN D (32 - 0) 0))), (0, .ref (a 0)), (1, .ref (a2 0)), (2, .int (nI P))]) rfl (by decide) dX2_writePages_7 ?_
  have loop9 : ∀ (n j k : Nat) (J1 : JS), j + n = P → k ≤ 32 → wpg N D P n j k J1 = wpg N D P P 0 (nxN D (32 - 0) 0) J → Z E K 0 0 ((wJ E a N J1) ++ (wD E a2 D)) 9 [(0, .ref (a 0)), (1, .ref (a2 0)), (2, .int (nI P)), (3, .int (nI k)), (4, .int (nI j))] [] := by
    intro n
    induction n with
    | zero => 
      intro j k J1 hj hkk hT
      obtain rfl : P = j := by omega
      refine z_iload C 4 rfl dX2_writePages_9 ?_
      refine z_iload_n C 2 rfl rfl dX2_writePages_11 ?_
      refine z_icmp_ge C (tgt := 85) dX2_writePages_12 (by decide) (fun h12_1 => ?_) (fun h12_1 => absurd (nI_le (a := P) (b := P) (Nat.le_refl _) (by omega)) h12_1)
      exact ret _ _ _ (by unfold jWPg; rw [← hT]; rfl) dX2_writePages_85
    | succ n ih9 => 
      intro j k J1 hj hkk hT
      refine z_iload C 4 rfl dX2_writePages_9 ?_
      refine z_iload_n C 2 rfl rfl dX2_writePages_11 ?_
      refine z_icmp_ge C (tgt := 85) dX2_writePages_12 (by decide) (fun h12_2 => absurd h12_2 (nI_ge (a := j) (b := P) (by omega) (by omega))) (fun h12_2 => ?_)
      refine z_aload_n C 0 rfl rfl dX2_writePages_15 ?_
      refine z_callVV C (c_X2_goToNext E N hN a J1) gX2_writePages_X2_goToNext (ci := 2) (q0 := 0) rfl rfl hyX2_goToNext rfl ⟨rfl, rfl⟩ ⟨by decide, by decide⟩ ⟨by decide, by decide⟩ [0, 1, 2, 3, 4, 5, 6, 7] [8, 9, 10, 11] [4, 5, 6, 7, 8, 9, 10, 11, 0, 1, 2, 3] (wr := [((a2 0), .inr (0, [.ref (a2 1), .ref (a2 2), .ref (a2 3), .int (dOp D)])), ((a2 1), .inl (gI E, 32, .inl (dCo D))), ((a2 2), .inl (gI E, 32, .inl (dCh D))), ((a2 3), .inl (gI E, 32, .inl (dHo D)))]) (V' := ((wJ E a N (jNext N J1)) ++ (wD E a2 D))) rfl rfl (by decide) (by decide) (by decide) rfl (by decide) (st := []) (Nat.le_of_ble_eq_true rfl) dX2_writePages_16 ?_ rfl
      refine z_iload C 4 rfl dX2_writePages_19 ?_
      refine z_if_ne C (tgt := 32) dX2_writePages_21 (by decide) (fun h21_3 => ?_) (fun h21_3 => ?_)
      · refine z_aload_n C 0 rfl rfl dX2_writePages_32 ?_
        refine z_aload_n C 1 rfl rfl dX2_writePages_33 ?_
        refine z_iload_n C 3 rfl rfl dX2_writePages_34 ?_
        refine z_callVI C (c_X2_writePairs E N hN a (jNext N J1) a2 D k hkk) gX2_writePages_X2_writePairs (ci := 2) (q0 := 0) rfl rfl hyX2_writePairs rfl ⟨rfl, rfl⟩ ⟨by decide, by decide⟩ ⟨by decide, by decide⟩ [0, 1, 2, 3, 4, 5, 6, 7, 8, 9, 10, 11] [] [0, 1, 2, 3, 4, 5, 6, 7, 8, 9, 10, 11] (wr := []) (V' := ((wJ E a N (jWPr N (jNext N J1) D k)) ++ (wD E a2 D))) rfl rfl (by decide) (by decide) (by decide) rfl (by decide) (st := []) (Nat.le_of_ble_eq_true rfl) dX2_writePages_35 ?_ rfl
        generalize hq35 : (jWPr N (jNext N J1) D k) = J2
        refine z_istore_n C (lv' := [(3, .int (nI (jWPk N (jNext N J1) D k))), (0, .ref (a 0)), (1, .ref (a2 0)), (2, .int (nI P)), (4, .int (nI j))]) rfl rfl (by decide) dX2_writePages_38 ?_
        refine z_aload_n C 1 rfl rfl dX2_writePages_39 ?_
        refine z_get C (Cn := RX2) (T := TX2) (Nf := 12) (ci := 2) in2 0 1 l30 (v := .ref (a 3)) rfl rfl (by decide) rfl dX2_writePages_40 ?_
        refine z_aload_n C 1 rfl rfl dX2_writePages_43 ?_
        refine z_get C (Cn := RX2) (T := TX2) (Nf := 12) (ci := 2) in2 0 9 l54 (v := .int (jSc J2)) rfl rfl (by decide) rfl dX2_writePages_44 ?_
        refine z_bipush C (v := 26) (by decide) dX2_writePages_47 ?_
        refine z_iload C 4 rfl dX2_writePages_49 ?_
        refine z_callVV C (c_X3_setByte E N hN (a 3) (a 4) (jMm J2) (jSc J2) 26 (nI j)) gX2_writePages_X3_setByte (ci := 3) (q0 := 0) rfl rfl hyX3_setByte rfl ⟨rfl, rfl⟩ ⟨by decide, by decide⟩ ⟨by decide, by decide⟩ [3, 4] [0, 1, 2, 5, 6, 7, 8, 9, 10, 11] [0, 1, 2, 10, 11, 3, 4, 5, 6, 7, 8, 9] (wr := [((a 0), .inr (2, [.ref (a 1), .ref (a 3), .ref (a 5), .ref (a 6), .ref (a 7), .int (jEn J2), .int (jWa J2), .int (jFw J2), .int (jSe J2), .int (jSc J2), .int (jFn J2), .int (jFp J2)])), ((a 1), .inr (3, [.int (nI N), .ref (a 2)])), ((a 2), .inl (gB E, 32 * N, .inl (jDk J2))), ((a 5), .inl (gI E, 4, .inl (jEh J2))), ((a 6), .inl (gI E, 4, .inl (jEk J2))), ((a 7), .inl (gI E, 4, .inl (jEv J2))), ((a2 0), .inr (0, [.ref (a2 1), .ref (a2 2), .ref (a2 3), .int (dOp D)])), ((a2 1), .inl (gI E, 32, .inl (dCo D))), ((a2 2), .inl (gI E, 32, .inl (dCh D))), ((a2 3), .inl (gI E, 32, .inl (dHo D)))]) (V' := ((wJ E a N (jsMm J2 (sB N (jMm J2) (jSc J2) 26 (nI j)))) ++ (wD E a2 D))) rfl rfl (by decide) (by decide) (by decide) rfl (by decide) (st := []) (Nat.le_of_ble_eq_true rfl) dX2_writePages_51 ?_ rfl
        refine z_aload_n C 1 rfl rfl dX2_writePages_54 ?_
        refine z_get C (Cn := RX2) (T := TX2) (Nf := 12) (ci := 2) in2 0 1 l30 (v := .ref (a 3)) rfl rfl (by decide) rfl dX2_writePages_55 ?_
        refine z_aload_n C 1 rfl rfl dX2_writePages_58 ?_
        refine z_get C (Cn := RX2) (T := TX2) (Nf := 12) (ci := 2) in2 0 9 l54 (v := .int (jSc J2)) rfl rfl (by decide) rfl dX2_writePages_59 ?_
        refine z_bipush C (v := 27) (by decide) dX2_writePages_62 ?_
        refine z_iload_n C 3 rfl rfl dX2_writePages_64 ?_
        refine z_callVV C (c_X3_setByte E N hN (a 3) (a 4) (sB N (jMm J2) (jSc J2) 26 (nI j)) (jSc J2) 27 (nI P)) gX2_writePages_X3_setByte (ci := 3) (q0 := 0) rfl rfl hyX3_setByte rfl ⟨rfl, rfl⟩ ⟨by decide, by decide⟩ ⟨by decide, by decide⟩ [3, 4] [0, 1, 2, 5, 6, 7, 8, 9, 10, 11] [0, 1, 2, 10, 11, 3, 4, 5, 6, 7, 8, 9] (wr := [((a 0), .inr (2, [.ref (a 1), .ref (a 3), .ref (a 5), .ref (a 6), .ref (a 7), .int (jEn J2), .int (jWa J2), .int (jFw J2), .int (jSe J2), .int (jSc J2), .int (jFn J2), .int (jFp J2)])), ((a 1), .inr (3, [.int (nI N), .ref (a 2)])), ((a 2), .inl (gB E, 32 * N, .inl (jDk J2))), ((a 5), .inl (gI E, 4, .inl (jEh J2))), ((a 6), .inl (gI E, 4, .inl (jEk J2))), ((a 7), .inl (gI E, 4, .inl (jEv J2))), ((a2 0), .inr (0, [.ref (a2 1), .ref (a2 2), .ref (a2 3), .int (dOp D)])), ((a2 1), .inl (gI E, 32, .inl (dCo D))), ((a2 2), .inl (gI E, 32, .inl (dCh D))), ((a2 3), .inl (gI E, 32, .inl (dHo D)))]) (V' := ((wJ E a N (jsMm J2 (sB N (sB N (jMm J2) (jSc J2) 26 (nI j)) (jSc J2) 27 (nI P)))) ++ (wD E a2 D))) rfl rfl (by decide) (by decide) (by decide) rfl (by decide) (st := []) (Nat.le_of_ble_eq_true rfl) dX2_writePages_65 ?_ rfl
        refine z_aload_n C 1 rfl rfl dX2_writePages_68 ?_
        refine z_get C (Cn := RX2) (T := TX2) (Nf := 12) (ci := 2) in2 0 1 l30 (v := .ref (a 3)) rfl rfl (by decide) rfl dX2_writePages_69 ?_
        refine z_aload_n C 1 rfl rfl dX2_writePages_72 ?_
        refine z_get C (Cn := RX2) (T := TX2) (Nf := 12) (ci := 2) in2 0 9 l54 (v := .int (jSc J2)) rfl rfl (by decide) rfl dX2_writePages_73 ?_
        refine z_callVV C (c_X3_seal E N hN (a 3) (a 4) (sB N (sB N (jMm J2) (jSc J2) 26 (nI j)) (jSc J2) 27 (nI P)) (jSc J2)) gX2_writePages_X3_seal (ci := 3) (q0 := 0) rfl rfl hyX3_seal rfl ⟨rfl, rfl⟩ ⟨by decide, by decide⟩ ⟨by decide, by decide⟩ [3, 4] [0, 1, 2, 5, 6, 7, 8, 9, 10, 11] [0, 1, 2, 10, 11, 3, 4, 5, 6, 7, 8, 9] (wr := [((a 0), .inr (2, [.ref (a 1), .ref (a 3), .ref (a 5), .ref (a 6), .ref (a 7), .int (jEn J2), .int (jWa J2), .int (jFw J2), .int (jSe J2), .int (jSc J2), .int (jFn J2), .int (jFp J2)])), ((a 1), .inr (3, [.int (nI N), .ref (a 2)])), ((a 2), .inl (gB E, 32 * N, .inl (jDk J2))), ((a 5), .inl (gI E, 4, .inl (jEh J2))), ((a 6), .inl (gI E, 4, .inl (jEk J2))), ((a 7), .inl (gI E, 4, .inl (jEv J2))), ((a2 0), .inr (0, [.ref (a2 1), .ref (a2 2), .ref (a2 3), .int (dOp D)])), ((a2 1), .inl (gI E, 32, .inl (dCo D))), ((a2 2), .inl (gI E, 32, .inl (dCh D))), ((a2 3), .inl (gI E, 32, .inl (dHo D)))]) (V' := ((wJ E a N (jsMm J2 (sealS N (sB N (sB N (jMm J2) (jSc J2) 26 (nI j)) (jSc J2) 27 (nI P)) (jSc J2)))) ++ (wD E a2 D))) rfl rfl (by decide) (by decide) (by decide) rfl (by decide) (st := []) (Nat.le_of_ble_eq_true rfl) dX2_writePages_76 ?_ rfl
        refine z_iinc C 4 rfl (v := (nI (j + 1))) (zinc _) (lv' := [(4, .int (nI (j + 1))), (3, .int (nI (jWPk N (jNext N J1) D k))), (0, .ref (a 0)), (1, .ref (a2 0)), (2, .int (nI P))]) rfl (by decide) dX2_writePages_79 ?_
        refine z_goto C (tgt := 9) dX2_writePages_82 (by decide) ?_
        refine z_lv (lv' := [(0, .ref (a 0)), (1, .ref (a2 0)), (2, .int (nI P)), (3, .int (nI (jWPk N (jNext N J1) D k))), (4, .int (nI (j + 1)))]) [2, 3, 4, 1, 0] rfl ?_
        exact ih9 (j + 1) _ _ (by omega) (jWPk_le N _ D k hkk) (by rw [← hT]; simp only [wpg, wp1, wp2, h12_2, h21_3, hq35, ↓reduceIte])
      · refine z_aload_n C 0 rfl rfl dX2_writePages_24 ?_
        refine z_aload_n C 0 rfl rfl dX2_writePages_25 ?_
        refine z_get C (Cn := RX2) (T := TX2) (Nf := 12) (ci := 2) in2 0 9 l54 (v := .int (jSc (jNext N J1))) rfl rfl (by decide) rfl dX2_writePages_26 ?_
        refine z_put C (Cn := RX2) (T := TX2) (Nf := 12) (ci := 2) in2 0 11 l99 rfl rfl (by decide) tyX2 tyX2_ok nmX2 rfl rfl rfl (Nat.le_of_ble_eq_true rfl) (V' := ((wJ E a N (jsFp (jNext N J1) (jSc (jNext N J1)))) ++ (wD E a2 D))) rfl dX2_writePages_29 ?_
        refine z_aload_n C 0 rfl rfl dX2_writePages_32 ?_
        refine z_aload_n C 1 rfl rfl dX2_writePages_33 ?_
        refine z_iload_n C 3 rfl rfl dX2_writePages_34 ?_
        refine z_callVI C (c_X2_writePairs E N hN a (jsFp (jNext N J1) (jSc (jNext N J1))) a2 D k hkk) gX2_writePages_X2_writePairs (ci := 2) (q0 := 0) rfl rfl hyX2_writePairs rfl ⟨rfl, rfl⟩ ⟨by decide, by decide⟩ ⟨by decide, by decide⟩ [0, 1, 2, 3, 4, 5, 6, 7, 8, 9, 10, 11] [] [0, 1, 2, 3, 4, 5, 6, 7, 8, 9, 10, 11] (wr := []) (V' := ((wJ E a N (jWPr N (jsFp (jNext N J1) (jSc (jNext N J1))) D k)) ++ (wD E a2 D))) rfl rfl (by decide) (by decide) (by decide) rfl (by decide) (st := []) (Nat.le_of_ble_eq_true rfl) dX2_writePages_35 ?_ rfl
        generalize hq35 : (jWPr N (jsFp (jNext N J1) (jSc (jNext N J1))) D k) = J2
        refine z_istore_n C (lv' := [(3, .int (nI (jWPk N (jsFp (jNext N J1) (jSc (jNext N J1))) D k))), (0, .ref (a 0)), (1, .ref (a2 0)), (2, .int (nI P)), (4, .int (nI j))]) rfl rfl (by decide) dX2_writePages_38 ?_
        refine z_aload_n C 1 rfl rfl dX2_writePages_39 ?_
        refine z_get C (Cn := RX2) (T := TX2) (Nf := 12) (ci := 2) in2 0 1 l30 (v := .ref (a 3)) rfl rfl (by decide) rfl dX2_writePages_40 ?_
        refine z_aload_n C 1 rfl rfl dX2_writePages_43 ?_
        refine z_get C (Cn := RX2) (T := TX2) (Nf := 12) (ci := 2) in2 0 9 l54 (v := .int (jSc J2)) rfl rfl (by decide) rfl dX2_writePages_44 ?_
        refine z_bipush C (v := 26) (by decide) dX2_writePages_47 ?_
        refine z_iload C 4 rfl dX2_writePages_49 ?_
        refine z_callVV C (c_X3_setByte E N hN (a 3) (a 4) (jMm J2) (jSc J2) 26 (nI j)) gX2_writePages_X3_setByte (ci := 3) (q0 := 0) rfl rfl hyX3_setByte rfl ⟨rfl, rfl⟩ ⟨by decide, by decide⟩ ⟨by decide, by decide⟩ [3, 4] [0, 1, 2, 5, 6, 7, 8, 9, 10, 11] [0, 1, 2, 10, 11, 3, 4, 5, 6, 7, 8, 9] (wr := [((a 0), .inr (2, [.ref (a 1), .ref (a 3), .ref (a 5), .ref (a 6), .ref (a 7), .int (jEn J2), .int (jWa J2), .int (jFw J2), .int (jSe J2), .int (jSc J2), .int (jFn J2), .int (jFp J2)])), ((a 1), .inr (3, [.int (nI N), .ref (a 2)])), ((a 2), .inl (gB E, 32 * N, .inl (jDk J2))), ((a 5), .inl (gI E, 4, .inl (jEh J2))), ((a 6), .inl (gI E, 4, .inl (jEk J2))), ((a 7), .inl (gI E, 4, .inl (jEv J2))), ((a2 0), .inr (0, [.ref (a2 1), .ref (a2 2), .ref (a2 3), .int (dOp D)])), ((a2 1), .inl (gI E, 32, .inl (dCo D))), ((a2 2), .inl (gI E, 32, .inl (dCh D))), ((a2 3), .inl (gI E, 32, .inl (dHo D)))]) (V' := ((wJ E a N (jsMm J2 (sB N (jMm J2) (jSc J2) 26 (nI j)))) ++ (wD E a2 D))) rfl rfl (by decide) (by decide) (by decide) rfl (by decide) (st := []) (Nat.le_of_ble_eq_true rfl) dX2_writePages_51 ?_ rfl
        refine z_aload_n C 1 rfl rfl dX2_writePages_54 ?_
        refine z_get C (Cn := RX2) (T := TX2) (Nf := 12) (ci := 2) in2 0 1 l30 (v := .ref (a 3)) rfl rfl (by decide) rfl dX2_writePages_55 ?_
        refine z_aload_n C 1 rfl rfl dX2_writePages_58 ?_
        refine z_get C (Cn := RX2) (T := TX2) (Nf := 12) (ci := 2) in2 0 9 l54 (v := .int (jSc J2)) rfl rfl (by decide) rfl dX2_writePages_59 ?_
        refine z_bipush C (v := 27) (by decide) dX2_writePages_62 ?_
        refine z_iload_n C 3 rfl rfl dX2_writePages_64 ?_
        refine z_callVV C (c_X3_setByte E N hN (a 3) (a 4) (sB N (jMm J2) (jSc J2) 26 (nI j)) (jSc J2) 27 (nI P)) gX2_writePages_X3_setByte (ci := 3) (q0 := 0) rfl rfl hyX3_setByte rfl ⟨rfl, rfl⟩ ⟨by decide, by decide⟩ ⟨by decide, by decide⟩ [3, 4] [0, 1, 2, 5, 6, 7, 8, 9, 10, 11] [0, 1, 2, 10, 11, 3, 4, 5, 6, 7, 8, 9] (wr := [((a 0), .inr (2, [.ref (a 1), .ref (a 3), .ref (a 5), .ref (a 6), .ref (a 7), .int (jEn J2), .int (jWa J2), .int (jFw J2), .int (jSe J2), .int (jSc J2), .int (jFn J2), .int (jFp J2)])), ((a 1), .inr (3, [.int (nI N), .ref (a 2)])), ((a 2), .inl (gB E, 32 * N, .inl (jDk J2))), ((a 5), .inl (gI E, 4, .inl (jEh J2))), ((a 6), .inl (gI E, 4, .inl (jEk J2))), ((a 7), .inl (gI E, 4, .inl (jEv J2))), ((a2 0), .inr (0, [.ref (a2 1), .ref (a2 2), .ref (a2 3), .int (dOp D)])), ((a2 1), .inl (gI E, 32, .inl (dCo D))), ((a2 2), .inl (gI E, 32, .inl (dCh D))), ((a2 3), .inl (gI E, 32, .inl (dHo D)))]) (V' := ((wJ E a N (jsMm J2 (sB N (sB N (jMm J2) (jSc J2) 26 (nI j)) (jSc J2) 27 (nI P)))) ++ (wD E a2 D))) rfl rfl (by decide) (by decide) (by decide) rfl (by decide) (st := []) (Nat.le_of_ble_eq_true rfl) dX2_writePages_65 ?_ rfl
        refine z_aload_n C 1 rfl rfl dX2_writePages_68 ?_
        refine z_get C (Cn := RX2) (T := TX2) (Nf := 12) (ci := 2) in2 0 1 l30 (v := .ref (a 3)) rfl rfl (by decide) rfl dX2_writePages_69 ?_
        refine z_aload_n C 1 rfl rfl dX2_writePages_72 ?_
        refine z_get C (Cn := RX2) (T := TX2) (Nf := 12) (ci := 2) in2 0 9 l54 (v := .int (jSc J2)) rfl rfl (by decide) rfl dX2_writePages_73 ?_
        refine z_callVV C (c_X3_seal E N hN (a 3) (a 4) (sB N (sB N (jMm J2) (jSc J2) 26 (nI j)) (jSc J2) 27 (nI P)) (jSc J2)) gX2_writePages_X3_seal (ci := 3) (q0 := 0) rfl rfl hyX3_seal rfl ⟨rfl, rfl⟩ ⟨by decide, by decide⟩ ⟨by decide, by decide⟩ [3, 4] [0, 1, 2, 5, 6, 7, 8, 9, 10, 11] [0, 1, 2, 10, 11, 3, 4, 5, 6, 7, 8, 9] (wr := [((a 0), .inr (2, [.ref (a 1), .ref (a 3), .ref (a 5), .ref (a 6), .ref (a 7), .int (jEn J2), .int (jWa J2), .int (jFw J2), .int (jSe J2), .int (jSc J2), .int (jFn J2), .int (jFp J2)])), ((a 1), .inr (3, [.int (nI N), .ref (a 2)])), ((a 2), .inl (gB E, 32 * N, .inl (jDk J2))), ((a 5), .inl (gI E, 4, .inl (jEh J2))), ((a 6), .inl (gI E, 4, .inl (jEk J2))), ((a 7), .inl (gI E, 4, .inl (jEv J2))), ((a2 0), .inr (0, [.ref (a2 1), .ref (a2 2), .ref (a2 3), .int (dOp D)])), ((a2 1), .inl (gI E, 32, .inl (dCo D))), ((a2 2), .inl (gI E, 32, .inl (dCh D))), ((a2 3), .inl (gI E, 32, .inl (dHo D)))]) (V' := ((wJ E a N (jsMm J2 (sealS N (sB N (sB N (jMm J2) (jSc J2) 26 (nI j)) (jSc J2) 27 (nI P)) (jSc J2)))) ++ (wD E a2 D))) rfl rfl (by decide) (by decide) (by decide) rfl (by decide) (st := []) (Nat.le_of_ble_eq_true rfl) dX2_writePages_76 ?_ rfl
        refine z_iinc C 4 rfl (v := (nI (j + 1))) (zinc _) (lv' := [(4, .int (nI (j + 1))), (3, .int (nI (jWPk N (jsFp (jNext N J1) (jSc (jNext N J1))) D k))), (0, .ref (a 0)), (1, .ref (a2 0)), (2, .int (nI P))]) rfl (by decide) dX2_writePages_79 ?_
        refine z_goto C (tgt := 9) dX2_writePages_82 (by decide) ?_
        refine z_lv (lv' := [(0, .ref (a 0)), (1, .ref (a2 0)), (2, .int (nI P)), (3, .int (nI (jWPk N (jsFp (jNext N J1) (jSc (jNext N J1))) D k))), (4, .int (nI (j + 1)))]) [2, 3, 4, 1, 0] rfl ?_
        exact ih9 (j + 1) _ _ (by omega) (jWPk_le N _ D k hkk) (by rw [← hT]; simp only [wpg, wp1, wp2, h12_2, h21_3, hq35, ↓reduceIte])
  refine z_lv (lv' := [(0, .ref (a 0)), (1, .ref (a2 0)), (2, .int (nI P)), (3, .int (nI (nxN D (32 - 0) 0))), (4, .int 0)]) [2, 3, 4, 1, 0] rfl ?_
  exact loop9 P 0 _ J (by omega) (nxN_le D _ _ (by omega)) rfl
abbrev rmX2_putOnDisk : Room := { frames := 2, cells := 0, slots := 0, locals := 47 }
theorem hyX2_putOnDisk : yX2_putOnDisk.cls = RX2 ∧ yX2_putOnDisk.cls ≠ "java/lang/invoke/MethodHandle" ∧ yX2_putOnDisk.cls ≠ "java/lang/invoke/VarHandle" ∧ (parseMethodDescriptor yX2_putOnDisk.desc).map (fun d => d.parameters.length) = some 1 := by decide +kernel
set_option maxHeartbeats 4000000 in
set_option maxRecDepth 100000 in
theorem c_X2_putOnDisk (E : GE) (N : Nat) (hN : 16 ≤ N ∧ N ≤ 64) (a : Nat → Nat) (J : JS) (w : Nat) (hw : w ≤ 64) : zI E yX2_putOnDisk wsX2_putOnDisk rmX2_putOnDisk [.ref (a 0), .int (nI w)] (wJ E a N J) ((jPod N J w).1) (wJ E a N (jsDk J ((jPod N J w).2))) := by
  refine zI_of (cc := cX2_putOnDisk) (maxL := 4) (ty := .int) (by decide) rfl (vp_nar_int _) (Nat.le_of_ble_eq_true rfl) ?_
  intro K C ret
  replace C : zC E K cX2_putOnDisk wsX2_putOnDisk RX2 rmX2_putOnDisk 4 := C
  have in2 : ∀ w ∈ wsX20, w ∈ wsX2_putOnDisk := fun w h => List.mem_cons_of_mem _ (List.mem_append_left _ (List.mem_append_right _ (h)))
  have l26 : zw K (.fieldLink RX2 26 "StoreLog3$Journal" "disk" "LStoreLog3$Sectors;") := C.w (List.mem_cons_of_mem _ (List.mem_append_left _ (List.mem_append_left _ (List.mem_of_getElem? (i := 1) rfl))))
  have l30 : zw K (.fieldLink RX2 30 "StoreLog3$Journal" "memory" "LStoreLog3$Sectors;") := C.w (List.mem_cons_of_mem _ (List.mem_append_left _ (List.mem_append_left _ (List.mem_of_getElem? (i := 2) rfl))))
  have l122 : zw K (.fieldLink RX2 122 "StoreLog3$Journal" "firstWaiting" "I") := C.w (List.mem_cons_of_mem _ (List.mem_append_left _ (List.mem_append_left _ (List.mem_of_getElem? (i := 0) rfl))))
  show Z E K 0 0 (wJ E a N J) 0 [(0, .ref (a 0)), (1, .int (nI w))] []
  refine z_aload_n C 0 rfl rfl dX2_putOnDisk_0 ?_
  refine z_get C (Cn := RX2) (T := TX2) (Nf := 12) (ci := 2) in2 0 7 l122 (v := .int (jFw J)) rfl rfl (by decide) rfl dX2_putOnDisk_1 ?_
  refine z_istore_n C (lv' := [(2, .int (jFw J)), (0, .ref (a 0)), (1, .int (nI w))]) rfl rfl (by decide) dX2_putOnDisk_4 ?_
  refine z_iconst C (v := 0) (by decide) dX2_putOnDisk_5 ?_
  refine z_istore_n C (lv' := [(3, .int 0), (2, .int (jFw J)), (0, .ref (a 0)), (1, .int (nI w))]) rfl rfl (by decide) dX2_putOnDisk_6 ?_
  have loop7 : ∀ (n j : Nat) (s : Int32) (d : Nat → Int32), j + n = w → pod N (jMm J) n s d = pod N (jMm J) w (jFw J) (jDk J) → Z E K 0 0 (wJ E a N (jsDk J d)) 7 [(0, .ref (a 0)), (1, .int (nI w)), (2, .int s), (3, .int (nI j))] [] := by
    intro n
    induction n with
    | zero => 
      intro j s d hj hT
      obtain rfl : w = j := by omega
      refine z_iload_n C 3 rfl rfl dX2_putOnDisk_7 ?_
      refine z_iload_n C 1 rfl rfl dX2_putOnDisk_8 ?_
      refine z_icmp_ge C (tgt := 41) dX2_putOnDisk_9 (by decide) (fun h9_1 => ?_) (fun h9_1 => absurd (nI_le (a := w) (b := w) (Nat.le_refl _) (by omega)) h9_1)
      refine z_iload_n C 2 rfl rfl dX2_putOnDisk_41 ?_
      exact ret _ _ _ _ (by unfold jPod; rw [← hT]; rfl) (by unfold jPod; rw [← hT]; rfl) dX2_putOnDisk_42
    | succ n ih7 => 
      intro j s d hj hT
      refine z_iload_n C 3 rfl rfl dX2_putOnDisk_7 ?_
      refine z_iload_n C 1 rfl rfl dX2_putOnDisk_8 ?_
      refine z_icmp_ge C (tgt := 41) dX2_putOnDisk_9 (by decide) (fun h9_2 => absurd h9_2 (nI_ge (a := j) (b := w) (by omega) (by omega))) (fun h9_2 => ?_)
      refine z_aload_n C 0 rfl rfl dX2_putOnDisk_12 ?_
      refine z_get C (Cn := RX2) (T := TX2) (Nf := 12) (ci := 2) in2 0 0 l26 (v := .ref (a 1)) rfl rfl (by decide) rfl dX2_putOnDisk_13 ?_
      refine z_aload_n C 0 rfl rfl dX2_putOnDisk_16 ?_
      refine z_get C (Cn := RX2) (T := TX2) (Nf := 12) (ci := 2) in2 0 1 l30 (v := .ref (a 3)) rfl rfl (by decide) rfl dX2_putOnDisk_17 ?_
      refine z_iload_n C 2 rfl rfl dX2_putOnDisk_20 ?_
      refine z_bipush C (v := 32) (by decide) dX2_putOnDisk_21 ?_
      refine z_callVV C (c_X3_copyStart E N hN (a 1) (a 2) d (a 3) (a 4) (jMm J) s 32 (by decide)) gX2_putOnDisk_X3_copyStart (ci := 3) (q0 := 0) rfl rfl hyX3_copyStart rfl ⟨rfl, rfl⟩ ⟨by decide, by decide⟩ ⟨by decide, by decide⟩ [1, 2, 3, 4] [0, 5, 6, 7] [0, 4, 5, 6, 7, 1, 2, 3] (wr := [((a 0), .inr (2, [.ref (a 1), .ref (a 3), .ref (a 5), .ref (a 6), .ref (a 7), .int (jEn J), .int (jWa J), .int (jFw J), .int (jSe J), .int (jSc J), .int (jFn J), .int (jFp J)])), ((a 5), .inl (gI E, 4, .inl (jEh J))), ((a 6), .inl (gI E, 4, .inl (jEk J))), ((a 7), .inl (gI E, 4, .inl (jEv J)))]) (V' := (wJ E a N (jsDk J (cpS N d (jMm J) s 32)))) rfl rfl (by decide) (by decide) (by decide) rfl (by decide) (st := []) (Nat.le_of_ble_eq_true rfl) dX2_putOnDisk_23 ?_ rfl
      refine z_aload_n C 0 rfl rfl dX2_putOnDisk_26 ?_
      refine z_get C (Cn := RX2) (T := TX2) (Nf := 12) (ci := 2) in2 0 0 l26 (v := .ref (a 1)) rfl rfl (by decide) rfl dX2_putOnDisk_27 ?_
      refine z_iload_n C 2 rfl rfl dX2_putOnDisk_30 ?_
      refine z_rVI C (c_X3_behind E N hN (a 1) (a 2) (cpS N d (jMm J) s 32) s) gX2_putOnDisk_X3_behind (ci := 3) (q0 := 0) rfl rfl hyX3_behind rfl ⟨rfl, rfl⟩ ⟨by decide, by decide⟩ ⟨by decide, by decide⟩ [1, 2] rfl (by decide) (st := []) (Nat.le_of_ble_eq_true rfl) dX2_putOnDisk_31 ?_ rfl
      refine z_istore_n C (lv' := [(2, .int (bhd N s)), (0, .ref (a 0)), (1, .int (nI w)), (3, .int (nI j))]) rfl rfl (by decide) dX2_putOnDisk_34 ?_
      refine z_iinc C 3 rfl (v := (nI (j + 1))) (zinc _) (lv' := [(3, .int (nI (j + 1))), (2, .int (bhd N s)), (0, .ref (a 0)), (1, .int (nI w))]) rfl (by decide) dX2_putOnDisk_35 ?_
      refine z_goto C (tgt := 7) dX2_putOnDisk_38 (by decide) ?_
      refine z_lv (lv' := [(0, .ref (a 0)), (1, .int (nI w)), (2, .int (bhd N s)), (3, .int (nI (j + 1)))]) [2, 3, 1, 0] rfl ?_
      exact ih7 (j + 1) _ _ (by omega) hT
  refine z_lv (lv' := [(0, .ref (a 0)), (1, .int (nI w)), (2, .int (jFw J)), (3, .int 0)]) [2, 3, 1, 0] rfl ?_
  exact loop7 w 0 _ _ (by omega) rfl
abbrev rmX2_putAllOnDisk : Room := { frames := 3, cells := 0, slots := 0, locals := 70 }
theorem hyX2_putAllOnDisk : yX2_putAllOnDisk.cls = RX2 ∧ yX2_putAllOnDisk.cls ≠ "java/lang/invoke/MethodHandle" ∧ yX2_putAllOnDisk.cls ≠ "java/lang/invoke/VarHandle" ∧ (parseMethodDescriptor yX2_putAllOnDisk.desc).map (fun d => d.parameters.length) = some 0 := by decide +kernel
set_option maxHeartbeats 4000000 in
set_option maxRecDepth 100000 in
theorem c_X2_putAllOnDisk (E : GE) (N : Nat) (hN : 16 ≤ N ∧ N ≤ 64) (a : Nat → Nat) (J : JS) (w : Nat) (hw : jWa J = nI w) (hw2 : w ≤ 64) : zI E yX2_putAllOnDisk wsX2_putAllOnDisk rmX2_putAllOnDisk [.ref (a 0)] (wJ E a N J) (nI w) (wJ E a N (jAll N J w)) := by
  refine zI_of (cc := cX2_putAllOnDisk) (maxL := 2) (ty := .int) (by decide) rfl (vp_nar_int _) (Nat.le_of_ble_eq_true rfl) ?_
  intro K C ret
  replace C : zC E K cX2_putAllOnDisk wsX2_putAllOnDisk RX2 rmX2_putAllOnDisk 2 := C
  have in2 : ∀ w ∈ wsX20, w ∈ wsX2_putAllOnDisk := fun w h => List.mem_cons_of_mem _ (List.mem_append_left _ (List.mem_append_right _ (h)))
  have l57 : zw K (.fieldLink RX2 57 "StoreLog3$Journal" "firstNeeded" "I") := C.w (List.mem_cons_of_mem _ (List.mem_append_left _ (List.mem_append_left _ (List.mem_append_left _ (List.mem_of_getElem? (i := 2) rfl)))))
  have l66 : zw K (.fieldLink RX2 66 "StoreLog3$Journal" "waiting" "I") := C.w (List.mem_cons_of_mem _ (List.mem_append_left _ (List.mem_append_left _ (List.mem_append_left _ (List.mem_of_getElem? (i := 0) rfl)))))
  have l99 : zw K (.fieldLink RX2 99 "StoreLog3$Journal" "firstPageWaiting" "I") := C.w (List.mem_cons_of_mem _ (List.mem_append_left _ (List.mem_append_left _ (List.mem_append_left _ (List.mem_of_getElem? (i := 1) rfl)))))
  show Z E K 0 0 (wJ E a N J) 0 [(0, .ref (a 0))] []
  refine z_aload_n C 0 rfl rfl dX2_putAllOnDisk_0 ?_
  refine z_get C (Cn := RX2) (T := TX2) (Nf := 12) (ci := 2) in2 0 6 l66 (v := .int (jWa J)) rfl rfl (by decide) rfl dX2_putAllOnDisk_1 ?_
  refine z_top (y := (nI w)) hw ?_
  refine z_istore_n C (lv' := [(1, .int (nI w)), (0, .ref (a 0))]) rfl rfl (by decide) dX2_putAllOnDisk_4 ?_
  refine z_aload_n C 1 rfl rfl dX2_putAllOnDisk_5 ?_
  refine z_aload_n C 1 rfl rfl dX2_putAllOnDisk_6 ?_
  refine z_get C (Cn := RX2) (T := TX2) (Nf := 12) (ci := 2) in2 0 6 l66 (v := .int (jWa J)) rfl rfl (by decide) rfl dX2_putAllOnDisk_7 ?_
  refine z_top (y := (nI w)) hw ?_
  refine z_callVI C (c_X2_putOnDisk E N hN a J w hw2) gX2_putAllOnDisk_X2_putOnDisk (ci := 2) (q0 := 0) rfl rfl hyX2_putOnDisk rfl ⟨rfl, rfl⟩ ⟨by decide, by decide⟩ ⟨by decide, by decide⟩ [0, 1, 2, 3, 4, 5, 6, 7] [] [0, 1, 2, 3, 4, 5, 6, 7] (wr := []) (V' := (wJ E a N (jsDk J ((jPod N J w).2)))) rfl rfl (by decide) (by decide) (by decide) rfl (by decide) (st := []) (Nat.le_of_ble_eq_true rfl) dX2_putAllOnDisk_10 ?_ rfl
  refine z_pop C rfl dX2_putAllOnDisk_13 ?_
  refine z_aload_n C 1 rfl rfl dX2_putAllOnDisk_14 ?_
  refine z_iconst C (v := 0) (by decide) dX2_putAllOnDisk_15 ?_
  refine z_put C (Cn := RX2) (T := TX2) (Nf := 12) (ci := 2) in2 0 6 l66 rfl rfl (by decide) tyX2 tyX2_ok nmX2 rfl rfl rfl (Nat.le_of_ble_eq_true rfl) (V' := (wJ E a N (jsWa (jsDk J ((jPod N J w).2)) 0))) rfl dX2_putAllOnDisk_16 ?_
  refine z_aload_n C 1 rfl rfl dX2_putAllOnDisk_19 ?_
  refine z_get C (Cn := RX2) (T := TX2) (Nf := 12) (ci := 2) in2 0 11 l99 (v := .int (jFp J)) rfl rfl (by decide) rfl dX2_putAllOnDisk_20 ?_
  refine z_iconst C (v := (-1)) (by decide) dX2_putAllOnDisk_23 ?_
  refine z_icmp_eq C (tgt := 40) dX2_putAllOnDisk_24 (by decide) (fun h24_1 => ?_) (fun h24_1 => ?_)
  · refine z_iload_n C 0 rfl rfl dX2_putAllOnDisk_40 ?_
    exact ret _ _ _ _ (by first | rfl | (simp only [jAll, h24_1, ↓reduceIte]; done) | (simp only [jAll, h24_1, ↓reduceIte]; rfl) | (simp [jAll, h24_1, ↓reduceIte]; done)) (by first | rfl | (simp only [jAll, h24_1, ↓reduceIte]; done) | (simp only [jAll, h24_1, ↓reduceIte]; rfl) | (simp [jAll, h24_1, ↓reduceIte]; done)) dX2_putAllOnDisk_41
  · refine z_aload_n C 1 rfl rfl dX2_putAllOnDisk_27 ?_
    refine z_aload_n C 1 rfl rfl dX2_putAllOnDisk_28 ?_
    refine z_get C (Cn := RX2) (T := TX2) (Nf := 12) (ci := 2) in2 0 11 l99 (v := .int (jFp J)) rfl rfl (by decide) rfl dX2_putAllOnDisk_29 ?_
    refine z_put C (Cn := RX2) (T := TX2) (Nf := 12) (ci := 2) in2 0 10 l57 rfl rfl (by decide) tyX2 tyX2_ok nmX2 rfl rfl rfl (Nat.le_of_ble_eq_true rfl) (V' := (wJ E a N (jsFn (jsWa (jsDk J ((jPod N J w).2)) 0) (jFp J)))) rfl dX2_putAllOnDisk_32 ?_
    refine z_aload_n C 1 rfl rfl dX2_putAllOnDisk_35 ?_
    refine z_iconst C (v := (-1)) (by decide) dX2_putAllOnDisk_36 ?_
    refine z_put C (Cn := RX2) (T := TX2) (Nf := 12) (ci := 2) in2 0 11 l99 rfl rfl (by decide) tyX2 tyX2_ok nmX2 rfl rfl rfl (Nat.le_of_ble_eq_true rfl) (V' := (wJ E a N (jsFp (jsFn (jsWa (jsDk J ((jPod N J w).2)) 0) (jFp J)) (-1)))) rfl dX2_putAllOnDisk_37 ?_
    refine z_iload_n C 0 rfl rfl dX2_putAllOnDisk_40 ?_
    exact ret _ _ _ _ (by first | rfl | (simp only [jAll, h24_1, ↓reduceIte]; done) | (simp only [jAll, h24_1, ↓reduceIte]; rfl) | (simp [jAll, h24_1, ↓reduceIte]; done)) (by first | rfl | (simp only [jAll, h24_1, ↓reduceIte]; done) | (simp only [jAll, h24_1, ↓reduceIte]; rfl) | (simp [jAll, h24_1, ↓reduceIte]; done)) dX2_putAllOnDisk_41
abbrev rmX2_forgetMemory : Room := { frames := 0, cells := 0, slots := 0, locals := 0 }
theorem hyX2_forgetMemory : yX2_forgetMemory.cls = RX2 ∧ yX2_forgetMemory.cls ≠ "java/lang/invoke/MethodHandle" ∧ yX2_forgetMemory.cls ≠ "java/lang/invoke/VarHandle" ∧ (parseMethodDescriptor yX2_forgetMemory.desc).map (fun d => d.parameters.length) = some 0 := by decide +kernel
set_option maxHeartbeats 4000000 in
set_option maxRecDepth 100000 in
theorem c_X2_forgetMemory (E : GE) (N : Nat) (hN : 16 ≤ N ∧ N ≤ 64) (a : Nat → Nat) (J : JS) : zV E yX2_forgetMemory wsX2_forgetMemory rmX2_forgetMemory [.ref (a 0)] (wJ E a N J) (wJ E a N (jForget J)) := by
  refine zV_of (cc := cX2_forgetMemory) (maxL := 1) (by decide) rfl (Nat.le_of_ble_eq_true rfl) ?_
  intro K C ret
  replace C : zC E K cX2_forgetMemory wsX2_forgetMemory RX2 rmX2_forgetMemory 1 := C
  have in2 : ∀ w ∈ wsX20, w ∈ wsX2_forgetMemory := fun w h => List.mem_cons_of_mem _ (List.mem_append_right _ (h))
  have l63 : zw K (.fieldLink RX2 63 "StoreLog3$Journal" "entries" "I") := C.w (List.mem_cons_of_mem _ (List.mem_append_left _ (List.mem_of_getElem? (i := 0) rfl)))
  have l66 : zw K (.fieldLink RX2 66 "StoreLog3$Journal" "waiting" "I") := C.w (List.mem_cons_of_mem _ (List.mem_append_left _ (List.mem_of_getElem? (i := 1) rfl)))
  have l99 : zw K (.fieldLink RX2 99 "StoreLog3$Journal" "firstPageWaiting" "I") := C.w (List.mem_cons_of_mem _ (List.mem_append_left _ (List.mem_of_getElem? (i := 2) rfl)))
  show Z E K 0 0 (wJ E a N J) 0 [(0, .ref (a 0))] []
  refine z_aload_n C 0 rfl rfl dX2_forgetMemory_0 ?_
  refine z_iconst C (v := 0) (by decide) dX2_forgetMemory_1 ?_
  refine z_put C (Cn := RX2) (T := TX2) (Nf := 12) (ci := 2) in2 0 5 l63 rfl rfl (by decide) tyX2 tyX2_ok nmX2 rfl rfl rfl (Nat.le_of_ble_eq_true rfl) (V' := (wJ E a N (jsEn J 0))) rfl dX2_forgetMemory_2 ?_
  refine z_aload_n C 0 rfl rfl dX2_forgetMemory_5 ?_
  refine z_iconst C (v := 0) (by decide) dX2_forgetMemory_6 ?_
  refine z_put C (Cn := RX2) (T := TX2) (Nf := 12) (ci := 2) in2 0 6 l66 rfl rfl (by decide) tyX2 tyX2_ok nmX2 rfl rfl rfl (Nat.le_of_ble_eq_true rfl) (V' := (wJ E a N (jsWa (jsEn J 0) 0))) rfl dX2_forgetMemory_7 ?_
  refine z_aload_n C 0 rfl rfl dX2_forgetMemory_10 ?_
  refine z_iconst C (v := (-1)) (by decide) dX2_forgetMemory_11 ?_
  refine z_put C (Cn := RX2) (T := TX2) (Nf := 12) (ci := 2) in2 0 11 l99 rfl rfl (by decide) tyX2 tyX2_ok nmX2 rfl rfl rfl (Nat.le_of_ble_eq_true rfl) (V' := (wJ E a N (jsFp (jsWa (jsEn J 0) 0) (-1)))) rfl dX2_forgetMemory_12 ?_
  exact ret _ _ _ (by first | rfl | (simp only [↓reduceIte]; done) | (simp only [↓reduceIte]; rfl) | (simp [↓reduceIte]; done)) dX2_forgetMemory_15
abbrev rmX2_loseMemory : Room := { frames := 3, cells := 0, slots := 0, locals := 70 }
theorem hyX2_loseMemory : yX2_loseMemory.cls = RX2 ∧ yX2_loseMemory.cls ≠ "java/lang/invoke/MethodHandle" ∧ yX2_loseMemory.cls ≠ "java/lang/invoke/VarHandle" ∧ (parseMethodDescriptor yX2_loseMemory.desc).map (fun d => d.parameters.length) = some 2 := by decide +kernel
set_option maxHeartbeats 4000000 in
set_option maxRecDepth 100000 in
theorem c_X2_loseMemory (E : GE) (N : Nat) (hN : 16 ≤ N ∧ N ≤ 64) (a : Nat → Nat) (J : JS) (kp tr w : Nat) (hw : jWa J = nI w) (hkp : kp ≤ 64) (htr : tr ≤ 32) : zV E yX2_loseMemory wsX2_loseMemory rmX2_loseMemory [.ref (a 0), .int (nI kp), .int (nI tr)] (wJ E a N J) (wJ E a N (jLose N J kp tr w)) := by
  refine zV_of (cc := cX2_loseMemory) (maxL := 4) (by decide) rfl (Nat.le_of_ble_eq_true rfl) ?_
  intro K C ret
  replace C : zC E K cX2_loseMemory wsX2_loseMemory RX2 rmX2_loseMemory 4 := C
  have in2 : ∀ w ∈ wsX20, w ∈ wsX2_loseMemory := fun w h => List.mem_cons_of_mem _ (List.mem_append_left _ (List.mem_append_right _ (h)))
  have l26 : zw K (.fieldLink RX2 26 "StoreLog3$Journal" "disk" "LStoreLog3$Sectors;") := C.w (List.mem_cons_of_mem _ (List.mem_append_left _ (List.mem_append_left _ (List.mem_append_left _ (List.mem_of_getElem? (i := 1) rfl)))))
  have l30 : zw K (.fieldLink RX2 30 "StoreLog3$Journal" "memory" "LStoreLog3$Sectors;") := C.w (List.mem_cons_of_mem _ (List.mem_append_left _ (List.mem_append_left _ (List.mem_append_left _ (List.mem_of_getElem? (i := 2) rfl)))))
  have l66 : zw K (.fieldLink RX2 66 "StoreLog3$Journal" "waiting" "I") := C.w (List.mem_cons_of_mem _ (List.mem_append_left _ (List.mem_append_left _ (List.mem_append_left _ (List.mem_of_getElem? (i := 0) rfl)))))
  show Z E K 0 0 (wJ E a N J) 0 [(0, .ref (a 0)), (1, .int (nI kp)), (2, .int (nI tr))] []
  refine z_aload_n C 0 rfl rfl dX2_loseMemory_0 ?_
  refine z_iload_n C 1 rfl rfl dX2_loseMemory_1 ?_
  refine z_callVI C (c_X2_putOnDisk E N hN a J kp hkp) gX2_loseMemory_X2_putOnDisk (ci := 2) (q0 := 0) rfl rfl hyX2_putOnDisk rfl ⟨rfl, rfl⟩ ⟨by decide, by decide⟩ ⟨by decide, by decide⟩ [0, 1, 2, 3, 4, 5, 6, 7] [] [0, 1, 2, 3, 4, 5, 6, 7] (wr := []) (V' := (wJ E a N (jsDk J ((jPod N J kp).2)))) rfl rfl (by decide) (by decide) (by decide) rfl (by decide) (st := []) (Nat.le_of_ble_eq_true rfl) dX2_loseMemory_2 ?_ rfl
  refine z_istore_n C (lv' := [(3, .int ((jPod N J kp).1)), (0, .ref (a 0)), (1, .int (nI kp)), (2, .int (nI tr))]) rfl rfl (by decide) dX2_loseMemory_5 ?_
  refine z_iload_n C 2 rfl rfl dX2_loseMemory_6 ?_
  refine z_aload_n C 1 rfl rfl dX2_loseMemory_7 ?_
  refine z_get C (Cn := RX2) (T := TX2) (Nf := 12) (ci := 2) in2 0 6 l66 (v := .int (jWa J)) rfl rfl (by decide) rfl dX2_loseMemory_8 ?_
  refine z_top (y := (nI w)) hw ?_
  refine z_icmp_ge C (tgt := 27) dX2_loseMemory_11 (by decide) (fun h11_1 => ?_) (fun h11_1 => ?_)
  · refine z_aload_n C 1 rfl rfl dX2_loseMemory_27 ?_
    refine z_callVV C (c_X2_forgetMemory E N hN a (jsDk J ((jPod N J kp).2))) gX2_loseMemory_X2_forgetMemory (ci := 2) (q0 := 0) rfl rfl hyX2_forgetMemory rfl ⟨rfl, rfl⟩ ⟨by decide, by decide⟩ ⟨by decide, by decide⟩ [0, 1, 2, 3, 4, 5, 6, 7] [] [0, 1, 2, 3, 4, 5, 6, 7] (wr := []) (V' := (wJ E a N (jForget (jsDk J ((jPod N J kp).2))))) rfl rfl (by decide) (by decide) (by decide) rfl (by decide) (st := []) (Nat.le_of_ble_eq_true rfl) dX2_loseMemory_28 ?_ rfl
    exact ret _ _ _ (by first | rfl | (simp only [jLose, h11_1, ↓reduceIte]; done) | (simp only [jLose, h11_1, ↓reduceIte]; rfl) | (simp [jLose, h11_1, ↓reduceIte]; done)) dX2_loseMemory_31
  · refine z_aload_n C 1 rfl rfl dX2_loseMemory_14 ?_
    refine z_get C (Cn := RX2) (T := TX2) (Nf := 12) (ci := 2) in2 0 0 l26 (v := .ref (a 1)) rfl rfl (by decide) rfl dX2_loseMemory_15 ?_
    refine z_aload_n C 1 rfl rfl dX2_loseMemory_18 ?_
    refine z_get C (Cn := RX2) (T := TX2) (Nf := 12) (ci := 2) in2 0 1 l30 (v := .ref (a 3)) rfl rfl (by decide) rfl dX2_loseMemory_19 ?_
    refine z_iload_n C 0 rfl rfl dX2_loseMemory_22 ?_
    refine z_iload_n C 3 rfl rfl dX2_loseMemory_23 ?_
    refine z_callVV C (c_X3_copyStart E N hN (a 1) (a 2) ((jPod N J kp).2) (a 3) (a 4) (jMm J) ((jPod N J kp).1) tr htr) gX2_loseMemory_X3_copyStart (ci := 3) (q0 := 0) rfl rfl hyX3_copyStart rfl ⟨rfl, rfl⟩ ⟨by decide, by decide⟩ ⟨by decide, by decide⟩ [1, 2, 3, 4] [0, 5, 6, 7] [0, 4, 5, 6, 7, 1, 2, 3] (wr := [((a 0), .inr (2, [.ref (a 1), .ref (a 3), .ref (a 5), .ref (a 6), .ref (a 7), .int (jEn J), .int (jWa J), .int (jFw J), .int (jSe J), .int (jSc J), .int (jFn J), .int (jFp J)])), ((a 5), .inl (gI E, 4, .inl (jEh J))), ((a 6), .inl (gI E, 4, .inl (jEk J))), ((a 7), .inl (gI E, 4, .inl (jEv J)))]) (V' := (wJ E a N (jsDk J (cpS N ((jPod N J kp).2) (jMm J) ((jPod N J kp).1) tr)))) rfl rfl (by decide) (by decide) (by decide) rfl (by decide) (st := []) (Nat.le_of_ble_eq_true rfl) dX2_loseMemory_24 ?_ rfl
    refine z_aload_n C 1 rfl rfl dX2_loseMemory_27 ?_
    refine z_callVV C (c_X2_forgetMemory E N hN a (jsDk J (cpS N ((jPod N J kp).2) (jMm J) ((jPod N J kp).1) tr))) gX2_loseMemory_X2_forgetMemory (ci := 2) (q0 := 0) rfl rfl hyX2_forgetMemory rfl ⟨rfl, rfl⟩ ⟨by decide, by decide⟩ ⟨by decide, by decide⟩ [0, 1, 2, 3, 4, 5, 6, 7] [] [0, 1, 2, 3, 4, 5, 6, 7] (wr := []) (V' := (wJ E a N (jForget (jsDk J (cpS N ((jPod N J kp).2) (jMm J) ((jPod N J kp).1) tr))))) rfl rfl (by decide) (by decide) (by decide) rfl (by decide) (st := []) (Nat.le_of_ble_eq_true rfl) dX2_loseMemory_28 ?_ rfl
    exact ret _ _ _ (by first | rfl | (simp only [jLose, h11_1, ↓reduceIte]; done) | (simp only [jLose, h11_1, ↓reduceIte]; rfl) | (simp [jLose, h11_1, ↓reduceIte]; done)) dX2_loseMemory_31
abbrev rmX2_goOn : Room := { frames := 3, cells := 0, slots := 0, locals := 68 }
theorem hyX2_goOn : yX2_goOn.cls = RX2 ∧ yX2_goOn.cls ≠ "java/lang/invoke/MethodHandle" ∧ yX2_goOn.cls ≠ "java/lang/invoke/VarHandle" ∧ (parseMethodDescriptor yX2_goOn.desc).map (fun d => d.parameters.length) = some 2 := by decide +kernel
set_option maxHeartbeats 4000000 in
set_option maxRecDepth 100000 in
theorem c_X2_goOn (E : GE) (N : Nat) (hN : 16 ≤ N ∧ N ≤ 64) (a : Nat → Nat) (J : JS) (fp re : Int32) : zV E yX2_goOn wsX2_goOn rmX2_goOn [.ref (a 0), .int fp, .int re] (wJ E a N J) (wJ E a N (jGoOn N J fp re)) := by
  refine zV_of (cc := cX2_goOn) (maxL := 3) (by decide) rfl (Nat.le_of_ble_eq_true rfl) ?_
  intro K C ret
  replace C : zC E K cX2_goOn wsX2_goOn RX2 rmX2_goOn 3 := C
  have in2 : ∀ w ∈ wsX20, w ∈ wsX2_goOn := fun w h => List.mem_cons_of_mem _ (List.mem_append_left _ (List.mem_append_right _ (h)))
  have l26 : zw K (.fieldLink RX2 26 "StoreLog3$Journal" "disk" "LStoreLog3$Sectors;") := C.w (List.mem_cons_of_mem _ (List.mem_append_left _ (List.mem_append_left _ (List.mem_of_getElem? (i := 2) rfl))))
  have l50 : zw K (.fieldLink RX2 50 "StoreLog3$Journal" "lastSerial" "I") := C.w (List.mem_cons_of_mem _ (List.mem_append_left _ (List.mem_append_left _ (List.mem_of_getElem? (i := 3) rfl))))
  have l54 : zw K (.fieldLink RX2 54 "StoreLog3$Journal" "lastSector" "I") := C.w (List.mem_cons_of_mem _ (List.mem_append_left _ (List.mem_append_left _ (List.mem_of_getElem? (i := 1) rfl))))
  have l57 : zw K (.fieldLink RX2 57 "StoreLog3$Journal" "firstNeeded" "I") := C.w (List.mem_cons_of_mem _ (List.mem_append_left _ (List.mem_append_left _ (List.mem_of_getElem? (i := 0) rfl))))
  show Z E K 0 0 (wJ E a N J) 0 [(0, .ref (a 0)), (1, .int fp), (2, .int re)] []
  refine z_aload_n C 0 rfl rfl dX2_goOn_0 ?_
  refine z_iload_n C 1 rfl rfl dX2_goOn_1 ?_
  refine z_put C (Cn := RX2) (T := TX2) (Nf := 12) (ci := 2) in2 0 10 l57 rfl rfl (by decide) tyX2 tyX2_ok nmX2 rfl rfl rfl (Nat.le_of_ble_eq_true rfl) (V' := (wJ E a N (jsFn J fp))) rfl dX2_goOn_2 ?_
  refine z_aload_n C 0 rfl rfl dX2_goOn_5 ?_
  refine z_iload_n C 2 rfl rfl dX2_goOn_6 ?_
  refine z_put C (Cn := RX2) (T := TX2) (Nf := 12) (ci := 2) in2 0 9 l54 rfl rfl (by decide) tyX2 tyX2_ok nmX2 rfl rfl rfl (Nat.le_of_ble_eq_true rfl) (V' := (wJ E a N (jsSc (jsFn J fp) re))) rfl dX2_goOn_7 ?_
  refine z_aload_n C 0 rfl rfl dX2_goOn_10 ?_
  refine z_aload_n C 0 rfl rfl dX2_goOn_11 ?_
  refine z_get C (Cn := RX2) (T := TX2) (Nf := 12) (ci := 2) in2 0 0 l26 (v := .ref (a 1)) rfl rfl (by decide) rfl dX2_goOn_12 ?_
  refine z_iload_n C 2 rfl rfl dX2_goOn_15 ?_
  refine z_rVI C (c_X3_serialOf E N hN (a 1) (a 2) (jDk J) re) gX2_goOn_X3_serialOf (ci := 3) (q0 := 0) rfl rfl hyX3_serialOf rfl ⟨rfl, rfl⟩ ⟨by decide, by decide⟩ ⟨by decide, by decide⟩ [1, 2] rfl (by decide) (st := [.ref (a 0)]) (Nat.le_of_ble_eq_true rfl) dX2_goOn_16 ?_ rfl
  refine z_put C (Cn := RX2) (T := TX2) (Nf := 12) (ci := 2) in2 0 8 l50 rfl rfl (by decide) tyX2 tyX2_ok nmX2 rfl rfl rfl (Nat.le_of_ble_eq_true rfl) (V' := (wJ E a N (jsSe (jsSc (jsFn J fp) re) (nOf N (jDk J) re 1 4)))) rfl dX2_goOn_19 ?_
  exact ret _ _ _ (by first | rfl | (simp only [↓reduceIte]; done) | (simp only [↓reduceIte]; rfl) | (simp [↓reduceIte]; done)) dX2_goOn_22
abbrev rmX2_beginAnew : Room := { frames := 3, cells := 0, slots := 0, locals := 74 }
theorem hyX2_beginAnew : yX2_beginAnew.cls = RX2 ∧ yX2_beginAnew.cls ≠ "java/lang/invoke/MethodHandle" ∧ yX2_beginAnew.cls ≠ "java/lang/invoke/VarHandle" ∧ (parseMethodDescriptor yX2_beginAnew.desc).map (fun d => d.parameters.length) = some 0 := by decide +kernel
set_option maxHeartbeats 4000000 in
set_option maxRecDepth 100000 in
theorem c_X2_beginAnew (E : GE) (N : Nat) (hN : 16 ≤ N ∧ N ≤ 64) (a : Nat → Nat) (J : JS) : zV E yX2_beginAnew wsX2_beginAnew rmX2_beginAnew [.ref (a 0)] (wJ E a N J) (wJ E a N (jBegin N J)) := by
  refine zV_of (cc := cX2_beginAnew) (maxL := 1) (by decide) rfl (Nat.le_of_ble_eq_true rfl) ?_
  intro K C ret
  replace C : zC E K cX2_beginAnew wsX2_beginAnew RX2 rmX2_beginAnew 1 := C
  have in2 : ∀ w ∈ wsX20, w ∈ wsX2_beginAnew := fun w h => List.mem_cons_of_mem _ (List.mem_append_left _ (List.mem_append_right _ (h)))
  have l26 : zw K (.fieldLink RX2 26 "StoreLog3$Journal" "disk" "LStoreLog3$Sectors;") := C.w (List.mem_cons_of_mem _ (List.mem_append_left _ (List.mem_append_left _ (List.mem_append_left _ (List.mem_of_getElem? (i := 0) rfl)))))
  have l50 : zw K (.fieldLink RX2 50 "StoreLog3$Journal" "lastSerial" "I") := C.w (List.mem_cons_of_mem _ (List.mem_append_left _ (List.mem_append_left _ (List.mem_append_left _ (List.mem_of_getElem? (i := 1) rfl)))))
  have l54 : zw K (.fieldLink RX2 54 "StoreLog3$Journal" "lastSector" "I") := C.w (List.mem_cons_of_mem _ (List.mem_append_left _ (List.mem_append_left _ (List.mem_append_left _ (List.mem_of_getElem? (i := 2) rfl)))))
  have l57 : zw K (.fieldLink RX2 57 "StoreLog3$Journal" "firstNeeded" "I") := C.w (List.mem_cons_of_mem _ (List.mem_append_left _ (List.mem_append_left _ (List.mem_append_left _ (List.mem_of_getElem? (i := 3) rfl)))))
  show Z E K 0 0 (wJ E a N J) 0 [(0, .ref (a 0))] []
  refine z_aload_n C 0 rfl rfl dX2_beginAnew_0 ?_
  refine z_get C (Cn := RX2) (T := TX2) (Nf := 12) (ci := 2) in2 0 0 l26 (v := .ref (a 1)) rfl rfl (by decide) rfl dX2_beginAnew_1 ?_
  refine z_callVV C (c_X3_clear E N hN (a 1) (a 2) (jDk J)) gX2_beginAnew_X3_clear (ci := 3) (q0 := 0) rfl rfl hyX3_clear rfl ⟨rfl, rfl⟩ ⟨by decide, by decide⟩ ⟨by decide, by decide⟩ [1, 2] [0, 3, 4, 5, 6, 7] [0, 6, 7, 1, 2, 3, 4, 5] (wr := [((a 0), .inr (2, [.ref (a 1), .ref (a 3), .ref (a 5), .ref (a 6), .ref (a 7), .int (jEn J), .int (jWa J), .int (jFw J), .int (jSe J), .int (jSc J), .int (jFn J), .int (jFp J)])), ((a 3), .inr (3, [.int (nI N), .ref (a 4)])), ((a 4), .inl (gB E, 32 * N, .inl (jMm J))), ((a 5), .inl (gI E, 4, .inl (jEh J))), ((a 6), .inl (gI E, 4, .inl (jEk J))), ((a 7), .inl (gI E, 4, .inl (jEv J)))]) (V' := (wJ E a N (jsDk J (clA (jDk J) (32 * N))))) rfl rfl (by decide) (by decide) (by decide) rfl (by decide) (st := []) (Nat.le_of_ble_eq_true rfl) dX2_beginAnew_4 ?_ rfl
  refine z_aload_n C 0 rfl rfl dX2_beginAnew_7 ?_
  refine z_get C (Cn := RX2) (T := TX2) (Nf := 12) (ci := 2) in2 0 0 l26 (v := .ref (a 1)) rfl rfl (by decide) rfl dX2_beginAnew_8 ?_
  refine z_iconst C (v := 0) (by decide) dX2_beginAnew_11 ?_
  refine z_iconst C (v := 2) (by decide) dX2_beginAnew_12 ?_
  refine z_iconst C (v := 1) (by decide) dX2_beginAnew_13 ?_
  refine z_iconst C (v := 0) (by decide) dX2_beginAnew_14 ?_
  refine z_callVV C (c_X3_prepare E N hN (a 1) (a 2) (clA (jDk J) (32 * N)) 0 2 1 0) gX2_beginAnew_X3_prepare (ci := 3) (q0 := 0) rfl rfl hyX3_prepare rfl ⟨rfl, rfl⟩ ⟨by decide, by decide⟩ ⟨by decide, by decide⟩ [1, 2] [0, 3, 4, 5, 6, 7] [0, 6, 7, 1, 2, 3, 4, 5] (wr := [((a 0), .inr (2, [.ref (a 1), .ref (a 3), .ref (a 5), .ref (a 6), .ref (a 7), .int (jEn J), .int (jWa J), .int (jFw J), .int (jSe J), .int (jSc J), .int (jFn J), .int (jFp J)])), ((a 3), .inr (3, [.int (nI N), .ref (a 4)])), ((a 4), .inl (gB E, 32 * N, .inl (jMm J))), ((a 5), .inl (gI E, 4, .inl (jEh J))), ((a 6), .inl (gI E, 4, .inl (jEk J))), ((a 7), .inl (gI E, 4, .inl (jEv J)))]) (V' := (wJ E a N (jsDk J (prep N (clA (jDk J) (32 * N)) 0 2 1 0)))) rfl rfl (by decide) (by decide) (by decide) rfl (by decide) (st := []) (Nat.le_of_ble_eq_true rfl) dX2_beginAnew_15 ?_ rfl
  refine z_aload_n C 0 rfl rfl dX2_beginAnew_18 ?_
  refine z_get C (Cn := RX2) (T := TX2) (Nf := 12) (ci := 2) in2 0 0 l26 (v := .ref (a 1)) rfl rfl (by decide) rfl dX2_beginAnew_19 ?_
  refine z_iconst C (v := 0) (by decide) dX2_beginAnew_22 ?_
  refine z_bipush C (v := 27) (by decide) dX2_beginAnew_23 ?_
  refine z_iconst C (v := 1) (by decide) dX2_beginAnew_25 ?_
  refine z_callVV C (c_X3_setByte E N hN (a 1) (a 2) (prep N (clA (jDk J) (32 * N)) 0 2 1 0) 0 27 1) gX2_beginAnew_X3_setByte (ci := 3) (q0 := 0) rfl rfl hyX3_setByte rfl ⟨rfl, rfl⟩ ⟨by decide, by decide⟩ ⟨by decide, by decide⟩ [1, 2] [0, 3, 4, 5, 6, 7] [0, 6, 7, 1, 2, 3, 4, 5] (wr := [((a 0), .inr (2, [.ref (a 1), .ref (a 3), .ref (a 5), .ref (a 6), .ref (a 7), .int (jEn J), .int (jWa J), .int (jFw J), .int (jSe J), .int (jSc J), .int (jFn J), .int (jFp J)])), ((a 3), .inr (3, [.int (nI N), .ref (a 4)])), ((a 4), .inl (gB E, 32 * N, .inl (jMm J))), ((a 5), .inl (gI E, 4, .inl (jEh J))), ((a 6), .inl (gI E, 4, .inl (jEk J))), ((a 7), .inl (gI E, 4, .inl (jEv J)))]) (V' := (wJ E a N (jsDk J (sB N (prep N (clA (jDk J) (32 * N)) 0 2 1 0) 0 27 1)))) rfl rfl (by decide) (by decide) (by decide) rfl (by decide) (st := []) (Nat.le_of_ble_eq_true rfl) dX2_beginAnew_26 ?_ rfl
  refine z_aload_n C 0 rfl rfl dX2_beginAnew_29 ?_
  refine z_get C (Cn := RX2) (T := TX2) (Nf := 12) (ci := 2) in2 0 0 l26 (v := .ref (a 1)) rfl rfl (by decide) rfl dX2_beginAnew_30 ?_
  refine z_iconst C (v := 0) (by decide) dX2_beginAnew_33 ?_
  refine z_callVV C (c_X3_seal E N hN (a 1) (a 2) (sB N (prep N (clA (jDk J) (32 * N)) 0 2 1 0) 0 27 1) 0) gX2_beginAnew_X3_seal (ci := 3) (q0 := 0) rfl rfl hyX3_seal rfl ⟨rfl, rfl⟩ ⟨by decide, by decide⟩ ⟨by decide, by decide⟩ [1, 2] [0, 3, 4, 5, 6, 7] [0, 6, 7, 1, 2, 3, 4, 5] (wr := [((a 0), .inr (2, [.ref (a 1), .ref (a 3), .ref (a 5), .ref (a 6), .ref (a 7), .int (jEn J), .int (jWa J), .int (jFw J), .int (jSe J), .int (jSc J), .int (jFn J), .int (jFp J)])), ((a 3), .inr (3, [.int (nI N), .ref (a 4)])), ((a 4), .inl (gB E, 32 * N, .inl (jMm J))), ((a 5), .inl (gI E, 4, .inl (jEh J))), ((a 6), .inl (gI E, 4, .inl (jEk J))), ((a 7), .inl (gI E, 4, .inl (jEv J)))]) (V' := (wJ E a N (jsDk J (sealS N (sB N (prep N (clA (jDk J) (32 * N)) 0 2 1 0) 0 27 1) 0)))) rfl rfl (by decide) (by decide) (by decide) rfl (by decide) (st := []) (Nat.le_of_ble_eq_true rfl) dX2_beginAnew_34 ?_ rfl
  refine z_aload_n C 0 rfl rfl dX2_beginAnew_37 ?_
  refine z_iconst C (v := 1) (by decide) dX2_beginAnew_38 ?_
  refine z_put C (Cn := RX2) (T := TX2) (Nf := 12) (ci := 2) in2 0 8 l50 rfl rfl (by decide) tyX2 tyX2_ok nmX2 rfl rfl rfl (Nat.le_of_ble_eq_true rfl) (V' := (wJ E a N (jsSe (jsDk J (sealS N (sB N (prep N (clA (jDk J) (32 * N)) 0 2 1 0) 0 27 1) 0)) 1))) rfl dX2_beginAnew_39 ?_
  refine z_aload_n C 0 rfl rfl dX2_beginAnew_42 ?_
  refine z_iconst C (v := 0) (by decide) dX2_beginAnew_43 ?_
  refine z_put C (Cn := RX2) (T := TX2) (Nf := 12) (ci := 2) in2 0 9 l54 rfl rfl (by decide) tyX2 tyX2_ok nmX2 rfl rfl rfl (Nat.le_of_ble_eq_true rfl) (V' := (wJ E a N (jsSc (jsSe (jsDk J (sealS N (sB N (prep N (clA (jDk J) (32 * N)) 0 2 1 0) 0 27 1) 0)) 1) 0))) rfl dX2_beginAnew_44 ?_
  refine z_aload_n C 0 rfl rfl dX2_beginAnew_47 ?_
  refine z_iconst C (v := 0) (by decide) dX2_beginAnew_48 ?_
  refine z_put C (Cn := RX2) (T := TX2) (Nf := 12) (ci := 2) in2 0 10 l57 rfl rfl (by decide) tyX2 tyX2_ok nmX2 rfl rfl rfl (Nat.le_of_ble_eq_true rfl) (V' := (wJ E a N (jsFn (jsSc (jsSe (jsDk J (sealS N (sB N (prep N (clA (jDk J) (32 * N)) 0 2 1 0) 0 27 1) 0)) 1) 0) 0))) rfl dX2_beginAnew_49 ?_
  refine z_aload_n C 0 rfl rfl dX2_beginAnew_52 ?_
  refine z_callVV C (c_X2_forgetMemory E N hN a (jsFn (jsSc (jsSe (jsDk J (sealS N (sB N (prep N (clA (jDk J) (32 * N)) 0 2 1 0) 0 27 1) 0)) 1) 0) 0)) gX2_beginAnew_X2_forgetMemory (ci := 2) (q0 := 0) rfl rfl hyX2_forgetMemory rfl ⟨rfl, rfl⟩ ⟨by decide, by decide⟩ ⟨by decide, by decide⟩ [0, 1, 2, 3, 4, 5, 6, 7] [] [0, 1, 2, 3, 4, 5, 6, 7] (wr := []) (V' := (wJ E a N (jForget (jsFn (jsSc (jsSe (jsDk J (sealS N (sB N (prep N (clA (jDk J) (32 * N)) 0 2 1 0) 0 27 1) 0)) 1) 0) 0)))) rfl rfl (by decide) (by decide) (by decide) rfl (by decide) (st := []) (Nat.le_of_ble_eq_true rfl) dX2_beginAnew_53 ?_ rfl
  exact ret _ _ _ (by first | rfl | (simp only [↓reduceIte]; done) | (simp only [↓reduceIte]; rfl) | (simp [↓reduceIte]; done)) dX2_beginAnew_56
end
section
/-! Part 13: the finder -/
theorem zclY {z : Int32} : z ≤ nI z.toNatClampNeg := by
  rw [Int32.le_iff_toInt_le]
  have h1 : z.toInt < 2 ^ 31 := Int32.toInt_lt z
  have h2 : z.toNatClampNeg = z.toInt.toNat := rfl
  rw [nI_toInt (by omega)]
  omega
theorem zclN {z : Int32} {j n : Nat} (h : j + (n + 1) = z.toNatClampNeg) : ¬ z ≤ nI j := by
  rw [Int32.le_iff_toInt_le]
  have h1 : z.toInt < 2 ^ 31 := Int32.toInt_lt z
  have h2 : z.toNatClampNeg = z.toInt.toNat := rfl
  rw [nI_toInt (by omega)]
  omega
theorem zin64 {x : Int32} (h1 : ¬ x < 0) (h2 : ¬ (64 : Int32) ≤ x) : vp_in x 64 := by
  have a1 := znlt h1
  have a2 := znle h2
  exact zvin (by simpa using a1) (by simpa using a2)
def fIs (F : FS) (s : Int32) : Int32 := if s < 0 then 0 else if 64 ≤ s then 0 else if fTe F s.toNatClampNeg = 0 then 0 else 1
def ilL (N : Nat) (f : Nat → Int32) (s : Int32) : Nat → Nat → Int32
  | 0, _ => 1
  | n + 1, j => if isT (bOf N f s (6 + nI j * 5) >>> (2 &&& 31)) = 0 then 0 else if isK (bOf N f s (6 + nI j * 5 + 1)) = 0 then 0 else ilL N f s n (j + 1)
def isLg (N : Nat) (f : Nat → Int32) (s : Int32) : Int32 := if bOf N f s 0 = 1 then (if bOf N f s 5 < 1 then 0 else if bOf N f s 5 ≤ 4 then ilL N f s (bOf N f s 5).toNatClampNeg 0 else 0) else 0
def ipL (N : Nat) (f : Nat → Int32) (s : Int32) : Nat → Nat → Int32
  | 0, _ => if bOf N f s 27 ≤ bOf N f s 26 then 0 else 1
  | n + 1, j => if isK (bOf N f s (6 + nI j * 4)) = 0 then 0 else ipL N f s n (j + 1)
def isPg (N : Nat) (f : Nat → Int32) (s : Int32) : Int32 := if bOf N f s 0 = 2 then (if bOf N f s 5 ≤ 5 then ipL N f s (bOf N f s 5).toNatClampNeg 0 else 0) else 0
theorem ilL_01 (N : Nat) (f : Nat → Int32) (s : Int32) : ∀ n j, ilL N f s n j = 0 ∨ ilL N f s n j = 1 := by
  intro n
  induction n with
  | zero => intro j; exact Or.inr rfl
  | succ n ih =>
    intro j
    unfold ilL
    split
    · exact Or.inl rfl
    · split
      · exact Or.inl rfl
      · exact ih (j + 1)
theorem ipL_01 (N : Nat) (f : Nat → Int32) (s : Int32) : ∀ n j, ipL N f s n j = 0 ∨ ipL N f s n j = 1 := by
  intro n
  induction n with
  | zero =>
    intro j
    unfold ipL
    split
    · exact Or.inl rfl
    · exact Or.inr rfl
  | succ n ih =>
    intro j
    unfold ipL
    split
    · exact Or.inl rfl
    · exact ih (j + 1)
theorem nb01 {x : Int32} (h : x = 0 ∨ x = 1) : narrow .boolean (.int x) = .int x := by
  rcases h with h | h <;> (rw [h]; rfl)
theorem isLg_nb (N : Nat) (f : Nat → Int32) (s : Int32) : narrow .boolean (.int (isLg N f s)) = .int (isLg N f s) := by
  apply nb01
  unfold isLg
  split
  · split
    · exact Or.inl rfl
    · split
      · exact ilL_01 N f s _ _
      · exact Or.inl rfl
  · exact Or.inl rfl
theorem isPg_nb (N : Nat) (f : Nat → Int32) (s : Int32) : narrow .boolean (.int (isPg N f s)) = .int (isPg N f s) := by
  apply nb01
  unfold isPg
  split
  · split
    · exact ipL_01 N f s _ _
    · exact Or.inl rfl
  · exact Or.inl rfl
def rpL (N : Nat) (f : Nat → Int32) (s : Int32) : Nat → Nat → DS → DS
  | 0, _, D => D
  | n + 1, j, D => rpL N f s n (j + 1) (dSetC D (bOf N f s (6 + nI j * 4)) (nOf N f s (6 + nI j * 4 + 1) 3))
def rPage (N : Nat) (f : Nat → Int32) (s : Int32) (D : DS) : DS := rpL N f s (bOf N f s 5).toNatClampNeg 0 D
def goS (N : Nat) (f : Nat → Int32) (s : Int32) (j : Nat) (D : DS) : DS := if bOf N f s (6 + nI j * 5) &&& 3 = 0 then dChg D (bOf N f s (6 + nI j * 5) >>> (2 &&& 31)) (bOf N f s (6 + nI j * 5 + 1)) (nOf N f s (6 + nI j * 5 + 2) 3) else if bOf N f s (6 + nI j * 5) &&& 3 = 1 then dChg D (bOf N f s (6 + nI j * 5) >>> (2 &&& 31)) (bOf N f s (6 + nI j * 5 + 1)) (-1) else if bOf N f s (6 + nI j * 5) &&& 3 = 2 then (dClose D (bOf N f s (6 + nI j * 5) >>> (2 &&& 31)) 1).2 else (dClose D (bOf N f s (6 + nI j * 5) >>> (2 &&& 31)) 0).2
def goL (N : Nat) (f : Nat → Int32) (s : Int32) : Nat → Nat → DS → DS
  | 0, _, D => D
  | n + 1, j, D => goL N f s n (j + 1) (goS N f s j D)
def gLog (N : Nat) (f : Nat → Int32) (s : Int32) (D : DS) : DS := goL N f s (bOf N f s 5).toNatClampNeg 0 D
def tlS (N : Nat) (f : Nat → Int32) (s : Int32) : Int32 := if isLg N f s = 0 then (if isPg N f s = 0 then 0 else if isS N f s = 0 then 0 else 1) else if isS N f s = 0 then 0 else 1
def laL (N : Nat) (f te : Nat → Int32) : Nat → Nat → Int32
  | 0 => te
  | n + 1 => upd (laL N f te n) n (tlS N f (nI n))
def ppL (N : Nat) (f : Nat → Int32) (F : FS) (s : Int32) : Nat → Nat → Int32 → Int32
  | 0, _, _ => bOf N f s 27
  | n + 1, j, c => if fIs F c = 0 then 0 else if bOf N f c 0 = 2 then (if bOf N f c 26 = nI j then (if bOf N f c 27 = bOf N f s 27 then (if nOf N f c 1 4 = nOf N f s 1 4 + nI j then ppL N f F s n (j + 1) (bhd N c) else 0) else 0) else 0) else 0
def pgsF (N : Nat) (f : Nat → Int32) (F : FS) (s : Int32) : Int32 := ppL N f F s (bOf N f s 27).toNatClampNeg 0 s
def isLt (u v : Int32) : Int32 := if lg_cmp (Int32.toInt64 u &&& 4294967295) (Int32.toInt64 v &&& 4294967295) ≤ 0 then 0 else 1
def fcS (N : Nat) (f : Nat → Int32) (j : Nat) (F : FS) : FS := if pgsF N f F (nI j) ≤ 0 then F else if fPg F = 0 then fsPg (fsFp F (nI j)) (pgsF N f F (nI j)) else if isLt (nOf N f (nI j) 1 4) (nOf N f (fFp F) 1 4) = 0 then F else fsPg (fsFp F (nI j)) (pgsF N f F (nI j))
def fcL (N : Nat) (f : Nat → Int32) : Nat → Nat → FS → FS
  | 0, _, F => F
  | n + 1, j, F => fcL N f n (j + 1) (fcS N f j F)
def fFind (N : Nat) (f : Nat → Int32) (F : FS) : FS := fcL N f N 0 (fsPg (fsTe F (laL N f (fTe F) 64)) 0)
def fFound (N : Nat) (f : Nat → Int32) (F : FS) : Int32 := if fPg (fFind N f F) ≤ 0 then 0 else 1
def rdL (N : Nat) (f : Nat → Int32) : Nat → Int32 → Int32 × DS → Int32 × DS
  | 0, _, x => x
  | n + 1, s, x => rdL N f n (bhd N s) (s, rPage N f s x.2)
def rdAll (N : Nat) (f : Nat → Int32) (F : FS) (D : DS) : Int32 × DS := rdL N f (fPg F).toNatClampNeg (fFp F) (fRe F, D)
def grL (N : Nat) (f : Nat → Int32) : Nat → FS × DS → FS × DS
  | 0, x => x
  | n + 1, x => if fIs x.1 (bhd N (fRe x.1)) = 0 then x else if nOf N f (bhd N (fRe x.1)) 1 4 = nOf N f (fRe x.1) 1 4 + 1 then (if bOf N f (bhd N (fRe x.1)) 0 = 1 then grL N f n (fsRe x.1 (bhd N (fRe x.1)), gLog N f (bhd N (fRe x.1)) x.2) else grL N f n (fsRe x.1 (bhd N (fRe x.1)), x.2)) else x
def gRun (N : Nat) (f : Nat → Int32) (F : FS) (D : DS) : FS × DS := grL N f N (F, D)
abbrev rmX1_firstPage : Room := { frames := 0, cells := 0, slots := 0, locals := 0 }
theorem hyX1_firstPage : yX1_firstPage.cls = RX1 ∧ yX1_firstPage.cls ≠ "java/lang/invoke/MethodHandle" ∧ yX1_firstPage.cls ≠ "java/lang/invoke/VarHandle" ∧ (parseMethodDescriptor yX1_firstPage.desc).map (fun d => d.parameters.length) = some 0 := by decide +kernel
set_option maxHeartbeats 4000000 in
set_option maxRecDepth 100000 in
theorem c_X1_firstPage (E : GE) (a : Nat → Nat) (F : FS) : zI E yX1_firstPage wsX1_firstPage rmX1_firstPage [.ref (a 0)] (wF E a F) (fFp F) (wF E a F) := by
  refine zI_of (cc := cX1_firstPage) (maxL := 1) (ty := .int) (by decide) rfl (vp_nar_int _) (Nat.le_of_ble_eq_true rfl) ?_
  intro K C ret
  replace C : zC E K cX1_firstPage wsX1_firstPage RX1 rmX1_firstPage 1 := C
  have in1 : ∀ w ∈ wsX10, w ∈ wsX1_firstPage := fun w h => List.mem_cons_of_mem _ (List.mem_append_right _ (h))
  have l15 : zw K (.fieldLink RX1 15 "StoreLog3$Finder" "firstPage" "I") := C.w (List.mem_cons_of_mem _ (List.mem_append_left _ (List.mem_of_getElem? (i := 0) rfl)))
  show Z E K 0 0 (wF E a F) 0 [(0, .ref (a 0))] []
  refine z_aload_n C 0 rfl rfl dX1_firstPage_0 ?_
  refine z_get C (Cn := RX1) (T := TX1) (Nf := 4) (ci := 1) in1 0 1 l15 (v := .int (fFp F)) rfl rfl (by decide) rfl dX1_firstPage_1 ?_
  exact ret _ _ _ _ (by first | rfl | (simp only [↓reduceIte]; done) | (simp only [↓reduceIte]; rfl) | (simp [↓reduceIte]; done)) rfl dX1_firstPage_4
abbrev rmX1_runEnd : Room := { frames := 0, cells := 0, slots := 0, locals := 0 }
theorem hyX1_runEnd : yX1_runEnd.cls = RX1 ∧ yX1_runEnd.cls ≠ "java/lang/invoke/MethodHandle" ∧ yX1_runEnd.cls ≠ "java/lang/invoke/VarHandle" ∧ (parseMethodDescriptor yX1_runEnd.desc).map (fun d => d.parameters.length) = some 0 := by decide +kernel
set_option maxHeartbeats 4000000 in
set_option maxRecDepth 100000 in
theorem c_X1_runEnd (E : GE) (a : Nat → Nat) (F : FS) : zI E yX1_runEnd wsX1_runEnd rmX1_runEnd [.ref (a 0)] (wF E a F) (fRe F) (wF E a F) := by
  refine zI_of (cc := cX1_runEnd) (maxL := 1) (ty := .int) (by decide) rfl (vp_nar_int _) (Nat.le_of_ble_eq_true rfl) ?_
  intro K C ret
  replace C : zC E K cX1_runEnd wsX1_runEnd RX1 rmX1_runEnd 1 := C
  have in1 : ∀ w ∈ wsX10, w ∈ wsX1_runEnd := fun w h => List.mem_cons_of_mem _ (List.mem_append_right _ (h))
  have l19 : zw K (.fieldLink RX1 19 "StoreLog3$Finder" "runEnd" "I") := C.w (List.mem_cons_of_mem _ (List.mem_append_left _ (List.mem_of_getElem? (i := 0) rfl)))
  show Z E K 0 0 (wF E a F) 0 [(0, .ref (a 0))] []
  refine z_aload_n C 0 rfl rfl dX1_runEnd_0 ?_
  refine z_get C (Cn := RX1) (T := TX1) (Nf := 4) (ci := 1) in1 0 3 l19 (v := .int (fRe F)) rfl rfl (by decide) rfl dX1_runEnd_1 ?_
  exact ret _ _ _ _ (by first | rfl | (simp only [↓reduceIte]; done) | (simp only [↓reduceIte]; rfl) | (simp [↓reduceIte]; done)) rfl dX1_runEnd_4
abbrev rmX1_isTelling : Room := { frames := 0, cells := 0, slots := 0, locals := 0 }
theorem hyX1_isTelling : yX1_isTelling.cls = RX1 ∧ yX1_isTelling.cls ≠ "java/lang/invoke/MethodHandle" ∧ yX1_isTelling.cls ≠ "java/lang/invoke/VarHandle" ∧ (parseMethodDescriptor yX1_isTelling.desc).map (fun d => d.parameters.length) = some 1 := by decide +kernel
set_option maxHeartbeats 4000000 in
set_option maxRecDepth 100000 in
theorem c_X1_isTelling (E : GE) (a : Nat → Nat) (F : FS) (s : Int32) : zI E yX1_isTelling wsX1_isTelling rmX1_isTelling [.ref (a 0), .int s] (wF E a F) (fIs F s) (wF E a F) := by
  refine zI_of (cc := cX1_isTelling) (maxL := 2) (ty := .boolean) (by decide) rfl (by unfold fIs; (repeat' split) <;> rfl) (Nat.le_of_ble_eq_true rfl) ?_
  intro K C ret
  replace C : zC E K cX1_isTelling wsX1_isTelling RX1 rmX1_isTelling 2 := C
  have in1 : ∀ w ∈ wsX10, w ∈ wsX1_isTelling := fun w h => List.mem_cons_of_mem _ (List.mem_append_right _ (h))
  have l9 : zw K (.fieldLink RX1 9 "StoreLog3$Finder" "tells" "[Z") := C.w (List.mem_cons_of_mem _ (List.mem_append_left _ (List.mem_of_getElem? (i := 0) rfl)))
  show Z E K 0 0 (wF E a F) 0 [(0, .ref (a 0)), (1, .int s)] []
  refine z_iload_n C 1 rfl rfl dX1_isTelling_0 ?_
  refine z_if_lt C (tgt := 26) dX1_isTelling_1 (by decide) (fun h1_1 => ?_) (fun h1_1 => ?_)
  · refine z_iconst C (v := 0) (by decide) dX1_isTelling_26 ?_
    exact ret _ _ _ _ (by first | rfl | (simp only [fIs, h1_1, ↓reduceIte]; done) | (simp only [fIs, h1_1, ↓reduceIte]; rfl) | (simp [fIs, h1_1, ↓reduceIte]; done)) rfl dX1_isTelling_27
  · refine z_iload_n C 1 rfl rfl dX1_isTelling_4 ?_
    refine z_aload_n C 0 rfl rfl dX1_isTelling_5 ?_
    refine z_get C (Cn := RX1) (T := TX1) (Nf := 4) (ci := 1) in1 0 0 l9 (v := .ref (a 1)) rfl rfl (by decide) rfl dX1_isTelling_6 ?_
    refine z_zalen C 1 rfl (v := 64) rfl dX1_isTelling_9 ?_
    refine z_icmp_ge C (tgt := 26) dX1_isTelling_10 (by decide) (fun h10_2 => ?_) (fun h10_2 => ?_)
    · refine z_iconst C (v := 0) (by decide) dX1_isTelling_26 ?_
      exact ret _ _ _ _ (by first | rfl | (simp only [fIs, h1_1, h10_2, ↓reduceIte]; done) | (simp only [fIs, h1_1, h10_2, ↓reduceIte]; rfl) | (simp [fIs, h1_1, h10_2, ↓reduceIte]; done)) rfl dX1_isTelling_27
    · refine z_aload_n C 0 rfl rfl dX1_isTelling_13 ?_
      refine z_get C (Cn := RX1) (T := TX1) (Nf := 4) (ci := 1) in1 0 0 l9 (v := .ref (a 1)) rfl rfl (by decide) rfl dX1_isTelling_14 ?_
      refine z_iload_n C 1 rfl rfl dX1_isTelling_17 ?_
      refine z_zald C 1 rfl (zin64 h1_1 h10_2) (v := ((fTe F) s.toNatClampNeg)) rfl dX1_isTelling_18 ?_
      refine z_if_eq C (tgt := 26) dX1_isTelling_19 (by decide) (fun h19_3 => ?_) (fun h19_3 => ?_)
      · refine z_iconst C (v := 0) (by decide) dX1_isTelling_26 ?_
        exact ret _ _ _ _ (by first | rfl | (simp only [fIs, h1_1, h10_2, h19_3, ↓reduceIte]; done) | (simp only [fIs, h1_1, h10_2, h19_3, ↓reduceIte]; rfl) | (simp [fIs, h1_1, h10_2, h19_3, ↓reduceIte]; done)) rfl dX1_isTelling_27
      · refine z_iconst C (v := 1) (by decide) dX1_isTelling_22 ?_
        refine z_goto C (tgt := 27) dX1_isTelling_23 (by decide) ?_
        exact ret _ _ _ _ (by first | rfl | (simp only [fIs, h1_1, h10_2, h19_3, ↓reduceIte]; done) | (simp only [fIs, h1_1, h10_2, h19_3, ↓reduceIte]; rfl) | (simp [fIs, h1_1, h10_2, h19_3, ↓reduceIte]; done)) rfl dX1_isTelling_27
abbrev rmX1_isLater : Room := { frames := 0, cells := 0, slots := 0, locals := 0 }
theorem hyX1_isLater : yX1_isLater.cls = RX1 ∧ yX1_isLater.cls ≠ "java/lang/invoke/MethodHandle" ∧ yX1_isLater.cls ≠ "java/lang/invoke/VarHandle" ∧ (parseMethodDescriptor yX1_isLater.desc).map (fun d => d.parameters.length) = some 2 := by decide +kernel
set_option maxHeartbeats 4000000 in
set_option maxRecDepth 100000 in
theorem c_X1_isLater (E : GE) (u v : Int32) : zI E yX1_isLater wsX1_isLater rmX1_isLater [.int u, .int v] [] (isLt u v) [] := by
  refine zI_of (cc := cX1_isLater) (maxL := 2) (ty := .boolean) (by decide) rfl (by unfold isLt; (repeat' split) <;> rfl) (Nat.le_of_ble_eq_true rfl) ?_
  intro K C ret
  replace C : zC E K cX1_isLater wsX1_isLater RX1 rmX1_isLater 2 := C
  have l75 : zw K (.constantLong RX1 75 (4294967295)) := C.w (List.mem_cons_of_mem _ (List.mem_of_getElem? (i := 0) rfl))
  show Z E K 0 0 [] 0 [(0, .int u), (1, .int v)] []
  refine z_iload_n C 0 rfl rfl dX1_isLater_0 ?_
  refine z_i2l C (v := (Int32.toInt64 u)) rfl dX1_isLater_1 ?_
  refine z_ldc2 C l75 dX1_isLater_2 ?_
  refine z_land C dX1_isLater_5 ?_
  refine z_iload_n C 1 rfl rfl dX1_isLater_6 ?_
  refine z_i2l C (v := (Int32.toInt64 v)) rfl dX1_isLater_7 ?_
  refine z_ldc2 C l75 dX1_isLater_8 ?_
  refine z_land C dX1_isLater_11 ?_
  refine z_lcmp C dX1_isLater_12 ?_
  refine z_if_le C (tgt := 20) dX1_isLater_13 (by decide) (fun h13_1 => ?_) (fun h13_1 => ?_)
  · refine z_iconst C (v := 0) (by decide) dX1_isLater_20 ?_
    exact ret _ _ _ _ (by first | rfl | (simp only [isLt, h13_1, ↓reduceIte]; done) | (simp only [isLt, h13_1, ↓reduceIte]; rfl) | (simp [isLt, h13_1, ↓reduceIte]; done)) rfl dX1_isLater_21
  · refine z_iconst C (v := 1) (by decide) dX1_isLater_16 ?_
    refine z_goto C (tgt := 21) dX1_isLater_17 (by decide) ?_
    exact ret _ _ _ _ (by first | rfl | (simp only [isLt, h13_1, ↓reduceIte]; done) | (simp only [isLt, h13_1, ↓reduceIte]; rfl) | (simp [isLt, h13_1, ↓reduceIte]; done)) rfl dX1_isLater_21
abbrev rmX1_isLog : Room := { frames := 1, cells := 0, slots := 0, locals := 22 }
theorem hyX1_isLog : yX1_isLog.cls = RX1 ∧ yX1_isLog.cls ≠ "java/lang/invoke/MethodHandle" ∧ yX1_isLog.cls ≠ "java/lang/invoke/VarHandle" ∧ (parseMethodDescriptor yX1_isLog.desc).map (fun d => d.parameters.length) = some 2 := by decide +kernel
set_option maxHeartbeats 4000000 in
set_option maxRecDepth 100000 in
theorem c_X1_isLog (E : GE) (N : Nat) (hN : 16 ≤ N ∧ N ≤ 64) (b1 b2 : Nat) (f : Nat → Int32) (s : Int32) : zI E yX1_isLog wsX1_isLog rmX1_isLog [.ref b1, .int s] (wS E b1 b2 N f) (isLg N f s) (wS E b1 b2 N f) := by
  refine zI_of (cc := cX1_isLog) (maxL := 5) (ty := .boolean) (by decide) rfl (isLg_nb N f s) (Nat.le_of_ble_eq_true rfl) ?_
  intro K C ret
  replace C : zC E K cX1_isLog wsX1_isLog RX1 rmX1_isLog 5 := C
  show Z E K 0 0 (wS E b1 b2 N f) 0 [(0, .ref b1), (1, .int s)] []
  refine z_aload_n C 0 rfl rfl dX1_isLog_0 ?_
  refine z_iload_n C 1 rfl rfl dX1_isLog_1 ?_
  refine z_iconst C (v := 5) (by decide) dX1_isLog_2 ?_
  refine z_rVI C (c_X3_byteOf E N hN b1 b2 f s 5) gX1_isLog_X3_byteOf (ci := 3) (q0 := 0) rfl rfl hyX3_byteOf rfl ⟨rfl, rfl⟩ ⟨by decide, by decide⟩ ⟨by decide, by decide⟩ [0, 1] rfl (by decide) (st := []) (Nat.le_of_ble_eq_true rfl) dX1_isLog_3 ?_ rfl
  refine z_istore_n C (lv' := [(2, .int (bOf N f s 5)), (0, .ref b1), (1, .int s)]) rfl rfl (by decide) dX1_isLog_6 ?_
  refine z_aload_n C 1 rfl rfl dX1_isLog_7 ?_
  refine z_iload_n C 2 rfl rfl dX1_isLog_8 ?_
  refine z_iconst C (v := 0) (by decide) dX1_isLog_9 ?_
  refine z_rVI C (c_X3_byteOf E N hN b1 b2 f s 0) gX1_isLog_X3_byteOf (ci := 3) (q0 := 0) rfl rfl hyX3_byteOf rfl ⟨rfl, rfl⟩ ⟨by decide, by decide⟩ ⟨by decide, by decide⟩ [0, 1] rfl (by decide) (st := []) (Nat.le_of_ble_eq_true rfl) dX1_isLog_10 ?_ rfl
  refine z_iconst C (v := 1) (by decide) dX1_isLog_13 ?_
  refine z_icmp_ne C (tgt := 27) dX1_isLog_14 (by decide) (fun h14_1 => ?_) (fun h14_1 => ?_)
  · refine z_iconst C (v := 0) (by decide) dX1_isLog_27 ?_
    exact ret _ _ _ _ (by first | rfl | (simp only [isLg, h14_1, ↓reduceIte]; done) | (simp only [isLg, h14_1, ↓reduceIte]; rfl) | (simp [isLg, h14_1, ↓reduceIte]; done)) rfl dX1_isLog_28
  · refine z_iload_n C 0 rfl rfl dX1_isLog_17 ?_
    refine z_iconst C (v := 1) (by decide) dX1_isLog_18 ?_
    refine z_icmp_lt C (tgt := 27) dX1_isLog_19 (by decide) (fun h19_2 => ?_) (fun h19_2 => ?_)
    · refine z_iconst C (v := 0) (by decide) dX1_isLog_27 ?_
      exact ret _ _ _ _ (by first | rfl | (simp only [isLg, h14_1, h19_2, ↓reduceIte]; done) | (simp only [isLg, h14_1, h19_2, ↓reduceIte]; rfl) | (simp [isLg, h14_1, h19_2, ↓reduceIte]; done)) rfl dX1_isLog_28
    · refine z_iload_n C 0 rfl rfl dX1_isLog_22 ?_
      refine z_iconst C (v := 4) (by decide) dX1_isLog_23 ?_
      refine z_icmp_le C (tgt := 29) dX1_isLog_24 (by decide) (fun h24_3 => ?_) (fun h24_3 => ?_)
      · refine z_iconst C (v := 0) (by decide) dX1_isLog_29 ?_
        refine z_istore_n C (lv' := [(3, .int 0), (2, .int (bOf N f s 5)), (0, .ref b1), (1, .int s)]) rfl rfl (by decide) dX1_isLog_30 ?_
        have loop31 : ∀ (n j : Nat), j + n = (bOf N f s 5).toNatClampNeg → ilL N f s n j = ilL N f s (bOf N f s 5).toNatClampNeg 0 → Z E K 0 0 (wS E b1 b2 N f) 31 [(0, .ref b1), (1, .int s), (2, .int (bOf N f s 5)), (3, .int (nI j))] [] := by
          intro n
          induction n with
          | zero => 
            intro j hj hT
            have hjB : j = (bOf N f s 5).toNatClampNeg := by omega
            subst hjB
            refine z_iload_n C 3 rfl rfl dX1_isLog_31 ?_
            refine z_iload_n C 2 rfl rfl dX1_isLog_32 ?_
            refine z_icmp_ge C (tgt := 82) dX1_isLog_33 (by decide) (fun h33_4 => ?_) (fun h33_4 => absurd zclY h33_4)
            refine z_iconst C (v := 1) (by decide) dX1_isLog_82 ?_
            exact ret _ _ _ _ (by simp only [isLg, h14_1, h19_2, h24_3, ↓reduceIte]; rw [← hT]; first | rfl | (simp only [ilL, h33_4, ↓reduceIte]; done)) rfl dX1_isLog_83
          | succ n ih31 => 
            intro j hj hT
            refine z_iload_n C 3 rfl rfl dX1_isLog_31 ?_
            refine z_iload_n C 2 rfl rfl dX1_isLog_32 ?_
            refine z_icmp_ge C (tgt := 82) dX1_isLog_33 (by decide) (fun h33_5 => absurd h33_5 (zclN hj)) (fun h33_5 => ?_)
            refine z_bipush C (v := 6) (by decide) dX1_isLog_36 ?_
            refine z_iload_n C 3 rfl rfl dX1_isLog_38 ?_
            refine z_iconst C (v := 5) (by decide) dX1_isLog_39 ?_
            refine z_imul C dX1_isLog_40 ?_
            refine z_iadd C dX1_isLog_41 ?_
            refine z_istore C (lv' := [(4, .int (6 + ((nI j) * 5))), (0, .ref b1), (1, .int s), (2, .int (bOf N f s 5)), (3, .int (nI j))]) rfl (by decide) dX1_isLog_42 ?_
            refine z_aload_n C 1 rfl rfl dX1_isLog_44 ?_
            refine z_iload_n C 2 rfl rfl dX1_isLog_45 ?_
            refine z_iload C 0 rfl dX1_isLog_46 ?_
            refine z_rVI C (c_X3_byteOf E N hN b1 b2 f s (6 + ((nI j) * 5))) gX1_isLog_X3_byteOf (ci := 3) (q0 := 0) rfl rfl hyX3_byteOf rfl ⟨rfl, rfl⟩ ⟨by decide, by decide⟩ ⟨by decide, by decide⟩ [0, 1] rfl (by decide) (st := []) (Nat.le_of_ble_eq_true rfl) dX1_isLog_48 ?_ rfl
            refine z_iconst C (v := 2) (by decide) dX1_isLog_51 ?_
            refine z_ishr C dX1_isLog_52 ?_
            refine z_rNI C (c_X4_isTransaction E ((bOf N f s (6 + ((nI j) * 5))) >>> (2 &&& 31))) gX1_isLog_X4_isTransaction_n77 (fun _ h => h.2.2.2.2.1) (C.w (List.mem_cons_of_mem _ (List.mem_append_left _ (List.mem_of_getElem? (i := 8) rfl)))) (C.w (List.mem_cons_of_mem _ (List.mem_append_left _ (List.mem_of_getElem? (i := 7) rfl)))) hyX4_isTransaction.2 rfl ⟨rfl, rfl⟩ ⟨by decide, by decide⟩ ⟨by decide, by decide⟩ [] rfl (by decide) (st := []) (Nat.le_of_ble_eq_true rfl) dX1_isLog_53 ?_ rfl
            refine z_if_eq C (tgt := 74) dX1_isLog_56 (by decide) (fun h56_6 => ?_) (fun h56_6 => ?_)
            · refine z_iconst C (v := 0) (by decide) dX1_isLog_74 ?_
              exact ret _ _ _ _ (by simp only [isLg, h14_1, h19_2, h24_3, ↓reduceIte]; rw [← hT]; first | rfl | (simp only [ilL, h33_5, h56_6, ↓reduceIte]; done)) rfl dX1_isLog_75
            · refine z_aload_n C 1 rfl rfl dX1_isLog_59 ?_
              refine z_iload_n C 2 rfl rfl dX1_isLog_60 ?_
              refine z_iload C 0 rfl dX1_isLog_61 ?_
              refine z_iconst C (v := 1) (by decide) dX1_isLog_63 ?_
              refine z_iadd C dX1_isLog_64 ?_
              refine z_rVI C (c_X3_byteOf E N hN b1 b2 f s ((6 + ((nI j) * 5)) + 1)) gX1_isLog_X3_byteOf (ci := 3) (q0 := 0) rfl rfl hyX3_byteOf rfl ⟨rfl, rfl⟩ ⟨by decide, by decide⟩ ⟨by decide, by decide⟩ [0, 1] rfl (by decide) (st := []) (Nat.le_of_ble_eq_true rfl) dX1_isLog_65 ?_ rfl
              refine z_rNI C (c_X4_isKey E (bOf N f s ((6 + ((nI j) * 5)) + 1))) gX1_isLog_X4_isKey_n80 (fun _ h => h.2.2.2.2.2) (C.w (List.mem_cons_of_mem _ (List.mem_append_left _ (List.mem_of_getElem? (i := 8) rfl)))) (C.w (List.mem_cons_of_mem _ (List.mem_append_left _ (List.mem_of_getElem? (i := 10) rfl)))) hyX4_isKey.2 rfl ⟨rfl, rfl⟩ ⟨by decide, by decide⟩ ⟨by decide, by decide⟩ [] rfl (by decide) (st := []) (Nat.le_of_ble_eq_true rfl) dX1_isLog_68 ?_ rfl
              refine z_if_ne C (tgt := 76) dX1_isLog_71 (by decide) (fun h71_7 => ?_) (fun h71_7 => ?_)
              · refine z_iinc C 4 rfl (v := (nI (j + 1))) (zinc _) (lv' := [(3, .int (nI (j + 1))), (4, .int (6 + ((nI j) * 5))), (0, .ref b1), (1, .int s), (2, .int (bOf N f s 5))]) rfl (by decide) dX1_isLog_76 ?_
                refine z_goto C (tgt := 31) dX1_isLog_79 (by decide) ?_
                refine z_lv (lv' := [(0, .ref b1), (1, .int s), (2, .int (bOf N f s 5)), (3, .int (nI (j + 1)))]) [2, 3, 4, 0] rfl ?_
                exact ih31 (j + 1) (by omega) (by rw [← hT]; simp only [ilL, h14_1, h19_2, h24_3, h33_5, h56_6, h71_7, ↓reduceIte])
              · refine z_iconst C (v := 0) (by decide) dX1_isLog_74 ?_
                exact ret _ _ _ _ (by simp only [isLg, h14_1, h19_2, h24_3, ↓reduceIte]; rw [← hT]; first | rfl | (simp only [ilL, h33_5, h56_6, h71_7, ↓reduceIte]; done)) rfl dX1_isLog_75
        refine z_lv (lv' := [(0, .ref b1), (1, .int s), (2, .int (bOf N f s 5)), (3, .int 0)]) [2, 3, 1, 0] rfl ?_
        exact loop31 (bOf N f s 5).toNatClampNeg 0  (by omega) rfl
      · refine z_iconst C (v := 0) (by decide) dX1_isLog_27 ?_
        exact ret _ _ _ _ (by first | rfl | (simp only [isLg, h14_1, h19_2, h24_3, ↓reduceIte]; done) | (simp only [isLg, h14_1, h19_2, h24_3, ↓reduceIte]; rfl) | (simp [isLg, h14_1, h19_2, h24_3, ↓reduceIte]; done)) rfl dX1_isLog_28
abbrev rmX1_isPage : Room := { frames := 1, cells := 0, slots := 0, locals := 22 }
theorem hyX1_isPage : yX1_isPage.cls = RX1 ∧ yX1_isPage.cls ≠ "java/lang/invoke/MethodHandle" ∧ yX1_isPage.cls ≠ "java/lang/invoke/VarHandle" ∧ (parseMethodDescriptor yX1_isPage.desc).map (fun d => d.parameters.length) = some 2 := by decide +kernel
set_option maxHeartbeats 4000000 in
set_option maxRecDepth 100000 in
theorem c_X1_isPage (E : GE) (N : Nat) (hN : 16 ≤ N ∧ N ≤ 64) (b1 b2 : Nat) (f : Nat → Int32) (s : Int32) : zI E yX1_isPage wsX1_isPage rmX1_isPage [.ref b1, .int s] (wS E b1 b2 N f) (isPg N f s) (wS E b1 b2 N f) := by
  refine zI_of (cc := cX1_isPage) (maxL := 4) (ty := .boolean) (by decide) rfl (isPg_nb N f s) (Nat.le_of_ble_eq_true rfl) ?_
  intro K C ret
  replace C : zC E K cX1_isPage wsX1_isPage RX1 rmX1_isPage 4 := C
  show Z E K 0 0 (wS E b1 b2 N f) 0 [(0, .ref b1), (1, .int s)] []
  refine z_aload_n C 0 rfl rfl dX1_isPage_0 ?_
  refine z_iload_n C 1 rfl rfl dX1_isPage_1 ?_
  refine z_iconst C (v := 5) (by decide) dX1_isPage_2 ?_
  refine z_rVI C (c_X3_byteOf E N hN b1 b2 f s 5) gX1_isPage_X3_byteOf (ci := 3) (q0 := 0) rfl rfl hyX3_byteOf rfl ⟨rfl, rfl⟩ ⟨by decide, by decide⟩ ⟨by decide, by decide⟩ [0, 1] rfl (by decide) (st := []) (Nat.le_of_ble_eq_true rfl) dX1_isPage_3 ?_ rfl
  refine z_istore_n C (lv' := [(2, .int (bOf N f s 5)), (0, .ref b1), (1, .int s)]) rfl rfl (by decide) dX1_isPage_6 ?_
  refine z_aload_n C 1 rfl rfl dX1_isPage_7 ?_
  refine z_iload_n C 2 rfl rfl dX1_isPage_8 ?_
  refine z_iconst C (v := 0) (by decide) dX1_isPage_9 ?_
  refine z_rVI C (c_X3_byteOf E N hN b1 b2 f s 0) gX1_isPage_X3_byteOf (ci := 3) (q0 := 0) rfl rfl hyX3_byteOf rfl ⟨rfl, rfl⟩ ⟨by decide, by decide⟩ ⟨by decide, by decide⟩ [0, 1] rfl (by decide) (st := []) (Nat.le_of_ble_eq_true rfl) dX1_isPage_10 ?_ rfl
  refine z_iconst C (v := 2) (by decide) dX1_isPage_13 ?_
  refine z_icmp_ne C (tgt := 22) dX1_isPage_14 (by decide) (fun h14_1 => ?_) (fun h14_1 => ?_)
  · refine z_iconst C (v := 0) (by decide) dX1_isPage_22 ?_
    exact ret _ _ _ _ (by first | rfl | (simp only [isPg, h14_1, ↓reduceIte]; done) | (simp only [isPg, h14_1, ↓reduceIte]; rfl) | (simp [isPg, h14_1, ↓reduceIte]; done)) rfl dX1_isPage_23
  · refine z_iload_n C 0 rfl rfl dX1_isPage_17 ?_
    refine z_iconst C (v := 5) (by decide) dX1_isPage_18 ?_
    refine z_icmp_le C (tgt := 24) dX1_isPage_19 (by decide) (fun h19_2 => ?_) (fun h19_2 => ?_)
    · refine z_iconst C (v := 0) (by decide) dX1_isPage_24 ?_
      refine z_istore_n C (lv' := [(3, .int 0), (2, .int (bOf N f s 5)), (0, .ref b1), (1, .int s)]) rfl rfl (by decide) dX1_isPage_25 ?_
      have loop26 : ∀ (n j : Nat), j + n = (bOf N f s 5).toNatClampNeg → ipL N f s n j = ipL N f s (bOf N f s 5).toNatClampNeg 0 → Z E K 0 0 (wS E b1 b2 N f) 26 [(0, .ref b1), (1, .int s), (2, .int (bOf N f s 5)), (3, .int (nI j))] [] := by
        intro n
        induction n with
        | zero => 
          intro j hj hT
          have hjB : j = (bOf N f s 5).toNatClampNeg := by omega
          subst hjB
          refine z_iload_n C 3 rfl rfl dX1_isPage_26 ?_
          refine z_iload_n C 2 rfl rfl dX1_isPage_27 ?_
          refine z_icmp_ge C (tgt := 56) dX1_isPage_28 (by decide) (fun h28_3 => ?_) (fun h28_3 => absurd zclY h28_3)
          refine z_aload_n C 0 rfl rfl dX1_isPage_56 ?_
          refine z_iload_n C 1 rfl rfl dX1_isPage_57 ?_
          refine z_bipush C (v := 26) (by decide) dX1_isPage_58 ?_
          refine z_rVI C (c_X3_byteOf E N hN b1 b2 f s 26) gX1_isPage_X3_byteOf (ci := 3) (q0 := 0) rfl rfl hyX3_byteOf rfl ⟨rfl, rfl⟩ ⟨by decide, by decide⟩ ⟨by decide, by decide⟩ [0, 1] rfl (by decide) (st := []) (Nat.le_of_ble_eq_true rfl) dX1_isPage_60 ?_ rfl
          refine z_aload_n C 0 rfl rfl dX1_isPage_63 ?_
          refine z_iload_n C 1 rfl rfl dX1_isPage_64 ?_
          refine z_bipush C (v := 27) (by decide) dX1_isPage_65 ?_
          refine z_rVI C (c_X3_byteOf E N hN b1 b2 f s 27) gX1_isPage_X3_byteOf (ci := 3) (q0 := 0) rfl rfl hyX3_byteOf rfl ⟨rfl, rfl⟩ ⟨by decide, by decide⟩ ⟨by decide, by decide⟩ [0, 1] rfl (by decide) (st := [.int (bOf N f s 26)]) (Nat.le_of_ble_eq_true rfl) dX1_isPage_67 ?_ rfl
          refine z_icmp_ge C (tgt := 77) dX1_isPage_70 (by decide) (fun h70_4 => ?_) (fun h70_4 => ?_)
          · refine z_iconst C (v := 0) (by decide) dX1_isPage_77 ?_
            exact ret _ _ _ _ (by simp only [isPg, h14_1, h19_2, ↓reduceIte]; rw [← hT]; first | rfl | (simp only [ipL, h28_3, h70_4, ↓reduceIte]; done)) rfl dX1_isPage_78
          · refine z_iconst C (v := 1) (by decide) dX1_isPage_73 ?_
            refine z_goto C (tgt := 78) dX1_isPage_74 (by decide) ?_
            exact ret _ _ _ _ (by simp only [isPg, h14_1, h19_2, ↓reduceIte]; rw [← hT]; first | rfl | (simp only [ipL, h28_3, h70_4, ↓reduceIte]; done)) rfl dX1_isPage_78
        | succ n ih26 => 
          intro j hj hT
          refine z_iload_n C 3 rfl rfl dX1_isPage_26 ?_
          refine z_iload_n C 2 rfl rfl dX1_isPage_27 ?_
          refine z_icmp_ge C (tgt := 56) dX1_isPage_28 (by decide) (fun h28_5 => absurd h28_5 (zclN hj)) (fun h28_5 => ?_)
          refine z_aload_n C 0 rfl rfl dX1_isPage_31 ?_
          refine z_iload_n C 1 rfl rfl dX1_isPage_32 ?_
          refine z_bipush C (v := 6) (by decide) dX1_isPage_33 ?_
          refine z_iload_n C 3 rfl rfl dX1_isPage_35 ?_
          refine z_iconst C (v := 4) (by decide) dX1_isPage_36 ?_
          refine z_imul C dX1_isPage_37 ?_
          refine z_iadd C dX1_isPage_38 ?_
          refine z_rVI C (c_X3_byteOf E N hN b1 b2 f s (6 + ((nI j) * 4))) gX1_isPage_X3_byteOf (ci := 3) (q0 := 0) rfl rfl hyX3_byteOf rfl ⟨rfl, rfl⟩ ⟨by decide, by decide⟩ ⟨by decide, by decide⟩ [0, 1] rfl (by decide) (st := []) (Nat.le_of_ble_eq_true rfl) dX1_isPage_39 ?_ rfl
          refine z_rNI C (c_X4_isKey E (bOf N f s (6 + ((nI j) * 4)))) gX1_isPage_X4_isKey_n80 (fun _ h => h.2.2.2.2.2) (C.w (List.mem_cons_of_mem _ (List.mem_append_left _ (List.mem_of_getElem? (i := 8) rfl)))) (C.w (List.mem_cons_of_mem _ (List.mem_append_left _ (List.mem_of_getElem? (i := 7) rfl)))) hyX4_isKey.2 rfl ⟨rfl, rfl⟩ ⟨by decide, by decide⟩ ⟨by decide, by decide⟩ [] rfl (by decide) (st := []) (Nat.le_of_ble_eq_true rfl) dX1_isPage_42 ?_ rfl
          refine z_if_ne C (tgt := 50) dX1_isPage_45 (by decide) (fun h45_6 => ?_) (fun h45_6 => ?_)
          · refine z_iinc C 3 rfl (v := (nI (j + 1))) (zinc _) (lv' := [(3, .int (nI (j + 1))), (0, .ref b1), (1, .int s), (2, .int (bOf N f s 5))]) rfl (by decide) dX1_isPage_50 ?_
            refine z_goto C (tgt := 26) dX1_isPage_53 (by decide) ?_
            refine z_lv (lv' := [(0, .ref b1), (1, .int s), (2, .int (bOf N f s 5)), (3, .int (nI (j + 1)))]) [1, 2, 3, 0] rfl ?_
            exact ih26 (j + 1) (by omega) (by rw [← hT]; simp only [ipL, h14_1, h19_2, h28_5, h45_6, ↓reduceIte])
          · refine z_iconst C (v := 0) (by decide) dX1_isPage_48 ?_
            exact ret _ _ _ _ (by simp only [isPg, h14_1, h19_2, ↓reduceIte]; rw [← hT]; first | rfl | (simp only [ipL, h28_5, h45_6, ↓reduceIte]; done)) rfl dX1_isPage_49
      refine z_lv (lv' := [(0, .ref b1), (1, .int s), (2, .int (bOf N f s 5)), (3, .int 0)]) [2, 3, 1, 0] rfl ?_
      exact loop26 (bOf N f s 5).toNatClampNeg 0  (by omega) rfl
    · refine z_iconst C (v := 0) (by decide) dX1_isPage_22 ?_
      exact ret _ _ _ _ (by first | rfl | (simp only [isPg, h14_1, h19_2, ↓reduceIte]; done) | (simp only [isPg, h14_1, h19_2, ↓reduceIte]; rfl) | (simp [isPg, h14_1, h19_2, ↓reduceIte]; done)) rfl dX1_isPage_23
abbrev rmX1_readPage : Room := { frames := 2, cells := 0, slots := 0, locals := 47 }
theorem hyX1_readPage : yX1_readPage.cls = RX1 ∧ yX1_readPage.cls ≠ "java/lang/invoke/MethodHandle" ∧ yX1_readPage.cls ≠ "java/lang/invoke/VarHandle" ∧ (parseMethodDescriptor yX1_readPage.desc).map (fun d => d.parameters.length) = some 3 := by decide +kernel
set_option maxHeartbeats 4000000 in
set_option maxRecDepth 100000 in
theorem c_X1_readPage (E : GE) (N : Nat) (hN : 16 ≤ N ∧ N ≤ 64) (b1 b2 : Nat) (f : Nat → Int32) (a2 : Nat → Nat) (D : DS) (s : Int32) : zV E yX1_readPage wsX1_readPage rmX1_readPage [.ref b1, .int s, .ref (a2 0)] ((wS E b1 b2 N f) ++ (wD E a2 D)) ((wS E b1 b2 N f) ++ (wD E a2 (rPage N f s D))) := by
  refine zV_of (cc := cX1_readPage) (maxL := 6) (by decide) rfl (Nat.le_of_ble_eq_true rfl) ?_
  intro K C ret
  replace C : zC E K cX1_readPage wsX1_readPage RX1 rmX1_readPage 6 := C
  show Z E K 0 0 ((wS E b1 b2 N f) ++ (wD E a2 D)) 0 [(0, .ref b1), (1, .int s), (2, .ref (a2 0))] []
  refine z_aload_n C 0 rfl rfl dX1_readPage_0 ?_
  refine z_iload_n C 1 rfl rfl dX1_readPage_1 ?_
  refine z_iconst C (v := 5) (by decide) dX1_readPage_2 ?_
  refine z_rVI C (c_X3_byteOf E N hN b1 b2 f s 5) gX1_readPage_X3_byteOf (ci := 3) (q0 := 0) rfl rfl hyX3_byteOf rfl ⟨rfl, rfl⟩ ⟨by decide, by decide⟩ ⟨by decide, by decide⟩ [0, 1] rfl (by decide) (st := []) (Nat.le_of_ble_eq_true rfl) dX1_readPage_3 ?_ rfl
  refine z_istore_n C (lv' := [(3, .int (bOf N f s 5)), (0, .ref b1), (1, .int s), (2, .ref (a2 0))]) rfl rfl (by decide) dX1_readPage_6 ?_
  refine z_iconst C (v := 0) (by decide) dX1_readPage_7 ?_
  refine z_istore C (lv' := [(4, .int 0), (3, .int (bOf N f s 5)), (0, .ref b1), (1, .int s), (2, .ref (a2 0))]) rfl (by decide) dX1_readPage_8 ?_
  have loop10 : ∀ (n j : Nat) (D1 : DS), j + n = (bOf N f s 5).toNatClampNeg → rpL N f s n j D1 = rpL N f s (bOf N f s 5).toNatClampNeg 0 D → Z E K 0 0 ((wS E b1 b2 N f) ++ (wD E a2 D1)) 10 [(0, .ref b1), (1, .int s), (2, .ref (a2 0)), (3, .int (bOf N f s 5)), (4, .int (nI j))] [] := by
    intro n
    induction n with
    | zero => 
      intro j D1 hj hT
      have hjB : j = (bOf N f s 5).toNatClampNeg := by omega
      subst hjB
      refine z_iload C 4 rfl dX1_readPage_10 ?_
      refine z_iload_n C 3 rfl rfl dX1_readPage_12 ?_
      refine z_icmp_ge C (tgt := 52) dX1_readPage_13 (by decide) (fun h13_1 => ?_) (fun h13_1 => absurd zclY h13_1)
      exact ret _ _ _ (by unfold rPage; rw [← hT]; rfl) dX1_readPage_52
    | succ n ih10 => 
      intro j D1 hj hT
      refine z_iload C 4 rfl dX1_readPage_10 ?_
      refine z_iload_n C 3 rfl rfl dX1_readPage_12 ?_
      refine z_icmp_ge C (tgt := 52) dX1_readPage_13 (by decide) (fun h13_2 => absurd h13_2 (zclN hj)) (fun h13_2 => ?_)
      refine z_bipush C (v := 6) (by decide) dX1_readPage_16 ?_
      refine z_iload C 4 rfl dX1_readPage_18 ?_
      refine z_iconst C (v := 4) (by decide) dX1_readPage_20 ?_
      refine z_imul C dX1_readPage_21 ?_
      refine z_iadd C dX1_readPage_22 ?_
      refine z_istore C (lv' := [(5, .int (6 + ((nI j) * 4))), (0, .ref b1), (1, .int s), (2, .ref (a2 0)), (3, .int (bOf N f s 5)), (4, .int (nI j))]) rfl (by decide) dX1_readPage_23 ?_
      refine z_aload_n C 3 rfl rfl dX1_readPage_25 ?_
      refine z_aload_n C 1 rfl rfl dX1_readPage_26 ?_
      refine z_iload_n C 2 rfl rfl dX1_readPage_27 ?_
      refine z_iload C 0 rfl dX1_readPage_28 ?_
      refine z_rVI C (c_X3_byteOf E N hN b1 b2 f s (6 + ((nI j) * 4))) gX1_readPage_X3_byteOf (ci := 3) (q0 := 0) rfl rfl hyX3_byteOf rfl ⟨rfl, rfl⟩ ⟨by decide, by decide⟩ ⟨by decide, by decide⟩ [0, 1] rfl (by decide) (st := [.ref (a2 0)]) (Nat.le_of_ble_eq_true rfl) dX1_readPage_30 ?_ rfl
      refine z_aload_n C 1 rfl rfl dX1_readPage_33 ?_
      refine z_iload_n C 2 rfl rfl dX1_readPage_34 ?_
      refine z_iload C 0 rfl dX1_readPage_35 ?_
      refine z_iconst C (v := 1) (by decide) dX1_readPage_37 ?_
      refine z_iadd C dX1_readPage_38 ?_
      refine z_iconst C (v := 3) (by decide) dX1_readPage_39 ?_
      refine z_rVI C (c_X3_numberOf E N hN b1 b2 f s ((6 + ((nI j) * 4)) + 1) 3 (by decide)) gX1_readPage_X3_numberOf (ci := 3) (q0 := 0) rfl rfl hyX3_numberOf rfl ⟨rfl, rfl⟩ ⟨by decide, by decide⟩ ⟨by decide, by decide⟩ [0, 1] rfl (by decide) (st := [.int (bOf N f s (6 + ((nI j) * 4))), .ref (a2 0)]) (Nat.le_of_ble_eq_true rfl) dX1_readPage_40 ?_ rfl
      refine z_callVV C (c_X0_setCommitted E a2 D1 (bOf N f s (6 + ((nI j) * 4))) (nOf N f s ((6 + ((nI j) * 4)) + 1) 3)) gX1_readPage_X0_setCommitted (ci := 0) (q0 := 0) rfl rfl hyX0_setCommitted rfl ⟨rfl, rfl⟩ ⟨by decide, by decide⟩ ⟨by decide, by decide⟩ [2, 3, 4, 5] [0, 1] [0, 1, 2, 3, 4, 5] (wr := [(b1, .inr (3, [.int (nI N), .ref b2])), (b2, .inl (gB E, 32 * N, .inl f))]) (V' := ((wS E b1 b2 N f) ++ (wD E a2 (dSetC D1 (bOf N f s (6 + ((nI j) * 4))) (nOf N f s ((6 + ((nI j) * 4)) + 1) 3))))) rfl rfl (by decide) (by decide) (by decide) rfl (by decide) (st := []) (Nat.le_of_ble_eq_true rfl) dX1_readPage_43 ?_ rfl
      refine z_iinc C 5 rfl (v := (nI (j + 1))) (zinc _) (lv' := [(4, .int (nI (j + 1))), (5, .int (6 + ((nI j) * 4))), (0, .ref b1), (1, .int s), (2, .ref (a2 0)), (3, .int (bOf N f s 5))]) rfl (by decide) dX1_readPage_46 ?_
      refine z_goto C (tgt := 10) dX1_readPage_49 (by decide) ?_
      refine z_lv (lv' := [(0, .ref b1), (1, .int s), (2, .ref (a2 0)), (3, .int (bOf N f s 5)), (4, .int (nI (j + 1)))]) [2, 3, 4, 5, 0] rfl ?_
      exact ih10 (j + 1) _ (by omega) hT
  refine z_lv (lv' := [(0, .ref b1), (1, .int s), (2, .ref (a2 0)), (3, .int (bOf N f s 5)), (4, .int 0)]) [2, 3, 4, 1, 0] rfl ?_
  exact loop10 (bOf N f s 5).toNatClampNeg 0 D (by omega) rfl
abbrev rmX1_goOverLog : Room := { frames := 3, cells := 0, slots := 0, locals := 65 }
theorem hyX1_goOverLog : yX1_goOverLog.cls = RX1 ∧ yX1_goOverLog.cls ≠ "java/lang/invoke/MethodHandle" ∧ yX1_goOverLog.cls ≠ "java/lang/invoke/VarHandle" ∧ (parseMethodDescriptor yX1_goOverLog.desc).map (fun d => d.parameters.length) = some 3 := by decide +kernel
set_option maxHeartbeats 4000000 in
set_option maxRecDepth 100000 in
theorem c_X1_goOverLog (E : GE) (N : Nat) (hN : 16 ≤ N ∧ N ≤ 64) (b1 b2 : Nat) (f : Nat → Int32) (a2 : Nat → Nat) (D : DS) (s : Int32) : zV E yX1_goOverLog wsX1_goOverLog rmX1_goOverLog [.ref b1, .int s, .ref (a2 0)] ((wS E b1 b2 N f) ++ (wD E a2 D)) ((wS E b1 b2 N f) ++ (wD E a2 (gLog N f s D))) := by
  refine zV_of (cc := cX1_goOverLog) (maxL := 9) (by decide) rfl (Nat.le_of_ble_eq_true rfl) ?_
  intro K C ret
  replace C : zC E K cX1_goOverLog wsX1_goOverLog RX1 rmX1_goOverLog 9 := C
  show Z E K 0 0 ((wS E b1 b2 N f) ++ (wD E a2 D)) 0 [(0, .ref b1), (1, .int s), (2, .ref (a2 0))] []
  refine z_aload_n C 0 rfl rfl dX1_goOverLog_0 ?_
  refine z_iload_n C 1 rfl rfl dX1_goOverLog_1 ?_
  refine z_iconst C (v := 5) (by decide) dX1_goOverLog_2 ?_
  refine z_rVI C (c_X3_byteOf E N hN b1 b2 f s 5) gX1_goOverLog_X3_byteOf (ci := 3) (q0 := 0) rfl rfl hyX3_byteOf rfl ⟨rfl, rfl⟩ ⟨by decide, by decide⟩ ⟨by decide, by decide⟩ [0, 1] rfl (by decide) (st := []) (Nat.le_of_ble_eq_true rfl) dX1_goOverLog_3 ?_ rfl
  refine z_istore_n C (lv' := [(3, .int (bOf N f s 5)), (0, .ref b1), (1, .int s), (2, .ref (a2 0))]) rfl rfl (by decide) dX1_goOverLog_6 ?_
  refine z_iconst C (v := 0) (by decide) dX1_goOverLog_7 ?_
  refine z_istore C (lv' := [(4, .int 0), (3, .int (bOf N f s 5)), (0, .ref b1), (1, .int s), (2, .ref (a2 0))]) rfl (by decide) dX1_goOverLog_8 ?_
  have loop10 : ∀ (n j : Nat) (D1 : DS), j + n = (bOf N f s 5).toNatClampNeg → goL N f s n j D1 = goL N f s (bOf N f s 5).toNatClampNeg 0 D → Z E K 0 0 ((wS E b1 b2 N f) ++ (wD E a2 D1)) 10 [(0, .ref b1), (1, .int s), (2, .ref (a2 0)), (3, .int (bOf N f s 5)), (4, .int (nI j))] [] := by
    intro n
    induction n with
    | zero => 
      intro j D1 hj hT
      have hjB : j = (bOf N f s 5).toNatClampNeg := by omega
      subst hjB
      refine z_iload C 4 rfl dX1_goOverLog_10 ?_
      refine z_iload_n C 3 rfl rfl dX1_goOverLog_12 ?_
      refine z_icmp_ge C (tgt := 126) dX1_goOverLog_13 (by decide) (fun h13_1 => ?_) (fun h13_1 => absurd zclY h13_1)
      exact ret _ _ _ (by unfold gLog; rw [← hT]; rfl) dX1_goOverLog_126
    | succ n ih10 => 
      intro j D1 hj hT
      refine z_iload C 4 rfl dX1_goOverLog_10 ?_
      refine z_iload_n C 3 rfl rfl dX1_goOverLog_12 ?_
      refine z_icmp_ge C (tgt := 126) dX1_goOverLog_13 (by decide) (fun h13_2 => absurd h13_2 (zclN hj)) (fun h13_2 => ?_)
      refine z_bipush C (v := 6) (by decide) dX1_goOverLog_16 ?_
      refine z_iload C 4 rfl dX1_goOverLog_18 ?_
      refine z_iconst C (v := 5) (by decide) dX1_goOverLog_20 ?_
      refine z_imul C dX1_goOverLog_21 ?_
      refine z_iadd C dX1_goOverLog_22 ?_
      refine z_istore C (lv' := [(5, .int (6 + ((nI j) * 5))), (0, .ref b1), (1, .int s), (2, .ref (a2 0)), (3, .int (bOf N f s 5)), (4, .int (nI j))]) rfl (by decide) dX1_goOverLog_23 ?_
      refine z_aload_n C 1 rfl rfl dX1_goOverLog_25 ?_
      refine z_iload_n C 2 rfl rfl dX1_goOverLog_26 ?_
      refine z_iload C 0 rfl dX1_goOverLog_27 ?_
      refine z_rVI C (c_X3_byteOf E N hN b1 b2 f s (6 + ((nI j) * 5))) gX1_goOverLog_X3_byteOf (ci := 3) (q0 := 0) rfl rfl hyX3_byteOf rfl ⟨rfl, rfl⟩ ⟨by decide, by decide⟩ ⟨by decide, by decide⟩ [0, 1] rfl (by decide) (st := []) (Nat.le_of_ble_eq_true rfl) dX1_goOverLog_29 ?_ rfl
      refine z_iconst C (v := 2) (by decide) dX1_goOverLog_32 ?_
      refine z_ishr C dX1_goOverLog_33 ?_
      refine z_istore C (lv' := [(6, .int ((bOf N f s (6 + ((nI j) * 5))) >>> (2 &&& 31))), (5, .int (6 + ((nI j) * 5))), (0, .ref b1), (1, .int s), (2, .ref (a2 0)), (3, .int (bOf N f s 5)), (4, .int (nI j))]) rfl (by decide) dX1_goOverLog_34 ?_
      refine z_aload_n C 2 rfl rfl dX1_goOverLog_36 ?_
      refine z_iload_n C 3 rfl rfl dX1_goOverLog_37 ?_
      refine z_iload C 1 rfl dX1_goOverLog_38 ?_
      refine z_rVI C (c_X3_byteOf E N hN b1 b2 f s (6 + ((nI j) * 5))) gX1_goOverLog_X3_byteOf (ci := 3) (q0 := 0) rfl rfl hyX3_byteOf rfl ⟨rfl, rfl⟩ ⟨by decide, by decide⟩ ⟨by decide, by decide⟩ [0, 1] rfl (by decide) (st := []) (Nat.le_of_ble_eq_true rfl) dX1_goOverLog_40 ?_ rfl
      refine z_iconst C (v := 3) (by decide) dX1_goOverLog_43 ?_
      refine z_iand C dX1_goOverLog_44 ?_
      refine z_istore C (lv' := [(7, .int ((bOf N f s (6 + ((nI j) * 5))) &&& 3)), (6, .int ((bOf N f s (6 + ((nI j) * 5))) >>> (2 &&& 31))), (5, .int (6 + ((nI j) * 5))), (0, .ref b1), (1, .int s), (2, .ref (a2 0)), (3, .int (bOf N f s 5)), (4, .int (nI j))]) rfl (by decide) dX1_goOverLog_45 ?_
      refine z_aload_n C 3 rfl rfl dX1_goOverLog_47 ?_
      refine z_iload_n C 4 rfl rfl dX1_goOverLog_48 ?_
      refine z_iload C 2 rfl dX1_goOverLog_49 ?_
      refine z_iconst C (v := 1) (by decide) dX1_goOverLog_51 ?_
      refine z_iadd C dX1_goOverLog_52 ?_
      refine z_rVI C (c_X3_byteOf E N hN b1 b2 f s ((6 + ((nI j) * 5)) + 1)) gX1_goOverLog_X3_byteOf (ci := 3) (q0 := 0) rfl rfl hyX3_byteOf rfl ⟨rfl, rfl⟩ ⟨by decide, by decide⟩ ⟨by decide, by decide⟩ [0, 1] rfl (by decide) (st := []) (Nat.le_of_ble_eq_true rfl) dX1_goOverLog_53 ?_ rfl
      refine z_istore C (lv' := [(8, .int (bOf N f s ((6 + ((nI j) * 5)) + 1))), (7, .int ((bOf N f s (6 + ((nI j) * 5))) &&& 3)), (6, .int ((bOf N f s (6 + ((nI j) * 5))) >>> (2 &&& 31))), (5, .int (6 + ((nI j) * 5))), (0, .ref b1), (1, .int s), (2, .ref (a2 0)), (3, .int (bOf N f s 5)), (4, .int (nI j))]) rfl (by decide) dX1_goOverLog_56 ?_
      refine z_iload C 1 rfl dX1_goOverLog_58 ?_
      refine z_if_ne C (tgt := 84) dX1_goOverLog_60 (by decide) (fun h60_3 => ?_) (fun h60_3 => ?_)
      · refine z_iload C 1 rfl dX1_goOverLog_84 ?_
        refine z_iconst C (v := 1) (by decide) dX1_goOverLog_86 ?_
        refine z_icmp_ne C (tgt := 102) dX1_goOverLog_87 (by decide) (fun h87_4 => ?_) (fun h87_4 => ?_)
        · refine z_aload_n C 6 rfl rfl dX1_goOverLog_102 ?_
          refine z_iload C 2 rfl dX1_goOverLog_103 ?_
          refine z_iload C 1 rfl dX1_goOverLog_105 ?_
          refine z_iconst C (v := 2) (by decide) dX1_goOverLog_107 ?_
          refine z_icmp_ne C (tgt := 115) dX1_goOverLog_108 (by decide) (fun h108_5 => ?_) (fun h108_5 => ?_)
          · refine z_iconst C (v := 0) (by decide) dX1_goOverLog_115 ?_
            refine z_callVI C (c_X0_close E a2 D1 ((bOf N f s (6 + ((nI j) * 5))) >>> (2 &&& 31)) 0) gX1_goOverLog_X0_close (ci := 0) (q0 := 0) rfl rfl hyX0_close rfl ⟨rfl, rfl⟩ ⟨by decide, by decide⟩ ⟨by decide, by decide⟩ [2, 3, 4, 5] [0, 1] [0, 1, 2, 3, 4, 5] (wr := [(b1, .inr (3, [.int (nI N), .ref b2])), (b2, .inl (gB E, 32 * N, .inl f))]) (V' := ((wS E b1 b2 N f) ++ (wD E a2 ((dClose D1 ((bOf N f s (6 + ((nI j) * 5))) >>> (2 &&& 31)) 0).2)))) rfl rfl (by decide) (by decide) (by decide) rfl (by decide) (st := []) (Nat.le_of_ble_eq_true rfl) dX1_goOverLog_116 ?_ rfl
            refine z_pop C rfl dX1_goOverLog_119 ?_
            refine z_iinc C 8 rfl (v := (nI (j + 1))) (zinc _) (lv' := [(4, .int (nI (j + 1))), (8, .int (bOf N f s ((6 + ((nI j) * 5)) + 1))), (7, .int ((bOf N f s (6 + ((nI j) * 5))) &&& 3)), (6, .int ((bOf N f s (6 + ((nI j) * 5))) >>> (2 &&& 31))), (5, .int (6 + ((nI j) * 5))), (0, .ref b1), (1, .int s), (2, .ref (a2 0)), (3, .int (bOf N f s 5))]) rfl (by decide) dX1_goOverLog_120 ?_
            refine z_goto C (tgt := 10) dX1_goOverLog_123 (by decide) ?_
            refine z_lv (lv' := [(0, .ref b1), (1, .int s), (2, .ref (a2 0)), (3, .int (bOf N f s 5)), (4, .int (nI (j + 1)))]) [5, 6, 7, 8, 0] rfl ?_
            exact ih10 (j + 1) _ (by omega) (by rw [← hT]; simp only [goL, goS, h13_2, h60_3, h87_4, h108_5, ↓reduceIte])
          · refine z_iconst C (v := 1) (by decide) dX1_goOverLog_111 ?_
            refine z_goto C (tgt := 116) dX1_goOverLog_112 (by decide) ?_
            refine z_callVI C (c_X0_close E a2 D1 ((bOf N f s (6 + ((nI j) * 5))) >>> (2 &&& 31)) 1) gX1_goOverLog_X0_close (ci := 0) (q0 := 0) rfl rfl hyX0_close rfl ⟨rfl, rfl⟩ ⟨by decide, by decide⟩ ⟨by decide, by decide⟩ [2, 3, 4, 5] [0, 1] [0, 1, 2, 3, 4, 5] (wr := [(b1, .inr (3, [.int (nI N), .ref b2])), (b2, .inl (gB E, 32 * N, .inl f))]) (V' := ((wS E b1 b2 N f) ++ (wD E a2 ((dClose D1 ((bOf N f s (6 + ((nI j) * 5))) >>> (2 &&& 31)) 1).2)))) rfl rfl (by decide) (by decide) (by decide) rfl (by decide) (st := []) (Nat.le_of_ble_eq_true rfl) dX1_goOverLog_116 ?_ rfl
            refine z_pop C rfl dX1_goOverLog_119 ?_
            refine z_iinc C 8 rfl (v := (nI (j + 1))) (zinc _) (lv' := [(4, .int (nI (j + 1))), (8, .int (bOf N f s ((6 + ((nI j) * 5)) + 1))), (7, .int ((bOf N f s (6 + ((nI j) * 5))) &&& 3)), (6, .int ((bOf N f s (6 + ((nI j) * 5))) >>> (2 &&& 31))), (5, .int (6 + ((nI j) * 5))), (0, .ref b1), (1, .int s), (2, .ref (a2 0)), (3, .int (bOf N f s 5))]) rfl (by decide) dX1_goOverLog_120 ?_
            refine z_goto C (tgt := 10) dX1_goOverLog_123 (by decide) ?_
            refine z_lv (lv' := [(0, .ref b1), (1, .int s), (2, .ref (a2 0)), (3, .int (bOf N f s 5)), (4, .int (nI (j + 1)))]) [5, 6, 7, 8, 0] rfl ?_
            exact ih10 (j + 1) _ (by omega) (by rw [← hT]; simp only [goL, goS, h13_2, h60_3, h87_4, h108_5, ↓reduceIte])
        · refine z_aload_n C 6 rfl rfl dX1_goOverLog_90 ?_
          refine z_iload C 2 rfl dX1_goOverLog_91 ?_
          refine z_iload C 0 rfl dX1_goOverLog_93 ?_
          refine z_iconst C (v := (-1)) (by decide) dX1_goOverLog_95 ?_
          refine z_callVV C (c_X0_change E a2 D1 ((bOf N f s (6 + ((nI j) * 5))) >>> (2 &&& 31)) (bOf N f s ((6 + ((nI j) * 5)) + 1)) (-1)) gX1_goOverLog_X0_change (ci := 0) (q0 := 0) rfl rfl hyX0_change rfl ⟨rfl, rfl⟩ ⟨by decide, by decide⟩ ⟨by decide, by decide⟩ [2, 3, 4, 5] [0, 1] [0, 1, 2, 3, 4, 5] (wr := [(b1, .inr (3, [.int (nI N), .ref b2])), (b2, .inl (gB E, 32 * N, .inl f))]) (V' := ((wS E b1 b2 N f) ++ (wD E a2 (dChg D1 ((bOf N f s (6 + ((nI j) * 5))) >>> (2 &&& 31)) (bOf N f s ((6 + ((nI j) * 5)) + 1)) (-1))))) rfl rfl (by decide) (by decide) (by decide) rfl (by decide) (st := []) (Nat.le_of_ble_eq_true rfl) dX1_goOverLog_96 ?_ rfl
          refine z_goto C (tgt := 120) dX1_goOverLog_99 (by decide) ?_
          refine z_iinc C 8 rfl (v := (nI (j + 1))) (zinc _) (lv' := [(4, .int (nI (j + 1))), (8, .int (bOf N f s ((6 + ((nI j) * 5)) + 1))), (7, .int ((bOf N f s (6 + ((nI j) * 5))) &&& 3)), (6, .int ((bOf N f s (6 + ((nI j) * 5))) >>> (2 &&& 31))), (5, .int (6 + ((nI j) * 5))), (0, .ref b1), (1, .int s), (2, .ref (a2 0)), (3, .int (bOf N f s 5))]) rfl (by decide) dX1_goOverLog_120 ?_
          refine z_goto C (tgt := 10) dX1_goOverLog_123 (by decide) ?_
          refine z_lv (lv' := [(0, .ref b1), (1, .int s), (2, .ref (a2 0)), (3, .int (bOf N f s 5)), (4, .int (nI (j + 1)))]) [5, 6, 7, 8, 0] rfl ?_
          exact ih10 (j + 1) _ (by omega) (by rw [← hT]; simp only [goL, goS, h13_2, h60_3, h87_4, ↓reduceIte])
      · refine z_aload_n C 6 rfl rfl dX1_goOverLog_63 ?_
        refine z_iload C 2 rfl dX1_goOverLog_64 ?_
        refine z_iload C 0 rfl dX1_goOverLog_66 ?_
        refine z_aload_n C 4 rfl rfl dX1_goOverLog_68 ?_
        refine z_iload_n C 5 rfl rfl dX1_goOverLog_69 ?_
        refine z_iload C 3 rfl dX1_goOverLog_70 ?_
        refine z_iconst C (v := 2) (by decide) dX1_goOverLog_72 ?_
        refine z_iadd C dX1_goOverLog_73 ?_
        refine z_iconst C (v := 3) (by decide) dX1_goOverLog_74 ?_
        refine z_rVI C (c_X3_numberOf E N hN b1 b2 f s ((6 + ((nI j) * 5)) + 2) 3 (by decide)) gX1_goOverLog_X3_numberOf (ci := 3) (q0 := 0) rfl rfl hyX3_numberOf rfl ⟨rfl, rfl⟩ ⟨by decide, by decide⟩ ⟨by decide, by decide⟩ [0, 1] rfl (by decide) (st := [.int (bOf N f s ((6 + ((nI j) * 5)) + 1)), .int ((bOf N f s (6 + ((nI j) * 5))) >>> (2 &&& 31)), .ref (a2 0)]) (Nat.le_of_ble_eq_true rfl) dX1_goOverLog_75 ?_ rfl
        refine z_callVV C (c_X0_change E a2 D1 ((bOf N f s (6 + ((nI j) * 5))) >>> (2 &&& 31)) (bOf N f s ((6 + ((nI j) * 5)) + 1)) (nOf N f s ((6 + ((nI j) * 5)) + 2) 3)) gX1_goOverLog_X0_change (ci := 0) (q0 := 0) rfl rfl hyX0_change rfl ⟨rfl, rfl⟩ ⟨by decide, by decide⟩ ⟨by decide, by decide⟩ [2, 3, 4, 5] [0, 1] [0, 1, 2, 3, 4, 5] (wr := [(b1, .inr (3, [.int (nI N), .ref b2])), (b2, .inl (gB E, 32 * N, .inl f))]) (V' := ((wS E b1 b2 N f) ++ (wD E a2 (dChg D1 ((bOf N f s (6 + ((nI j) * 5))) >>> (2 &&& 31)) (bOf N f s ((6 + ((nI j) * 5)) + 1)) (nOf N f s ((6 + ((nI j) * 5)) + 2) 3))))) rfl rfl (by decide) (by decide) (by decide) rfl (by decide) (st := []) (Nat.le_of_ble_eq_true rfl) dX1_goOverLog_78 ?_ rfl
        refine z_goto C (tgt := 120) dX1_goOverLog_81 (by decide) ?_
        refine z_iinc C 8 rfl (v := (nI (j + 1))) (zinc _) (lv' := [(4, .int (nI (j + 1))), (8, .int (bOf N f s ((6 + ((nI j) * 5)) + 1))), (7, .int ((bOf N f s (6 + ((nI j) * 5))) &&& 3)), (6, .int ((bOf N f s (6 + ((nI j) * 5))) >>> (2 &&& 31))), (5, .int (6 + ((nI j) * 5))), (0, .ref b1), (1, .int s), (2, .ref (a2 0)), (3, .int (bOf N f s 5))]) rfl (by decide) dX1_goOverLog_120 ?_
        refine z_goto C (tgt := 10) dX1_goOverLog_123 (by decide) ?_
        refine z_lv (lv' := [(0, .ref b1), (1, .int s), (2, .ref (a2 0)), (3, .int (bOf N f s 5)), (4, .int (nI (j + 1)))]) [5, 6, 7, 8, 0] rfl ?_
        exact ih10 (j + 1) _ (by omega) (by rw [← hT]; simp only [goL, goS, h13_2, h60_3, ↓reduceIte])
  refine z_lv (lv' := [(0, .ref b1), (1, .int s), (2, .ref (a2 0)), (3, .int (bOf N f s 5)), (4, .int 0)]) [2, 3, 4, 1, 0] rfl ?_
  exact loop10 (bOf N f s 5).toNatClampNeg 0 D (by omega) rfl
abbrev rmX1_lookAt : Room := { frames := 3, cells := 0, slots := 0, locals := 68 }
theorem hyX1_lookAt : yX1_lookAt.cls = RX1 ∧ yX1_lookAt.cls ≠ "java/lang/invoke/MethodHandle" ∧ yX1_lookAt.cls ≠ "java/lang/invoke/VarHandle" ∧ (parseMethodDescriptor yX1_lookAt.desc).map (fun d => d.parameters.length) = some 1 := by decide +kernel
set_option maxHeartbeats 4000000 in
set_option maxRecDepth 100000 in
theorem c_X1_lookAt (E : GE) (N : Nat) (hN : 16 ≤ N ∧ N ≤ 64) (b1 b2 : Nat) (f : Nat → Int32) (a : Nat → Nat) (F : FS) : zV E yX1_lookAt wsX1_lookAt rmX1_lookAt [.ref (a 0), .ref b1] ((wF E a F) ++ (wS E b1 b2 N f)) ((wF E a (fsTe F (laL N f (fTe F) 64))) ++ (wS E b1 b2 N f)) := by
  refine zV_of (cc := cX1_lookAt) (maxL := 3) (by decide) rfl (Nat.le_of_ble_eq_true rfl) ?_
  intro K C ret
  replace C : zC E K cX1_lookAt wsX1_lookAt RX1 rmX1_lookAt 3 := C
  have in1 : ∀ w ∈ wsX10, w ∈ wsX1_lookAt := fun w h => List.mem_cons_of_mem _ (List.mem_append_left _ (List.mem_append_right _ (h)))
  have l9 : zw K (.fieldLink RX1 9 "StoreLog3$Finder" "tells" "[Z") := C.w (List.mem_cons_of_mem _ (List.mem_append_left _ (List.mem_append_left _ (List.mem_append_left _ (List.mem_of_getElem? (i := 0) rfl)))))
  show Z E K 0 0 ((wF E a F) ++ (wS E b1 b2 N f)) 0 [(0, .ref (a 0)), (1, .ref b1)] []
  refine z_iconst C (v := 0) (by decide) dX1_lookAt_0 ?_
  refine z_istore_n C (lv' := [(2, .int 0), (0, .ref (a 0)), (1, .ref b1)]) rfl rfl (by decide) dX1_lookAt_1 ?_
  have loop2 : ∀ (n j : Nat), j + n = 64 → Z E K 0 0 ((wF E a (fsTe F (laL N f (fTe F) j))) ++ (wS E b1 b2 N f)) 2 [(0, .ref (a 0)), (1, .ref b1), (2, .int (nI j))] [] := by
    intro n
    induction n with
    | zero => 
      intro j hj
      obtain rfl : j = 64 := by omega
      refine z_iload_n C 2 rfl rfl dX1_lookAt_2 ?_
      refine z_aload_n C 0 rfl rfl dX1_lookAt_3 ?_
      refine z_get C (Cn := RX1) (T := TX1) (Nf := 4) (ci := 1) in1 0 0 l9 (v := .ref (a 1)) rfl rfl (by decide) rfl dX1_lookAt_4 ?_
      refine z_zalen C 1 rfl (v := 64) rfl dX1_lookAt_7 ?_
      refine z_icmp_ge C (tgt := 52) dX1_lookAt_8 (by decide) (fun h8_1 => ?_) (fun h8_1 => absurd (nI_le (a := 64) (b := 64) (Nat.le_refl _) (by omega)) h8_1)
      exact ret _ _ _ (by first | rfl | (simp only [laL, tlS, h8_1, ↓reduceIte]; done) | (simp only [laL, tlS, h8_1, ↓reduceIte]; rfl) | (simp [laL, tlS, h8_1, ↓reduceIte]; done)) dX1_lookAt_52
    | succ n ih2 => 
      intro j hj
      refine z_iload_n C 2 rfl rfl dX1_lookAt_2 ?_
      refine z_aload_n C 0 rfl rfl dX1_lookAt_3 ?_
      refine z_get C (Cn := RX1) (T := TX1) (Nf := 4) (ci := 1) in1 0 0 l9 (v := .ref (a 1)) rfl rfl (by decide) rfl dX1_lookAt_4 ?_
      refine z_zalen C 1 rfl (v := 64) rfl dX1_lookAt_7 ?_
      refine z_icmp_ge C (tgt := 52) dX1_lookAt_8 (by decide) (fun h8_2 => absurd h8_2 (nI_ge (a := j) (b := 64) (by omega) (by omega))) (fun h8_2 => ?_)
      refine z_aload_n C 0 rfl rfl dX1_lookAt_11 ?_
      refine z_get C (Cn := RX1) (T := TX1) (Nf := 4) (ci := 1) in1 0 0 l9 (v := .ref (a 1)) rfl rfl (by decide) rfl dX1_lookAt_12 ?_
      refine z_iload_n C 2 rfl rfl dX1_lookAt_15 ?_
      refine z_aload_n C 1 rfl rfl dX1_lookAt_16 ?_
      refine z_iload_n C 2 rfl rfl dX1_lookAt_17 ?_
      refine z_rSI C (c_X1_isLog E N hN b1 b2 f (nI j)) gX1_lookAt_X1_isLog hyX1_isLog.2 rfl ⟨rfl, rfl⟩ ⟨by decide, by decide⟩ ⟨by decide, by decide⟩ [2, 3] rfl (by decide) (st := [.int (nI j), .ref (a 1)]) (Nat.le_of_ble_eq_true rfl) dX1_lookAt_18 ?_ rfl
      refine z_if_ne C (tgt := 32) dX1_lookAt_21 (by decide) (fun h21_3 => ?_) (fun h21_3 => ?_)
      · refine z_aload_n C 1 rfl rfl dX1_lookAt_32 ?_
        refine z_iload_n C 2 rfl rfl dX1_lookAt_33 ?_
        refine z_rVI C (c_X3_isSound E N hN b1 b2 f (nI j)) gX1_lookAt_X3_isSound (ci := 3) (q0 := 0) rfl rfl hyX3_isSound rfl ⟨rfl, rfl⟩ ⟨by decide, by decide⟩ ⟨by decide, by decide⟩ [2, 3] rfl (by decide) (st := [.int (nI j), .ref (a 1)]) (Nat.le_of_ble_eq_true rfl) dX1_lookAt_34 ?_ rfl
        refine z_if_eq C (tgt := 44) dX1_lookAt_37 (by decide) (fun h37_4 => ?_) (fun h37_4 => ?_)
        · refine z_iconst C (v := 0) (by decide) dX1_lookAt_44 ?_
          refine z_zast C 1 rfl (vp_in_nI (by omega) (by omega)) (g := (upd (laL N f (fTe F) j) j 0)) (by rw [vz_0, nI_clamp (by omega)]) (V' := ((wF E a (fsTe F (upd (laL N f (fTe F) j) j 0))) ++ (wS E b1 b2 N f))) rfl dX1_lookAt_45 ?_
          refine z_iinc C 2 rfl (v := (nI (j + 1))) (zinc _) (lv' := [(2, .int (nI (j + 1))), (0, .ref (a 0)), (1, .ref b1)]) rfl (by decide) dX1_lookAt_46 ?_
          refine z_goto C (tgt := 2) dX1_lookAt_49 (by decide) ?_
          refine z_lv (lv' := [(0, .ref (a 0)), (1, .ref b1), (2, .int (nI (j + 1)))]) [1, 2, 0] rfl ?_
          refine z_eq (V2 := ((wF E a (fsTe F (laL N f (fTe F) (j + 1)))) ++ (wS E b1 b2 N f))) (lv2 := [(0, .ref (a 0)), (1, .ref b1), (2, .int (nI (j + 1)))]) (by first | rfl | (simp only [laL, tlS, h8_2, h21_3, h37_4, ↓reduceIte]; done) | (simp only [laL, tlS, h8_2, h21_3, h37_4, ↓reduceIte]; rfl)) (by first | rfl | (simp only [laL, tlS, h8_2, h21_3, h37_4, ↓reduceIte]; done) | (simp only [laL, tlS, h8_2, h21_3, h37_4, ↓reduceIte]; rfl)) rfl ?_
          exact ih2 (j + 1)  (by omega)
        · refine z_iconst C (v := 1) (by decide) dX1_lookAt_40 ?_
          refine z_goto C (tgt := 45) dX1_lookAt_41 (by decide) ?_
          refine z_zast C 1 rfl (vp_in_nI (by omega) (by omega)) (g := (upd (laL N f (fTe F) j) j 1)) (by rw [vz_1, nI_clamp (by omega)]) (V' := ((wF E a (fsTe F (upd (laL N f (fTe F) j) j 1))) ++ (wS E b1 b2 N f))) rfl dX1_lookAt_45 ?_
          refine z_iinc C 2 rfl (v := (nI (j + 1))) (zinc _) (lv' := [(2, .int (nI (j + 1))), (0, .ref (a 0)), (1, .ref b1)]) rfl (by decide) dX1_lookAt_46 ?_
          refine z_goto C (tgt := 2) dX1_lookAt_49 (by decide) ?_
          refine z_lv (lv' := [(0, .ref (a 0)), (1, .ref b1), (2, .int (nI (j + 1)))]) [1, 2, 0] rfl ?_
          refine z_eq (V2 := ((wF E a (fsTe F (laL N f (fTe F) (j + 1)))) ++ (wS E b1 b2 N f))) (lv2 := [(0, .ref (a 0)), (1, .ref b1), (2, .int (nI (j + 1)))]) (by first | rfl | (simp only [laL, tlS, h8_2, h21_3, h37_4, ↓reduceIte]; done) | (simp only [laL, tlS, h8_2, h21_3, h37_4, ↓reduceIte]; rfl)) (by first | rfl | (simp only [laL, tlS, h8_2, h21_3, h37_4, ↓reduceIte]; done) | (simp only [laL, tlS, h8_2, h21_3, h37_4, ↓reduceIte]; rfl)) rfl ?_
          exact ih2 (j + 1)  (by omega)
      · refine z_aload_n C 1 rfl rfl dX1_lookAt_24 ?_
        refine z_iload_n C 2 rfl rfl dX1_lookAt_25 ?_
        refine z_rSI C (c_X1_isPage E N hN b1 b2 f (nI j)) gX1_lookAt_X1_isPage hyX1_isPage.2 rfl ⟨rfl, rfl⟩ ⟨by decide, by decide⟩ ⟨by decide, by decide⟩ [2, 3] rfl (by decide) (st := [.int (nI j), .ref (a 1)]) (Nat.le_of_ble_eq_true rfl) dX1_lookAt_26 ?_ rfl
        refine z_if_eq C (tgt := 44) dX1_lookAt_29 (by decide) (fun h29_5 => ?_) (fun h29_5 => ?_)
        · refine z_iconst C (v := 0) (by decide) dX1_lookAt_44 ?_
          refine z_zast C 1 rfl (vp_in_nI (by omega) (by omega)) (g := (upd (laL N f (fTe F) j) j 0)) (by rw [vz_0, nI_clamp (by omega)]) (V' := ((wF E a (fsTe F (upd (laL N f (fTe F) j) j 0))) ++ (wS E b1 b2 N f))) rfl dX1_lookAt_45 ?_
          refine z_iinc C 2 rfl (v := (nI (j + 1))) (zinc _) (lv' := [(2, .int (nI (j + 1))), (0, .ref (a 0)), (1, .ref b1)]) rfl (by decide) dX1_lookAt_46 ?_
          refine z_goto C (tgt := 2) dX1_lookAt_49 (by decide) ?_
          refine z_lv (lv' := [(0, .ref (a 0)), (1, .ref b1), (2, .int (nI (j + 1)))]) [1, 2, 0] rfl ?_
          refine z_eq (V2 := ((wF E a (fsTe F (laL N f (fTe F) (j + 1)))) ++ (wS E b1 b2 N f))) (lv2 := [(0, .ref (a 0)), (1, .ref b1), (2, .int (nI (j + 1)))]) (by first | rfl | (simp only [laL, tlS, h8_2, h21_3, h29_5, ↓reduceIte]; done) | (simp only [laL, tlS, h8_2, h21_3, h29_5, ↓reduceIte]; rfl)) (by first | rfl | (simp only [laL, tlS, h8_2, h21_3, h29_5, ↓reduceIte]; done) | (simp only [laL, tlS, h8_2, h21_3, h29_5, ↓reduceIte]; rfl)) rfl ?_
          exact ih2 (j + 1)  (by omega)
        · refine z_aload_n C 1 rfl rfl dX1_lookAt_32 ?_
          refine z_iload_n C 2 rfl rfl dX1_lookAt_33 ?_
          refine z_rVI C (c_X3_isSound E N hN b1 b2 f (nI j)) gX1_lookAt_X3_isSound (ci := 3) (q0 := 0) rfl rfl hyX3_isSound rfl ⟨rfl, rfl⟩ ⟨by decide, by decide⟩ ⟨by decide, by decide⟩ [2, 3] rfl (by decide) (st := [.int (nI j), .ref (a 1)]) (Nat.le_of_ble_eq_true rfl) dX1_lookAt_34 ?_ rfl
          refine z_if_eq C (tgt := 44) dX1_lookAt_37 (by decide) (fun h37_6 => ?_) (fun h37_6 => ?_)
          · refine z_iconst C (v := 0) (by decide) dX1_lookAt_44 ?_
            refine z_zast C 1 rfl (vp_in_nI (by omega) (by omega)) (g := (upd (laL N f (fTe F) j) j 0)) (by rw [vz_0, nI_clamp (by omega)]) (V' := ((wF E a (fsTe F (upd (laL N f (fTe F) j) j 0))) ++ (wS E b1 b2 N f))) rfl dX1_lookAt_45 ?_
            refine z_iinc C 2 rfl (v := (nI (j + 1))) (zinc _) (lv' := [(2, .int (nI (j + 1))), (0, .ref (a 0)), (1, .ref b1)]) rfl (by decide) dX1_lookAt_46 ?_
            refine z_goto C (tgt := 2) dX1_lookAt_49 (by decide) ?_
            refine z_lv (lv' := [(0, .ref (a 0)), (1, .ref b1), (2, .int (nI (j + 1)))]) [1, 2, 0] rfl ?_
            refine z_eq (V2 := ((wF E a (fsTe F (laL N f (fTe F) (j + 1)))) ++ (wS E b1 b2 N f))) (lv2 := [(0, .ref (a 0)), (1, .ref b1), (2, .int (nI (j + 1)))]) (by first | rfl | (simp only [laL, tlS, h8_2, h21_3, h29_5, h37_6, ↓reduceIte]; done) | (simp only [laL, tlS, h8_2, h21_3, h29_5, h37_6, ↓reduceIte]; rfl)) (by first | rfl | (simp only [laL, tlS, h8_2, h21_3, h29_5, h37_6, ↓reduceIte]; done) | (simp only [laL, tlS, h8_2, h21_3, h29_5, h37_6, ↓reduceIte]; rfl)) rfl ?_
            exact ih2 (j + 1)  (by omega)
          · refine z_iconst C (v := 1) (by decide) dX1_lookAt_40 ?_
            refine z_goto C (tgt := 45) dX1_lookAt_41 (by decide) ?_
            refine z_zast C 1 rfl (vp_in_nI (by omega) (by omega)) (g := (upd (laL N f (fTe F) j) j 1)) (by rw [vz_1, nI_clamp (by omega)]) (V' := ((wF E a (fsTe F (upd (laL N f (fTe F) j) j 1))) ++ (wS E b1 b2 N f))) rfl dX1_lookAt_45 ?_
            refine z_iinc C 2 rfl (v := (nI (j + 1))) (zinc _) (lv' := [(2, .int (nI (j + 1))), (0, .ref (a 0)), (1, .ref b1)]) rfl (by decide) dX1_lookAt_46 ?_
            refine z_goto C (tgt := 2) dX1_lookAt_49 (by decide) ?_
            refine z_lv (lv' := [(0, .ref (a 0)), (1, .ref b1), (2, .int (nI (j + 1)))]) [1, 2, 0] rfl ?_
            refine z_eq (V2 := ((wF E a (fsTe F (laL N f (fTe F) (j + 1)))) ++ (wS E b1 b2 N f))) (lv2 := [(0, .ref (a 0)), (1, .ref b1), (2, .int (nI (j + 1)))]) (by first | rfl | (simp only [laL, tlS, h8_2, h21_3, h29_5, h37_6, ↓reduceIte]; done) | (simp only [laL, tlS, h8_2, h21_3, h29_5, h37_6, ↓reduceIte]; rfl)) (by first | rfl | (simp only [laL, tlS, h8_2, h21_3, h29_5, h37_6, ↓reduceIte]; done) | (simp only [laL, tlS, h8_2, h21_3, h29_5, h37_6, ↓reduceIte]; rfl)) rfl ?_
            exact ih2 (j + 1)  (by omega)
  refine z_lv (lv' := [(0, .ref (a 0)), (1, .ref b1), (2, .int 0)]) [1, 2, 0] rfl ?_
  exact loop2 64 0  (by omega)
abbrev rmX1_pagesFrom : Room := { frames := 3, cells := 0, slots := 0, locals := 68 }
theorem hyX1_pagesFrom : yX1_pagesFrom.cls = RX1 ∧ yX1_pagesFrom.cls ≠ "java/lang/invoke/MethodHandle" ∧ yX1_pagesFrom.cls ≠ "java/lang/invoke/VarHandle" ∧ (parseMethodDescriptor yX1_pagesFrom.desc).map (fun d => d.parameters.length) = some 2 := by decide +kernel
set_option maxHeartbeats 4000000 in
set_option maxRecDepth 100000 in
theorem c_X1_pagesFrom (E : GE) (N : Nat) (hN : 16 ≤ N ∧ N ≤ 64) (b1 b2 : Nat) (f : Nat → Int32) (a : Nat → Nat) (F : FS) (s : Int32) : zI E yX1_pagesFrom wsX1_pagesFrom rmX1_pagesFrom [.ref (a 0), .ref b1, .int s] ((wF E a F) ++ (wS E b1 b2 N f)) (pgsF N f F s) ((wF E a F) ++ (wS E b1 b2 N f)) := by
  refine zI_of (cc := cX1_pagesFrom) (maxL := 6) (ty := .int) (by decide) rfl (vp_nar_int _) (Nat.le_of_ble_eq_true rfl) ?_
  intro K C ret
  replace C : zC E K cX1_pagesFrom wsX1_pagesFrom RX1 rmX1_pagesFrom 6 := C
  show Z E K 0 0 ((wF E a F) ++ (wS E b1 b2 N f)) 0 [(0, .ref (a 0)), (1, .ref b1), (2, .int s)] []
  refine z_aload_n C 1 rfl rfl dX1_pagesFrom_0 ?_
  refine z_iload_n C 2 rfl rfl dX1_pagesFrom_1 ?_
  refine z_bipush C (v := 27) (by decide) dX1_pagesFrom_2 ?_
  refine z_rVI C (c_X3_byteOf E N hN b1 b2 f s 27) gX1_pagesFrom_X3_byteOf (ci := 3) (q0 := 0) rfl rfl hyX3_byteOf rfl ⟨rfl, rfl⟩ ⟨by decide, by decide⟩ ⟨by decide, by decide⟩ [2, 3] rfl (by decide) (st := []) (Nat.le_of_ble_eq_true rfl) dX1_pagesFrom_4 ?_ rfl
  refine z_istore_n C (lv' := [(3, .int (bOf N f s 27)), (0, .ref (a 0)), (1, .ref b1), (2, .int s)]) rfl rfl (by decide) dX1_pagesFrom_7 ?_
  refine z_iload_n C 3 rfl rfl dX1_pagesFrom_8 ?_
  refine z_istore C (lv' := [(4, .int s), (3, .int (bOf N f s 27)), (0, .ref (a 0)), (1, .ref b1), (2, .int s)]) rfl (by decide) dX1_pagesFrom_9 ?_
  refine z_iconst C (v := 0) (by decide) dX1_pagesFrom_11 ?_
  refine z_istore C (lv' := [(5, .int 0), (4, .int s), (3, .int (bOf N f s 27)), (0, .ref (a 0)), (1, .ref b1), (2, .int s)]) rfl (by decide) dX1_pagesFrom_12 ?_
  have loop14 : ∀ (n j : Nat) (c : Int32), j + n = (bOf N f s 27).toNatClampNeg → ppL N f F s n j c = ppL N f F s (bOf N f s 27).toNatClampNeg 0 s → Z E K 0 0 ((wF E a F) ++ (wS E b1 b2 N f)) 14 [(0, .ref (a 0)), (1, .ref b1), (2, .int s), (3, .int (bOf N f s 27)), (4, .int c), (5, .int (nI j))] [] := by
    intro n
    induction n with
    | zero => 
      intro j c hj hT
      have hjB : j = (bOf N f s 27).toNatClampNeg := by omega
      subst hjB
      refine z_iload C 5 rfl dX1_pagesFrom_14 ?_
      refine z_iload_n C 3 rfl rfl dX1_pagesFrom_16 ?_
      refine z_icmp_ge C (tgt := 98) dX1_pagesFrom_17 (by decide) (fun h17_1 => ?_) (fun h17_1 => absurd zclY h17_1)
      refine z_iload_n C 3 rfl rfl dX1_pagesFrom_98 ?_
      exact ret _ _ _ _ (by unfold pgsF; rw [← hT]; first | rfl | (simp only [ppL, h17_1, ↓reduceIte]; done)) rfl dX1_pagesFrom_99
    | succ n ih14 => 
      intro j c hj hT
      refine z_iload C 5 rfl dX1_pagesFrom_14 ?_
      refine z_iload_n C 3 rfl rfl dX1_pagesFrom_16 ?_
      refine z_icmp_ge C (tgt := 98) dX1_pagesFrom_17 (by decide) (fun h17_2 => absurd h17_2 (zclN hj)) (fun h17_2 => ?_)
      refine z_aload_n C 0 rfl rfl dX1_pagesFrom_20 ?_
      refine z_iload C 4 rfl dX1_pagesFrom_21 ?_
      refine z_rVI C (c_X1_isTelling E a F c) gX1_pagesFrom_X1_isTelling (ci := 1) (q0 := 0) rfl rfl hyX1_isTelling rfl ⟨rfl, rfl⟩ ⟨by decide, by decide⟩ ⟨by decide, by decide⟩ [0, 1] rfl (by decide) (st := []) (Nat.le_of_ble_eq_true rfl) dX1_pagesFrom_23 ?_ rfl
      refine z_if_eq C (tgt := 82) dX1_pagesFrom_26 (by decide) (fun h26_3 => ?_) (fun h26_3 => ?_)
      · refine z_iconst C (v := 0) (by decide) dX1_pagesFrom_82 ?_
        exact ret _ _ _ _ (by unfold pgsF; rw [← hT]; first | rfl | (simp only [ppL, h17_2, h26_3, ↓reduceIte]; done)) rfl dX1_pagesFrom_83
      · refine z_aload_n C 1 rfl rfl dX1_pagesFrom_29 ?_
        refine z_iload C 4 rfl dX1_pagesFrom_30 ?_
        refine z_iconst C (v := 0) (by decide) dX1_pagesFrom_32 ?_
        refine z_rVI C (c_X3_byteOf E N hN b1 b2 f c 0) gX1_pagesFrom_X3_byteOf (ci := 3) (q0 := 0) rfl rfl hyX3_byteOf rfl ⟨rfl, rfl⟩ ⟨by decide, by decide⟩ ⟨by decide, by decide⟩ [2, 3] rfl (by decide) (st := []) (Nat.le_of_ble_eq_true rfl) dX1_pagesFrom_33 ?_ rfl
        refine z_iconst C (v := 2) (by decide) dX1_pagesFrom_36 ?_
        refine z_icmp_ne C (tgt := 82) dX1_pagesFrom_37 (by decide) (fun h37_4 => ?_) (fun h37_4 => ?_)
        · refine z_iconst C (v := 0) (by decide) dX1_pagesFrom_82 ?_
          exact ret _ _ _ _ (by unfold pgsF; rw [← hT]; first | rfl | (simp only [ppL, h17_2, h26_3, h37_4, ↓reduceIte]; done)) rfl dX1_pagesFrom_83
        · refine z_aload_n C 1 rfl rfl dX1_pagesFrom_40 ?_
          refine z_iload C 4 rfl dX1_pagesFrom_41 ?_
          refine z_bipush C (v := 26) (by decide) dX1_pagesFrom_43 ?_
          refine z_rVI C (c_X3_byteOf E N hN b1 b2 f c 26) gX1_pagesFrom_X3_byteOf (ci := 3) (q0 := 0) rfl rfl hyX3_byteOf rfl ⟨rfl, rfl⟩ ⟨by decide, by decide⟩ ⟨by decide, by decide⟩ [2, 3] rfl (by decide) (st := []) (Nat.le_of_ble_eq_true rfl) dX1_pagesFrom_45 ?_ rfl
          refine z_iload C 5 rfl dX1_pagesFrom_48 ?_
          refine z_icmp_ne C (tgt := 82) dX1_pagesFrom_50 (by decide) (fun h50_5 => ?_) (fun h50_5 => ?_)
          · refine z_iconst C (v := 0) (by decide) dX1_pagesFrom_82 ?_
            exact ret _ _ _ _ (by unfold pgsF; rw [← hT]; first | rfl | (simp only [ppL, h17_2, h26_3, h37_4, h50_5, ↓reduceIte]; done)) rfl dX1_pagesFrom_83
          · refine z_aload_n C 1 rfl rfl dX1_pagesFrom_53 ?_
            refine z_iload C 4 rfl dX1_pagesFrom_54 ?_
            refine z_bipush C (v := 27) (by decide) dX1_pagesFrom_56 ?_
            refine z_rVI C (c_X3_byteOf E N hN b1 b2 f c 27) gX1_pagesFrom_X3_byteOf (ci := 3) (q0 := 0) rfl rfl hyX3_byteOf rfl ⟨rfl, rfl⟩ ⟨by decide, by decide⟩ ⟨by decide, by decide⟩ [2, 3] rfl (by decide) (st := []) (Nat.le_of_ble_eq_true rfl) dX1_pagesFrom_58 ?_ rfl
            refine z_iload_n C 3 rfl rfl dX1_pagesFrom_61 ?_
            refine z_icmp_ne C (tgt := 82) dX1_pagesFrom_62 (by decide) (fun h62_6 => ?_) (fun h62_6 => ?_)
            · refine z_iconst C (v := 0) (by decide) dX1_pagesFrom_82 ?_
              exact ret _ _ _ _ (by unfold pgsF; rw [← hT]; first | rfl | (simp only [ppL, h17_2, h26_3, h37_4, h50_5, h62_6, ↓reduceIte]; done)) rfl dX1_pagesFrom_83
            · refine z_aload_n C 1 rfl rfl dX1_pagesFrom_65 ?_
              refine z_iload C 4 rfl dX1_pagesFrom_66 ?_
              refine z_rVI C (c_X3_serialOf E N hN b1 b2 f c) gX1_pagesFrom_X3_serialOf (ci := 3) (q0 := 0) rfl rfl hyX3_serialOf rfl ⟨rfl, rfl⟩ ⟨by decide, by decide⟩ ⟨by decide, by decide⟩ [2, 3] rfl (by decide) (st := []) (Nat.le_of_ble_eq_true rfl) dX1_pagesFrom_68 ?_ rfl
              refine z_aload_n C 1 rfl rfl dX1_pagesFrom_71 ?_
              refine z_iload_n C 2 rfl rfl dX1_pagesFrom_72 ?_
              refine z_rVI C (c_X3_serialOf E N hN b1 b2 f s) gX1_pagesFrom_X3_serialOf (ci := 3) (q0 := 0) rfl rfl hyX3_serialOf rfl ⟨rfl, rfl⟩ ⟨by decide, by decide⟩ ⟨by decide, by decide⟩ [2, 3] rfl (by decide) (st := [.int (nOf N f c 1 4)]) (Nat.le_of_ble_eq_true rfl) dX1_pagesFrom_73 ?_ rfl
              refine z_iload C 5 rfl dX1_pagesFrom_76 ?_
              refine z_iadd C dX1_pagesFrom_78 ?_
              refine z_icmp_eq C (tgt := 84) dX1_pagesFrom_79 (by decide) (fun h79_7 => ?_) (fun h79_7 => ?_)
              · refine z_aload_n C 1 rfl rfl dX1_pagesFrom_84 ?_
                refine z_iload C 4 rfl dX1_pagesFrom_85 ?_
                refine z_rVI C (c_X3_behind E N hN b1 b2 f c) gX1_pagesFrom_X3_behind (ci := 3) (q0 := 0) rfl rfl hyX3_behind rfl ⟨rfl, rfl⟩ ⟨by decide, by decide⟩ ⟨by decide, by decide⟩ [2, 3] rfl (by decide) (st := []) (Nat.le_of_ble_eq_true rfl) dX1_pagesFrom_87 ?_ rfl
                refine z_istore C (lv' := [(4, .int (bhd N c)), (0, .ref (a 0)), (1, .ref b1), (2, .int s), (3, .int (bOf N f s 27)), (5, .int (nI j))]) rfl (by decide) dX1_pagesFrom_90 ?_
                refine z_iinc C 5 rfl (v := (nI (j + 1))) (zinc _) (lv' := [(5, .int (nI (j + 1))), (4, .int (bhd N c)), (0, .ref (a 0)), (1, .ref b1), (2, .int s), (3, .int (bOf N f s 27))]) rfl (by decide) dX1_pagesFrom_92 ?_
                refine z_goto C (tgt := 14) dX1_pagesFrom_95 (by decide) ?_
                refine z_lv (lv' := [(0, .ref (a 0)), (1, .ref b1), (2, .int s), (3, .int (bOf N f s 27)), (4, .int (bhd N c)), (5, .int (nI (j + 1)))]) [2, 3, 4, 5, 1, 0] rfl ?_
                exact ih14 (j + 1) _ (by omega) (by rw [← hT]; simp only [ppL, h17_2, h26_3, h37_4, h50_5, h62_6, h79_7, ↓reduceIte])
              · refine z_iconst C (v := 0) (by decide) dX1_pagesFrom_82 ?_
                exact ret _ _ _ _ (by unfold pgsF; rw [← hT]; first | rfl | (simp only [ppL, h17_2, h26_3, h37_4, h50_5, h62_6, h79_7, ↓reduceIte]; done)) rfl dX1_pagesFrom_83
  refine z_lv (lv' := [(0, .ref (a 0)), (1, .ref b1), (2, .int s), (3, .int (bOf N f s 27)), (4, .int s), (5, .int 0)]) [3, 4, 5, 2, 1, 0] rfl ?_
  exact loop14 (bOf N f s 27).toNatClampNeg 0 s (by omega) rfl
abbrev rmX1_findCheckpoint : Room := { frames := 4, cells := 0, slots := 0, locals := 93 }
theorem hyX1_findCheckpoint : yX1_findCheckpoint.cls = RX1 ∧ yX1_findCheckpoint.cls ≠ "java/lang/invoke/MethodHandle" ∧ yX1_findCheckpoint.cls ≠ "java/lang/invoke/VarHandle" ∧ (parseMethodDescriptor yX1_findCheckpoint.desc).map (fun d => d.parameters.length) = some 1 := by decide +kernel
set_option maxHeartbeats 4000000 in
set_option maxRecDepth 100000 in
theorem c_X1_findCheckpoint (E : GE) (N : Nat) (hN : 16 ≤ N ∧ N ≤ 64) (b1 b2 : Nat) (f : Nat → Int32) (a : Nat → Nat) (F : FS) : zI E yX1_findCheckpoint wsX1_findCheckpoint rmX1_findCheckpoint [.ref (a 0), .ref b1] ((wF E a F) ++ (wS E b1 b2 N f)) (fFound N f F) ((wF E a (fFind N f F)) ++ (wS E b1 b2 N f)) := by
  refine zI_of (cc := cX1_findCheckpoint) (maxL := 4) (ty := .boolean) (by decide) rfl (by unfold fFound; (repeat' split) <;> rfl) (Nat.le_of_ble_eq_true rfl) ?_
  intro K C ret
  replace C : zC E K cX1_findCheckpoint wsX1_findCheckpoint RX1 rmX1_findCheckpoint 4 := C
  have in1 : ∀ w ∈ wsX10, w ∈ wsX1_findCheckpoint := fun w h => List.mem_cons_of_mem _ (List.mem_append_left _ (List.mem_append_right _ (h)))
  have l15 : zw K (.fieldLink RX1 15 "StoreLog3$Finder" "firstPage" "I") := C.w (List.mem_cons_of_mem _ (List.mem_append_left _ (List.mem_append_left _ (List.mem_append_left _ (List.mem_of_getElem? (i := 1) rfl)))))
  have l26 : zw K (.fieldLink RX1 26 "StoreLog3$Finder" "pages" "I") := C.w (List.mem_cons_of_mem _ (List.mem_append_left _ (List.mem_append_left _ (List.mem_append_left _ (List.mem_of_getElem? (i := 0) rfl)))))
  show Z E K 0 0 ((wF E a F) ++ (wS E b1 b2 N f)) 0 [(0, .ref (a 0)), (1, .ref b1)] []
  refine z_aload_n C 0 rfl rfl dX1_findCheckpoint_0 ?_
  refine z_aload_n C 1 rfl rfl dX1_findCheckpoint_1 ?_
  refine z_callVV C (c_X1_lookAt E N hN b1 b2 f a F) gX1_findCheckpoint_X1_lookAt (ci := 1) (q0 := 0) rfl rfl hyX1_lookAt rfl ⟨rfl, rfl⟩ ⟨by decide, by decide⟩ ⟨by decide, by decide⟩ [0, 1, 2, 3] [] [0, 1, 2, 3] (wr := []) (V' := ((wF E a (fsTe F (laL N f (fTe F) 64))) ++ (wS E b1 b2 N f))) rfl rfl (by decide) (by decide) (by decide) rfl (by decide) (st := []) (Nat.le_of_ble_eq_true rfl) dX1_findCheckpoint_2 ?_ rfl
  refine z_aload_n C 0 rfl rfl dX1_findCheckpoint_5 ?_
  refine z_iconst C (v := 0) (by decide) dX1_findCheckpoint_6 ?_
  refine z_put C (Cn := RX1) (T := TX1) (Nf := 4) (ci := 1) in1 0 2 l26 rfl rfl (by decide) tyX1 tyX1_ok nmX1 rfl rfl rfl (Nat.le_of_ble_eq_true rfl) (V' := ((wF E a (fsPg (fsTe F (laL N f (fTe F) 64)) 0)) ++ (wS E b1 b2 N f))) rfl dX1_findCheckpoint_7 ?_
  refine z_iconst C (v := 0) (by decide) dX1_findCheckpoint_10 ?_
  refine z_istore_n C (lv' := [(2, .int 0), (0, .ref (a 0)), (1, .ref b1)]) rfl rfl (by decide) dX1_findCheckpoint_11 ?_
  have loop12 : ∀ (n j : Nat) (F1 : FS), j + n = N → fcL N f n j F1 = fcL N f N 0 (fsPg (fsTe F (laL N f (fTe F) 64)) 0) → Z E K 0 0 ((wF E a F1) ++ (wS E b1 b2 N f)) 12 [(0, .ref (a 0)), (1, .ref b1), (2, .int (nI j))] [] := by
    intro n
    induction n with
    | zero => 
      intro j F1 hj hT
      obtain rfl : N = j := by omega
      refine z_iload_n C 2 rfl rfl dX1_findCheckpoint_12 ?_
      refine z_aload_n C 1 rfl rfl dX1_findCheckpoint_13 ?_
      refine z_rVI C (c_X3_size E N hN b1 b2 f) gX1_findCheckpoint_X3_size (ci := 3) (q0 := 0) rfl rfl hyX3_size rfl ⟨rfl, rfl⟩ ⟨by decide, by decide⟩ ⟨by decide, by decide⟩ [2, 3] rfl (by decide) (st := [.int (nI N)]) (Nat.le_of_ble_eq_true rfl) dX1_findCheckpoint_14 ?_ rfl
      refine z_icmp_ge C (tgt := 73) dX1_findCheckpoint_17 (by decide) (fun h17_1 => ?_) (fun h17_1 => absurd (nI_le (a := N) (b := N) (Nat.le_refl _) (by omega)) h17_1)
      refine z_aload_n C 0 rfl rfl dX1_findCheckpoint_73 ?_
      refine z_get C (Cn := RX1) (T := TX1) (Nf := 4) (ci := 1) in1 0 2 l26 (v := .int (fPg F1)) rfl rfl (by decide) rfl dX1_findCheckpoint_74 ?_
      refine z_if_le C (tgt := 84) dX1_findCheckpoint_77 (by decide) (fun h77_2 => ?_) (fun h77_2 => ?_)
      · refine z_iconst C (v := 0) (by decide) dX1_findCheckpoint_84 ?_
        exact ret _ _ _ _ (by unfold fFound fFind; rw [← hT]; simp only [fcL, h77_2, ↓reduceIte]) (by unfold fFind; rw [← hT]; rfl) dX1_findCheckpoint_85
      · refine z_iconst C (v := 1) (by decide) dX1_findCheckpoint_80 ?_
        refine z_goto C (tgt := 85) dX1_findCheckpoint_81 (by decide) ?_
        exact ret _ _ _ _ (by unfold fFound fFind; rw [← hT]; simp only [fcL, h77_2, ↓reduceIte]) (by unfold fFind; rw [← hT]; rfl) dX1_findCheckpoint_85
    | succ n ih12 => 
      intro j F1 hj hT
      refine z_iload_n C 2 rfl rfl dX1_findCheckpoint_12 ?_
      refine z_aload_n C 1 rfl rfl dX1_findCheckpoint_13 ?_
      refine z_rVI C (c_X3_size E N hN b1 b2 f) gX1_findCheckpoint_X3_size (ci := 3) (q0 := 0) rfl rfl hyX3_size rfl ⟨rfl, rfl⟩ ⟨by decide, by decide⟩ ⟨by decide, by decide⟩ [2, 3] rfl (by decide) (st := [.int (nI j)]) (Nat.le_of_ble_eq_true rfl) dX1_findCheckpoint_14 ?_ rfl
      refine z_icmp_ge C (tgt := 73) dX1_findCheckpoint_17 (by decide) (fun h17_3 => absurd h17_3 (nI_ge (a := j) (b := N) (by omega) (by omega))) (fun h17_3 => ?_)
      refine z_aload_n C 0 rfl rfl dX1_findCheckpoint_20 ?_
      refine z_aload_n C 1 rfl rfl dX1_findCheckpoint_21 ?_
      refine z_iload_n C 2 rfl rfl dX1_findCheckpoint_22 ?_
      refine z_rVI C (c_X1_pagesFrom E N hN b1 b2 f a F1 (nI j)) gX1_findCheckpoint_X1_pagesFrom (ci := 1) (q0 := 0) rfl rfl hyX1_pagesFrom rfl ⟨rfl, rfl⟩ ⟨by decide, by decide⟩ ⟨by decide, by decide⟩ [0, 1, 2, 3] rfl (by decide) (st := []) (Nat.le_of_ble_eq_true rfl) dX1_findCheckpoint_23 ?_ rfl
      refine z_istore_n C (lv' := [(3, .int (pgsF N f F1 (nI j))), (0, .ref (a 0)), (1, .ref b1), (2, .int (nI j))]) rfl rfl (by decide) dX1_findCheckpoint_26 ?_
      refine z_iload_n C 0 rfl rfl dX1_findCheckpoint_27 ?_
      refine z_if_le C (tgt := 67) dX1_findCheckpoint_28 (by decide) (fun h28_4 => ?_) (fun h28_4 => ?_)
      · refine z_iinc C 3 rfl (v := (nI (j + 1))) (zinc _) (lv' := [(2, .int (nI (j + 1))), (3, .int (pgsF N f F1 (nI j))), (0, .ref (a 0)), (1, .ref b1)]) rfl (by decide) dX1_findCheckpoint_67 ?_
        refine z_goto C (tgt := 12) dX1_findCheckpoint_70 (by decide) ?_
        refine z_lv (lv' := [(0, .ref (a 0)), (1, .ref b1), (2, .int (nI (j + 1)))]) [2, 3, 0] rfl ?_
        exact ih12 (j + 1) _ (by omega) (by rw [← hT]; simp only [fcL, fcS, h17_3, h28_4, ↓reduceIte])
      · refine z_aload_n C 1 rfl rfl dX1_findCheckpoint_31 ?_
        refine z_get C (Cn := RX1) (T := TX1) (Nf := 4) (ci := 1) in1 0 2 l26 (v := .int (fPg F1)) rfl rfl (by decide) rfl dX1_findCheckpoint_32 ?_
        refine z_if_eq C (tgt := 57) dX1_findCheckpoint_35 (by decide) (fun h35_5 => ?_) (fun h35_5 => ?_)
        · refine z_aload_n C 1 rfl rfl dX1_findCheckpoint_57 ?_
          refine z_iload_n C 3 rfl rfl dX1_findCheckpoint_58 ?_
          refine z_put C (Cn := RX1) (T := TX1) (Nf := 4) (ci := 1) in1 0 1 l15 rfl rfl (by decide) tyX1 tyX1_ok nmX1 rfl rfl rfl (Nat.le_of_ble_eq_true rfl) (V' := ((wF E a (fsFp F1 (nI j))) ++ (wS E b1 b2 N f))) rfl dX1_findCheckpoint_59 ?_
          refine z_aload_n C 1 rfl rfl dX1_findCheckpoint_62 ?_
          refine z_iload_n C 0 rfl rfl dX1_findCheckpoint_63 ?_
          refine z_put C (Cn := RX1) (T := TX1) (Nf := 4) (ci := 1) in1 0 2 l26 rfl rfl (by decide) tyX1 tyX1_ok nmX1 rfl rfl rfl (Nat.le_of_ble_eq_true rfl) (V' := ((wF E a (fsPg (fsFp F1 (nI j)) (pgsF N f F1 (nI j)))) ++ (wS E b1 b2 N f))) rfl dX1_findCheckpoint_64 ?_
          refine z_iinc C 3 rfl (v := (nI (j + 1))) (zinc _) (lv' := [(2, .int (nI (j + 1))), (3, .int (pgsF N f F1 (nI j))), (0, .ref (a 0)), (1, .ref b1)]) rfl (by decide) dX1_findCheckpoint_67 ?_
          refine z_goto C (tgt := 12) dX1_findCheckpoint_70 (by decide) ?_
          refine z_lv (lv' := [(0, .ref (a 0)), (1, .ref b1), (2, .int (nI (j + 1)))]) [2, 3, 0] rfl ?_
          exact ih12 (j + 1) _ (by omega) (by rw [← hT]; simp only [fcL, fcS, h17_3, h28_4, h35_5, ↓reduceIte])
        · refine z_aload_n C 2 rfl rfl dX1_findCheckpoint_38 ?_
          refine z_iload_n C 3 rfl rfl dX1_findCheckpoint_39 ?_
          refine z_rVI C (c_X3_serialOf E N hN b1 b2 f (nI j)) gX1_findCheckpoint_X3_serialOf (ci := 3) (q0 := 0) rfl rfl hyX3_serialOf rfl ⟨rfl, rfl⟩ ⟨by decide, by decide⟩ ⟨by decide, by decide⟩ [2, 3] rfl (by decide) (st := []) (Nat.le_of_ble_eq_true rfl) dX1_findCheckpoint_40 ?_ rfl
          refine z_aload_n C 2 rfl rfl dX1_findCheckpoint_43 ?_
          refine z_aload_n C 1 rfl rfl dX1_findCheckpoint_44 ?_
          refine z_get C (Cn := RX1) (T := TX1) (Nf := 4) (ci := 1) in1 0 1 l15 (v := .int (fFp F1)) rfl rfl (by decide) rfl dX1_findCheckpoint_45 ?_
          refine z_rVI C (c_X3_serialOf E N hN b1 b2 f (fFp F1)) gX1_findCheckpoint_X3_serialOf (ci := 3) (q0 := 0) rfl rfl hyX3_serialOf rfl ⟨rfl, rfl⟩ ⟨by decide, by decide⟩ ⟨by decide, by decide⟩ [2, 3] rfl (by decide) (st := [.int (nOf N f (nI j) 1 4)]) (Nat.le_of_ble_eq_true rfl) dX1_findCheckpoint_48 ?_ rfl
          refine z_rSI C (c_X1_isLater E (nOf N f (nI j) 1 4) (nOf N f (fFp F1) 1 4)) gX1_findCheckpoint_X1_isLater hyX1_isLater.2 rfl ⟨rfl, rfl⟩ ⟨by decide, by decide⟩ ⟨by decide, by decide⟩ [] rfl (by decide) (st := []) (Nat.le_of_ble_eq_true rfl) dX1_findCheckpoint_51 ?_ rfl
          refine z_if_eq C (tgt := 67) dX1_findCheckpoint_54 (by decide) (fun h54_6 => ?_) (fun h54_6 => ?_)
          · refine z_iinc C 3 rfl (v := (nI (j + 1))) (zinc _) (lv' := [(2, .int (nI (j + 1))), (3, .int (pgsF N f F1 (nI j))), (0, .ref (a 0)), (1, .ref b1)]) rfl (by decide) dX1_findCheckpoint_67 ?_
            refine z_goto C (tgt := 12) dX1_findCheckpoint_70 (by decide) ?_
            refine z_lv (lv' := [(0, .ref (a 0)), (1, .ref b1), (2, .int (nI (j + 1)))]) [2, 3, 0] rfl ?_
            exact ih12 (j + 1) _ (by omega) (by rw [← hT]; simp only [fcL, fcS, h17_3, h28_4, h35_5, h54_6, ↓reduceIte])
          · refine z_aload_n C 1 rfl rfl dX1_findCheckpoint_57 ?_
            refine z_iload_n C 3 rfl rfl dX1_findCheckpoint_58 ?_
            refine z_put C (Cn := RX1) (T := TX1) (Nf := 4) (ci := 1) in1 0 1 l15 rfl rfl (by decide) tyX1 tyX1_ok nmX1 rfl rfl rfl (Nat.le_of_ble_eq_true rfl) (V' := ((wF E a (fsFp F1 (nI j))) ++ (wS E b1 b2 N f))) rfl dX1_findCheckpoint_59 ?_
            refine z_aload_n C 1 rfl rfl dX1_findCheckpoint_62 ?_
            refine z_iload_n C 0 rfl rfl dX1_findCheckpoint_63 ?_
            refine z_put C (Cn := RX1) (T := TX1) (Nf := 4) (ci := 1) in1 0 2 l26 rfl rfl (by decide) tyX1 tyX1_ok nmX1 rfl rfl rfl (Nat.le_of_ble_eq_true rfl) (V' := ((wF E a (fsPg (fsFp F1 (nI j)) (pgsF N f F1 (nI j)))) ++ (wS E b1 b2 N f))) rfl dX1_findCheckpoint_64 ?_
            refine z_iinc C 3 rfl (v := (nI (j + 1))) (zinc _) (lv' := [(2, .int (nI (j + 1))), (3, .int (pgsF N f F1 (nI j))), (0, .ref (a 0)), (1, .ref b1)]) rfl (by decide) dX1_findCheckpoint_67 ?_
            refine z_goto C (tgt := 12) dX1_findCheckpoint_70 (by decide) ?_
            refine z_lv (lv' := [(0, .ref (a 0)), (1, .ref b1), (2, .int (nI (j + 1)))]) [2, 3, 0] rfl ?_
            exact ih12 (j + 1) _ (by omega) (by rw [← hT]; simp only [fcL, fcS, h17_3, h28_4, h35_5, h54_6, ↓reduceIte])
  refine z_lv (lv' := [(0, .ref (a 0)), (1, .ref b1), (2, .int 0)]) [1, 2, 0] rfl ?_
  exact loop12 N 0 _ (by omega) rfl
abbrev rmX1_readPages : Room := { frames := 3, cells := 0, slots := 0, locals := 72 }
theorem hyX1_readPages : yX1_readPages.cls = RX1 ∧ yX1_readPages.cls ≠ "java/lang/invoke/MethodHandle" ∧ yX1_readPages.cls ≠ "java/lang/invoke/VarHandle" ∧ (parseMethodDescriptor yX1_readPages.desc).map (fun d => d.parameters.length) = some 2 := by decide +kernel
set_option maxHeartbeats 4000000 in
set_option maxRecDepth 100000 in
theorem c_X1_readPages (E : GE) (N : Nat) (hN : 16 ≤ N ∧ N ≤ 64) (b1 b2 : Nat) (f : Nat → Int32) (a : Nat → Nat) (F : FS) (a2 : Nat → Nat) (D : DS) : zV E yX1_readPages wsX1_readPages rmX1_readPages [.ref (a 0), .ref b1, .ref (a2 0)] ((wF E a F) ++ (wS E b1 b2 N f) ++ (wD E a2 D)) ((wF E a (fsRe F (rdAll N f F D).1)) ++ (wS E b1 b2 N f) ++ (wD E a2 ((rdAll N f F D).2))) := by
  refine zV_of (cc := cX1_readPages) (maxL := 5) (by decide) rfl (Nat.le_of_ble_eq_true rfl) ?_
  intro K C ret
  replace C : zC E K cX1_readPages wsX1_readPages RX1 rmX1_readPages 5 := C
  have in1 : ∀ w ∈ wsX10, w ∈ wsX1_readPages := fun w h => List.mem_cons_of_mem _ (List.mem_append_left _ (List.mem_append_left _ (List.mem_append_right _ (h))))
  have l15 : zw K (.fieldLink RX1 15 "StoreLog3$Finder" "firstPage" "I") := C.w (List.mem_cons_of_mem _ (List.mem_append_left _ (List.mem_append_left _ (List.mem_append_left _ (List.mem_append_left _ (List.mem_of_getElem? (i := 0) rfl))))))
  have l19 : zw K (.fieldLink RX1 19 "StoreLog3$Finder" "runEnd" "I") := C.w (List.mem_cons_of_mem _ (List.mem_append_left _ (List.mem_append_left _ (List.mem_append_left _ (List.mem_append_left _ (List.mem_of_getElem? (i := 2) rfl))))))
  have l26 : zw K (.fieldLink RX1 26 "StoreLog3$Finder" "pages" "I") := C.w (List.mem_cons_of_mem _ (List.mem_append_left _ (List.mem_append_left _ (List.mem_append_left _ (List.mem_append_left _ (List.mem_of_getElem? (i := 1) rfl))))))
  show Z E K 0 0 ((wF E a F) ++ (wS E b1 b2 N f) ++ (wD E a2 D)) 0 [(0, .ref (a 0)), (1, .ref b1), (2, .ref (a2 0))] []
  refine z_aload_n C 0 rfl rfl dX1_readPages_0 ?_
  refine z_get C (Cn := RX1) (T := TX1) (Nf := 4) (ci := 1) in1 0 1 l15 (v := .int (fFp F)) rfl rfl (by decide) rfl dX1_readPages_1 ?_
  refine z_istore_n C (lv' := [(3, .int (fFp F)), (0, .ref (a 0)), (1, .ref b1), (2, .ref (a2 0))]) rfl rfl (by decide) dX1_readPages_4 ?_
  refine z_iconst C (v := 0) (by decide) dX1_readPages_5 ?_
  refine z_istore C (lv' := [(4, .int 0), (3, .int (fFp F)), (0, .ref (a 0)), (1, .ref b1), (2, .ref (a2 0))]) rfl (by decide) dX1_readPages_6 ?_
  have loop8 : ∀ (n j : Nat) (s re : Int32) (D1 : DS), j + n = (fPg F).toNatClampNeg → rdL N f n s (re, D1) = rdL N f (fPg F).toNatClampNeg (fFp F) (fRe F, D) → Z E K 0 0 ((wF E a (fsRe F re)) ++ (wS E b1 b2 N f) ++ (wD E a2 D1)) 8 [(0, .ref (a 0)), (1, .ref b1), (2, .ref (a2 0)), (3, .int s), (4, .int (nI j))] [] := by
    intro n
    induction n with
    | zero => 
      intro j s re D1 hj hT
      have hjB : j = (fPg F).toNatClampNeg := by omega
      subst hjB
      refine z_iload C 4 rfl dX1_readPages_8 ?_
      refine z_aload_n C 0 rfl rfl dX1_readPages_10 ?_
      refine z_get C (Cn := RX1) (T := TX1) (Nf := 4) (ci := 1) in1 0 2 l26 (v := .int (fPg F)) rfl rfl (by decide) rfl dX1_readPages_11 ?_
      refine z_icmp_ge C (tgt := 40) dX1_readPages_14 (by decide) (fun h14_1 => ?_) (fun h14_1 => absurd zclY h14_1)
      exact ret _ _ _ (by unfold rdAll; rw [← hT]; rfl) dX1_readPages_40
    | succ n ih8 => 
      intro j s re D1 hj hT
      refine z_iload C 4 rfl dX1_readPages_8 ?_
      refine z_aload_n C 0 rfl rfl dX1_readPages_10 ?_
      refine z_get C (Cn := RX1) (T := TX1) (Nf := 4) (ci := 1) in1 0 2 l26 (v := .int (fPg F)) rfl rfl (by decide) rfl dX1_readPages_11 ?_
      refine z_icmp_ge C (tgt := 40) dX1_readPages_14 (by decide) (fun h14_2 => absurd h14_2 (zclN hj)) (fun h14_2 => ?_)
      refine z_aload_n C 1 rfl rfl dX1_readPages_17 ?_
      refine z_iload_n C 3 rfl rfl dX1_readPages_18 ?_
      refine z_aload_n C 2 rfl rfl dX1_readPages_19 ?_
      refine z_callSV C (c_X1_readPage E N hN b1 b2 f a2 D1 s) gX1_readPages_X1_readPage hyX1_readPage.2 rfl ⟨rfl, rfl⟩ ⟨by decide, by decide⟩ ⟨by decide, by decide⟩ [2, 3, 4, 5, 6, 7] [0, 1] [0, 1, 2, 3, 4, 5, 6, 7] (wr := [((a 0), .inr (1, [.ref (a 1), .int (fFp F), .int (fPg F), .int re])), ((a 1), .inl (gZ E, 64, .inl (fTe F)))]) (V' := ((wF E a (fsRe F re)) ++ (wS E b1 b2 N f) ++ (wD E a2 (rPage N f s D1)))) rfl rfl (by decide) (by decide) (by decide) rfl (by decide) (st := []) (Nat.le_of_ble_eq_true rfl) dX1_readPages_20 ?_ rfl
      refine z_aload_n C 0 rfl rfl dX1_readPages_23 ?_
      refine z_iload_n C 3 rfl rfl dX1_readPages_24 ?_
      refine z_put C (Cn := RX1) (T := TX1) (Nf := 4) (ci := 1) in1 0 3 l19 rfl rfl (by decide) tyX1 tyX1_ok nmX1 rfl rfl rfl (Nat.le_of_ble_eq_true rfl) (V' := ((wF E a (fsRe F s)) ++ (wS E b1 b2 N f) ++ (wD E a2 (rPage N f s D1)))) rfl dX1_readPages_25 ?_
      refine z_aload_n C 1 rfl rfl dX1_readPages_28 ?_
      refine z_iload_n C 3 rfl rfl dX1_readPages_29 ?_
      refine z_rVI C (c_X3_behind E N hN b1 b2 f s) gX1_readPages_X3_behind (ci := 3) (q0 := 0) rfl rfl hyX3_behind rfl ⟨rfl, rfl⟩ ⟨by decide, by decide⟩ ⟨by decide, by decide⟩ [2, 3] rfl (by decide) (st := []) (Nat.le_of_ble_eq_true rfl) dX1_readPages_30 ?_ rfl
      refine z_istore_n C (lv' := [(3, .int (bhd N s)), (0, .ref (a 0)), (1, .ref b1), (2, .ref (a2 0)), (4, .int (nI j))]) rfl rfl (by decide) dX1_readPages_33 ?_
      refine z_iinc C 4 rfl (v := (nI (j + 1))) (zinc _) (lv' := [(4, .int (nI (j + 1))), (3, .int (bhd N s)), (0, .ref (a 0)), (1, .ref b1), (2, .ref (a2 0))]) rfl (by decide) dX1_readPages_34 ?_
      refine z_goto C (tgt := 8) dX1_readPages_37 (by decide) ?_
      refine z_lv (lv' := [(0, .ref (a 0)), (1, .ref b1), (2, .ref (a2 0)), (3, .int (bhd N s)), (4, .int (nI (j + 1)))]) [2, 3, 4, 1, 0] rfl ?_
      exact ih8 (j + 1) _ _ _ (by omega) hT
  refine z_lv (lv' := [(0, .ref (a 0)), (1, .ref b1), (2, .ref (a2 0)), (3, .int (fFp F)), (4, .int 0)]) [2, 3, 4, 1, 0] rfl ?_
  exact loop8 (fPg F).toNatClampNeg 0 (fFp F) (fRe F) D (by omega) rfl
abbrev rmX1_goOverRun : Room := { frames := 4, cells := 0, slots := 0, locals := 93 }
theorem hyX1_goOverRun : yX1_goOverRun.cls = RX1 ∧ yX1_goOverRun.cls ≠ "java/lang/invoke/MethodHandle" ∧ yX1_goOverRun.cls ≠ "java/lang/invoke/VarHandle" ∧ (parseMethodDescriptor yX1_goOverRun.desc).map (fun d => d.parameters.length) = some 2 := by decide +kernel
set_option maxHeartbeats 4000000 in
set_option maxRecDepth 100000 in
theorem c_X1_goOverRun (E : GE) (N : Nat) (hN : 16 ≤ N ∧ N ≤ 64) (b1 b2 : Nat) (f : Nat → Int32) (a : Nat → Nat) (F : FS) (a2 : Nat → Nat) (D : DS) : zV E yX1_goOverRun wsX1_goOverRun rmX1_goOverRun [.ref (a 0), .ref b1, .ref (a2 0)] ((wF E a F) ++ (wS E b1 b2 N f) ++ (wD E a2 D)) ((wF E a ((gRun N f F D).1)) ++ (wS E b1 b2 N f) ++ (wD E a2 ((gRun N f F D).2))) := by
  refine zV_of (cc := cX1_goOverRun) (maxL := 5) (by decide) rfl (Nat.le_of_ble_eq_true rfl) ?_
  intro K C ret
  replace C : zC E K cX1_goOverRun wsX1_goOverRun RX1 rmX1_goOverRun 5 := C
  have in1 : ∀ w ∈ wsX10, w ∈ wsX1_goOverRun := fun w h => List.mem_cons_of_mem _ (List.mem_append_left _ (List.mem_append_left _ (List.mem_append_right _ (h))))
  have l19 : zw K (.fieldLink RX1 19 "StoreLog3$Finder" "runEnd" "I") := C.w (List.mem_cons_of_mem _ (List.mem_append_left _ (List.mem_append_left _ (List.mem_append_left _ (List.mem_append_left _ (List.mem_of_getElem? (i := 0) rfl))))))
  show Z E K 0 0 ((wF E a F) ++ (wS E b1 b2 N f) ++ (wD E a2 D)) 0 [(0, .ref (a 0)), (1, .ref b1), (2, .ref (a2 0))] []
  refine z_iconst C (v := 0) (by decide) dX1_goOverRun_0 ?_
  refine z_istore_n C (lv' := [(3, .int 0), (0, .ref (a 0)), (1, .ref b1), (2, .ref (a2 0))]) rfl rfl (by decide) dX1_goOverRun_1 ?_
  have loop2 : ∀ (n j : Nat) (F1 : FS) (D1 : DS), j + n = N → grL N f n (F1, D1) = grL N f N (F, D) → Z E K 0 0 ((wF E a F1) ++ (wS E b1 b2 N f) ++ (wD E a2 D1)) 2 [(0, .ref (a 0)), (1, .ref b1), (2, .ref (a2 0)), (3, .int (nI j))] [] := by
    intro n
    induction n with
    | zero => 
      intro j F1 D1 hj hT
      obtain rfl : N = j := by omega
      refine z_iload_n C 3 rfl rfl dX1_goOverRun_2 ?_
      refine z_aload_n C 1 rfl rfl dX1_goOverRun_3 ?_
      refine z_rVI C (c_X3_size E N hN b1 b2 f) gX1_goOverRun_X3_size (ci := 3) (q0 := 0) rfl rfl hyX3_size rfl ⟨rfl, rfl⟩ ⟨by decide, by decide⟩ ⟨by decide, by decide⟩ [2, 3] rfl (by decide) (st := [.int (nI N)]) (Nat.le_of_ble_eq_true rfl) dX1_goOverRun_4 ?_ rfl
      refine z_icmp_ge C (tgt := 79) dX1_goOverRun_7 (by decide) (fun h7_1 => ?_) (fun h7_1 => absurd (nI_le (a := N) (b := N) (Nat.le_refl _) (by omega)) h7_1)
      exact ret _ _ _ (by unfold gRun; rw [← hT]; first | rfl | (simp only [grL, h7_1, ↓reduceIte]; done)) dX1_goOverRun_79
    | succ n ih2 => 
      intro j F1 D1 hj hT
      refine z_iload_n C 3 rfl rfl dX1_goOverRun_2 ?_
      refine z_aload_n C 1 rfl rfl dX1_goOverRun_3 ?_
      refine z_rVI C (c_X3_size E N hN b1 b2 f) gX1_goOverRun_X3_size (ci := 3) (q0 := 0) rfl rfl hyX3_size rfl ⟨rfl, rfl⟩ ⟨by decide, by decide⟩ ⟨by decide, by decide⟩ [2, 3] rfl (by decide) (st := [.int (nI j)]) (Nat.le_of_ble_eq_true rfl) dX1_goOverRun_4 ?_ rfl
      refine z_icmp_ge C (tgt := 79) dX1_goOverRun_7 (by decide) (fun h7_2 => absurd h7_2 (nI_ge (a := j) (b := N) (by omega) (by omega))) (fun h7_2 => ?_)
      refine z_aload_n C 1 rfl rfl dX1_goOverRun_10 ?_
      refine z_aload_n C 0 rfl rfl dX1_goOverRun_11 ?_
      refine z_get C (Cn := RX1) (T := TX1) (Nf := 4) (ci := 1) in1 0 3 l19 (v := .int (fRe F1)) rfl rfl (by decide) rfl dX1_goOverRun_12 ?_
      refine z_rVI C (c_X3_behind E N hN b1 b2 f (fRe F1)) gX1_goOverRun_X3_behind (ci := 3) (q0 := 0) rfl rfl hyX3_behind rfl ⟨rfl, rfl⟩ ⟨by decide, by decide⟩ ⟨by decide, by decide⟩ [2, 3] rfl (by decide) (st := []) (Nat.le_of_ble_eq_true rfl) dX1_goOverRun_15 ?_ rfl
      refine z_istore C (lv' := [(4, .int (bhd N (fRe F1))), (0, .ref (a 0)), (1, .ref b1), (2, .ref (a2 0)), (3, .int (nI j))]) rfl (by decide) dX1_goOverRun_18 ?_
      refine z_aload_n C 1 rfl rfl dX1_goOverRun_20 ?_
      refine z_iload C 0 rfl dX1_goOverRun_21 ?_
      refine z_rVI C (c_X1_isTelling E a F1 (bhd N (fRe F1))) gX1_goOverRun_X1_isTelling (ci := 1) (q0 := 0) rfl rfl hyX1_isTelling rfl ⟨rfl, rfl⟩ ⟨by decide, by decide⟩ ⟨by decide, by decide⟩ [0, 1] rfl (by decide) (st := []) (Nat.le_of_ble_eq_true rfl) dX1_goOverRun_23 ?_ rfl
      refine z_if_eq C (tgt := 48) dX1_goOverRun_26 (by decide) (fun h26_3 => ?_) (fun h26_3 => ?_)
      · exact ret _ _ _ (by unfold gRun; rw [← hT]; first | rfl | (simp only [grL, h7_2, h26_3, ↓reduceIte]; done)) dX1_goOverRun_48
      · refine z_aload_n C 2 rfl rfl dX1_goOverRun_29 ?_
        refine z_iload C 0 rfl dX1_goOverRun_30 ?_
        refine z_rVI C (c_X3_serialOf E N hN b1 b2 f (bhd N (fRe F1))) gX1_goOverRun_X3_serialOf (ci := 3) (q0 := 0) rfl rfl hyX3_serialOf rfl ⟨rfl, rfl⟩ ⟨by decide, by decide⟩ ⟨by decide, by decide⟩ [2, 3] rfl (by decide) (st := []) (Nat.le_of_ble_eq_true rfl) dX1_goOverRun_32 ?_ rfl
        refine z_aload_n C 2 rfl rfl dX1_goOverRun_35 ?_
        refine z_aload_n C 1 rfl rfl dX1_goOverRun_36 ?_
        refine z_get C (Cn := RX1) (T := TX1) (Nf := 4) (ci := 1) in1 0 3 l19 (v := .int (fRe F1)) rfl rfl (by decide) rfl dX1_goOverRun_37 ?_
        refine z_rVI C (c_X3_serialOf E N hN b1 b2 f (fRe F1)) gX1_goOverRun_X3_serialOf (ci := 3) (q0 := 0) rfl rfl hyX3_serialOf rfl ⟨rfl, rfl⟩ ⟨by decide, by decide⟩ ⟨by decide, by decide⟩ [2, 3] rfl (by decide) (st := [.int (nOf N f (bhd N (fRe F1)) 1 4)]) (Nat.le_of_ble_eq_true rfl) dX1_goOverRun_40 ?_ rfl
        refine z_iconst C (v := 1) (by decide) dX1_goOverRun_43 ?_
        refine z_iadd C dX1_goOverRun_44 ?_
        refine z_icmp_eq C (tgt := 49) dX1_goOverRun_45 (by decide) (fun h45_4 => ?_) (fun h45_4 => ?_)
        · refine z_aload_n C 2 rfl rfl dX1_goOverRun_49 ?_
          refine z_iload C 0 rfl dX1_goOverRun_50 ?_
          refine z_iconst C (v := 0) (by decide) dX1_goOverRun_52 ?_
          refine z_rVI C (c_X3_byteOf E N hN b1 b2 f (bhd N (fRe F1)) 0) gX1_goOverRun_X3_byteOf (ci := 3) (q0 := 0) rfl rfl hyX3_byteOf rfl ⟨rfl, rfl⟩ ⟨by decide, by decide⟩ ⟨by decide, by decide⟩ [2, 3] rfl (by decide) (st := []) (Nat.le_of_ble_eq_true rfl) dX1_goOverRun_53 ?_ rfl
          refine z_iconst C (v := 1) (by decide) dX1_goOverRun_56 ?_
          refine z_icmp_ne C (tgt := 67) dX1_goOverRun_57 (by decide) (fun h57_5 => ?_) (fun h57_5 => ?_)
          · refine z_aload_n C 1 rfl rfl dX1_goOverRun_67 ?_
            refine z_iload C 0 rfl dX1_goOverRun_68 ?_
            refine z_put C (Cn := RX1) (T := TX1) (Nf := 4) (ci := 1) in1 0 3 l19 rfl rfl (by decide) tyX1 tyX1_ok nmX1 rfl rfl rfl (Nat.le_of_ble_eq_true rfl) (V' := ((wF E a (fsRe F1 (bhd N (fRe F1)))) ++ (wS E b1 b2 N f) ++ (wD E a2 D1))) rfl dX1_goOverRun_70 ?_
            refine z_iinc C 4 rfl (v := (nI (j + 1))) (zinc _) (lv' := [(3, .int (nI (j + 1))), (4, .int (bhd N (fRe F1))), (0, .ref (a 0)), (1, .ref b1), (2, .ref (a2 0))]) rfl (by decide) dX1_goOverRun_73 ?_
            refine z_goto C (tgt := 2) dX1_goOverRun_76 (by decide) ?_
            refine z_lv (lv' := [(0, .ref (a 0)), (1, .ref b1), (2, .ref (a2 0)), (3, .int (nI (j + 1)))]) [2, 3, 4, 0] rfl ?_
            exact ih2 (j + 1) _ _ (by omega) (by rw [← hT]; simp only [grL, h7_2, h26_3, h45_4, h57_5, ↓reduceIte])
          · refine z_aload_n C 2 rfl rfl dX1_goOverRun_60 ?_
            refine z_iload C 0 rfl dX1_goOverRun_61 ?_
            refine z_aload_n C 3 rfl rfl dX1_goOverRun_63 ?_
            refine z_callSV C (c_X1_goOverLog E N hN b1 b2 f a2 D1 (bhd N (fRe F1))) gX1_goOverRun_X1_goOverLog hyX1_goOverLog.2 rfl ⟨rfl, rfl⟩ ⟨by decide, by decide⟩ ⟨by decide, by decide⟩ [2, 3, 4, 5, 6, 7] [0, 1] [0, 1, 2, 3, 4, 5, 6, 7] (wr := [((a 0), .inr (1, [.ref (a 1), .int (fFp F1), .int (fPg F1), .int (fRe F1)])), ((a 1), .inl (gZ E, 64, .inl (fTe F1)))]) (V' := ((wF E a F1) ++ (wS E b1 b2 N f) ++ (wD E a2 (gLog N f (bhd N (fRe F1)) D1)))) rfl rfl (by decide) (by decide) (by decide) rfl (by decide) (st := []) (Nat.le_of_ble_eq_true rfl) dX1_goOverRun_64 ?_ rfl
            refine z_aload_n C 1 rfl rfl dX1_goOverRun_67 ?_
            refine z_iload C 0 rfl dX1_goOverRun_68 ?_
            refine z_put C (Cn := RX1) (T := TX1) (Nf := 4) (ci := 1) in1 0 3 l19 rfl rfl (by decide) tyX1 tyX1_ok nmX1 rfl rfl rfl (Nat.le_of_ble_eq_true rfl) (V' := ((wF E a (fsRe F1 (bhd N (fRe F1)))) ++ (wS E b1 b2 N f) ++ (wD E a2 (gLog N f (bhd N (fRe F1)) D1)))) rfl dX1_goOverRun_70 ?_
            refine z_iinc C 4 rfl (v := (nI (j + 1))) (zinc _) (lv' := [(3, .int (nI (j + 1))), (4, .int (bhd N (fRe F1))), (0, .ref (a 0)), (1, .ref b1), (2, .ref (a2 0))]) rfl (by decide) dX1_goOverRun_73 ?_
            refine z_goto C (tgt := 2) dX1_goOverRun_76 (by decide) ?_
            refine z_lv (lv' := [(0, .ref (a 0)), (1, .ref b1), (2, .ref (a2 0)), (3, .int (nI (j + 1)))]) [2, 3, 4, 0] rfl ?_
            exact ih2 (j + 1) _ _ (by omega) (by rw [← hT]; simp only [grL, h7_2, h26_3, h45_4, h57_5, ↓reduceIte])
        · exact ret _ _ _ (by unfold gRun; rw [← hT]; first | rfl | (simp only [grL, h7_2, h26_3, h45_4, ↓reduceIte]; done)) dX1_goOverRun_48
  refine z_lv (lv' := [(0, .ref (a 0)), (1, .ref b1), (2, .ref (a2 0)), (3, .int 0)]) [1, 2, 3, 0] rfl ?_
  exact loop2 N 0 F D (by omega) rfl
end

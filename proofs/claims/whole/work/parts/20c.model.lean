abbrev rmX5_put : Room := { frames := 5, cells := 0, slots := 0, locals := 112 }
theorem hyX5_put : yX5_put.cls = RX5 ∧ yX5_put.cls ≠ "java/lang/invoke/MethodHandle" ∧ yX5_put.cls ≠ "java/lang/invoke/VarHandle" ∧ (parseMethodDescriptor yX5_put.desc).map (fun d => d.parameters.length) = some 3 := by decide +kernel
set_option maxHeartbeats 4000000 in
set_option maxRecDepth 3000 in
theorem c_X5_put (E : GE) (N : Nat) (hN : 16 ≤ N ∧ N ≤ 64) (a : Nat → Nat) (M : MS) (t : Int32) (k : Int32) (v : Int32) (e : Nat) (he : mEn M = nI e) (he3 : e ≤ 3) (w c : Nat) (hw : mWa M = nI w) (hw2 : w < 64) (hc : mSc M = nI c) (hc2 : c < N) : zI E yX5_put wsX5_put rmX5_put [.ref (a 0), .int t, .int k, .int v] (wM E a N M) ((mPut N M t k v e w c).1) (wM E a N ((mPut N M t k v e w c).2)) := by
  refine zI_of (cc := cX5_put) (maxL := 4) (ty := .int) (by decide) rfl (vp_nar_int _) (Nat.le_of_ble_eq_true rfl) ?_
  intro K C ret
  replace C : zC E K cX5_put wsX5_put RX5 rmX5_put 4 := C
  have in5 : ∀ w ∈ wsX50, w ∈ wsX5_put := fun w h => List.mem_cons_of_mem _ (List.mem_append_right _ (h))
  have l36 : zw K (.fieldLink RX5 36 "StoreLog3Model" "holders" "[I") := C.w (List.mem_cons_of_mem _ (List.mem_append_left _ (List.mem_append_left _ (List.mem_of_getElem? (i := 2) rfl))))
  have l39 : zw K (.fieldLink RX5 39 "StoreLog3Model" "held" "[I") := C.w (List.mem_cons_of_mem _ (List.mem_append_left _ (List.mem_append_left _ (List.mem_of_getElem? (i := 3) rfl))))
  have l64 : zw K (.fieldLink RX5 64 "StoreLog3Model" "isDown" "Z") := C.w (List.mem_cons_of_mem _ (List.mem_append_left _ (List.mem_append_left _ (List.mem_of_getElem? (i := 0) rfl))))
  have l121 : zw K (.constant RX5 121 (16777215)) := C.w (List.mem_cons_of_mem _ (List.mem_append_left _ (List.mem_append_left _ (List.mem_of_getElem? (i := 1) rfl))))
  show Z E K 0 0 (wM E a N M) 0 [(0, .ref (a 0)), (1, .int t), (2, .int k), (3, .int v)] []
  refine z_aload_n C 0 rfl rfl dX5_put_0 ?_
  refine z_get C (Cn := RX5) (T := TX5) (Nf := 20) (ci := 5) in5 0 2 l64 (v := .int (mDn M)) rfl rfl (by decide) rfl dX5_put_1 ?_
  refine z_if_eq C (tgt := 10) dX5_put_4 (by decide) (fun h4_1t => ?_) (fun h4_1f => ?_)
  · refine z_aload_n C 0 rfl rfl dX5_put_10 ?_
    refine z_iload_n C 1 rfl rfl dX5_put_11 ?_
    refine z_rVI C (c_X5_isOpenOne E N hN a M t) gX5_put_X5_isOpenOne (ci := 5) (q0 := 0) rfl rfl hyX5_isOpenOne rfl ⟨rfl, rfl⟩ ⟨by decide, by decide⟩ ⟨by decide, by decide⟩ [0, 1, 2, 3, 4, 5, 6, 7, 8, 9, 10, 11] rfl (by decide) (st := []) (Nat.le_of_ble_eq_true rfl) dX5_put_12 ?_ rfl
    refine z_if_eq C (tgt := 35) dX5_put_15 (by decide) (fun h15_2t => ?_) (fun h15_2f => ?_)
    · refine z_iconst C (v := (-1)) (by decide) dX5_put_35 ?_
      exact ret _ _ _ _ (by first | rfl | (simp only [mPut, mPutE, if_pos h4_1t, if_pos h15_2t, ↓reduceIte]; done) | (simp only [mPut, mPutE, if_pos h4_1t, if_pos h15_2t, ↓reduceIte]; rfl) | (simp [mPut, mPutE, if_pos h4_1t, if_pos h15_2t, ↓reduceIte]; done)) (by first | rfl | (simp only [mPut, mPutE, if_pos h4_1t, if_pos h15_2t, ↓reduceIte]; done) | (simp only [mPut, mPutE, if_pos h4_1t, if_pos h15_2t, ↓reduceIte]; rfl) | (simp [mPut, mPutE, if_pos h4_1t, if_pos h15_2t, ↓reduceIte]; done)) dX5_put_36
    · refine z_iload_n C 2 rfl rfl dX5_put_18 ?_
      refine z_rSI C (c_X5_isKey E k) gX5_put_X5_isKey hyX5_isKey.2 rfl ⟨rfl, rfl⟩ ⟨by decide, by decide⟩ ⟨by decide, by decide⟩ [] rfl (by decide) (st := []) (Nat.le_of_ble_eq_true rfl) dX5_put_19 ?_ rfl
      refine z_if_eq C (tgt := 35) dX5_put_22 (by decide) (fun h22_3t => ?_) (fun h22_3f => ?_)
      · refine z_iconst C (v := (-1)) (by decide) dX5_put_35 ?_
        exact ret _ _ _ _ (by first | rfl | (simp only [mPut, mPutE, if_pos h4_1t, if_neg h15_2f, if_pos h22_3t, ↓reduceIte]; done) | (simp only [mPut, mPutE, if_pos h4_1t, if_neg h15_2f, if_pos h22_3t, ↓reduceIte]; rfl) | (simp [mPut, mPutE, if_pos h4_1t, if_neg h15_2f, if_pos h22_3t, ↓reduceIte]; done)) (by first | rfl | (simp only [mPut, mPutE, if_pos h4_1t, if_neg h15_2f, if_pos h22_3t, ↓reduceIte]; done) | (simp only [mPut, mPutE, if_pos h4_1t, if_neg h15_2f, if_pos h22_3t, ↓reduceIte]; rfl) | (simp [mPut, mPutE, if_pos h4_1t, if_neg h15_2f, if_pos h22_3t, ↓reduceIte]; done)) dX5_put_36
      · refine z_iload_n C 3 rfl rfl dX5_put_25 ?_
        refine z_iconst C (v := (-1)) (by decide) dX5_put_26 ?_
        refine z_ldc C l121 dX5_put_27 ?_
        refine z_rSI C (c_X5_isIn E v (-1) 16777215) gX5_put_X5_isIn hyX5_isIn.2 rfl ⟨rfl, rfl⟩ ⟨by decide, by decide⟩ ⟨by decide, by decide⟩ [] rfl (by decide) (st := []) (Nat.le_of_ble_eq_true rfl) dX5_put_29 ?_ rfl
        refine z_if_ne C (tgt := 37) dX5_put_32 (by decide) (fun h32_4t => ?_) (fun h32_4f => ?_)
        · refine z_aload_n C 0 rfl rfl dX5_put_37 ?_
          refine z_get C (Cn := RX5) (T := TX5) (Nf := 20) (ci := 5) in5 0 16 l36 (v := .ref (a 9)) rfl rfl (by decide) rfl dX5_put_38 ?_
          refine z_iload_n C 2 rfl rfl dX5_put_41 ?_
          refine z_iald C 9 rfl (mIn31 h22_3f) (v := ((mHo M) k.toNatClampNeg)) rfl dX5_put_42 ?_
          refine z_iconst C (v := (-1)) (by decide) dX5_put_43 ?_
          refine z_icmp_eq C (tgt := 59) dX5_put_44 (by decide) (fun h44_5t => ?_) (fun h44_5f => ?_)
          · refine z_aload_n C 0 rfl rfl dX5_put_59 ?_
            refine z_rVI C (c_X5_mayAdd E N hN a M) gX5_put_X5_mayAdd (ci := 5) (q0 := 0) rfl rfl hyX5_mayAdd rfl ⟨rfl, rfl⟩ ⟨by decide, by decide⟩ ⟨by decide, by decide⟩ [0, 1, 2, 3, 4, 5, 6, 7, 8, 9, 10, 11] rfl (by decide) (st := []) (Nat.le_of_ble_eq_true rfl) dX5_put_60 ?_ rfl
            refine z_if_ne C (tgt := 69) dX5_put_63 (by decide) (fun h63_6t => ?_) (fun h63_6f => ?_)
            · refine z_aload_n C 0 rfl rfl dX5_put_69 ?_
              refine z_get C (Cn := RX5) (T := TX5) (Nf := 20) (ci := 5) in5 0 16 l36 (v := .ref (a 9)) rfl rfl (by decide) rfl dX5_put_70 ?_
              refine z_iload_n C 2 rfl rfl dX5_put_73 ?_
              refine z_iload_n C 1 rfl rfl dX5_put_74 ?_
              obtain ⟨fz1, hz1⟩ : ∃ z : Nat → Int32, (upd (mHo M) k.toNatClampNeg t) = z := ⟨_, rfl⟩
              refine z_iast C 9 rfl (mIn31 h22_3f) (g := fz1) (Eq.trans rfl hz1) (V' := (wM E a N (msHo M fz1))) rfl dX5_put_75 ?_
              refine z_aload_n C 0 rfl rfl dX5_put_76 ?_
              refine z_get C (Cn := RX5) (T := TX5) (Nf := 20) (ci := 5) in5 0 17 l39 (v := .ref (a 10)) rfl rfl (by decide) rfl dX5_put_77 ?_
              refine z_iload_n C 2 rfl rfl dX5_put_80 ?_
              refine z_iload_n C 3 rfl rfl dX5_put_81 ?_
              obtain ⟨fz2, hz2⟩ : ∃ z : Nat → Int32, (upd (mHe M) k.toNatClampNeg v) = z := ⟨_, rfl⟩
              refine z_iast C 10 rfl (mIn31 h22_3f) (g := fz2) (Eq.trans rfl hz2) (V' := (wM E a N (msHe (msHo M fz1) fz2))) rfl dX5_put_82 ?_
              refine z_aload_n C 0 rfl rfl dX5_put_83 ?_
              refine z_iconst C (v := 4) (by decide) dX5_put_84 ?_
              refine z_iload_n C 1 rfl rfl dX5_put_85 ?_
              refine z_imul C dX5_put_86 ?_
              refine z_iload_n C 3 rfl rfl dX5_put_87 ?_
              refine z_iconst C (v := (-1)) (by decide) dX5_put_88 ?_
              refine z_icmp_ne C (tgt := 96) dX5_put_89 (by decide) (fun h89_7t => ?_) (fun h89_7f => ?_)
              · refine z_iconst C (v := 0) (by decide) dX5_put_96 ?_
                refine z_iadd C dX5_put_97 ?_
                refine z_iload_n C 2 rfl rfl dX5_put_98 ?_
                refine z_iload_n C 3 rfl rfl dX5_put_99 ?_
                refine z_iconst C (v := (-1)) (by decide) dX5_put_100 ?_
                refine z_icmp_ne C (tgt := 108) dX5_put_101 (by decide) (fun h101_8 => ?_) (fun h101_8 => absurd h101_8 h89_7t)
                refine z_iload_n C 3 rfl rfl dX5_put_108 ?_
                obtain ⟨Mq4, hq109_4⟩ : ∃ z : MS, (mAdd N (msHe (msHo M fz1) fz2) ((4 * t) + 0) k v e w c) = z := ⟨_, rfl⟩
                have ct3 : zV E yX5_add wsX5_add rmX5_add [.ref (a 0), .int ((4 * t) + 0), .int k, .int v] (wM E a N (msHe (msHo M fz1) fz2)) (wM E a N Mq4) := by subst hq109_4; exact c_X5_add E N hN a (msHe (msHo M fz1) fz2) ((4 * t) + 0) k v e he he3 w c hw hw2 hc hc2
                refine z_callVV C ct3 gX5_put_X5_add (ci := 5) (q0 := 0) rfl rfl hyX5_add rfl ⟨rfl, rfl⟩ ⟨by decide, by decide⟩ ⟨by decide, by decide⟩ [0, 1, 2, 3, 4, 5, 6, 7, 8, 9, 10, 11] [] [0, 1, 2, 3, 4, 5, 6, 7, 8, 9, 10, 11] (wr := []) (V' := (wM E a N Mq4)) rfl rfl (by decide) (by decide) (by decide) rfl (by decide) (st := []) (Nat.le_of_ble_eq_true rfl) dX5_put_109 ?_ rfl
                refine z_iconst C (v := 1) (by decide) dX5_put_112 ?_
                subst hq109_4
                subst hz2
                subst hz1
                exact ret _ _ _ _ (by first | rfl | (simp only [mPut, mPutE, if_pos h4_1t, if_neg h15_2f, if_neg h22_3f, if_neg h32_4t, if_pos h44_5t, if_neg h63_6t, if_neg h89_7t, if_neg h101_8, ↓reduceIte]; done) | (simp only [mPut, mPutE, if_pos h4_1t, if_neg h15_2f, if_neg h22_3f, if_neg h32_4t, if_pos h44_5t, if_neg h63_6t, if_neg h89_7t, if_neg h101_8, ↓reduceIte]; rfl) | (simp [mPut, mPutE, if_pos h4_1t, if_neg h15_2f, if_neg h22_3f, if_neg h32_4t, if_pos h44_5t, if_neg h63_6t, if_neg h89_7t, if_neg h101_8, ↓reduceIte]; done)) (by first | rfl | (simp only [mPut, mPutE, if_pos h4_1t, if_neg h15_2f, if_neg h22_3f, if_neg h32_4t, if_pos h44_5t, if_neg h63_6t, if_neg h89_7t, if_neg h101_8, ↓reduceIte]; done) | (simp only [mPut, mPutE, if_pos h4_1t, if_neg h15_2f, if_neg h22_3f, if_neg h32_4t, if_pos h44_5t, if_neg h63_6t, if_neg h89_7t, if_neg h101_8, ↓reduceIte]; rfl) | (simp [mPut, mPutE, if_pos h4_1t, if_neg h15_2f, if_neg h22_3f, if_neg h32_4t, if_pos h44_5t, if_neg h63_6t, if_neg h89_7t, if_neg h101_8, ↓reduceIte]; done)) dX5_put_113
              · refine z_iconst C (v := 1) (by decide) dX5_put_92 ?_
                refine z_goto C (tgt := 97) dX5_put_93 (by decide) ?_
                refine z_iadd C dX5_put_97 ?_
                refine z_iload_n C 2 rfl rfl dX5_put_98 ?_
                refine z_iload_n C 3 rfl rfl dX5_put_99 ?_
                refine z_iconst C (v := (-1)) (by decide) dX5_put_100 ?_
                refine z_icmp_ne C (tgt := 108) dX5_put_101 (by decide) (fun h101_9 => absurd h89_7f h101_9) (fun h101_9 => ?_)
                refine z_iconst C (v := 0) (by decide) dX5_put_104 ?_
                refine z_goto C (tgt := 109) dX5_put_105 (by decide) ?_
                obtain ⟨Mq6, hq109_6⟩ : ∃ z : MS, (mAdd N (msHe (msHo M fz1) fz2) ((4 * t) + 1) k 0 e w c) = z := ⟨_, rfl⟩
                have ct5 : zV E yX5_add wsX5_add rmX5_add [.ref (a 0), .int ((4 * t) + 1), .int k, .int 0] (wM E a N (msHe (msHo M fz1) fz2)) (wM E a N Mq6) := by subst hq109_6; exact c_X5_add E N hN a (msHe (msHo M fz1) fz2) ((4 * t) + 1) k 0 e he he3 w c hw hw2 hc hc2
                refine z_callVV C ct5 gX5_put_X5_add (ci := 5) (q0 := 0) rfl rfl hyX5_add rfl ⟨rfl, rfl⟩ ⟨by decide, by decide⟩ ⟨by decide, by decide⟩ [0, 1, 2, 3, 4, 5, 6, 7, 8, 9, 10, 11] [] [0, 1, 2, 3, 4, 5, 6, 7, 8, 9, 10, 11] (wr := []) (V' := (wM E a N Mq6)) rfl rfl (by decide) (by decide) (by decide) rfl (by decide) (st := []) (Nat.le_of_ble_eq_true rfl) dX5_put_109 ?_ rfl
                refine z_iconst C (v := 1) (by decide) dX5_put_112 ?_
                subst hq109_6
                subst hz2
                subst hz1
                exact ret _ _ _ _ (by first | rfl | (simp only [mPut, mPutE, if_pos h4_1t, if_neg h15_2f, if_neg h22_3f, if_neg h32_4t, if_pos h44_5t, if_neg h63_6t, if_pos h89_7f, if_pos h101_9, ↓reduceIte]; done) | (simp only [mPut, mPutE, if_pos h4_1t, if_neg h15_2f, if_neg h22_3f, if_neg h32_4t, if_pos h44_5t, if_neg h63_6t, if_pos h89_7f, if_pos h101_9, ↓reduceIte]; rfl) | (simp [mPut, mPutE, if_pos h4_1t, if_neg h15_2f, if_neg h22_3f, if_neg h32_4t, if_pos h44_5t, if_neg h63_6t, if_pos h89_7f, if_pos h101_9, ↓reduceIte]; done)) (by first | rfl | (simp only [mPut, mPutE, if_pos h4_1t, if_neg h15_2f, if_neg h22_3f, if_neg h32_4t, if_pos h44_5t, if_neg h63_6t, if_pos h89_7f, if_pos h101_9, ↓reduceIte]; done) | (simp only [mPut, mPutE, if_pos h4_1t, if_neg h15_2f, if_neg h22_3f, if_neg h32_4t, if_pos h44_5t, if_neg h63_6t, if_pos h89_7f, if_pos h101_9, ↓reduceIte]; rfl) | (simp [mPut, mPutE, if_pos h4_1t, if_neg h15_2f, if_neg h22_3f, if_neg h32_4t, if_pos h44_5t, if_neg h63_6t, if_pos h89_7f, if_pos h101_9, ↓reduceIte]; done)) dX5_put_113
            · refine z_bipush C (v := (-2)) (by decide) dX5_put_66 ?_
              exact ret _ _ _ _ (by first | rfl | (simp only [mPut, mPutE, if_pos h4_1t, if_neg h15_2f, if_neg h22_3f, if_neg h32_4t, if_pos h44_5t, if_pos h63_6f, ↓reduceIte]; done) | (simp only [mPut, mPutE, if_pos h4_1t, if_neg h15_2f, if_neg h22_3f, if_neg h32_4t, if_pos h44_5t, if_pos h63_6f, ↓reduceIte]; rfl) | (simp [mPut, mPutE, if_pos h4_1t, if_neg h15_2f, if_neg h22_3f, if_neg h32_4t, if_pos h44_5t, if_pos h63_6f, ↓reduceIte]; done)) (by first | rfl | (simp only [mPut, mPutE, if_pos h4_1t, if_neg h15_2f, if_neg h22_3f, if_neg h32_4t, if_pos h44_5t, if_pos h63_6f, ↓reduceIte]; done) | (simp only [mPut, mPutE, if_pos h4_1t, if_neg h15_2f, if_neg h22_3f, if_neg h32_4t, if_pos h44_5t, if_pos h63_6f, ↓reduceIte]; rfl) | (simp [mPut, mPutE, if_pos h4_1t, if_neg h15_2f, if_neg h22_3f, if_neg h32_4t, if_pos h44_5t, if_pos h63_6f, ↓reduceIte]; done)) dX5_put_68
          · refine z_aload_n C 0 rfl rfl dX5_put_47 ?_
            refine z_get C (Cn := RX5) (T := TX5) (Nf := 20) (ci := 5) in5 0 16 l36 (v := .ref (a 9)) rfl rfl (by decide) rfl dX5_put_48 ?_
            refine z_iload_n C 2 rfl rfl dX5_put_51 ?_
            refine z_iald C 9 rfl (mIn31 h22_3f) (v := ((mHo M) k.toNatClampNeg)) rfl dX5_put_52 ?_
            refine z_iload_n C 1 rfl rfl dX5_put_53 ?_
            refine z_icmp_eq C (tgt := 59) dX5_put_54 (by decide) (fun h54_10t => ?_) (fun h54_10f => ?_)
            · refine z_aload_n C 0 rfl rfl dX5_put_59 ?_
              refine z_rVI C (c_X5_mayAdd E N hN a M) gX5_put_X5_mayAdd (ci := 5) (q0 := 0) rfl rfl hyX5_mayAdd rfl ⟨rfl, rfl⟩ ⟨by decide, by decide⟩ ⟨by decide, by decide⟩ [0, 1, 2, 3, 4, 5, 6, 7, 8, 9, 10, 11] rfl (by decide) (st := []) (Nat.le_of_ble_eq_true rfl) dX5_put_60 ?_ rfl
              refine z_if_ne C (tgt := 69) dX5_put_63 (by decide) (fun h63_11t => ?_) (fun h63_11f => ?_)
              · refine z_aload_n C 0 rfl rfl dX5_put_69 ?_
                refine z_get C (Cn := RX5) (T := TX5) (Nf := 20) (ci := 5) in5 0 16 l36 (v := .ref (a 9)) rfl rfl (by decide) rfl dX5_put_70 ?_
                refine z_iload_n C 2 rfl rfl dX5_put_73 ?_
                refine z_iload_n C 1 rfl rfl dX5_put_74 ?_
                obtain ⟨fz7, hz7⟩ : ∃ z : Nat → Int32, (upd (mHo M) k.toNatClampNeg t) = z := ⟨_, rfl⟩
                refine z_iast C 9 rfl (mIn31 h22_3f) (g := fz7) (Eq.trans rfl hz7) (V' := (wM E a N (msHo M fz7))) rfl dX5_put_75 ?_
                refine z_aload_n C 0 rfl rfl dX5_put_76 ?_
                refine z_get C (Cn := RX5) (T := TX5) (Nf := 20) (ci := 5) in5 0 17 l39 (v := .ref (a 10)) rfl rfl (by decide) rfl dX5_put_77 ?_
                refine z_iload_n C 2 rfl rfl dX5_put_80 ?_
                refine z_iload_n C 3 rfl rfl dX5_put_81 ?_
                obtain ⟨fz8, hz8⟩ : ∃ z : Nat → Int32, (upd (mHe M) k.toNatClampNeg v) = z := ⟨_, rfl⟩
                refine z_iast C 10 rfl (mIn31 h22_3f) (g := fz8) (Eq.trans rfl hz8) (V' := (wM E a N (msHe (msHo M fz7) fz8))) rfl dX5_put_82 ?_
                refine z_aload_n C 0 rfl rfl dX5_put_83 ?_
                refine z_iconst C (v := 4) (by decide) dX5_put_84 ?_
                refine z_iload_n C 1 rfl rfl dX5_put_85 ?_
                refine z_imul C dX5_put_86 ?_
                refine z_iload_n C 3 rfl rfl dX5_put_87 ?_
                refine z_iconst C (v := (-1)) (by decide) dX5_put_88 ?_
                refine z_icmp_ne C (tgt := 96) dX5_put_89 (by decide) (fun h89_12t => ?_) (fun h89_12f => ?_)
                · refine z_iconst C (v := 0) (by decide) dX5_put_96 ?_
                  refine z_iadd C dX5_put_97 ?_
                  refine z_iload_n C 2 rfl rfl dX5_put_98 ?_
                  refine z_iload_n C 3 rfl rfl dX5_put_99 ?_
                  refine z_iconst C (v := (-1)) (by decide) dX5_put_100 ?_
                  refine z_icmp_ne C (tgt := 108) dX5_put_101 (by decide) (fun h101_13 => ?_) (fun h101_13 => absurd h101_13 h89_12t)
                  refine z_iload_n C 3 rfl rfl dX5_put_108 ?_
                  obtain ⟨Mq10, hq109_10⟩ : ∃ z : MS, (mAdd N (msHe (msHo M fz7) fz8) ((4 * t) + 0) k v e w c) = z := ⟨_, rfl⟩
                  have ct9 : zV E yX5_add wsX5_add rmX5_add [.ref (a 0), .int ((4 * t) + 0), .int k, .int v] (wM E a N (msHe (msHo M fz7) fz8)) (wM E a N Mq10) := by subst hq109_10; exact c_X5_add E N hN a (msHe (msHo M fz7) fz8) ((4 * t) + 0) k v e he he3 w c hw hw2 hc hc2
                  refine z_callVV C ct9 gX5_put_X5_add (ci := 5) (q0 := 0) rfl rfl hyX5_add rfl ⟨rfl, rfl⟩ ⟨by decide, by decide⟩ ⟨by decide, by decide⟩ [0, 1, 2, 3, 4, 5, 6, 7, 8, 9, 10, 11] [] [0, 1, 2, 3, 4, 5, 6, 7, 8, 9, 10, 11] (wr := []) (V' := (wM E a N Mq10)) rfl rfl (by decide) (by decide) (by decide) rfl (by decide) (st := []) (Nat.le_of_ble_eq_true rfl) dX5_put_109 ?_ rfl
                  refine z_iconst C (v := 1) (by decide) dX5_put_112 ?_
                  subst hq109_10
                  subst hz8
                  subst hz7
                  exact ret _ _ _ _ (by first | rfl | (simp only [mPut, mPutE, if_pos h4_1t, if_neg h15_2f, if_neg h22_3f, if_neg h32_4t, if_neg h44_5f, if_pos h54_10t, if_neg h63_11t, if_neg h89_12t, if_neg h101_13, ↓reduceIte]; done) | (simp only [mPut, mPutE, if_pos h4_1t, if_neg h15_2f, if_neg h22_3f, if_neg h32_4t, if_neg h44_5f, if_pos h54_10t, if_neg h63_11t, if_neg h89_12t, if_neg h101_13, ↓reduceIte]; rfl) | (simp [mPut, mPutE, if_pos h4_1t, if_neg h15_2f, if_neg h22_3f, if_neg h32_4t, if_neg h44_5f, if_pos h54_10t, if_neg h63_11t, if_neg h89_12t, if_neg h101_13, ↓reduceIte]; done)) (by first | rfl | (simp only [mPut, mPutE, if_pos h4_1t, if_neg h15_2f, if_neg h22_3f, if_neg h32_4t, if_neg h44_5f, if_pos h54_10t, if_neg h63_11t, if_neg h89_12t, if_neg h101_13, ↓reduceIte]; done) | (simp only [mPut, mPutE, if_pos h4_1t, if_neg h15_2f, if_neg h22_3f, if_neg h32_4t, if_neg h44_5f, if_pos h54_10t, if_neg h63_11t, if_neg h89_12t, if_neg h101_13, ↓reduceIte]; rfl) | (simp [mPut, mPutE, if_pos h4_1t, if_neg h15_2f, if_neg h22_3f, if_neg h32_4t, if_neg h44_5f, if_pos h54_10t, if_neg h63_11t, if_neg h89_12t, if_neg h101_13, ↓reduceIte]; done)) dX5_put_113
                · refine z_iconst C (v := 1) (by decide) dX5_put_92 ?_
                  refine z_goto C (tgt := 97) dX5_put_93 (by decide) ?_
                  refine z_iadd C dX5_put_97 ?_
                  refine z_iload_n C 2 rfl rfl dX5_put_98 ?_
                  refine z_iload_n C 3 rfl rfl dX5_put_99 ?_
                  refine z_iconst C (v := (-1)) (by decide) dX5_put_100 ?_
                  refine z_icmp_ne C (tgt := 108) dX5_put_101 (by decide) (fun h101_14 => absurd h89_12f h101_14) (fun h101_14 => ?_)
                  refine z_iconst C (v := 0) (by decide) dX5_put_104 ?_
                  refine z_goto C (tgt := 109) dX5_put_105 (by decide) ?_
                  obtain ⟨Mq12, hq109_12⟩ : ∃ z : MS, (mAdd N (msHe (msHo M fz7) fz8) ((4 * t) + 1) k 0 e w c) = z := ⟨_, rfl⟩
                  have ct11 : zV E yX5_add wsX5_add rmX5_add [.ref (a 0), .int ((4 * t) + 1), .int k, .int 0] (wM E a N (msHe (msHo M fz7) fz8)) (wM E a N Mq12) := by subst hq109_12; exact c_X5_add E N hN a (msHe (msHo M fz7) fz8) ((4 * t) + 1) k 0 e he he3 w c hw hw2 hc hc2
                  refine z_callVV C ct11 gX5_put_X5_add (ci := 5) (q0 := 0) rfl rfl hyX5_add rfl ⟨rfl, rfl⟩ ⟨by decide, by decide⟩ ⟨by decide, by decide⟩ [0, 1, 2, 3, 4, 5, 6, 7, 8, 9, 10, 11] [] [0, 1, 2, 3, 4, 5, 6, 7, 8, 9, 10, 11] (wr := []) (V' := (wM E a N Mq12)) rfl rfl (by decide) (by decide) (by decide) rfl (by decide) (st := []) (Nat.le_of_ble_eq_true rfl) dX5_put_109 ?_ rfl
                  refine z_iconst C (v := 1) (by decide) dX5_put_112 ?_
                  subst hq109_12
                  subst hz8
                  subst hz7
                  exact ret _ _ _ _ (by first | rfl | (simp only [mPut, mPutE, if_pos h4_1t, if_neg h15_2f, if_neg h22_3f, if_neg h32_4t, if_neg h44_5f, if_pos h54_10t, if_neg h63_11t, if_pos h89_12f, if_pos h101_14, ↓reduceIte]; done) | (simp only [mPut, mPutE, if_pos h4_1t, if_neg h15_2f, if_neg h22_3f, if_neg h32_4t, if_neg h44_5f, if_pos h54_10t, if_neg h63_11t, if_pos h89_12f, if_pos h101_14, ↓reduceIte]; rfl) | (simp [mPut, mPutE, if_pos h4_1t, if_neg h15_2f, if_neg h22_3f, if_neg h32_4t, if_neg h44_5f, if_pos h54_10t, if_neg h63_11t, if_pos h89_12f, if_pos h101_14, ↓reduceIte]; done)) (by first | rfl | (simp only [mPut, mPutE, if_pos h4_1t, if_neg h15_2f, if_neg h22_3f, if_neg h32_4t, if_neg h44_5f, if_pos h54_10t, if_neg h63_11t, if_pos h89_12f, if_pos h101_14, ↓reduceIte]; done) | (simp only [mPut, mPutE, if_pos h4_1t, if_neg h15_2f, if_neg h22_3f, if_neg h32_4t, if_neg h44_5f, if_pos h54_10t, if_neg h63_11t, if_pos h89_12f, if_pos h101_14, ↓reduceIte]; rfl) | (simp [mPut, mPutE, if_pos h4_1t, if_neg h15_2f, if_neg h22_3f, if_neg h32_4t, if_neg h44_5f, if_pos h54_10t, if_neg h63_11t, if_pos h89_12f, if_pos h101_14, ↓reduceIte]; done)) dX5_put_113
              · refine z_bipush C (v := (-2)) (by decide) dX5_put_66 ?_
                exact ret _ _ _ _ (by first | rfl | (simp only [mPut, mPutE, if_pos h4_1t, if_neg h15_2f, if_neg h22_3f, if_neg h32_4t, if_neg h44_5f, if_pos h54_10t, if_pos h63_11f, ↓reduceIte]; done) | (simp only [mPut, mPutE, if_pos h4_1t, if_neg h15_2f, if_neg h22_3f, if_neg h32_4t, if_neg h44_5f, if_pos h54_10t, if_pos h63_11f, ↓reduceIte]; rfl) | (simp [mPut, mPutE, if_pos h4_1t, if_neg h15_2f, if_neg h22_3f, if_neg h32_4t, if_neg h44_5f, if_pos h54_10t, if_pos h63_11f, ↓reduceIte]; done)) (by first | rfl | (simp only [mPut, mPutE, if_pos h4_1t, if_neg h15_2f, if_neg h22_3f, if_neg h32_4t, if_neg h44_5f, if_pos h54_10t, if_pos h63_11f, ↓reduceIte]; done) | (simp only [mPut, mPutE, if_pos h4_1t, if_neg h15_2f, if_neg h22_3f, if_neg h32_4t, if_neg h44_5f, if_pos h54_10t, if_pos h63_11f, ↓reduceIte]; rfl) | (simp [mPut, mPutE, if_pos h4_1t, if_neg h15_2f, if_neg h22_3f, if_neg h32_4t, if_neg h44_5f, if_pos h54_10t, if_pos h63_11f, ↓reduceIte]; done)) dX5_put_68
            · refine z_iconst C (v := 0) (by decide) dX5_put_57 ?_
              exact ret _ _ _ _ (by first | rfl | (simp only [mPut, mPutE, if_pos h4_1t, if_neg h15_2f, if_neg h22_3f, if_neg h32_4t, if_neg h44_5f, if_neg h54_10f, ↓reduceIte]; done) | (simp only [mPut, mPutE, if_pos h4_1t, if_neg h15_2f, if_neg h22_3f, if_neg h32_4t, if_neg h44_5f, if_neg h54_10f, ↓reduceIte]; rfl) | (simp [mPut, mPutE, if_pos h4_1t, if_neg h15_2f, if_neg h22_3f, if_neg h32_4t, if_neg h44_5f, if_neg h54_10f, ↓reduceIte]; done)) (by first | rfl | (simp only [mPut, mPutE, if_pos h4_1t, if_neg h15_2f, if_neg h22_3f, if_neg h32_4t, if_neg h44_5f, if_neg h54_10f, ↓reduceIte]; done) | (simp only [mPut, mPutE, if_pos h4_1t, if_neg h15_2f, if_neg h22_3f, if_neg h32_4t, if_neg h44_5f, if_neg h54_10f, ↓reduceIte]; rfl) | (simp [mPut, mPutE, if_pos h4_1t, if_neg h15_2f, if_neg h22_3f, if_neg h32_4t, if_neg h44_5f, if_neg h54_10f, ↓reduceIte]; done)) dX5_put_58
        · refine z_iconst C (v := (-1)) (by decide) dX5_put_35 ?_
          exact ret _ _ _ _ (by first | rfl | (simp only [mPut, mPutE, if_pos h4_1t, if_neg h15_2f, if_neg h22_3f, if_pos h32_4f, ↓reduceIte]; done) | (simp only [mPut, mPutE, if_pos h4_1t, if_neg h15_2f, if_neg h22_3f, if_pos h32_4f, ↓reduceIte]; rfl) | (simp [mPut, mPutE, if_pos h4_1t, if_neg h15_2f, if_neg h22_3f, if_pos h32_4f, ↓reduceIte]; done)) (by first | rfl | (simp only [mPut, mPutE, if_pos h4_1t, if_neg h15_2f, if_neg h22_3f, if_pos h32_4f, ↓reduceIte]; done) | (simp only [mPut, mPutE, if_pos h4_1t, if_neg h15_2f, if_neg h22_3f, if_pos h32_4f, ↓reduceIte]; rfl) | (simp [mPut, mPutE, if_pos h4_1t, if_neg h15_2f, if_neg h22_3f, if_pos h32_4f, ↓reduceIte]; done)) dX5_put_36
  · refine z_bipush C (v := (-3)) (by decide) dX5_put_7 ?_
    exact ret _ _ _ _ (by first | rfl | (simp only [mPut, mPutE, if_neg h4_1f, ↓reduceIte]; done) | (simp only [mPut, mPutE, if_neg h4_1f, ↓reduceIte]; rfl) | (simp [mPut, mPutE, if_neg h4_1f, ↓reduceIte]; done)) (by first | rfl | (simp only [mPut, mPutE, if_neg h4_1f, ↓reduceIte]; done) | (simp only [mPut, mPutE, if_neg h4_1f, ↓reduceIte]; rfl) | (simp [mPut, mPutE, if_neg h4_1f, ↓reduceIte]; done)) dX5_put_9
abbrev rmX5_release : Room := { frames := 0, cells := 0, slots := 0, locals := 0 }
theorem hyX5_release : yX5_release.cls = RX5 ∧ yX5_release.cls ≠ "java/lang/invoke/MethodHandle" ∧ yX5_release.cls ≠ "java/lang/invoke/VarHandle" ∧ (parseMethodDescriptor yX5_release.desc).map (fun d => d.parameters.length) = some 2 := by decide +kernel
set_option maxHeartbeats 4000000 in
set_option maxRecDepth 3000 in
theorem c_X5_release (E : GE) (N : Nat) (hN : 16 ≤ N ∧ N ≤ 64) (a : Nat → Nat) (M : MS) (t : Nat) (kp : Int32) (ht : t ≤ 2) : zI E yX5_release wsX5_release rmX5_release [.ref (a 0), .int (nI t), .int kp] (wM E a N M) ((mRl (nI t) kp (mHe M) (mVa M) (mHo M)).1) (wM E a N (msOp (msHo (msVa M ((mRl (nI t) kp (mHe M) (mVa M) (mHo M)).2.1)) ((mRl (nI t) kp (mHe M) (mVa M) (mHo M)).2.2)) (upd (mOp M) t 0))) := by
  refine zI_of (cc := cX5_release) (maxL := 5) (ty := .int) (by decide) rfl (vp_nar_int _) (Nat.le_of_ble_eq_true rfl) ?_
  intro K C ret
  replace C : zC E K cX5_release wsX5_release RX5 rmX5_release 5 := C
  have in5 : ∀ w ∈ wsX50, w ∈ wsX5_release := fun w h => List.mem_cons_of_mem _ (List.mem_append_right _ (h))
  have l29 : zw K (.fieldLink RX5 29 "StoreLog3Model" "values" "[I") := C.w (List.mem_cons_of_mem _ (List.mem_append_left _ (List.mem_of_getElem? (i := 1) rfl)))
  have l32 : zw K (.fieldLink RX5 32 "StoreLog3Model" "isOpen" "[Z") := C.w (List.mem_cons_of_mem _ (List.mem_append_left _ (List.mem_of_getElem? (i := 3) rfl)))
  have l36 : zw K (.fieldLink RX5 36 "StoreLog3Model" "holders" "[I") := C.w (List.mem_cons_of_mem _ (List.mem_append_left _ (List.mem_of_getElem? (i := 0) rfl)))
  have l39 : zw K (.fieldLink RX5 39 "StoreLog3Model" "held" "[I") := C.w (List.mem_cons_of_mem _ (List.mem_append_left _ (List.mem_of_getElem? (i := 2) rfl)))
  show Z E K 0 0 (wM E a N M) 0 [(0, .ref (a 0)), (1, .int (nI t)), (2, .int kp)] []
  refine z_iconst C (v := 0) (by decide) dX5_release_0 ?_
  refine z_istore_n C (lv' := [(3, .int 0), (0, .ref (a 0)), (1, .int (nI t)), (2, .int kp)]) rfl rfl (by decide) dX5_release_1 ?_
  refine z_iconst C (v := 0) (by decide) dX5_release_2 ?_
  refine z_istore C (lv' := [(4, .int 0), (3, .int 0), (0, .ref (a 0)), (1, .int (nI t)), (2, .int kp)]) rfl (by decide) dX5_release_3 ?_
  have loop5 : ∀ (n j : Nat) (h : Int32) (va ho : Nat → Int32), j + n = 32 → rlL (nI t) kp (mHe M) n j (h, va, ho) = rlL (nI t) kp (mHe M) 32 0 (0, mVa M, mHo M) → Z E K 0 0 (wM E a N (msHo (msVa M va) ho)) 5 [(0, .ref (a 0)), (1, .int (nI t)), (2, .int kp), (3, .int h), (4, .int (nI j))] [] := by
    intro n
    induction n with
    | zero => 
      intro j h va ho hj hT
      obtain rfl : j = 32 := by omega
      refine z_iload C 4 rfl dX5_release_5 ?_
      refine z_bipush C (v := 32) (by decide) dX5_release_7 ?_
      refine z_icmp_ge C (tgt := 68) dX5_release_9 (by decide) (fun h9_1 => ?_) (fun h9_1 => absurd (nI_le (a := 32) (b := 32) (Nat.le_refl _) (by omega)) h9_1)
      refine z_aload_n C 0 rfl rfl dX5_release_68 ?_
      refine z_get C (Cn := RX5) (T := TX5) (Nf := 20) (ci := 5) in5 0 15 l32 (v := .ref (a 8)) rfl rfl (by decide) rfl dX5_release_69 ?_
      refine z_iload_n C 1 rfl rfl dX5_release_72 ?_
      refine z_iconst C (v := 0) (by decide) dX5_release_73 ?_
      obtain ⟨fz1, hz1⟩ : ∃ z : Nat → Int32, (upd (mOp M) t 0) = z := ⟨_, rfl⟩
      refine z_zast C 8 rfl (vp_in_nI (by omega) (by omega)) (g := fz1) (Eq.trans (by rw [vz_0, nI_clamp (by omega)]) hz1) (V' := (wM E a N (msOp (msHo (msVa M va) ho) fz1))) rfl dX5_release_74 ?_
      refine z_iload_n C 3 rfl rfl dX5_release_75 ?_
      subst hz1
      exact ret _ _ _ _ (by unfold mRl; rw [← hT]; rfl) (by unfold mRl; rw [← hT]; rfl) dX5_release_76
    | succ n ih5 => 
      intro j h va ho hj hT
      refine z_iload C 4 rfl dX5_release_5 ?_
      refine z_bipush C (v := 32) (by decide) dX5_release_7 ?_
      refine z_icmp_ge C (tgt := 68) dX5_release_9 (by decide) (fun h9_2 => absurd h9_2 (nI_ge (a := j) (b := 32) (by omega) (by omega))) (fun h9_2 => ?_)
      refine z_aload_n C 0 rfl rfl dX5_release_12 ?_
      refine z_get C (Cn := RX5) (T := TX5) (Nf := 20) (ci := 5) in5 0 16 l36 (v := .ref (a 9)) rfl rfl (by decide) rfl dX5_release_13 ?_
      refine z_iload C 4 rfl dX5_release_16 ?_
      refine z_iald C 9 rfl (vp_in_nI (by omega) (by omega)) (v := (ho j)) (congrArg ho (nI_clamp (by omega))) dX5_release_18 ?_
      refine z_iload_n C 1 rfl rfl dX5_release_19 ?_
      refine z_icmp_ne C (tgt := 62) dX5_release_20 (by decide) (fun h20_3t => ?_) (fun h20_3f => ?_)
      · refine z_iinc C 4 rfl (v := (nI (j + 1))) (zinc _) (lv' := [(4, .int (nI (j + 1))), (0, .ref (a 0)), (1, .int (nI t)), (2, .int kp), (3, .int h)]) rfl (by decide) dX5_release_62 ?_
        refine z_goto C (tgt := 5) dX5_release_65 (by decide) ?_
        refine z_lv (lv' := [(0, .ref (a 0)), (1, .int (nI t)), (2, .int kp), (3, .int h), (4, .int (nI (j + 1)))]) [1, 2, 3, 4, 0] rfl ?_
        exact ih5 (j + 1) _ _ _ (by omega) (by rw [← hT]; simp only [rlL, rlS, if_neg h9_2, if_neg h20_3t, ↓reduceIte])
      · refine z_iinc C 3 rfl (v := (h + 1)) rfl (lv' := [(3, .int (h + 1)), (0, .ref (a 0)), (1, .int (nI t)), (2, .int kp), (4, .int (nI j))]) rfl (by decide) dX5_release_23 ?_
        refine z_aload_n C 1 rfl rfl dX5_release_26 ?_
        refine z_get C (Cn := RX5) (T := TX5) (Nf := 20) (ci := 5) in5 0 16 l36 (v := .ref (a 9)) rfl rfl (by decide) rfl dX5_release_27 ?_
        refine z_iload C 4 rfl dX5_release_30 ?_
        refine z_iconst C (v := (-1)) (by decide) dX5_release_32 ?_
        obtain ⟨fz2, hz2⟩ : ∃ z : Nat → Int32, (upd ho j (-1)) = z := ⟨_, rfl⟩
        refine z_iast C 9 rfl (vp_in_nI (by omega) (by omega)) (g := fz2) (Eq.trans (by rw [nI_clamp (by omega)]) hz2) (V' := (wM E a N (msHo (msVa M va) fz2))) rfl dX5_release_33 ?_
        refine z_aload_n C 1 rfl rfl dX5_release_34 ?_
        refine z_get C (Cn := RX5) (T := TX5) (Nf := 20) (ci := 5) in5 0 14 l29 (v := .ref (a 7)) rfl rfl (by decide) rfl dX5_release_35 ?_
        refine z_iload C 4 rfl dX5_release_38 ?_
        refine z_iload_n C 3 rfl rfl dX5_release_40 ?_
        refine z_if_eq C (tgt := 54) dX5_release_41 (by decide) (fun h41_4t => ?_) (fun h41_4f => ?_)
        · refine z_aload_n C 1 rfl rfl dX5_release_54 ?_
          refine z_get C (Cn := RX5) (T := TX5) (Nf := 20) (ci := 5) in5 0 14 l29 (v := .ref (a 7)) rfl rfl (by decide) rfl dX5_release_55 ?_
          refine z_iload C 4 rfl dX5_release_58 ?_
          refine z_iald C 7 rfl (vp_in_nI (by omega) (by omega)) (v := (va j)) (congrArg va (nI_clamp (by omega))) dX5_release_60 ?_
          obtain ⟨fz3, hz3⟩ : ∃ z : Nat → Int32, (upd va j (va j)) = z := ⟨_, rfl⟩
          refine z_iast C 7 rfl (vp_in_nI (by omega) (by omega)) (g := fz3) (Eq.trans (by rw [nI_clamp (by omega)]) hz3) (V' := (wM E a N (msVa (msHo M fz2) fz3))) rfl dX5_release_61 ?_
          refine z_iinc C 4 rfl (v := (nI (j + 1))) (zinc _) (lv' := [(4, .int (nI (j + 1))), (3, .int (h + 1)), (0, .ref (a 0)), (1, .int (nI t)), (2, .int kp)]) rfl (by decide) dX5_release_62 ?_
          refine z_goto C (tgt := 5) dX5_release_65 (by decide) ?_
          subst hz3
          subst hz2
          refine z_lv (lv' := [(0, .ref (a 0)), (1, .int (nI t)), (2, .int kp), (3, .int (h + 1)), (4, .int (nI (j + 1)))]) [2, 3, 4, 1, 0] rfl ?_
          exact ih5 (j + 1) _ _ _ (by omega) (by rw [← hT]; simp only [rlL, rlS, if_neg h9_2, if_pos h20_3f, if_pos h41_4t, ↓reduceIte])
        · refine z_aload_n C 1 rfl rfl dX5_release_44 ?_
          refine z_get C (Cn := RX5) (T := TX5) (Nf := 20) (ci := 5) in5 0 17 l39 (v := .ref (a 10)) rfl rfl (by decide) rfl dX5_release_45 ?_
          refine z_iload C 4 rfl dX5_release_48 ?_
          refine z_iald C 10 rfl (vp_in_nI (by omega) (by omega)) (v := ((mHe M) j)) (congrArg (mHe M) (nI_clamp (by omega))) dX5_release_50 ?_
          refine z_goto C (tgt := 61) dX5_release_51 (by decide) ?_
          obtain ⟨fz4, hz4⟩ : ∃ z : Nat → Int32, (upd va j ((mHe M) j)) = z := ⟨_, rfl⟩
          refine z_iast C 7 rfl (vp_in_nI (by omega) (by omega)) (g := fz4) (Eq.trans (by rw [nI_clamp (by omega)]) hz4) (V' := (wM E a N (msVa (msHo M fz2) fz4))) rfl dX5_release_61 ?_
          refine z_iinc C 4 rfl (v := (nI (j + 1))) (zinc _) (lv' := [(4, .int (nI (j + 1))), (3, .int (h + 1)), (0, .ref (a 0)), (1, .int (nI t)), (2, .int kp)]) rfl (by decide) dX5_release_62 ?_
          refine z_goto C (tgt := 5) dX5_release_65 (by decide) ?_
          subst hz4
          subst hz2
          refine z_lv (lv' := [(0, .ref (a 0)), (1, .int (nI t)), (2, .int kp), (3, .int (h + 1)), (4, .int (nI (j + 1)))]) [2, 3, 4, 1, 0] rfl ?_
          exact ih5 (j + 1) _ _ _ (by omega) (by rw [← hT]; simp only [rlL, rlS, if_neg h9_2, if_pos h20_3f, if_neg h41_4f, ↓reduceIte])
  refine z_lv (lv' := [(0, .ref (a 0)), (1, .int (nI t)), (2, .int kp), (3, .int 0), (4, .int 0)]) [2, 3, 4, 1, 0] rfl ?_
  exact loop5 32 0 0 _ _ (by omega) rfl
abbrev rmX5_finish : Room := { frames := 5, cells := 0, slots := 0, locals := 112 }
theorem hyX5_finish : yX5_finish.cls = RX5 ∧ yX5_finish.cls ≠ "java/lang/invoke/MethodHandle" ∧ yX5_finish.cls ≠ "java/lang/invoke/VarHandle" ∧ (parseMethodDescriptor yX5_finish.desc).map (fun d => d.parameters.length) = some 2 := by decide +kernel
set_option maxHeartbeats 4000000 in
set_option maxRecDepth 3000 in
theorem c_X5_finish (E : GE) (N : Nat) (hN : 16 ≤ N ∧ N ≤ 64) (a : Nat → Nat) (M : MS) (t : Int32) (kp : Int32) (e : Nat) (he : mEn M = nI e) (he3 : e ≤ 3) (w c : Nat) (hw : mWa M = nI w) (hw2 : w < 64) (hc : mSc M = nI c) (hc2 : c < N) : zI E yX5_finish wsX5_finish rmX5_finish [.ref (a 0), .int t, .int kp] (wM E a N M) ((mFin N M t kp e w c).1) (wM E a N ((mFin N M t kp e w c).2)) := by
  refine zI_of (cc := cX5_finish) (maxL := 3) (ty := .int) (by decide) rfl (vp_nar_int _) (Nat.le_of_ble_eq_true rfl) ?_
  intro K C ret
  replace C : zC E K cX5_finish wsX5_finish RX5 rmX5_finish 3 := C
  have in5 : ∀ w ∈ wsX50, w ∈ wsX5_finish := fun w h => List.mem_cons_of_mem _ (List.mem_append_right _ (h))
  have l58 : zw K (.fieldLink RX5 58 "StoreLog3Model" "commits" "I") := C.w (List.mem_cons_of_mem _ (List.mem_append_left _ (List.mem_append_left _ (List.mem_of_getElem? (i := 1) rfl))))
  have l64 : zw K (.fieldLink RX5 64 "StoreLog3Model" "isDown" "Z") := C.w (List.mem_cons_of_mem _ (List.mem_append_left _ (List.mem_append_left _ (List.mem_of_getElem? (i := 0) rfl))))
  show Z E K 0 0 (wM E a N M) 0 [(0, .ref (a 0)), (1, .int t), (2, .int kp)] []
  refine z_aload_n C 0 rfl rfl dX5_finish_0 ?_
  refine z_get C (Cn := RX5) (T := TX5) (Nf := 20) (ci := 5) in5 0 2 l64 (v := .int (mDn M)) rfl rfl (by decide) rfl dX5_finish_1 ?_
  refine z_if_eq C (tgt := 10) dX5_finish_4 (by decide) (fun h4_1t => ?_) (fun h4_1f => ?_)
  · refine z_aload_n C 0 rfl rfl dX5_finish_10 ?_
    refine z_iload_n C 1 rfl rfl dX5_finish_11 ?_
    refine z_rVI C (c_X5_isOpenOne E N hN a M t) gX5_finish_X5_isOpenOne (ci := 5) (q0 := 0) rfl rfl hyX5_isOpenOne rfl ⟨rfl, rfl⟩ ⟨by decide, by decide⟩ ⟨by decide, by decide⟩ [0, 1, 2, 3, 4, 5, 6, 7, 8, 9, 10, 11] rfl (by decide) (st := []) (Nat.le_of_ble_eq_true rfl) dX5_finish_12 ?_ rfl
    refine z_if_ne C (tgt := 20) dX5_finish_15 (by decide) (fun h15_2t => ?_) (fun h15_2f => ?_)
    · refine z_aload_n C 0 rfl rfl dX5_finish_20 ?_
      refine z_rVI C (c_X5_mayAdd E N hN a M) gX5_finish_X5_mayAdd (ci := 5) (q0 := 0) rfl rfl hyX5_mayAdd rfl ⟨rfl, rfl⟩ ⟨by decide, by decide⟩ ⟨by decide, by decide⟩ [0, 1, 2, 3, 4, 5, 6, 7, 8, 9, 10, 11] rfl (by decide) (st := []) (Nat.le_of_ble_eq_true rfl) dX5_finish_21 ?_ rfl
      refine z_if_ne C (tgt := 30) dX5_finish_24 (by decide) (fun h24_3t => ?_) (fun h24_3f => ?_)
      · obtain ⟨t1, ht1, rfl⟩ : ∃ t1 : Nat, t1 ≤ 2 ∧ t = nI t1 := mIn2N (fun q => h15_2t (by simp only [mIsO, q, ↓reduceIte]))
        refine z_aload_n C 0 rfl rfl dX5_finish_30 ?_
        refine z_iconst C (v := 4) (by decide) dX5_finish_31 ?_
        refine z_iload_n C 1 rfl rfl dX5_finish_32 ?_
        refine z_imul C dX5_finish_33 ?_
        refine z_iload_n C 2 rfl rfl dX5_finish_34 ?_
        refine z_if_eq C (tgt := 42) dX5_finish_35 (by decide) (fun h35_4t => ?_) (fun h35_4f => ?_)
        · refine z_iconst C (v := 3) (by decide) dX5_finish_42 ?_
          refine z_iadd C dX5_finish_43 ?_
          refine z_iconst C (v := 0) (by decide) dX5_finish_44 ?_
          refine z_iconst C (v := 0) (by decide) dX5_finish_45 ?_
          obtain ⟨Mq2, hq46_2⟩ : ∃ z : MS, (mAdd N M ((4 * (nI t1)) + 3) 0 0 e w c) = z := ⟨_, rfl⟩
          have ct1 : zV E yX5_add wsX5_add rmX5_add [.ref (a 0), .int ((4 * (nI t1)) + 3), .int 0, .int 0] (wM E a N M) (wM E a N Mq2) := by subst hq46_2; exact c_X5_add E N hN a M ((4 * (nI t1)) + 3) 0 0 e he he3 w c hw hw2 hc hc2
          refine z_callVV C ct1 gX5_finish_X5_add (ci := 5) (q0 := 0) rfl rfl hyX5_add rfl ⟨rfl, rfl⟩ ⟨by decide, by decide⟩ ⟨by decide, by decide⟩ [0, 1, 2, 3, 4, 5, 6, 7, 8, 9, 10, 11] [] [0, 1, 2, 3, 4, 5, 6, 7, 8, 9, 10, 11] (wr := []) (V' := (wM E a N Mq2)) rfl rfl (by decide) (by decide) (by decide) rfl (by decide) (st := []) (Nat.le_of_ble_eq_true rfl) dX5_finish_46 ?_ rfl
          refine z_aload_n C 0 rfl rfl dX5_finish_49 ?_
          refine z_dup C rfl dX5_finish_50 ?_
          refine z_get C (Cn := RX5) (T := TX5) (Nf := 20) (ci := 5) in5 0 18 l58 (v := .int (mCm Mq2)) rfl rfl (by decide) rfl dX5_finish_51 ?_
          refine z_iload_n C 2 rfl rfl dX5_finish_54 ?_
          refine z_if_eq C (tgt := 62) dX5_finish_55 (by decide) (fun h55_5 => ?_) (fun h55_5 => absurd h35_4t h55_5)
          refine z_iconst C (v := 0) (by decide) dX5_finish_62 ?_
          refine z_iadd C dX5_finish_63 ?_
          obtain ⟨iz3, hz3⟩ : ∃ z : Int32, ((mCm Mq2) + 0) = z := ⟨_, rfl⟩
          refine z_top hz3 ?_
          refine z_put C (Cn := RX5) (T := TX5) (Nf := 20) (ci := 5) in5 0 18 l58 rfl rfl (by decide) tyX5 tyX5_ok nmX5 rfl rfl rfl (Nat.le_of_ble_eq_true rfl) (V' := (wM E a N (msCm Mq2 iz3))) rfl dX5_finish_64 ?_
          refine z_aload_n C 0 rfl rfl dX5_finish_67 ?_
          refine z_iload_n C 1 rfl rfl dX5_finish_68 ?_
          refine z_iload_n C 2 rfl rfl dX5_finish_69 ?_
          obtain ⟨yq5, hq70_5⟩ : ∃ z : Int32 × (Nat → Int32) × (Nat → Int32), (mRl (nI t1) kp (mHe Mq2) (mVa Mq2) (mHo Mq2)) = z := ⟨_, rfl⟩
          obtain ⟨fq6, hq70_6⟩ : ∃ z : Nat → Int32, (upd (mOp Mq2) t1 0) = z := ⟨_, rfl⟩
          have ct4 : zI E yX5_release wsX5_release rmX5_release [.ref (a 0), .int (nI t1), .int kp] (wM E a N (msCm Mq2 iz3)) (yq5.1) (wM E a N (msOp (msHo (msVa (msCm Mq2 iz3) yq5.2.1) yq5.2.2) fq6)) := by subst hq70_6; subst hq70_5; exact c_X5_release E N hN a (msCm Mq2 iz3) t1 kp ht1
          refine z_callVI C ct4 gX5_finish_X5_release (ci := 5) (q0 := 0) rfl rfl hyX5_release rfl ⟨rfl, rfl⟩ ⟨by decide, by decide⟩ ⟨by decide, by decide⟩ [0, 1, 2, 3, 4, 5, 6, 7, 8, 9, 10, 11] [] [0, 1, 2, 3, 4, 5, 6, 7, 8, 9, 10, 11] (wr := []) (V' := (wM E a N (msOp (msHo (msVa (msCm Mq2 iz3) yq5.2.1) yq5.2.2) fq6))) rfl rfl (by decide) (by decide) (by decide) rfl (by decide) (st := []) (Nat.le_of_ble_eq_true rfl) dX5_finish_70 ?_ rfl
          subst hq70_6
          subst hq70_5
          subst hz3
          subst hq46_2
          exact ret _ _ _ _ (by first | (simp only [mFin, mRel, if_pos h4_1t, if_neg h15_2t, if_neg h24_3t, if_pos h35_4t, if_pos h55_5, ↓reduceIte, nI_clamp (show t1 < 2 ^ 31 by omega)]; done) | (simp only [mFin, mRel, if_pos h4_1t, if_neg h15_2t, if_neg h24_3t, if_pos h35_4t, if_pos h55_5, ↓reduceIte, nI_clamp (show t1 < 2 ^ 31 by omega)]; rfl)) (by first | (simp only [mFin, mRel, if_pos h4_1t, if_neg h15_2t, if_neg h24_3t, if_pos h35_4t, if_pos h55_5, ↓reduceIte, nI_clamp (show t1 < 2 ^ 31 by omega)]; done) | (simp only [mFin, mRel, if_pos h4_1t, if_neg h15_2t, if_neg h24_3t, if_pos h35_4t, if_pos h55_5, ↓reduceIte, nI_clamp (show t1 < 2 ^ 31 by omega)]; rfl)) dX5_finish_73
        · refine z_iconst C (v := 2) (by decide) dX5_finish_38 ?_
          refine z_goto C (tgt := 43) dX5_finish_39 (by decide) ?_
          refine z_iadd C dX5_finish_43 ?_
          refine z_iconst C (v := 0) (by decide) dX5_finish_44 ?_
          refine z_iconst C (v := 0) (by decide) dX5_finish_45 ?_
          obtain ⟨Mq8, hq46_8⟩ : ∃ z : MS, (mAdd N M ((4 * (nI t1)) + 2) 0 0 e w c) = z := ⟨_, rfl⟩
          have ct7 : zV E yX5_add wsX5_add rmX5_add [.ref (a 0), .int ((4 * (nI t1)) + 2), .int 0, .int 0] (wM E a N M) (wM E a N Mq8) := by subst hq46_8; exact c_X5_add E N hN a M ((4 * (nI t1)) + 2) 0 0 e he he3 w c hw hw2 hc hc2
          refine z_callVV C ct7 gX5_finish_X5_add (ci := 5) (q0 := 0) rfl rfl hyX5_add rfl ⟨rfl, rfl⟩ ⟨by decide, by decide⟩ ⟨by decide, by decide⟩ [0, 1, 2, 3, 4, 5, 6, 7, 8, 9, 10, 11] [] [0, 1, 2, 3, 4, 5, 6, 7, 8, 9, 10, 11] (wr := []) (V' := (wM E a N Mq8)) rfl rfl (by decide) (by decide) (by decide) rfl (by decide) (st := []) (Nat.le_of_ble_eq_true rfl) dX5_finish_46 ?_ rfl
          refine z_aload_n C 0 rfl rfl dX5_finish_49 ?_
          refine z_dup C rfl dX5_finish_50 ?_
          refine z_get C (Cn := RX5) (T := TX5) (Nf := 20) (ci := 5) in5 0 18 l58 (v := .int (mCm Mq8)) rfl rfl (by decide) rfl dX5_finish_51 ?_
          refine z_iload_n C 2 rfl rfl dX5_finish_54 ?_
          refine z_if_eq C (tgt := 62) dX5_finish_55 (by decide) (fun h55_6 => absurd h55_6 h35_4f) (fun h55_6 => ?_)
          refine z_iconst C (v := 1) (by decide) dX5_finish_58 ?_
          refine z_goto C (tgt := 63) dX5_finish_59 (by decide) ?_
          refine z_iadd C dX5_finish_63 ?_
          obtain ⟨iz9, hz9⟩ : ∃ z : Int32, ((mCm Mq8) + 1) = z := ⟨_, rfl⟩
          refine z_top hz9 ?_
          refine z_put C (Cn := RX5) (T := TX5) (Nf := 20) (ci := 5) in5 0 18 l58 rfl rfl (by decide) tyX5 tyX5_ok nmX5 rfl rfl rfl (Nat.le_of_ble_eq_true rfl) (V' := (wM E a N (msCm Mq8 iz9))) rfl dX5_finish_64 ?_
          refine z_aload_n C 0 rfl rfl dX5_finish_67 ?_
          refine z_iload_n C 1 rfl rfl dX5_finish_68 ?_
          refine z_iload_n C 2 rfl rfl dX5_finish_69 ?_
          obtain ⟨yq11, hq70_11⟩ : ∃ z : Int32 × (Nat → Int32) × (Nat → Int32), (mRl (nI t1) kp (mHe Mq8) (mVa Mq8) (mHo Mq8)) = z := ⟨_, rfl⟩
          obtain ⟨fq12, hq70_12⟩ : ∃ z : Nat → Int32, (upd (mOp Mq8) t1 0) = z := ⟨_, rfl⟩
          have ct10 : zI E yX5_release wsX5_release rmX5_release [.ref (a 0), .int (nI t1), .int kp] (wM E a N (msCm Mq8 iz9)) (yq11.1) (wM E a N (msOp (msHo (msVa (msCm Mq8 iz9) yq11.2.1) yq11.2.2) fq12)) := by subst hq70_12; subst hq70_11; exact c_X5_release E N hN a (msCm Mq8 iz9) t1 kp ht1
          refine z_callVI C ct10 gX5_finish_X5_release (ci := 5) (q0 := 0) rfl rfl hyX5_release rfl ⟨rfl, rfl⟩ ⟨by decide, by decide⟩ ⟨by decide, by decide⟩ [0, 1, 2, 3, 4, 5, 6, 7, 8, 9, 10, 11] [] [0, 1, 2, 3, 4, 5, 6, 7, 8, 9, 10, 11] (wr := []) (V' := (wM E a N (msOp (msHo (msVa (msCm Mq8 iz9) yq11.2.1) yq11.2.2) fq12))) rfl rfl (by decide) (by decide) (by decide) rfl (by decide) (st := []) (Nat.le_of_ble_eq_true rfl) dX5_finish_70 ?_ rfl
          subst hq70_12
          subst hq70_11
          subst hz9
          subst hq46_8
          exact ret _ _ _ _ (by first | (simp only [mFin, mRel, if_pos h4_1t, if_neg h15_2t, if_neg h24_3t, if_neg h35_4f, if_neg h55_6, ↓reduceIte, nI_clamp (show t1 < 2 ^ 31 by omega)]; done) | (simp only [mFin, mRel, if_pos h4_1t, if_neg h15_2t, if_neg h24_3t, if_neg h35_4f, if_neg h55_6, ↓reduceIte, nI_clamp (show t1 < 2 ^ 31 by omega)]; rfl)) (by first | (simp only [mFin, mRel, if_pos h4_1t, if_neg h15_2t, if_neg h24_3t, if_neg h35_4f, if_neg h55_6, ↓reduceIte, nI_clamp (show t1 < 2 ^ 31 by omega)]; done) | (simp only [mFin, mRel, if_pos h4_1t, if_neg h15_2t, if_neg h24_3t, if_neg h35_4f, if_neg h55_6, ↓reduceIte, nI_clamp (show t1 < 2 ^ 31 by omega)]; rfl)) dX5_finish_73
      · refine z_bipush C (v := (-2)) (by decide) dX5_finish_27 ?_
        exact ret _ _ _ _ (by first | rfl | (simp only [mFin, if_pos h4_1t, if_neg h15_2t, if_pos h24_3f, ↓reduceIte]; done) | (simp only [mFin, if_pos h4_1t, if_neg h15_2t, if_pos h24_3f, ↓reduceIte]; rfl) | (simp [mFin, if_pos h4_1t, if_neg h15_2t, if_pos h24_3f, ↓reduceIte]; done)) (by first | rfl | (simp only [mFin, if_pos h4_1t, if_neg h15_2t, if_pos h24_3f, ↓reduceIte]; done) | (simp only [mFin, if_pos h4_1t, if_neg h15_2t, if_pos h24_3f, ↓reduceIte]; rfl) | (simp [mFin, if_pos h4_1t, if_neg h15_2t, if_pos h24_3f, ↓reduceIte]; done)) dX5_finish_29
    · refine z_iconst C (v := (-1)) (by decide) dX5_finish_18 ?_
      exact ret _ _ _ _ (by first | rfl | (simp only [mFin, if_pos h4_1t, if_pos h15_2f, ↓reduceIte]; done) | (simp only [mFin, if_pos h4_1t, if_pos h15_2f, ↓reduceIte]; rfl) | (simp [mFin, if_pos h4_1t, if_pos h15_2f, ↓reduceIte]; done)) (by first | rfl | (simp only [mFin, if_pos h4_1t, if_pos h15_2f, ↓reduceIte]; done) | (simp only [mFin, if_pos h4_1t, if_pos h15_2f, ↓reduceIte]; rfl) | (simp [mFin, if_pos h4_1t, if_pos h15_2f, ↓reduceIte]; done)) dX5_finish_19
  · refine z_bipush C (v := (-3)) (by decide) dX5_finish_7 ?_
    exact ret _ _ _ _ (by first | rfl | (simp only [mFin, if_neg h4_1f, ↓reduceIte]; done) | (simp only [mFin, if_neg h4_1f, ↓reduceIte]; rfl) | (simp [mFin, if_neg h4_1f, ↓reduceIte]; done)) (by first | rfl | (simp only [mFin, if_neg h4_1f, ↓reduceIte]; done) | (simp only [mFin, if_neg h4_1f, ↓reduceIte]; rfl) | (simp [mFin, if_neg h4_1f, ↓reduceIte]; done)) dX5_finish_9
abbrev rmX5_commit : Room := { frames := 6, cells := 0, slots := 0, locals := 134 }
theorem hyX5_commit : yX5_commit.cls = RX5 ∧ yX5_commit.cls ≠ "java/lang/invoke/MethodHandle" ∧ yX5_commit.cls ≠ "java/lang/invoke/VarHandle" ∧ (parseMethodDescriptor yX5_commit.desc).map (fun d => d.parameters.length) = some 1 := by decide +kernel
set_option maxHeartbeats 4000000 in
set_option maxRecDepth 3000 in
theorem c_X5_commit (E : GE) (N : Nat) (hN : 16 ≤ N ∧ N ≤ 64) (a : Nat → Nat) (M : MS) (t : Int32) (e : Nat) (he : mEn M = nI e) (he3 : e ≤ 3) (w c : Nat) (hw : mWa M = nI w) (hw2 : w < 64) (hc : mSc M = nI c) (hc2 : c < N) : zI E yX5_commit wsX5_commit rmX5_commit [.ref (a 0), .int t] (wM E a N M) ((mFin N M t 1 e w c).1) (wM E a N ((mFin N M t 1 e w c).2)) := by
  refine zI_of (cc := cX5_commit) (maxL := 2) (ty := .int) (by decide) rfl (vp_nar_int _) (Nat.le_of_ble_eq_true rfl) ?_
  intro K C ret
  replace C : zC E K cX5_commit wsX5_commit RX5 rmX5_commit 2 := C
  show Z E K 0 0 (wM E a N M) 0 [(0, .ref (a 0)), (1, .int t)] []
  refine z_aload_n C 0 rfl rfl dX5_commit_0 ?_
  refine z_iload_n C 1 rfl rfl dX5_commit_1 ?_
  refine z_iconst C (v := 1) (by decide) dX5_commit_2 ?_
  obtain ⟨Mq2, hq3_2⟩ : ∃ z : MS, ((mFin N M t 1 e w c).2) = z := ⟨_, rfl⟩
  have ct1 : zI E yX5_finish wsX5_finish rmX5_finish [.ref (a 0), .int t, .int 1] (wM E a N M) ((mFin N M t 1 e w c).1) (wM E a N Mq2) := by subst hq3_2; exact c_X5_finish E N hN a M t 1 e he he3 w c hw hw2 hc hc2
  refine z_callVI C ct1 gX5_commit_X5_finish (ci := 5) (q0 := 0) rfl rfl hyX5_finish rfl ⟨rfl, rfl⟩ ⟨by decide, by decide⟩ ⟨by decide, by decide⟩ [0, 1, 2, 3, 4, 5, 6, 7, 8, 9, 10, 11] [] [0, 1, 2, 3, 4, 5, 6, 7, 8, 9, 10, 11] (wr := []) (V' := (wM E a N Mq2)) rfl rfl (by decide) (by decide) (by decide) rfl (by decide) (st := []) (Nat.le_of_ble_eq_true rfl) dX5_commit_3 ?_ rfl
  subst hq3_2
  exact ret _ _ _ _ (by first | rfl | (simp only [↓reduceIte]; done) | (simp only [↓reduceIte]; rfl) | (simp [↓reduceIte]; done)) (by first | rfl | (simp only [↓reduceIte]; done) | (simp only [↓reduceIte]; rfl) | (simp [↓reduceIte]; done)) dX5_commit_6
abbrev rmX5_undo : Room := { frames := 6, cells := 0, slots := 0, locals := 134 }
theorem hyX5_undo : yX5_undo.cls = RX5 ∧ yX5_undo.cls ≠ "java/lang/invoke/MethodHandle" ∧ yX5_undo.cls ≠ "java/lang/invoke/VarHandle" ∧ (parseMethodDescriptor yX5_undo.desc).map (fun d => d.parameters.length) = some 1 := by decide +kernel
set_option maxHeartbeats 4000000 in
set_option maxRecDepth 3000 in
theorem c_X5_undo (E : GE) (N : Nat) (hN : 16 ≤ N ∧ N ≤ 64) (a : Nat → Nat) (M : MS) (t : Int32) (e : Nat) (he : mEn M = nI e) (he3 : e ≤ 3) (w c : Nat) (hw : mWa M = nI w) (hw2 : w < 64) (hc : mSc M = nI c) (hc2 : c < N) : zI E yX5_undo wsX5_undo rmX5_undo [.ref (a 0), .int t] (wM E a N M) ((mFin N M t 0 e w c).1) (wM E a N ((mFin N M t 0 e w c).2)) := by
  refine zI_of (cc := cX5_undo) (maxL := 2) (ty := .int) (by decide) rfl (vp_nar_int _) (Nat.le_of_ble_eq_true rfl) ?_
  intro K C ret
  replace C : zC E K cX5_undo wsX5_undo RX5 rmX5_undo 2 := C
  show Z E K 0 0 (wM E a N M) 0 [(0, .ref (a 0)), (1, .int t)] []
  refine z_aload_n C 0 rfl rfl dX5_undo_0 ?_
  refine z_iload_n C 1 rfl rfl dX5_undo_1 ?_
  refine z_iconst C (v := 0) (by decide) dX5_undo_2 ?_
  obtain ⟨Mq2, hq3_2⟩ : ∃ z : MS, ((mFin N M t 0 e w c).2) = z := ⟨_, rfl⟩
  have ct1 : zI E yX5_finish wsX5_finish rmX5_finish [.ref (a 0), .int t, .int 0] (wM E a N M) ((mFin N M t 0 e w c).1) (wM E a N Mq2) := by subst hq3_2; exact c_X5_finish E N hN a M t 0 e he he3 w c hw hw2 hc hc2
  refine z_callVI C ct1 gX5_undo_X5_finish (ci := 5) (q0 := 0) rfl rfl hyX5_finish rfl ⟨rfl, rfl⟩ ⟨by decide, by decide⟩ ⟨by decide, by decide⟩ [0, 1, 2, 3, 4, 5, 6, 7, 8, 9, 10, 11] [] [0, 1, 2, 3, 4, 5, 6, 7, 8, 9, 10, 11] (wr := []) (V' := (wM E a N Mq2)) rfl rfl (by decide) (by decide) (by decide) rfl (by decide) (st := []) (Nat.le_of_ble_eq_true rfl) dX5_undo_3 ?_ rfl
  subst hq3_2
  exact ret _ _ _ _ (by first | rfl | (simp only [↓reduceIte]; done) | (simp only [↓reduceIte]; rfl) | (simp [↓reduceIte]; done)) (by first | rfl | (simp only [↓reduceIte]; done) | (simp only [↓reduceIte]; rfl) | (simp [↓reduceIte]; done)) dX5_undo_6
abbrev rmX5_get : Room := { frames := 2, cells := 0, slots := 0, locals := 42 }
theorem hyX5_get : yX5_get.cls = RX5 ∧ yX5_get.cls ≠ "java/lang/invoke/MethodHandle" ∧ yX5_get.cls ≠ "java/lang/invoke/VarHandle" ∧ (parseMethodDescriptor yX5_get.desc).map (fun d => d.parameters.length) = some 1 := by decide +kernel
set_option maxHeartbeats 4000000 in
set_option maxRecDepth 3000 in
theorem c_X5_get (E : GE) (N : Nat) (hN : 16 ≤ N ∧ N ≤ 64) (a : Nat → Nat) (M : MS) (k : Int32) : zI E yX5_get wsX5_get rmX5_get [.ref (a 0), .int k] (wM E a N M) (mGet M k) (wM E a N M) := by
  refine zI_of (cc := cX5_get) (maxL := 2) (ty := .int) (by decide) rfl (vp_nar_int _) (Nat.le_of_ble_eq_true rfl) ?_
  intro K C ret
  replace C : zC E K cX5_get wsX5_get RX5 rmX5_get 2 := C
  have in5 : ∀ w ∈ wsX50, w ∈ wsX5_get := fun w h => List.mem_cons_of_mem _ (List.mem_append_right _ (h))
  have l29 : zw K (.fieldLink RX5 29 "StoreLog3Model" "values" "[I") := C.w (List.mem_cons_of_mem _ (List.mem_append_left _ (List.mem_of_getElem? (i := 1) rfl)))
  have l64 : zw K (.fieldLink RX5 64 "StoreLog3Model" "isDown" "Z") := C.w (List.mem_cons_of_mem _ (List.mem_append_left _ (List.mem_of_getElem? (i := 0) rfl)))
  show Z E K 0 0 (wM E a N M) 0 [(0, .ref (a 0)), (1, .int k)] []
  refine z_aload_n C 0 rfl rfl dX5_get_0 ?_
  refine z_get C (Cn := RX5) (T := TX5) (Nf := 20) (ci := 5) in5 0 2 l64 (v := .int (mDn M)) rfl rfl (by decide) rfl dX5_get_1 ?_
  refine z_if_eq C (tgt := 12) dX5_get_4 (by decide) (fun h4_1t => ?_) (fun h4_1f => ?_)
  · refine z_iload_n C 1 rfl rfl dX5_get_12 ?_
    refine z_rSI C (c_X5_isKey E k) gX5_get_X5_isKey hyX5_isKey.2 rfl ⟨rfl, rfl⟩ ⟨by decide, by decide⟩ ⟨by decide, by decide⟩ [] rfl (by decide) (st := []) (Nat.le_of_ble_eq_true rfl) dX5_get_13 ?_ rfl
    refine z_if_eq C (tgt := 28) dX5_get_16 (by decide) (fun h16_2t => ?_) (fun h16_2f => ?_)
    · refine z_iconst C (v := (-1)) (by decide) dX5_get_28 ?_
      exact ret _ _ _ _ (by first | rfl | (simp only [mGet, if_pos h4_1t, if_pos h16_2t, ↓reduceIte]; done) | (simp only [mGet, if_pos h4_1t, if_pos h16_2t, ↓reduceIte]; rfl) | (simp [mGet, if_pos h4_1t, if_pos h16_2t, ↓reduceIte]; done)) rfl dX5_get_29
    · refine z_aload_n C 0 rfl rfl dX5_get_19 ?_
      refine z_get C (Cn := RX5) (T := TX5) (Nf := 20) (ci := 5) in5 0 14 l29 (v := .ref (a 7)) rfl rfl (by decide) rfl dX5_get_20 ?_
      refine z_iload_n C 1 rfl rfl dX5_get_23 ?_
      refine z_iald C 7 rfl (mIn31 h16_2f) (v := ((mVa M) k.toNatClampNeg)) rfl dX5_get_24 ?_
      refine z_goto C (tgt := 29) dX5_get_25 (by decide) ?_
      exact ret _ _ _ _ (by first | rfl | (simp only [mGet, if_pos h4_1t, if_neg h16_2f, ↓reduceIte]; done) | (simp only [mGet, if_pos h4_1t, if_neg h16_2f, ↓reduceIte]; rfl) | (simp [mGet, if_pos h4_1t, if_neg h16_2f, ↓reduceIte]; done)) rfl dX5_get_29
  · refine z_bipush C (v := (-3)) (by decide) dX5_get_7 ?_
    refine z_goto C (tgt := 29) dX5_get_9 (by decide) ?_
    exact ret _ _ _ _ (by first | rfl | (simp only [mGet, if_neg h4_1f, ↓reduceIte]; done) | (simp only [mGet, if_neg h4_1f, ↓reduceIte]; rfl) | (simp [mGet, if_neg h4_1f, ↓reduceIte]; done)) rfl dX5_get_29
abbrev rmX5_holder : Room := { frames := 2, cells := 0, slots := 0, locals := 42 }
theorem hyX5_holder : yX5_holder.cls = RX5 ∧ yX5_holder.cls ≠ "java/lang/invoke/MethodHandle" ∧ yX5_holder.cls ≠ "java/lang/invoke/VarHandle" ∧ (parseMethodDescriptor yX5_holder.desc).map (fun d => d.parameters.length) = some 1 := by decide +kernel
set_option maxHeartbeats 4000000 in
set_option maxRecDepth 3000 in
theorem c_X5_holder (E : GE) (N : Nat) (hN : 16 ≤ N ∧ N ≤ 64) (a : Nat → Nat) (M : MS) (k : Int32) : zI E yX5_holder wsX5_holder rmX5_holder [.ref (a 0), .int k] (wM E a N M) (mHold M k) (wM E a N M) := by
  refine zI_of (cc := cX5_holder) (maxL := 2) (ty := .int) (by decide) rfl (vp_nar_int _) (Nat.le_of_ble_eq_true rfl) ?_
  intro K C ret
  replace C : zC E K cX5_holder wsX5_holder RX5 rmX5_holder 2 := C
  have in5 : ∀ w ∈ wsX50, w ∈ wsX5_holder := fun w h => List.mem_cons_of_mem _ (List.mem_append_right _ (h))
  have l36 : zw K (.fieldLink RX5 36 "StoreLog3Model" "holders" "[I") := C.w (List.mem_cons_of_mem _ (List.mem_append_left _ (List.mem_of_getElem? (i := 1) rfl)))
  have l64 : zw K (.fieldLink RX5 64 "StoreLog3Model" "isDown" "Z") := C.w (List.mem_cons_of_mem _ (List.mem_append_left _ (List.mem_of_getElem? (i := 0) rfl)))
  show Z E K 0 0 (wM E a N M) 0 [(0, .ref (a 0)), (1, .int k)] []
  refine z_aload_n C 0 rfl rfl dX5_holder_0 ?_
  refine z_get C (Cn := RX5) (T := TX5) (Nf := 20) (ci := 5) in5 0 2 l64 (v := .int (mDn M)) rfl rfl (by decide) rfl dX5_holder_1 ?_
  refine z_if_eq C (tgt := 12) dX5_holder_4 (by decide) (fun h4_1t => ?_) (fun h4_1f => ?_)
  · refine z_iload_n C 1 rfl rfl dX5_holder_12 ?_
    refine z_rSI C (c_X5_isKey E k) gX5_holder_X5_isKey hyX5_isKey.2 rfl ⟨rfl, rfl⟩ ⟨by decide, by decide⟩ ⟨by decide, by decide⟩ [] rfl (by decide) (st := []) (Nat.le_of_ble_eq_true rfl) dX5_holder_13 ?_ rfl
    refine z_if_eq C (tgt := 28) dX5_holder_16 (by decide) (fun h16_2t => ?_) (fun h16_2f => ?_)
    · refine z_iconst C (v := (-1)) (by decide) dX5_holder_28 ?_
      exact ret _ _ _ _ (by first | rfl | (simp only [mHold, if_pos h4_1t, if_pos h16_2t, ↓reduceIte]; done) | (simp only [mHold, if_pos h4_1t, if_pos h16_2t, ↓reduceIte]; rfl) | (simp [mHold, if_pos h4_1t, if_pos h16_2t, ↓reduceIte]; done)) rfl dX5_holder_29
    · refine z_aload_n C 0 rfl rfl dX5_holder_19 ?_
      refine z_get C (Cn := RX5) (T := TX5) (Nf := 20) (ci := 5) in5 0 16 l36 (v := .ref (a 9)) rfl rfl (by decide) rfl dX5_holder_20 ?_
      refine z_iload_n C 1 rfl rfl dX5_holder_23 ?_
      refine z_iald C 9 rfl (mIn31 h16_2f) (v := ((mHo M) k.toNatClampNeg)) rfl dX5_holder_24 ?_
      refine z_goto C (tgt := 29) dX5_holder_25 (by decide) ?_
      exact ret _ _ _ _ (by first | rfl | (simp only [mHold, if_pos h4_1t, if_neg h16_2f, ↓reduceIte]; done) | (simp only [mHold, if_pos h4_1t, if_neg h16_2f, ↓reduceIte]; rfl) | (simp [mHold, if_pos h4_1t, if_neg h16_2f, ↓reduceIte]; done)) rfl dX5_holder_29
  · refine z_bipush C (v := (-3)) (by decide) dX5_holder_7 ?_
    refine z_goto C (tgt := 29) dX5_holder_9 (by decide) ?_
    exact ret _ _ _ _ (by first | rfl | (simp only [mHold, if_neg h4_1f, ↓reduceIte]; done) | (simp only [mHold, if_neg h4_1f, ↓reduceIte]; rfl) | (simp [mHold, if_neg h4_1f, ↓reduceIte]; done)) rfl dX5_holder_29
abbrev rmX5_seen : Room := { frames := 2, cells := 0, slots := 0, locals := 43 }
theorem hyX5_seen : yX5_seen.cls = RX5 ∧ yX5_seen.cls ≠ "java/lang/invoke/MethodHandle" ∧ yX5_seen.cls ≠ "java/lang/invoke/VarHandle" ∧ (parseMethodDescriptor yX5_seen.desc).map (fun d => d.parameters.length) = some 2 := by decide +kernel
set_option maxHeartbeats 4000000 in
set_option maxRecDepth 3000 in
theorem c_X5_seen (E : GE) (N : Nat) (hN : 16 ≤ N ∧ N ≤ 64) (a : Nat → Nat) (M : MS) (t : Int32) (k : Int32) : zI E yX5_seen wsX5_seen rmX5_seen [.ref (a 0), .int t, .int k] (wM E a N M) (mSeen M t k) (wM E a N M) := by
  refine zI_of (cc := cX5_seen) (maxL := 3) (ty := .int) (by decide) rfl (vp_nar_int _) (Nat.le_of_ble_eq_true rfl) ?_
  intro K C ret
  replace C : zC E K cX5_seen wsX5_seen RX5 rmX5_seen 3 := C
  have in5 : ∀ w ∈ wsX50, w ∈ wsX5_seen := fun w h => List.mem_cons_of_mem _ (List.mem_append_right _ (h))
  have l29 : zw K (.fieldLink RX5 29 "StoreLog3Model" "values" "[I") := C.w (List.mem_cons_of_mem _ (List.mem_append_left _ (List.mem_of_getElem? (i := 3) rfl)))
  have l36 : zw K (.fieldLink RX5 36 "StoreLog3Model" "holders" "[I") := C.w (List.mem_cons_of_mem _ (List.mem_append_left _ (List.mem_of_getElem? (i := 1) rfl)))
  have l39 : zw K (.fieldLink RX5 39 "StoreLog3Model" "held" "[I") := C.w (List.mem_cons_of_mem _ (List.mem_append_left _ (List.mem_of_getElem? (i := 2) rfl)))
  have l64 : zw K (.fieldLink RX5 64 "StoreLog3Model" "isDown" "Z") := C.w (List.mem_cons_of_mem _ (List.mem_append_left _ (List.mem_of_getElem? (i := 0) rfl)))
  show Z E K 0 0 (wM E a N M) 0 [(0, .ref (a 0)), (1, .int t), (2, .int k)] []
  refine z_aload_n C 0 rfl rfl dX5_seen_0 ?_
  refine z_get C (Cn := RX5) (T := TX5) (Nf := 20) (ci := 5) in5 0 2 l64 (v := .int (mDn M)) rfl rfl (by decide) rfl dX5_seen_1 ?_
  refine z_if_eq C (tgt := 10) dX5_seen_4 (by decide) (fun h4_1t => ?_) (fun h4_1f => ?_)
  · refine z_aload_n C 0 rfl rfl dX5_seen_10 ?_
    refine z_iload_n C 1 rfl rfl dX5_seen_11 ?_
    refine z_rVI C (c_X5_isOpenOne E N hN a M t) gX5_seen_X5_isOpenOne (ci := 5) (q0 := 0) rfl rfl hyX5_isOpenOne rfl ⟨rfl, rfl⟩ ⟨by decide, by decide⟩ ⟨by decide, by decide⟩ [0, 1, 2, 3, 4, 5, 6, 7, 8, 9, 10, 11] rfl (by decide) (st := []) (Nat.le_of_ble_eq_true rfl) dX5_seen_12 ?_ rfl
    refine z_if_eq C (tgt := 25) dX5_seen_15 (by decide) (fun h15_2t => ?_) (fun h15_2f => ?_)
    · refine z_iconst C (v := (-1)) (by decide) dX5_seen_25 ?_
      exact ret _ _ _ _ (by first | rfl | (simp only [mSeen, if_pos h4_1t, if_pos h15_2t, ↓reduceIte]; done) | (simp only [mSeen, if_pos h4_1t, if_pos h15_2t, ↓reduceIte]; rfl) | (simp [mSeen, if_pos h4_1t, if_pos h15_2t, ↓reduceIte]; done)) rfl dX5_seen_26
    · refine z_iload_n C 2 rfl rfl dX5_seen_18 ?_
      refine z_rSI C (c_X5_isKey E k) gX5_seen_X5_isKey hyX5_isKey.2 rfl ⟨rfl, rfl⟩ ⟨by decide, by decide⟩ ⟨by decide, by decide⟩ [] rfl (by decide) (st := []) (Nat.le_of_ble_eq_true rfl) dX5_seen_19 ?_ rfl
      refine z_if_ne C (tgt := 27) dX5_seen_22 (by decide) (fun h22_3t => ?_) (fun h22_3f => ?_)
      · refine z_aload_n C 0 rfl rfl dX5_seen_27 ?_
        refine z_get C (Cn := RX5) (T := TX5) (Nf := 20) (ci := 5) in5 0 16 l36 (v := .ref (a 9)) rfl rfl (by decide) rfl dX5_seen_28 ?_
        refine z_iload_n C 2 rfl rfl dX5_seen_31 ?_
        refine z_iald C 9 rfl (mIn31 h22_3t) (v := ((mHo M) k.toNatClampNeg)) rfl dX5_seen_32 ?_
        refine z_iload_n C 1 rfl rfl dX5_seen_33 ?_
        refine z_icmp_ne C (tgt := 46) dX5_seen_34 (by decide) (fun h34_4t => ?_) (fun h34_4f => ?_)
        · refine z_aload_n C 0 rfl rfl dX5_seen_46 ?_
          refine z_get C (Cn := RX5) (T := TX5) (Nf := 20) (ci := 5) in5 0 14 l29 (v := .ref (a 7)) rfl rfl (by decide) rfl dX5_seen_47 ?_
          refine z_iload_n C 2 rfl rfl dX5_seen_50 ?_
          refine z_iald C 7 rfl (mIn31 h22_3t) (v := ((mVa M) k.toNatClampNeg)) rfl dX5_seen_51 ?_
          exact ret _ _ _ _ (by first | rfl | (simp only [mSeen, if_pos h4_1t, if_neg h15_2f, if_neg h22_3t, if_neg h34_4t, ↓reduceIte]; done) | (simp only [mSeen, if_pos h4_1t, if_neg h15_2f, if_neg h22_3t, if_neg h34_4t, ↓reduceIte]; rfl) | (simp [mSeen, if_pos h4_1t, if_neg h15_2f, if_neg h22_3t, if_neg h34_4t, ↓reduceIte]; done)) rfl dX5_seen_52
        · refine z_aload_n C 0 rfl rfl dX5_seen_37 ?_
          refine z_get C (Cn := RX5) (T := TX5) (Nf := 20) (ci := 5) in5 0 17 l39 (v := .ref (a 10)) rfl rfl (by decide) rfl dX5_seen_38 ?_
          refine z_iload_n C 2 rfl rfl dX5_seen_41 ?_
          refine z_iald C 10 rfl (mIn31 h22_3t) (v := ((mHe M) k.toNatClampNeg)) rfl dX5_seen_42 ?_
          refine z_goto C (tgt := 52) dX5_seen_43 (by decide) ?_
          exact ret _ _ _ _ (by first | rfl | (simp only [mSeen, if_pos h4_1t, if_neg h15_2f, if_neg h22_3t, if_pos h34_4f, ↓reduceIte]; done) | (simp only [mSeen, if_pos h4_1t, if_neg h15_2f, if_neg h22_3t, if_pos h34_4f, ↓reduceIte]; rfl) | (simp [mSeen, if_pos h4_1t, if_neg h15_2f, if_neg h22_3t, if_pos h34_4f, ↓reduceIte]; done)) rfl dX5_seen_52
      · refine z_iconst C (v := (-1)) (by decide) dX5_seen_25 ?_
        exact ret _ _ _ _ (by first | rfl | (simp only [mSeen, if_pos h4_1t, if_neg h15_2f, if_pos h22_3f, ↓reduceIte]; done) | (simp only [mSeen, if_pos h4_1t, if_neg h15_2f, if_pos h22_3f, ↓reduceIte]; rfl) | (simp [mSeen, if_pos h4_1t, if_neg h15_2f, if_pos h22_3f, ↓reduceIte]; done)) rfl dX5_seen_26
  · refine z_bipush C (v := (-3)) (by decide) dX5_seen_7 ?_
    exact ret _ _ _ _ (by first | rfl | (simp only [mSeen, if_neg h4_1f, ↓reduceIte]; done) | (simp only [mSeen, if_neg h4_1f, ↓reduceIte]; rfl) | (simp [mSeen, if_neg h4_1f, ↓reduceIte]; done)) rfl dX5_seen_9
abbrev rmX5_forget : Room := { frames := 0, cells := 0, slots := 0, locals := 0 }
theorem hyX5_forget : yX5_forget.cls = RX5 ∧ yX5_forget.cls ≠ "java/lang/invoke/MethodHandle" ∧ yX5_forget.cls ≠ "java/lang/invoke/VarHandle" ∧ (parseMethodDescriptor yX5_forget.desc).map (fun d => d.parameters.length) = some 0 := by decide +kernel
set_option maxHeartbeats 4000000 in
set_option maxRecDepth 3000 in
theorem c_X5_forget (E : GE) (N : Nat) (hN : 16 ≤ N ∧ N ≤ 64) (a : Nat → Nat) (M : MS) : zV E yX5_forget wsX5_forget rmX5_forget [.ref (a 0)] (wM E a N M) (wM E a N (msHo (msVa (msOp (msCm (msEn (msWa M 0) 0) 0) (fgO (mOp M) 3)) (fgV (mVa M) 32)) (fgV (mHo M) 32))) := by
  refine zV_of (cc := cX5_forget) (maxL := 2) (by decide) rfl (Nat.le_of_ble_eq_true rfl) ?_
  intro K C ret
  replace C : zC E K cX5_forget wsX5_forget RX5 rmX5_forget 2 := C
  have in5 : ∀ w ∈ wsX50, w ∈ wsX5_forget := fun w h => List.mem_cons_of_mem _ (List.mem_append_right _ (h))
  have l29 : zw K (.fieldLink RX5 29 "StoreLog3Model" "values" "[I") := C.w (List.mem_cons_of_mem _ (List.mem_append_left _ (List.mem_of_getElem? (i := 4) rfl)))
  have l32 : zw K (.fieldLink RX5 32 "StoreLog3Model" "isOpen" "[Z") := C.w (List.mem_cons_of_mem _ (List.mem_append_left _ (List.mem_of_getElem? (i := 3) rfl)))
  have l36 : zw K (.fieldLink RX5 36 "StoreLog3Model" "holders" "[I") := C.w (List.mem_cons_of_mem _ (List.mem_append_left _ (List.mem_of_getElem? (i := 5) rfl)))
  have l52 : zw K (.fieldLink RX5 52 "StoreLog3Model" "waiting" "I") := C.w (List.mem_cons_of_mem _ (List.mem_append_left _ (List.mem_of_getElem? (i := 0) rfl)))
  have l55 : zw K (.fieldLink RX5 55 "StoreLog3Model" "entries" "I") := C.w (List.mem_cons_of_mem _ (List.mem_append_left _ (List.mem_of_getElem? (i := 1) rfl)))
  have l58 : zw K (.fieldLink RX5 58 "StoreLog3Model" "commits" "I") := C.w (List.mem_cons_of_mem _ (List.mem_append_left _ (List.mem_of_getElem? (i := 2) rfl)))
  show Z E K 0 0 (wM E a N M) 0 [(0, .ref (a 0))] []
  refine z_aload_n C 0 rfl rfl dX5_forget_0 ?_
  refine z_iconst C (v := 0) (by decide) dX5_forget_1 ?_
  refine z_put C (Cn := RX5) (T := TX5) (Nf := 20) (ci := 5) in5 0 3 l52 rfl rfl (by decide) tyX5 tyX5_ok nmX5 rfl rfl rfl (Nat.le_of_ble_eq_true rfl) (V' := (wM E a N (msWa M 0))) rfl dX5_forget_2 ?_
  refine z_aload_n C 0 rfl rfl dX5_forget_5 ?_
  refine z_iconst C (v := 0) (by decide) dX5_forget_6 ?_
  refine z_put C (Cn := RX5) (T := TX5) (Nf := 20) (ci := 5) in5 0 10 l55 rfl rfl (by decide) tyX5 tyX5_ok nmX5 rfl rfl rfl (Nat.le_of_ble_eq_true rfl) (V' := (wM E a N (msEn (msWa M 0) 0))) rfl dX5_forget_7 ?_
  refine z_aload_n C 0 rfl rfl dX5_forget_10 ?_
  refine z_iconst C (v := 0) (by decide) dX5_forget_11 ?_
  refine z_put C (Cn := RX5) (T := TX5) (Nf := 20) (ci := 5) in5 0 18 l58 rfl rfl (by decide) tyX5 tyX5_ok nmX5 rfl rfl rfl (Nat.le_of_ble_eq_true rfl) (V' := (wM E a N (msCm (msEn (msWa M 0) 0) 0))) rfl dX5_forget_12 ?_
  refine z_iconst C (v := 0) (by decide) dX5_forget_15 ?_
  refine z_istore_n C (lv' := [(1, .int 0), (0, .ref (a 0))]) rfl rfl (by decide) dX5_forget_16 ?_
  have loop17 : ∀ (n j : Nat), j + n = 3 → Z E K 0 0 (wM E a N (msOp (msCm (msEn (msWa M 0) 0) 0) (fgO (mOp M) j))) 17 [(0, .ref (a 0)), (1, .int (nI j))] [] := by
    intro n
    induction n with
    | zero => 
      intro j hj
      obtain rfl : j = 3 := by omega
      obtain ⟨fz1, hz1⟩ : ∃ z : Nat → Int32, (fgO (mOp M) 3) = z := ⟨_, rfl⟩
      rw [hz1]
      refine z_iload_n C 1 rfl rfl dX5_forget_17 ?_
      refine z_iconst C (v := 3) (by decide) dX5_forget_18 ?_
      refine z_icmp_ge C (tgt := 35) dX5_forget_19 (by decide) (fun h19_1 => ?_) (fun h19_1 => absurd (nI_le (a := 3) (b := 3) (Nat.le_refl _) (by omega)) h19_1)
      refine z_iconst C (v := 0) (by decide) dX5_forget_35 ?_
      refine z_istore_n C (lv' := [(1, .int 0), (0, .ref (a 0))]) rfl rfl (by decide) dX5_forget_36 ?_
      subst hz1
      have loop37 : ∀ (n j : Nat), j + n = 32 → Z E K 0 0 (wM E a N (msHo (msVa (msOp (msCm (msEn (msWa M 0) 0) 0) (fgO (mOp M) 3)) (fgV (mVa M) j)) (fgV (mHo M) j))) 37 [(0, .ref (a 0)), (1, .int (nI j))] [] := by
        intro n
        induction n with
        | zero => 
          intro j hj
          obtain rfl : j = 32 := by omega
          obtain ⟨fz2, hz2⟩ : ∃ z : Nat → Int32, (fgO (mOp M) 3) = z := ⟨_, rfl⟩
          rw [hz2]
          obtain ⟨fz3, hz3⟩ : ∃ z : Nat → Int32, (fgV (mVa M) 32) = z := ⟨_, rfl⟩
          rw [hz3]
          obtain ⟨fz4, hz4⟩ : ∃ z : Nat → Int32, (fgV (mHo M) 32) = z := ⟨_, rfl⟩
          rw [hz4]
          refine z_iload_n C 1 rfl rfl dX5_forget_37 ?_
          refine z_bipush C (v := 32) (by decide) dX5_forget_38 ?_
          refine z_icmp_ge C (tgt := 63) dX5_forget_40 (by decide) (fun h40_2 => ?_) (fun h40_2 => absurd (nI_le (a := 32) (b := 32) (Nat.le_refl _) (by omega)) h40_2)
          subst hz4
          subst hz3
          subst hz2
          exact ret _ _ _ (by first | rfl | (simp only [if_pos h19_1, if_pos h40_2, ↓reduceIte]; done) | (simp only [if_pos h19_1, if_pos h40_2, ↓reduceIte]; rfl) | (simp [if_pos h19_1, if_pos h40_2, ↓reduceIte]; done)) dX5_forget_63
        | succ n ih37 => 
          intro j hj
          refine z_iload_n C 1 rfl rfl dX5_forget_37 ?_
          refine z_bipush C (v := 32) (by decide) dX5_forget_38 ?_
          refine z_icmp_ge C (tgt := 63) dX5_forget_40 (by decide) (fun h40_3 => absurd h40_3 (nI_ge (a := j) (b := 32) (by omega) (by omega))) (fun h40_3 => ?_)
          refine z_aload_n C 0 rfl rfl dX5_forget_43 ?_
          refine z_get C (Cn := RX5) (T := TX5) (Nf := 20) (ci := 5) in5 0 14 l29 (v := .ref (a 7)) rfl rfl (by decide) rfl dX5_forget_44 ?_
          refine z_iload_n C 1 rfl rfl dX5_forget_47 ?_
          refine z_iconst C (v := (-1)) (by decide) dX5_forget_48 ?_
          obtain ⟨fz5, hz5⟩ : ∃ z : Nat → Int32, (upd (fgV (mVa M) j) j (-1)) = z := ⟨_, rfl⟩
          refine z_iast C 7 rfl (vp_in_nI (by omega) (by omega)) (g := fz5) (Eq.trans (by rw [nI_clamp (by omega)]) hz5) (V' := (wM E a N (msVa (msHo (msOp (msCm (msEn (msWa M 0) 0) 0) (fgO (mOp M) 3)) (fgV (mHo M) j)) fz5))) rfl dX5_forget_49 ?_
          refine z_aload_n C 0 rfl rfl dX5_forget_50 ?_
          refine z_get C (Cn := RX5) (T := TX5) (Nf := 20) (ci := 5) in5 0 16 l36 (v := .ref (a 9)) rfl rfl (by decide) rfl dX5_forget_51 ?_
          refine z_iload_n C 1 rfl rfl dX5_forget_54 ?_
          refine z_iconst C (v := (-1)) (by decide) dX5_forget_55 ?_
          obtain ⟨fz6, hz6⟩ : ∃ z : Nat → Int32, (upd (fgV (mHo M) j) j (-1)) = z := ⟨_, rfl⟩
          refine z_iast C 9 rfl (vp_in_nI (by omega) (by omega)) (g := fz6) (Eq.trans (by rw [nI_clamp (by omega)]) hz6) (V' := (wM E a N (msHo (msVa (msOp (msCm (msEn (msWa M 0) 0) 0) (fgO (mOp M) 3)) fz5) fz6))) rfl dX5_forget_56 ?_
          refine z_iinc C 1 rfl (v := (nI (j + 1))) (zinc _) (lv' := [(1, .int (nI (j + 1))), (0, .ref (a 0))]) rfl (by decide) dX5_forget_57 ?_
          refine z_goto C (tgt := 37) dX5_forget_60 (by decide) ?_
          subst hz6
          subst hz5
          refine z_lv (lv' := [(0, .ref (a 0)), (1, .int (nI (j + 1)))]) [1, 0] rfl ?_
          exact ih37 (j + 1)  (by omega)
      refine z_lv (lv' := [(0, .ref (a 0)), (1, .int 0)]) [1, 0] rfl ?_
      exact loop37 32 0  (by omega)
    | succ n ih17 => 
      intro j hj
      refine z_iload_n C 1 rfl rfl dX5_forget_17 ?_
      refine z_iconst C (v := 3) (by decide) dX5_forget_18 ?_
      refine z_icmp_ge C (tgt := 35) dX5_forget_19 (by decide) (fun h19_4 => absurd h19_4 (nI_ge (a := j) (b := 3) (by omega) (by omega))) (fun h19_4 => ?_)
      refine z_aload_n C 0 rfl rfl dX5_forget_22 ?_
      refine z_get C (Cn := RX5) (T := TX5) (Nf := 20) (ci := 5) in5 0 15 l32 (v := .ref (a 8)) rfl rfl (by decide) rfl dX5_forget_23 ?_
      refine z_iload_n C 1 rfl rfl dX5_forget_26 ?_
      refine z_iconst C (v := 0) (by decide) dX5_forget_27 ?_
      obtain ⟨fz7, hz7⟩ : ∃ z : Nat → Int32, (upd (fgO (mOp M) j) j 0) = z := ⟨_, rfl⟩
      refine z_zast C 8 rfl (vp_in_nI (by omega) (by omega)) (g := fz7) (Eq.trans (by rw [vz_0, nI_clamp (by omega)]) hz7) (V' := (wM E a N (msOp (msCm (msEn (msWa M 0) 0) 0) fz7))) rfl dX5_forget_28 ?_
      refine z_iinc C 1 rfl (v := (nI (j + 1))) (zinc _) (lv' := [(1, .int (nI (j + 1))), (0, .ref (a 0))]) rfl (by decide) dX5_forget_29 ?_
      refine z_goto C (tgt := 17) dX5_forget_32 (by decide) ?_
      subst hz7
      refine z_lv (lv' := [(0, .ref (a 0)), (1, .int (nI (j + 1)))]) [1, 0] rfl ?_
      exact ih17 (j + 1)  (by omega)
  refine z_lv (lv' := [(0, .ref (a 0)), (1, .int 0)]) [1, 0] rfl ?_
  exact loop17 3 0  (by omega)

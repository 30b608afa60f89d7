abbrev rmX5_put : Room := { frames := 5, cells := 0, slots := 0, locals := 112 }
theorem hyX5_put : yX5_put.cls = RX5 ∧ yX5_put.cls ≠ "java/lang/invoke/MethodHandle" ∧ yX5_put.cls ≠ "java/lang/invoke/VarHandle" ∧ (parseMethodDescriptor yX5_put.desc).map (fun d => d.parameters.length) = some 3 := by decide +kernel
set_option maxHeartbeats 4000000 in
set_option maxRecDepth 3000 in
theorem c_X5_put (E : GE) (N : Nat) (hN : 16 ≤ N ∧ N ≤ 64) (a : Nat → Nat) (M : MS) (t : Int32) (k : Int32) (v : Int32) (e : Nat) (he : mEn M = nI e) (he3 : e ≤ 3) (w c : Nat) (hw : mWa M = nI w) (hw2 : w < 64) (hc : mSc M = nI c) (hc2 : c < N) : zI E yX5_put wsX5_put rmX5_put [.ref (a 0), .int t, .int k, .int v] (wM E a N M) ((mPut N M t k v e w c).1) (wM E a N ((mPut N M t k v e w c).2)) := by
  refine zI_of (cc := cX5_put) (maxL := 4) (ty := .int) (by decide) rfl (vp_nar_int _) (Nat.le_of_ble_eq_true rfl) ?_
  intro K C ret
  replace C : zC E K cX5_put wsX5_put RX5 rmX5_put 4 := C
  have in5 : ∀ w ∈ wsX50, w ∈ wsX5_put := fun w h => List.mem_cons_of_mem _ (List.mem_append_right _ (h))
  have l36 : zw K (.fieldLink RX5 36 "StoreLog3Model" "holders" "[I") := C.w (List.mem_cons_of_mem _ (List.mem_append_left _ (List.mem_append_left _ (List.mem_of_getElem? (i := 2) rfl))))
  have l39 : zw K (.fieldLink RX5 39 "StoreLog3Model" "held" "[I") := C.w (List.mem_cons_of_mem _ (List.mem_append_left _ (List.mem_append_left _ (List.mem_of_getElem? (i := 3) rfl))))
  have l64 : zw K (.fieldLink RX5 64 "StoreLog3Model" "isDown" "Z") := C.w (List.mem_cons_of_mem _ (List.mem_append_left _ (List.mem_append_left _ (List.mem_of_getElem? (i := 0) rfl))))
  have l121 : zw K (.constant RX5 121 (16777215)) := C.w (List.mem_cons_of_mem _ (List.mem_append_left _ (List.mem_append_left _ (List.mem_of_getElem? (i := 1) rfl))))
  show Z E K 0 0 (wM E a N M) 0 [(0, .ref (a 0)), (1, .int t), (2, .int k), (3, .int v)] []
  refine z_aload_n C 0 rfl rfl dX5_put_0 ?_
  refine z_get C (Cn := RX5) (T := TX5) (Nf := 20) (ci := 5) in5 0 2 l64 (v := .int (mDn M)) rfl rfl (by decide) rfl dX5_put_1 ?_
  refine z_if_eq C (tgt := 10) dX5_put_4 (by decide) (fun h4_1t => ?_) (fun h4_1f => ?_)
  · refine z_aload_n C 0 rfl rfl dX5_put_10 ?_
    refine z_iload_n C 1 rfl rfl dX5_put_11 ?_
    refine z_rVI C (c_X5_isOpenOne E N hN a M t) gX5_put_X5_isOpenOne (ci := 5) (q0 := 0) rfl rfl hyX5_isOpenOne rfl ⟨rfl, rfl⟩ ⟨by decide, by decide⟩ ⟨by decide, by decide⟩ [0, 1, 2, 3, 4, 5, 6, 7, 8, 9, 10, 11] rfl (by decide) (st := []) (Nat.le_of_ble_eq_true rfl) dX5_put_12 ?_ rfl
    refine z_if_eq C (tgt := 35) dX5_put_15 (by decide) (fun h15_2t => ?_) (fun h15_2f => ?_)
    · refine z_iconst C (v := (-1)) (by decide) dX5_put_35 ?_
      exact ret _ _ _ _ (by first | rfl | (simp only [mPut, mPutE, if_pos h4_1t, if_pos h15_2t, ↓reduceIte]; done) | (simp only [mPut, mPutE, if_pos h4_1t, if_pos h15_2t, ↓reduceIte]; rfl) | (simp [mPut, mPutE, if_pos h4_1t, if_pos h15_2t, ↓reduceIte]; done)) (by first | rfl | (simp only [mPut, mPutE, if_pos h4_1t, if_pos h15_2t, ↓reduceIte]; done) | (simp only [mPut, mPutE, if_pos h4_1t, if_pos h15_2t, ↓reduceIte]; rfl) | (simp [mPut, mPutE, if_pos h4_1t, if_pos h15_2t, ↓reduceIte]; done)) dX5_put_36
    · refine z_iload_n C 2 rfl rfl dX5_put_18 ?_
      refine z_rSI C (c_X5_isKey E k) gX5_put_X5_isKey hyX5_isKey.2 rfl ⟨rfl, rfl⟩ ⟨by decide, by decide⟩ ⟨by decide, by decide⟩ [] rfl (by decide) (st := []) (Nat.le_of_ble_eq_true rfl) dX5_put_19 ?_ rfl
      refine z_if_eq C (tgt := 35) dX5_put_22 (by decide) (fun h22_3t => ?_) (fun h22_3f => ?_)
      · refine z_iconst C (v := (-1)) (by decide) dX5_put_35 ?_
        exact ret _ _ _ _ (by first | rfl | (simp only [mPut, mPutE, if_pos h4_1t, if_neg h15_2f, if_pos h22_3t, ↓reduceIte]; done) | (simp only [mPut, mPutE, if_pos h4_1t, if_neg h15_2f, if_pos h22_3t, ↓reduceIte]; rfl) | (simp [mPut, mPutE, if_pos h4_1t, if_neg h15_2f, if_pos h22_3t, ↓reduceIte]; done)) (by first | rfl | (simp only [mPut, mPutE, if_pos h4_1t, if_neg h15_2f, if_pos h22_3t, ↓reduceIte]; done) | (simp only [mPut, mPutE, if_pos h4_1t, if_neg h15_2f, if_pos h22_3t, ↓reduceIte]; rfl) | (simp [mPut, mPutE, if_pos h4_1t, if_neg h15_2f, if_pos h22_3t, ↓reduceIte]; done)) dX5_put_36
      · refine z_iload_n C 3 rfl rfl dX5_put_25 ?_
        refine z_iconst C (v := (-1)) (by decide) dX5_put_26 ?_
        refine z_ldc C l121 dX5_put_27 ?_
        refine z_rSI C (c_X5_isIn E v (-1) 16777215) gX5_put_X5_isIn hyX5_isIn.2 rfl ⟨rfl, rfl⟩ ⟨by decide, by decide⟩ ⟨by decide, by decide⟩ [] rfl (by decide) (st := []) (Nat.le_of_ble_eq_true rfl) dX5_put_29 ?_ rfl
        refine z_if_ne C (tgt := 37) dX5_put_32 (by decide) (fun h32_4t => ?_) (fun h32_4f => ?_)
        · refine z_aload_n C 0 rfl rfl dX5_put_37 ?_
          refine z_get C (Cn := RX5) (T := TX5) (Nf := 20) (ci := 5) in5 0 16 l36 (v := .ref (a 9)) rfl rfl (by decide) rfl dX5_put_38 ?_
          refine z_iload_n C 2 rfl rfl dX5_put_41 ?_
          refine z_iald C 9 rfl (mIn31 h22_3f) (v := ((mHo M) k.toNatClampNeg)) rfl dX5_put_42 ?_
          refine z_iconst C (v := (-1)) (by decide) dX5_put_43 ?_
          refine z_icmp_eq C (tgt := 59) dX5_put_44 (by decide) (fun h44_5t => ?_) (fun h44_5f => ?_)
          · refine z_aload_n C 0 rfl rfl dX5_put_59 ?_
            refine z_rVI C (c_X5_mayAdd E N hN a M) gX5_put_X5_mayAdd (ci := 5) (q0 := 0) rfl rfl hyX5_mayAdd rfl ⟨rfl, rfl⟩ ⟨by decide, by decide⟩ ⟨by decide, by decide⟩ [0, 1, 2, 3, 4, 5, 6, 7, 8, 9, 10, 11] rfl (by decide) (st := []) (Nat.le_of_ble_eq_true rfl) dX5_put_60 ?_ rfl
            refine z_if_ne C (tgt := 69) dX5_put_63 (by decide) (fun h63_6t => ?_) (fun h63_6f => ?_)
            · refine z_aload_n C 0 rfl rfl dX5_put_69 ?_
              refine z_get C (Cn := RX5) (T := TX5) (Nf := 20) (ci := 5) in5 0 16 l36 (v := .ref (a 9)) rfl rfl (by decide) rfl dX5_put_70 ?_
              refine z_iload_n C 2 rfl rfl dX5_put_73 ?_
              refine z_iload_n C 1 rfl rfl dX5_put_74 ?_
              obtain ⟨fz1, hz1⟩ : ∃ z : Nat → Int32, (upd (mHo M) k.toNatClampNeg t) = z := ⟨_, rfl⟩
              refine z_iast C 9 rfl (mIn31 h22_3f) (g := fz1) (Eq.trans rfl hz1) (V' := (wM E a N (msHo M fz1))) rfl dX5_put_75 ?_
              refine z_aload_n C 0 rfl rfl dX5_put_76 ?_
              refine z_get C (Cn := RX5) (T := TX5) (Nf := 20) (ci := 5) in5 0 17 l39 (v := .ref (a 10)) rfl rfl (by decide) rfl dX5_put_77 ?_
              refine z_iload_n C 2 rfl rfl dX5_put_80 ?_
              refine z_iload_n C 3 rfl rfl dX5_put_81 ?_
              obtain ⟨fz2, hz2⟩ : ∃ z : Nat → Int32, (upd (mHe M) k.toNatClampNeg v) = z := ⟨_, rfl⟩
              refine z_iast C 10 rfl (mIn31 h22_3f) (g := fz2) (Eq.trans rfl hz2) (V' := (wM E a N (msHe (msHo M fz1) fz2))) rfl dX5_put_82 ?_
              refine z_aload_n C 0 rfl rfl dX5_put_83 ?_
              refine z_iconst C (v := 4) (by decide) dX5_put_84 ?_
              refine z_iload_n C 1 rfl rfl dX5_put_85 ?_
              refine z_imul C dX5_put_86 ?_
              refine z_iload_n C 3 rfl rfl dX5_put_87 ?_
              refine z_iconst C (v := (-1)) (by decide) dX5_put_88 ?_
              refine z_icmp_ne C (tgt := 96) dX5_put_89 (by decide) (fun h89_7t => ?_) (fun h89_7f => ?_)
              · refine z_iconst C (v := 0) (by decide) dX5_put_96 ?_
                refine z_iadd C dX5_put_97 ?_
                refine z_iload_n C 2 rfl rfl dX5_put_98 ?_
                refine z_iload_n C 3 rfl rfl dX5_put_99 ?_
                refine z_iconst C (v := (-1)) (by decide) dX5_put_100 ?_
                refine z_icmp_ne C (tgt := 108) dX5_put_101 (by decide) (fun h101_8 => ?_) (fun h101_8 => absurd h101_8 h89_7t)
                refine z_iload_n C 3 rfl rfl dX5_put_108 ?_
                obtain ⟨Mq4, hq109_4⟩ : ∃ z : MS, (mAdd N (msHe (msHo M fz1) fz2) ((4 * t) + 0) k v e w c) = z := ⟨_, rfl⟩
                have ct3 : zV E yX5_add wsX5_add rmX5_add [.ref (a 0), .int ((4 * t) + 0), .int k, .int v] (wM E a N (msHe (msHo M fz1) fz2)) (wM E a N Mq4) := by subst hq109_4; exact c_X5_add E N hN a (msHe (msHo M fz1) fz2) ((4 * t) + 0) k v e he he3 w c hw hw2 hc hc2
                refine z_callVV C ct3 gX5_put_X5_add (ci := 5) (q0 := 0) rfl rfl hyX5_add rfl ⟨rfl, rfl⟩ ⟨by decide, by decide⟩ ⟨by decide, by decide⟩ [0, 1, 2, 3, 4, 5, 6, 7, 8, 9, 10, 11] [] [0, 1, 2, 3, 4, 5, 6, 7, 8, 9, 10, 11] (wr := []) (V' := (wM E a N Mq4)) rfl rfl (by decide) (by decide) (by decide) rfl (by decide) (st := []) (Nat.le_of_ble_eq_true rfl) dX5_put_109 ?_ rfl
                refine z_iconst C (v := 1) (by decide) dX5_put_112 ?_
                subst hq109_4
                subst hz2
                subst hz1
                exact ret _ _ _ _ (by first | rfl | (simp only [mPut, mPutE, if_pos h4_1t, if_neg h15_2f, if_neg h22_3f, if_neg h32_4t, if_pos h44_5t, if_neg h63_6t, if_neg h89_7t, if_neg h101_8, ↓reduceIte]; done) | (simp only [mPut, mPutE, if_pos h4_1t, if_neg h15_2f, if_neg h22_3f, if_neg h32_4t, if_pos h44_5t, if_neg h63_6t, if_neg h89_7t, if_neg h101_8, ↓reduceIte]; rfl) | (simp [mPut, mPutE, if_pos h4_1t, if_neg h15_2f, if_neg h22_3f, if_neg h32_4t, if_pos h44_5t, if_neg h63_6t, if_neg h89_7t, if_neg h101_8, ↓reduceIte]; done)) (by first | rfl | (simp only [mPut, mPutE, if_pos h4_1t, if_neg h15_2f, if_neg h22_3f, if_neg h32_4t, if_pos h44_5t, if_neg h63_6t, if_neg h89_7t, if_neg h101_8, ↓reduceIte]; done) | (simp only [mPut, mPutE, if_pos h4_1t, if_neg h15_2f, if_neg h22_3f, if_neg h32_4t, if_pos h44_5t, if_neg h63_6t, if_neg h89_7t, if_neg h101_8, ↓reduceIte]; rfl) | (simp [mPut, mPutE, if_pos h4_1t, if_neg h15_2f, if_neg h22_3f, if_neg h32_4t, if_pos h44_5t, if_neg h63_6t, if_neg h89_7t, if_neg h101_8, ↓reduceIte]; done)) dX5_put_113
              · refine z_iconst C (v := 1) (by decide) dX5_put_92 ?_
                refine z_goto C (tgt := 97) dX5_put_93 (by decide) ?_
                refine z_iadd C dX5_put_97 ?_
                refine z_iload_n C 2 rfl rfl dX5_put_98 ?_
                refine z_iload_n C 3 rfl rfl dX5_put_99 ?_
                refine z_iconst C (v := (-1)) (by decide) dX5_put_100 ?_
                refine z_icmp_ne C (tgt := 108) dX5_put_101 (by decide) (fun h101_9 => absurd h89_7f h101_9) (fun h101_9 => ?_)
                refine z_iconst C (v := 0) (by decide) dX5_put_104 ?_
                refine z_goto C (tgt := 109) dX5_put_105 (by decide) ?_
                obtain ⟨Mq6, hq109_6⟩ : ∃ z : MS, (mAdd N (msHe (msHo M fz1) fz2) ((4 * t) + 1) k 0 e w c) = z := ⟨_, rfl⟩
                have ct5 : zV E yX5_add wsX5_add rmX5_add [.ref (a 0), .int ((4 * t) + 1), .int k, .int 0] (wM E a N (msHe (msHo M fz1) fz2)) (wM E a N Mq6) := by subst hq109_6; exact c_X5_add E N hN a (msHe (msHo M fz1) fz2) ((4 * t) + 1) k 0 e he he3 w c hw hw2 hc hc2
                refine z_callVV C ct5 gX5_put_X5_add (ci := 5) (q0 := 0) rfl rfl hyX5_add rfl ⟨rfl, rfl⟩ ⟨by decide, by decide⟩ ⟨by decide, by decide⟩ [0, 1, 2, 3, 4, 5, 6, 7, 8, 9, 10, 11] [] [0, 1, 2, 3, 4, 5, 6, 7, 8, 9, 10, 11] (wr := []) (V' := (wM E a N Mq6)) rfl rfl (by decide) (by decide) (by decide) rfl (by decide) (st := []) (Nat.le_of_ble_eq_true rfl) dX5_put_109 ?_ rfl
                refine z_iconst C (v := 1) (by decide) dX5_put_112 ?_
                subst hq109_6
                subst hz2
                subst hz1
                exact ret _ _ _ _ (by first | rfl | (simp only [mPut, mPutE, if_pos h4_1t, if_neg h15_2f, if_neg h22_3f, if_neg h32_4t, if_pos h44_5t, if_neg h63_6t, if_pos h89_7f, if_pos h101_9, ↓reduceIte]; done) | (simp only [mPut, mPutE, if_pos h4_1t, if_neg h15_2f, if_neg h22_3f, if_neg h32_4t, if_pos h44_5t, if_neg h63_6t, if_pos h89_7f, if_pos h101_9, ↓reduceIte]; rfl) | (simp [mPut, mPutE, if_pos h4_1t, if_neg h15_2f, if_neg h22_3f, if_neg h32_4t, if_pos h44_5t, if_neg h63_6t, if_pos h89_7f, if_pos h101_9, ↓reduceIte]; done)) (by first | rfl | (simp only [mPut, mPutE, if_pos h4_1t, if_neg h15_2f, if_neg h22_3f, if_neg h32_4t, if_pos h44_5t, if_neg h63_6t, if_pos h89_7f, if_pos h101_9, ↓reduceIte]; done) | (simp only [mPut, mPutE, if_pos h4_1t, if_neg h15_2f, if_neg h22_3f, if_neg h32_4t, if_pos h44_5t, if_neg h63_6t, if_pos h89_7f, if_pos h101_9, ↓reduceIte]; rfl) | (simp [mPut, mPutE, if_pos h4_1t, if_neg h15_2f, if_neg h22_3f, if_neg h32_4t, if_pos h44_5t, if_neg h63_6t, if_pos h89_7f, if_pos h101_9, ↓reduceIte]; done)) dX5_put_113
            · refine z_bipush C (v := (-2)) (by decide) dX5_put_66 ?_
              exact ret _ _ _ _ (by first | rfl | (simp only [mPut, mPutE, if_pos h4_1t, if_neg h15_2f, if_neg h22_3f, if_neg h32_4t, if_pos h44_5t, if_pos h63_6f, ↓reduceIte]; done) | (simp only [mPut, mPutE, if_pos h4_1t, if_neg h15_2f, if_neg h22_3f, if_neg h32_4t, if_pos h44_5t, if_pos h63_6f, ↓reduceIte]; rfl) | (simp [mPut, mPutE, if_pos h4_1t, if_neg h15_2f, if_neg h22_3f, if_neg h32_4t, if_pos h44_5t, if_pos h63_6f, ↓reduceIte]; done)) (by first | rfl | (simp only [mPut, mPutE, if_pos h4_1t, if_neg h15_2f, if_neg h22_3f, if_neg h32_4t, if_pos h44_5t, if_pos h63_6f, ↓reduceIte]; done) | (simp only [mPut, mPutE, if_pos h4_1t, if_neg h15_2f, if_neg h22_3f, if_neg h32_4t, if_pos h44_5t, if_pos h63_6f, ↓reduceIte]; rfl) | (simp [mPut, mPutE, if_pos h4_1t, if_neg h15_2f, if_neg h22_3f, if_neg h32_4t, if_pos h44_5t, if_pos h63_6f, ↓reduceIte]; done)) dX5_put_68
          · refine z_aload_n C 0 rfl rfl dX5_put_47 ?_
            refine z_get C (Cn := RX5) (T := TX5) (Nf := 20) (ci := 5) in5 0 16 l36 (v := .ref (a 9)) rfl rfl (by decide) rfl dX5_put_48 ?_
            refine z_iload_n C 2 rfl rfl dX5_put_51 ?_
            refine z_iald C 9 rfl (mIn31 h22_3f) (v := ((mHo M) k.toNatClampNeg)) rfl dX5_put_52 ?_
            refine z_iload_n C 1 rfl rfl dX5_put_53 ?_
            refine z_icmp_eq C (tgt := 59) dX5_put_54 (by decide) (fun h54_10t => ?_) (fun h54_10f => ?_)
            · refine z_aload_n C 0 rfl rfl dX5_put_59 ?_
              refine z_rVI C (c_X5_mayAdd E N hN a M) gX5_put_X5_mayAdd (ci := 5) (q0 := 0) rfl rfl hyX5_mayAdd rfl ⟨rfl, rfl⟩ ⟨by decide, by decide⟩ ⟨by decide, by decide⟩ [0, 1, 2, 3, 4, 5, 6, 7, 8, 9, 10, 11] rfl (by decide) (st := []) (Nat.le_of_ble_eq_true rfl) dX5_put_60 ?_ rfl
              refine z_if_ne C (tgt := 69) dX5_put_63 (by decide) (fun h63_11t => ?_) (fun h63_11f => ?_)
              · refine z_aload_n C 0 rfl rfl dX5_put_69 ?_
                refine z_get C (Cn := RX5) (T := TX5) (Nf := 20) (ci := 5) in5 0 16 l36 (v := .ref (a 9)) rfl rfl (by decide) rfl dX5_put_70 ?_
                refine z_iload_n C 2 rfl rfl dX5_put_73 ?_
                refine z_iload_n C 1 rfl rfl dX5_put_74 ?_
                obtain ⟨fz7, hz7⟩ : ∃ z : Nat → Int32, (upd (mHo M) k.toNatClampNeg t) = z := ⟨_, rfl⟩
                refine z_iast C 9 rfl (mIn31 h22_3f) (g := fz7) (Eq.trans rfl hz7) (V' := (wM E a N (msHo M fz7))) rfl dX5_put_75 ?_
                refine z_aload_n C 0 rfl rfl dX5_put_76 ?_
                refine z_get C (Cn := RX5) (T := TX5) (Nf := 20) (ci := 5) in5 0 17 l39 (v := .ref (a 10)) rfl rfl (by decide) rfl dX5_put_77 ?_
                refine z_iload_n C 2 rfl rfl dX5_put_80 ?_
                refine z_iload_n C 3 rfl rfl dX5_put_81 ?_
                obtain ⟨fz8, hz8⟩ : ∃ z : Nat → Int32, (upd (mHe M) k.toNatClampNeg v) = z := ⟨_, rfl⟩
                refine z_iast C 10 rfl (mIn31 h22_3f) (g := fz8) (Eq.trans rfl hz8) (V' := (wM E a N (msHe (msHo M fz7) fz8))) rfl dX5_put_82 ?_
                refine z_aload_n C 0 rfl rfl dX5_put_83 ?_
                refine z_iconst C (v := 4) (by decide) dX5_put_84 ?_
                refine z_iload_n C 1 rfl rfl dX5_put_85 ?_
                refine z_imul C dX5_put_86 ?_
                refine z_iload_n C 3 rfl rfl dX5_put_87 ?_
                refine z_iconst C (v := (-1)) (by decide) dX5_put_88 ?_
                refine z_icmp_ne C (tgt := 96) dX5_put_89 (by decide) (fun h89_12t => ?_) (fun h89_12f => ?_)
                · refine z_iconst C (v := 0) (by decide) dX5_put_96 ?_
                  refine z_iadd C dX5_put_97 ?_
                  refine z_iload_n C 2 rfl rfl dX5_put_98 ?_
                  refine z_iload_n C 3 rfl rfl dX5_put_99 ?_
                  refine z_iconst C (v := (-1)) (by decide) dX5_put_100 ?_
                  refine z_icmp_ne C (tgt := 108) dX5_put_101 (by decide) (fun h101_13 => ?_) (fun h101_13 => absurd h101_13 h89_12t)
                  refine z_iload_n C 3 rfl rfl dX5_put_108 ?_
                  obtain ⟨Mq10, hq109_10⟩ : ∃ z : MS, (mAdd N (msHe (msHo M fz7) fz8) ((4 * t) + 0) k v e w c) = z := ⟨_, rfl⟩
                  have ct9 : zV E yX5_add wsX5_add rmX5_add [.ref (a 0), .int ((4 * t) + 0), .int k, .int v] (wM E a N (msHe (msHo M fz7) fz8)) (wM E a N Mq10) := by subst hq109_10; exact c_X5_add E N hN a (msHe (msHo M fz7) fz8) ((4 * t) + 0) k v e he he3 w c hw hw2 hc hc2
                  refine z_callVV C ct9 gX5_put_X5_add (ci := 5) (q0 := 0) rfl rfl hyX5_add rfl ⟨rfl, rfl⟩ ⟨by decide, by decide⟩ ⟨by decide, by decide⟩ [0, 1, 2, 3, 4, 5, 6, 7, 8, 9, 10, 11] [] [0, 1, 2, 3, 4, 5, 6, 7, 8, 9, 10, 11] (wr := []) (V' := (wM E a N Mq10)) rfl rfl (by decide) (by decide) (by decide) rfl (by decide) (st := []) (Nat.le_of_ble_eq_true rfl) dX5_put_109 ?_ rfl
                  refine z_iconst C (v := 1) (by decide) dX5_put_112 ?_
                  subst hq109_10
                  subst hz8
                  subst hz7
                  exact ret _ _ _ _ (by first | rfl | (simp only [mPut, mPutE, if_pos h4_1t, if_neg h15_2f, if_neg h22_3f, if_neg h32_4t, if_neg h44_5f, if_pos h54_10t, if_neg h63_11t, if_neg h89_12t, if_neg h101_13, ↓reduceIte]; done) | (simp only [mPut, mPutE, if_pos h4_1t, if_neg h15_2f, if_neg h22_3f, if_neg h32_4t, if_neg h44_5f, if_pos h54_10t, if_neg h63_11t, if_neg h89_12t, if_neg h101_13, ↓reduceIte]; rfl) | (simp [mPut, mPutE, if_pos h4_1t, if_neg h15_2f, if_neg h22_3f, if_neg h32_4t, if_neg h44_5f, if_pos h54_10t, if_neg h63_11t, if_neg h89_12t, if_neg h101_13, ↓reduceIte]; done)) (by first | rfl | (simp only [mPut, mPutE, if_pos h4_1t, if_neg h15_2f, if_neg h22_3f, if_neg h32_4t, if_neg h44_5f, if_pos h54_10t, if_neg h63_11t, if_neg h89_12t, if_neg h101_13, ↓reduceIte]; done) | (simp only [mPut, mPutE, if_pos h4_1t, if_neg h15_2f, if_neg h22_3f, if_neg h32_4t, if_neg h44_5f, if_pos h54_10t, if_neg h63_11t, if_neg h89_12t, if_neg h101_13, ↓reduceIte]; rfl) | (simp [mPut, mPutE, if_pos h4_1t, if_neg h15_2f, if_neg h22_3f, if_neg h32_4t, if_neg h44_5f, if_pos h54_10t, if_neg h63_11t, if_neg h89_12t, if_neg h101_13, ↓reduceIte]; done)) dX5_put_113
                · refine z_iconst C (v := 1) (by decide) dX5_put_92 ?_
                  refine z_goto C (tgt := 97) dX5_put_93 (by decide) ?_
                  refine z_iadd C dX5_put_97 ?_
                  refine z_iload_n C 2 rfl rfl dX5_put_98 ?_
                  refine z_iload_n C 3 rfl rfl dX5_put_99 ?_
                  refine z_iconst C (v := (-1)) (by decide) dX5_put_100 ?_
                  refine z_icmp_ne C (tgt := 108) dX5_put_101 (by decide) (fun h101_14 => absurd h89_12f h101_14) (fun h101_14 => ?_)
                  refine z_iconst C (v := 0) (by decide) dX5_put_104 ?_
                  refine z_goto C (tgt := 109) dX5_put_105 (by decide) ?_
                  obtain ⟨Mq12, hq109_12⟩ : ∃ z : MS, (mAdd N (msHe (msHo M fz7) fz8) ((4 * t) + 1) k 0 e w c) = z := ⟨_, rfl⟩
                  have ct11 : zV E yX5_add wsX5_add rmX5_add [.ref (a 0), .int ((4 * t) + 1), .int k, .int 0] (wM E a N (msHe (msHo M fz7) fz8)) (wM E a N Mq12) := by subst hq109_12; exact c_X5_add E N hN a (msHe (msHo M fz7) fz8) ((4 * t) + 1) k 0 e he he3 w c hw hw2 hc hc2
                  refine z_callVV C ct11 gX5_put_X5_add (ci := 5) (q0 := 0) rfl rfl hyX5_add rfl ⟨rfl, rfl⟩ ⟨by decide, by decide⟩ ⟨by decide, by decide⟩ [0, 1, 2, 3, 4, 5, 6, 7, 8, 9, 10, 11] [] [0, 1, 2, 3, 4, 5, 6, 7, 8, 9, 10, 11] (wr := []) (V' := (wM E a N Mq12)) rfl rfl (by decide) (by decide) (by decide) rfl (by decide) (st := []) (Nat.le_of_ble_eq_true rfl) dX5_put_109 ?_ rfl
                  refine z_iconst C (v := 1) (by decide) dX5_put_112 ?_
                  subst hq109_12
                  subst hz8
                  subst hz7
                  exact ret _ _ _ _ (by first | rfl | (simp only [mPut, mPutE, if_pos h4_1t, if_neg h15_2f, if_neg h22_3f, if_neg h32_4t, if_neg h44_5f, if_pos h54_10t, if_neg h63_11t, if_pos h89_12f, if_pos h101_14, ↓reduceIte]; done) | (simp only [mPut, mPutE, if_pos h4_1t, if_neg h15_2f, if_neg h22_3f, if_neg h32_4t, if_neg h44_5f, if_pos h54_10t, if_neg h63_11t, if_pos h89_12f, if_pos h101_14, ↓reduceIte]; rfl) | (simp [mPut, mPutE, if_pos h4_1t, if_neg h15_2f, if_neg h22_3f, if_neg h32_4t, if_neg h44_5f, if_pos h54_10t, if_neg h63_11t, if_pos h89_12f, if_pos h101_14, ↓reduceIte]; done)) (by first | rfl | (simp only [mPut, mPutE, if_pos h4_1t, if_neg h15_2f, if_neg h22_3f, if_neg h32_4t, if_neg h44_5f, if_pos h54_10t, if_neg h63_11t, if_pos h89_12f, if_pos h101_14, ↓reduceIte]; done) | (simp only [mPut, mPutE, if_pos h4_1t, if_neg h15_2f, if_neg h22_3f, if_neg h32_4t, if_neg h44_5f, if_pos h54_10t, if_neg h63_11t, if_pos h89_12f, if_pos h101_14, ↓reduceIte]; rfl) | (simp [mPut, mPutE, if_pos h4_1t, if_neg h15_2f, if_neg h22_3f, if_neg h32_4t, if_neg h44_5f, if_pos h54_10t, if_neg h63_11t, if_pos h89_12f, if_pos h101_14, ↓reduceIte]; done)) dX5_put_113
              · refine z_bipush C (v := (-2)) (by decide) dX5_put_66 ?_
                exact ret _ _ _ _ (by first | rfl | (simp only [mPut, mPutE, if_pos h4_1t, if_neg h15_2f, if_neg h22_3f, if_neg h32_4t, if_neg h44_5f, if_pos h54_10t, if_pos h63_11f, ↓reduceIte]; done) | (simp only [mPut, mPutE, if_pos h4_1t, if_neg h15_2f, if_neg h22_3f, if_neg h32_4t, if_neg h44_5f, if_pos h54_10t, if_pos h63_11f, ↓reduceIte]; rfl) | (simp [mPut, mPutE, if_pos h4_1t, if_neg h15_2f, if_neg h22_3f, if_neg h32_4t, if_neg h44_5f, if_pos h54_10t, if_pos h63_11f, ↓reduceIte]; done)) (by first | rfl | (simp only [mPut, mPutE, if_pos h4_1t, if_neg h15_2f, if_neg h22_3f, if_neg h32_4t, if_neg h44_5f, if_pos h54_10t, if_pos h63_11f, ↓reduceIte]; done) | (simp only [mPut, mPutE, if_pos h4_1t, if_neg h15_2f, if_neg h22_3f, if_neg h32_4t, if_neg h44_5f, if_pos h54_10t, if_pos h63_11f, ↓reduceIte]; rfl) | (simp [mPut, mPutE, if_pos h4_1t, if_neg h15_2f, if_neg h22_3f, if_neg h32_4t, if_neg h44_5f, if_pos h54_10t, if_pos h63_11f, ↓reduceIte]; done)) dX5_put_68
            · refine z_iconst C (v := 0) (by decide) dX5_put_57 ?_
              exact ret _ _ _ _ (by first | rfl | (simp only [mPut, mPutE, if_pos h4_1t, if_neg h15_2f, if_neg h22_3f, if_neg h32_4t, if_neg h44_5f, if_neg h54_10f, ↓reduceIte]; done) | (simp only [mPut, mPutE, if_pos h4_1t, if_neg h15_2f, if_neg h22_3f, if_neg h32_4t, if_neg h44_5f, if_neg h54_10f, ↓reduceIte]; rfl) | (simp [mPut, mPutE, if_pos h4_1t, if_neg h15_2f, if_neg h22_3f, if_neg h32_4t, if_neg h44_5f, if_neg h54_10f, ↓reduceIte]; done)) (by first | rfl | (simp only [mPut, mPutE, if_pos h4_1t, if_neg h15_2f, if_neg h22_3f, if_neg h32_4t, if_neg h44_5f, if_neg h54_10f, ↓reduceIte]; done) | (simp only [mPut, mPutE, if_pos h4_1t, if_neg h15_2f, if_neg h22_3f, if_neg h32_4t, if_neg h44_5f, if_neg h54_10f, ↓reduceIte]; rfl) | (simp [mPut, mPutE, if_pos h4_1t, if_neg h15_2f, if_neg h22_3f, if_neg h32_4t, if_neg h44_5f, if_neg h54_10f, ↓reduceIte]; done)) dX5_put_58
        · refine z_iconst C (v := (-1)) (by decide) dX5_put_35 ?_
          exact ret _ _ _ _ (by first | rfl | (simp only [mPut, mPutE, if_pos h4_1t, if_neg h15_2f, if_neg h22_3f, if_pos h32_4f, ↓reduceIte]; done) | (simp only [mPut, mPutE, if_pos h4_1t, if_neg h15_2f, if_neg h22_3f, if_pos h32_4f, ↓reduceIte]; rfl) | (simp [mPut, mPutE, if_pos h4_1t, if_neg h15_2f, if_neg h22_3f, if_pos h32_4f, ↓reduceIte]; done)) (by first | rfl | (simp only [mPut, mPutE, if_pos h4_1t, if_neg h15_2f, if_neg h22_3f, if_pos h32_4f, ↓reduceIte]; done) | (simp only [mPut, mPutE, if_pos h4_1t, if_neg h15_2f, if_neg h22_3f, if_pos h32_4f, ↓reduceIte]; rfl) | (simp [mPut, mPutE, if_pos h4_1t, if_neg h15_2f, if_neg h22_3f, if_pos h32_4f, ↓reduceIte]; done)) dX5_put_36
  · refine z_bipush C (v := (-3)) (by decide) dX5_put_7 ?_
    exact ret _ _ _ _ (by first | rfl | (simp only [mPut, mPutE, if_neg h4_1f, ↓reduceIte]; done) | (simp only [mPut, mPutE, if_neg h4_1f, ↓reduceIte]; rfl) | (simp [mPut, mPutE, if_neg h4_1f, ↓reduceIte]; done)) (by first | rfl | (simp only [mPut, mPutE, if_neg h4_1f, ↓reduceIte]; done) | (simp only [mPut, mPutE, if_neg h4_1f, ↓reduceIte]; rfl) | (simp [mPut, mPutE, if_neg h4_1f, ↓reduceIte]; done)) dX5_put_9
abbrev rmX5_release : Room := { frames := 0, cells := 0, slots := 0, locals := 0 }
theorem hyX5_release : yX5_release.cls = RX5 ∧ yX5_release.cls ≠ "java/lang/invoke/MethodHandle" ∧ yX5_release.cls ≠ "java/lang/invoke/VarHandle" ∧ (parseMethodDescriptor yX5_release.desc).map (fun d => d.parameters.length) = some 2 := by decide +kernel
set_option maxHeartbeats 4000000 in
set_option maxRecDepth 3000 in
theorem c_X5_release (E : GE) (N : Nat) (hN : 16 ≤ N ∧ N ≤ 64) (a : Nat → Nat) (M : MS) (t : Nat) (kp : Int32) (ht : t ≤ 2) : zI E yX5_release wsX5_release rmX5_release [.ref (a 0), .int (nI t), .int kp] (wM E a N M) ((mRl (nI t) kp (mHe M) (mVa M) (mHo M)).1) (wM E a N (msOp (msHo (msVa M ((mRl (nI t) kp (mHe M) (mVa M) (mHo M)).2.1)) ((mRl (nI t) kp (mHe M) (mVa M) (mHo M)).2.2)) (upd (mOp M) t 0))) := by
  refine zI_of (cc := cX5_release) (maxL := 5) (ty := .int) (by decide) rfl (vp_nar_int _) (Nat.le_of_ble_eq_true rfl) ?_
  intro K C ret
  replace C : zC E K cX5_release wsX5_release RX5 rmX5_release 5 := C
  have in5 : ∀ w ∈ wsX50, w ∈ wsX5_release := fun w h => List.mem_cons_of_mem _ (List.mem_append_right _ (h))
  have l29 : zw K (.fieldLink RX5 29 "StoreLog3Model" "values" "[I") := C.w (List.mem_cons_of_mem _ (List.mem_append_left _ (List.mem_of_getElem? (i := 1) rfl)))
  have l32 : zw K (.fieldLink RX5 32 "StoreLog3Model" "isOpen" "[Z") := C.w (List.mem_cons_of_mem _ (List.mem_append_left _ (List.mem_of_getElem? (i := 3) rfl)))
  have l36 : zw K (.fieldLink RX5 36 "StoreLog3Model" "holders" "[I") := C.w (List.mem_cons_of_mem _ (List.mem_append_left _ (List.mem_of_getElem? (i := 0) rfl)))
  have l39 : zw K (.fieldLink RX5 39 "StoreLog3Model" "held" "[I") := C.w (List.mem_cons_of_mem _ (List.mem_append_left _ (List.mem_of_getElem? (i := 2) rfl)))
  show Z E K 0 0 (wM E a N M) 0 [(0, .ref (a 0)), (1, .int (nI t)), (2, .int kp)] []
  refine z_iconst C (v := 0) (by decide) dX5_release_0 ?_
  refine z_istore_n C (lv' := [(3, .int 0), (0, .ref (a 0)), (1, .int (nI t)), (2, .int kp)]) rfl rfl (by decide) dX5_release_1 ?_
  refine z_iconst C (v := 0) (by decide) dX5_release_2 ?_
  refine z_istore C (lv' := [(4, .int 0), (3, .int 0), (0, .ref (a 0)), (1, .int (nI t)), (2, .int kp)]) rfl (by decide) dX5_release_3 ?_
  have loop5 : ∀ (n j : Nat) (h : Int32) (va ho : Nat → Int32), j + n = 32 → rlL (nI t) kp (mHe M) n j (h, va, ho) = rlL (nI t) kp (mHe M) 32 0 (0, mVa M, mHo M) → Z E K 0 0 (wM E a N (msHo (msVa M va) ho)) 5 [(0, .ref (a 0)), (1, .int (nI t)), (2, .int kp), (3, .int h), (4, .int (nI j))] [] := by
    intro n
    induction n with
    | zero => 
      intro j h va ho hj hT
      obtain rfl : j = 32 := by omega
      refine z_iload C 4 rfl dX5_release_5 ?_
      refine z_bipush C (v := 32) (by decide) dX5_release_7 ?_
      refine z_icmp_ge C (tgt := 68) dX5_release_9 (by decide) (fun h9_1 => ?_) (fun h9_1 => absurd (nI_le (a := 32) (b := 32) (Nat.le_refl _) (by omega)) h9_1)
      refine z_aload_n C 0 rfl rfl dX5_release_68 ?_
      refine z_get C (Cn := RX5) (T := TX5) (Nf := 20) (ci := 5) in5 0 15 l32 (v := .ref (a 8)) rfl rfl (by decide) rfl dX5_release_69 ?_
      refine z_iload_n C 1 rfl rfl dX5_release_72 ?_
      refine z_iconst C (v := 0) (by decide) dX5_release_73 ?_
      obtain ⟨fz1, hz1⟩ : ∃ z : Nat → Int32, (upd (mOp M) t 0) = z := ⟨_, rfl⟩
      refine z_zast C 8 rfl (vp_in_nI (by omega) (by omega)) (g := fz1) (Eq.trans (by rw [vz_0, nI_clamp (by omega)]) hz1) (V' := (wM E a N (msOp (msHo (msVa M va) ho) fz1))) rfl dX5_release_74 ?_
      refine z_iload_n C 3 rfl rfl dX5_release_75 ?_
      subst hz1
      exact ret _ _ _ _ (by unfold mRl; rw [hide_eq, ← hT]; rfl) (by unfold mRl; rw [hide_eq, ← hT]; rfl) dX5_release_76
    | succ n ih5 => 
      intro j h va ho hj hT
      refine z_iload C 4 rfl dX5_release_5 ?_
      refine z_bipush C (v := 32) (by decide) dX5_release_7 ?_
      refine z_icmp_ge C (tgt := 68) dX5_release_9 (by decide) (fun h9_2 => absurd h9_2 (nI_ge (a := j) (b := 32) (by omega) (by omega))) (fun h9_2 => ?_)
      refine z_aload_n C 0 rfl rfl dX5_release_12 ?_
      refine z_get C (Cn := RX5) (T := TX5) (Nf := 20) (ci := 5) in5 0 16 l36 (v := .ref (a 9)) rfl rfl (by decide) rfl dX5_release_13 ?_
      refine z_iload C 4 rfl dX5_release_16 ?_
      refine z_iald C 9 rfl (vp_in_nI (by omega) (by omega)) (v := (ho j)) (congrArg ho (nI_clamp (by omega))) dX5_release_18 ?_
      refine z_iload_n C 1 rfl rfl dX5_release_19 ?_
      refine z_icmp_ne C (tgt := 62) dX5_release_20 (by decide) (fun h20_3t => ?_) (fun h20_3f => ?_)
      · refine z_iinc C 4 rfl (v := (nI (j + 1))) (zinc _) (lv' := [(4, .int (nI (j + 1))), (0, .ref (a 0)), (1, .int (nI t)), (2, .int kp), (3, .int h)]) rfl (by decide) dX5_release_62 ?_
        refine z_goto C (tgt := 5) dX5_release_65 (by decide) ?_
        refine z_lv (lv' := [(0, .ref (a 0)), (1, .int (nI t)), (2, .int kp), (3, .int h), (4, .int (nI (j + 1)))]) [1, 2, 3, 4, 0] rfl ?_
        exact ih5 (j + 1) _ _ _ (by omega) (by rw [← hT]; simp only [rlL, rlS, if_neg h9_2, if_neg h20_3t, ↓reduceIte])
      · refine z_iinc C 3 rfl (v := (h + 1)) rfl (lv' := [(3, .int (h + 1)), (0, .ref (a 0)), (1, .int (nI t)), (2, .int kp), (4, .int (nI j))]) rfl (by decide) dX5_release_23 ?_
        refine z_aload_n C 1 rfl rfl dX5_release_26 ?_
        refine z_get C (Cn := RX5) (T := TX5) (Nf := 20) (ci := 5) in5 0 16 l36 (v := .ref (a 9)) rfl rfl (by decide) rfl dX5_release_27 ?_
        refine z_iload C 4 rfl dX5_release_30 ?_
        refine z_iconst C (v := (-1)) (by decide) dX5_release_32 ?_
        obtain ⟨fz2, hz2⟩ : ∃ z : Nat → Int32, (upd ho j (-1)) = z := ⟨_, rfl⟩
        refine z_iast C 9 rfl (vp_in_nI (by omega) (by omega)) (g := fz2) (Eq.trans (by rw [nI_clamp (by omega)]) hz2) (V' := (wM E a N (msHo (msVa M va) fz2))) rfl dX5_release_33 ?_
        refine z_aload_n C 1 rfl rfl dX5_release_34 ?_
        refine z_get C (Cn := RX5) (T := TX5) (Nf := 20) (ci := 5) in5 0 14 l29 (v := .ref (a 7)) rfl rfl (by decide) rfl dX5_release_35 ?_
        refine z_iload C 4 rfl dX5_release_38 ?_
        refine z_iload_n C 3 rfl rfl dX5_release_40 ?_
        refine z_if_eq C (tgt := 54) dX5_release_41 (by decide) (fun h41_4t => ?_) (fun h41_4f => ?_)
        · refine z_aload_n C 1 rfl rfl dX5_release_54 ?_
          refine z_get C (Cn := RX5) (T := TX5) (Nf := 20) (ci := 5) in5 0 14 l29 (v := .ref (a 7)) rfl rfl (by decide) rfl dX5_release_55 ?_
          refine z_iload C 4 rfl dX5_release_58 ?_
          refine z_iald C 7 rfl (vp_in_nI (by omega) (by omega)) (v := (va j)) (congrArg va (nI_clamp (by omega))) dX5_release_60 ?_
          obtain ⟨fz3, hz3⟩ : ∃ z : Nat → Int32, (upd va j (va j)) = z := ⟨_, rfl⟩
          refine z_iast C 7 rfl (vp_in_nI (by omega) (by omega)) (g := fz3) (Eq.trans (by rw [nI_clamp (by omega)]) hz3) (V' := (wM E a N (msVa (msHo M fz2) fz3))) rfl dX5_release_61 ?_
          refine z_iinc C 4 rfl (v := (nI (j + 1))) (zinc _) (lv' := [(4, .int (nI (j + 1))), (3, .int (h + 1)), (0, .ref (a 0)), (1, .int (nI t)), (2, .int kp)]) rfl (by decide) dX5_release_62 ?_
          refine z_goto C (tgt := 5) dX5_release_65 (by decide) ?_
          subst hz3
          subst hz2
          refine z_lv (lv' := [(0, .ref (a 0)), (1, .int (nI t)), (2, .int kp), (3, .int (h + 1)), (4, .int (nI (j + 1)))]) [2, 3, 4, 1, 0] rfl ?_
          exact ih5 (j + 1) _ _ _ (by omega) (by rw [← hT]; simp only [rlL, rlS, if_neg h9_2, if_pos h20_3f, if_pos h41_4t, ↓reduceIte])
        · refine z_aload_n C 1 rfl rfl dX5_release_44 ?_
          refine z_get C (Cn := RX5) (T := TX5) (Nf := 20) (ci := 5) in5 0 17 l39 (v := .ref (a 10)) rfl rfl (by decide) rfl dX5_release_45 ?_
          refine z_iload C 4 rfl dX5_release_48 ?_
          refine z_iald C 10 rfl (vp_in_nI (by omega) (by omega)) (v := ((mHe M) j)) (congrArg (mHe M) (nI_clamp (by omega))) dX5_release_50 ?_
          refine z_goto C (tgt := 61) dX5_release_51 (by decide) ?_
          obtain ⟨fz4, hz4⟩ : ∃ z : Nat → Int32, (upd va j ((mHe M) j)) = z := ⟨_, rfl⟩
          refine z_iast C 7 rfl (vp_in_nI (by omega) (by omega)) (g := fz4) (Eq.trans (by rw [nI_clamp (by omega)]) hz4) (V' := (wM E a N (msVa (msHo M fz2) fz4))) rfl dX5_release_61 ?_
          refine z_iinc C 4 rfl (v := (nI (j + 1))) (zinc _) (lv' := [(4, .int (nI (j + 1))), (3, .int (h + 1)), (0, .ref (a 0)), (1, .int (nI t)), (2, .int kp)]) rfl (by decide) dX5_release_62 ?_
          refine z_goto C (tgt := 5) dX5_release_65 (by decide) ?_
          subst hz4
          subst hz2
          refine z_lv (lv' := [(0, .ref (a 0)), (1, .int (nI t)), (2, .int kp), (3, .int (h + 1)), (4, .int (nI (j + 1)))]) [2, 3, 4, 1, 0] rfl ?_
          exact ih5 (j + 1) _ _ _ (by omega) (by rw [← hT]; simp only [rlL, rlS, if_neg h9_2, if_pos h20_3f, if_neg h41_4f, ↓reduceIte])
  refine z_lv (lv' := [(0, .ref (a 0)), (1, .int (nI t)), (2, .int kp), (3, .int 0), (4, .int 0)]) [2, 3, 4, 1, 0] rfl ?_
  exact loop5 32 0 0 _ _ (by omega) rfl

abbrev rmX5_checkpoint : Room := { frames := 4, cells := 0, slots := 0, locals := 89 }
theorem hyX5_checkpoint : yX5_checkpoint.cls = RX5 ∧ yX5_checkpoint.cls ≠ "java/lang/invoke/MethodHandle" ∧ yX5_checkpoint.cls ≠ "java/lang/invoke/VarHandle" ∧ (parseMethodDescriptor yX5_checkpoint.desc).map (fun d => d.parameters.length) = some 0 := by decide +kernel
set_option maxHeartbeats 4000000 in
set_option maxRecDepth 3000 in
theorem c_X5_checkpoint (E : GE) (N : Nat) (hN : 16 ≤ N ∧ N ≤ 64) (a : Nat → Nat) (M : MS) (e : Nat) (he : mEn M = nI e) (he3 : e ≤ 3) (w c : Nat) (hw : mWa M = nI w) (hw2 : w < 64) (hc : mSc M = nI c) (hc2 : c < N) (P : Nat) (hP : mPg M = nI P) (hP2 : P ≤ 64) (hwA : mEn M ≤ 0 → ¬ mMay N M (nI P + 0) = 0 → w + P ≤ 64) (hwB : ¬ mEn M ≤ 0 → ¬ mMay N M (nI P + 1) = 0 → w + 1 + P ≤ 64) : zI E yX5_checkpoint wsX5_checkpoint rmX5_checkpoint [.ref (a 0)] (wM E a N M) ((mChk N M e w c P).1) (wM E a N ((mChk N M e w c P).2)) := by
  refine zI_of (cc := cX5_checkpoint) (maxL := 6) (ty := .int) (by decide) rfl (vp_nar_int _) (Nat.le_of_ble_eq_true rfl) ?_
  intro K C ret
  replace C : zC E K cX5_checkpoint wsX5_checkpoint RX5 rmX5_checkpoint 6 := C
  have in5 : ∀ w ∈ wsX50, w ∈ wsX5_checkpoint := fun w h => List.mem_cons_of_mem _ (List.mem_append_right _ (h))
  have l29 : zw K (.fieldLink RX5 29 "StoreLog3Model" "values" "[I") := C.w (List.mem_cons_of_mem _ (List.mem_append_left _ (List.mem_append_left _ (List.mem_of_getElem? (i := 2) rfl))))
  have l32 : zw K (.fieldLink RX5 32 "StoreLog3Model" "isOpen" "[Z") := C.w (List.mem_cons_of_mem _ (List.mem_append_left _ (List.mem_append_left _ (List.mem_of_getElem? (i := 1) rfl))))
  have l42 : zw K (.fieldLink RX5 42 "StoreLog3Model" "row" "[B") := C.w (List.mem_cons_of_mem _ (List.mem_append_left _ (List.mem_append_left _ (List.mem_of_getElem? (i := 6) rfl))))
  have l55 : zw K (.fieldLink RX5 55 "StoreLog3Model" "entries" "I") := C.w (List.mem_cons_of_mem _ (List.mem_append_left _ (List.mem_append_left _ (List.mem_of_getElem? (i := 3) rfl))))
  have l64 : zw K (.fieldLink RX5 64 "StoreLog3Model" "isDown" "Z") := C.w (List.mem_cons_of_mem _ (List.mem_append_left _ (List.mem_append_left _ (List.mem_of_getElem? (i := 0) rfl))))
  have l71 : zw K (.fieldLink RX5 71 "StoreLog3Model" "lastSerial" "I") := C.w (List.mem_cons_of_mem _ (List.mem_append_left _ (List.mem_append_left _ (List.mem_of_getElem? (i := 4) rfl))))
  have l74 : zw K (.fieldLink RX5 74 "StoreLog3Model" "newFirst" "I") := C.w (List.mem_cons_of_mem _ (List.mem_append_left _ (List.mem_append_left _ (List.mem_of_getElem? (i := 5) rfl))))
  show Z E K 0 0 (wM E a N M) 0 [(0, .ref (a 0))] []
  have join122 : ∀ (M1 : MS) (w1 c1 : Nat), mWa M1 = nI w1 → mSc M1 = nI c1 → c1 < N → w1 + P ≤ 64 → mCkF N P M1 w1 c1 = mChk N M e w c P → Z E K 0 0 (wM E a N M1) 122 [(0, .ref (a 0)), (2, .int (nI P))] [] := by
    intro M1 w1 c1 hw1 hc1 hc1N hwP hT
    refine z_aload_n C 0 rfl rfl dX5_checkpoint_122 ?_
    refine z_aload_n C 0 rfl rfl dX5_checkpoint_123 ?_
    refine z_get C (Cn := RX5) (T := TX5) (Nf := 20) (ci := 5) in5 0 7 l71 (v := .int (mSe M1)) rfl rfl (by decide) rfl dX5_checkpoint_124 ?_
    refine z_iconst C (v := 1) (by decide) dX5_checkpoint_127 ?_
    refine z_iadd C dX5_checkpoint_128 ?_
    obtain ⟨iz1, hz1⟩ : ∃ z : Int32, ((mSe M1) + 1) = z := ⟨_, rfl⟩
    refine z_top hz1 ?_
    refine z_put C (Cn := RX5) (T := TX5) (Nf := 20) (ci := 5) in5 0 8 l74 rfl rfl (by decide) tyX5 tyX5_ok nmX5 rfl rfl rfl (Nat.le_of_ble_eq_true rfl) (V' := (wM E a N (msNf M1 iz1))) rfl dX5_checkpoint_129 ?_
    refine z_iconst C (v := 0) (by decide) dX5_checkpoint_132 ?_
    refine z_istore_n C (lv' := [(3, .int 0), (0, .ref (a 0)), (2, .int (nI P))]) rfl rfl (by decide) dX5_checkpoint_133 ?_
    refine z_iconst C (v := 0) (by decide) dX5_checkpoint_134 ?_
    refine z_istore C (lv' := [(4, .int 0), (3, .int 0), (0, .ref (a 0)), (2, .int (nI P))]) rfl (by decide) dX5_checkpoint_135 ?_
    subst hz1
    have loop137 : ∀ (n j k w2 c2 : Nat) (M2 : MS), j + n = P → k ≤ 32 → mWa M2 = nI w2 → mSc M2 = nI c2 → c2 < N → w2 + n ≤ 64 → cpL N P n j k w2 c2 M2 = cpL N P P 0 0 w1 c1 (msNf M1 (mSe M1 + 1)) → Z E K 0 0 (wM E a N M2) 137 [(0, .ref (a 0)), (2, .int (nI P)), (3, .int (nI k)), (4, .int (nI j))] [] := by
      intro n
      induction n with
      | zero => 
        intro j k w2 c2 M2 hj hk hw2a hc2a hc2N hw2n hT2
        obtain rfl : P = j := by omega
        refine z_iload C 3 rfl dX5_checkpoint_137 ?_
        refine z_iload_n C 1 rfl rfl dX5_checkpoint_139 ?_
        refine z_icmp_ge C (tgt := 258) dX5_checkpoint_140 (by decide) (fun h140_1 => ?_) (fun h140_1 => absurd (nI_le (a := P) (b := P) (Nat.le_refl _) (by omega)) h140_1)
        refine z_iload_n C 1 rfl rfl dX5_checkpoint_258 ?_
        exact ret _ _ _ _ (by rw [← hT]; rfl) (by rw [← hT]; unfold mCkF; rw [← hT2]; rfl) dX5_checkpoint_259
      | succ n ih137 => 
        intro j k w2 c2 M2 hj hk hw2a hc2a hc2N hw2n hT2
        refine z_iload C 3 rfl dX5_checkpoint_137 ?_
        refine z_iload_n C 1 rfl rfl dX5_checkpoint_139 ?_
        refine z_icmp_ge C (tgt := 258) dX5_checkpoint_140 (by decide) (fun h140_2 => absurd h140_2 (nI_ge (a := j) (b := P) (by omega) (by omega))) (fun h140_2 => ?_)
        refine z_aload_n C 0 rfl rfl dX5_checkpoint_143 ?_
        refine z_iconst C (v := 2) (by decide) dX5_checkpoint_144 ?_
        refine z_aload_n C 0 rfl rfl dX5_checkpoint_145 ?_
        refine z_get C (Cn := RX5) (T := TX5) (Nf := 20) (ci := 5) in5 0 7 l71 (v := .int (mSe M2)) rfl rfl (by decide) rfl dX5_checkpoint_146 ?_
        refine z_iconst C (v := 1) (by decide) dX5_checkpoint_149 ?_
        refine z_iadd C dX5_checkpoint_150 ?_
        obtain ⟨fq3, hq151_3⟩ : ∃ z : Nat → Int32, (clRow (mRw M2) 2 ((mSe M2) + 1)) = z := ⟨_, rfl⟩
        have ct2 : zV E yX5_clearRow wsX5_clearRow rmX5_clearRow [.ref (a 0), .int 2, .int ((mSe M2) + 1)] (wM E a N M2) (wM E a N (msRw M2 fq3)) := by subst hq151_3; exact c_X5_clearRow E N hN a M2 2 ((mSe M2) + 1)
        refine z_callVV C ct2 gX5_checkpoint_X5_clearRow (ci := 5) (q0 := 0) rfl rfl hyX5_clearRow rfl ⟨rfl, rfl⟩ ⟨by decide, by decide⟩ ⟨by decide, by decide⟩ [0, 1, 2, 3, 4, 5, 6, 7, 8, 9, 10, 11] [] [0, 1, 2, 3, 4, 5, 6, 7, 8, 9, 10, 11] (wr := []) (V' := (wM E a N (msRw M2 fq3))) rfl rfl (by decide) (by decide) (by decide) rfl (by decide) (st := []) (Nat.le_of_ble_eq_true rfl) dX5_checkpoint_151 ?_ rfl
        refine z_iconst C (v := 0) (by decide) dX5_checkpoint_154 ?_
        refine z_istore C (lv' := [(5, .int 0), (0, .ref (a 0)), (2, .int (nI P)), (3, .int (nI k)), (4, .int (nI j))]) rfl (by decide) dX5_checkpoint_155 ?_
        subst hq151_3
        have loop157 : ∀ (n1 k1 m : Nat) (r : Nat → Int32), k1 + n1 = 32 → m ≤ 5 → ckL (mVa M2) n1 k1 m r = ckX M2 k → Z E K 0 0 (wM E a N (msRw M2 r)) 157 [(0, .ref (a 0)), (2, .int (nI P)), (3, .int (nI k1)), (4, .int (nI j)), (5, .int (nI m))] [] := by
          intro n1
          induction n1 with
          | zero => 
            intro k1 m r hk1 hm5 hT3
            obtain rfl : k1 = 32 := by omega
            refine z_iload_n C 2 rfl rfl dX5_checkpoint_157 ?_
            refine z_bipush C (v := 32) (by decide) dX5_checkpoint_158 ?_
            refine z_icmp_ge C (tgt := 220) dX5_checkpoint_160 (by decide) (fun h160_3 => ?_) (fun h160_3 => absurd (nI_le (a := 32) (b := 32) (Nat.le_refl _) (by omega)) h160_3)
            have hX : ckX M2 k = (32, m, r) := hT3.symm
            have hk1 : (32 : Nat) ≤ 32 := Nat.le_refl 32
            refine z_aload_n C 0 rfl rfl dX5_checkpoint_220 ?_
            refine z_get C (Cn := RX5) (T := TX5) (Nf := 20) (ci := 5) in5 0 19 l42 (v := .ref (a 11)) rfl rfl (by decide) rfl dX5_checkpoint_221 ?_
            refine z_iconst C (v := 5) (by decide) dX5_checkpoint_224 ?_
            refine z_iload C 4 rfl dX5_checkpoint_225 ?_
            refine z_i2b C (v := (b8 (nI m))) rfl dX5_checkpoint_227 ?_
            obtain ⟨fz4, hz4⟩ : ∃ z : Nat → Int32, (upd r 5 (b8 (nI m))) = z := ⟨_, rfl⟩
            refine z_bast C 11 rfl (vp_in_nI (n := 5) (by omega) (by omega)) (g := fz4) (Eq.trans (congrArg (upd r 5) (b8_nar _)) hz4) (V' := (wM E a N (msRw M2 fz4))) rfl dX5_checkpoint_228 ?_
            refine z_aload_n C 0 rfl rfl dX5_checkpoint_229 ?_
            refine z_get C (Cn := RX5) (T := TX5) (Nf := 20) (ci := 5) in5 0 19 l42 (v := .ref (a 11)) rfl rfl (by decide) rfl dX5_checkpoint_230 ?_
            refine z_bipush C (v := 26) (by decide) dX5_checkpoint_233 ?_
            refine z_iload C 3 rfl dX5_checkpoint_235 ?_
            refine z_i2b C (v := (b8 (nI j))) rfl dX5_checkpoint_237 ?_
            obtain ⟨fz5, hz5⟩ : ∃ z : Nat → Int32, (upd fz4 26 (b8 (nI j))) = z := ⟨_, rfl⟩
            refine z_bast C 11 rfl (vp_in_nI (n := 26) (by omega) (by omega)) (g := fz5) (Eq.trans (congrArg (upd fz4 26) (b8_nar _)) hz5) (V' := (wM E a N (msRw M2 fz5))) rfl dX5_checkpoint_238 ?_
            refine z_aload_n C 0 rfl rfl dX5_checkpoint_239 ?_
            refine z_get C (Cn := RX5) (T := TX5) (Nf := 20) (ci := 5) in5 0 19 l42 (v := .ref (a 11)) rfl rfl (by decide) rfl dX5_checkpoint_240 ?_
            refine z_bipush C (v := 27) (by decide) dX5_checkpoint_243 ?_
            refine z_iload_n C 1 rfl rfl dX5_checkpoint_245 ?_
            refine z_i2b C (v := (b8 (nI P))) rfl dX5_checkpoint_246 ?_
            obtain ⟨fz6, hz6⟩ : ∃ z : Nat → Int32, (upd fz5 27 (b8 (nI P))) = z := ⟨_, rfl⟩
            refine z_bast C 11 rfl (vp_in_nI (n := 27) (by omega) (by omega)) (g := fz6) (Eq.trans (congrArg (upd fz5 27) (b8_nar _)) hz6) (V' := (wM E a N (msRw M2 fz6))) rfl dX5_checkpoint_247 ?_
            refine z_aload_n C 0 rfl rfl dX5_checkpoint_248 ?_
            obtain ⟨Mq8, hq249_8⟩ : ∃ z : MS, (mWr N (msRw M2 fz6) w2 c2) = z := ⟨_, rfl⟩
            have ct7 : zV E yX5_write wsX5_write rmX5_write [.ref (a 0)] (wM E a N (msRw M2 fz6)) (wM E a N Mq8) := by subst hq249_8; exact c_X5_write E N hN a (msRw M2 fz6) w2 c2 hw2a (by omega) hc2a hc2N
            refine z_callVV C ct7 gX5_checkpoint_X5_write (ci := 5) (q0 := 0) rfl rfl hyX5_write rfl ⟨rfl, rfl⟩ ⟨by decide, by decide⟩ ⟨by decide, by decide⟩ [0, 1, 2, 3, 4, 5, 6, 7, 8, 9, 10, 11] [] [0, 1, 2, 3, 4, 5, 6, 7, 8, 9, 10, 11] (wr := []) (V' := (wM E a N Mq8)) rfl rfl (by decide) (by decide) (by decide) rfl (by decide) (st := []) (Nat.le_of_ble_eq_true rfl) dX5_checkpoint_249 ?_ rfl
            refine z_iinc C 3 rfl (v := (nI (j + 1))) (zinc _) (lv' := [(4, .int (nI (j + 1))), (0, .ref (a 0)), (2, .int (nI P)), (3, .int (nI 32)), (5, .int (nI m))]) rfl (by decide) dX5_checkpoint_252 ?_
            refine z_goto C (tgt := 137) dX5_checkpoint_255 (by decide) ?_
            subst hq249_8
            subst hz6
            subst hz5
            subst hz4
            refine z_lv (lv' := [(0, .ref (a 0)), (2, .int (nI P)), (3, .int (nI 32)), (4, .int (nI (j + 1)))]) [1, 2, 3, 0] rfl ?_
            exact ih137 (j + 1) _ (w2 + 1) ((c2 + 1) % N) _ (by omega) hk1 rfl rfl (Nat.mod_lt _ (by omega)) (by omega) (by rw [← hT2]; simp only [cpL, ckR, hX, cpL])
          | succ n1 ih157 => 
            intro k1 m r hk1 hm5 hT3
            refine z_iload_n C 2 rfl rfl dX5_checkpoint_157 ?_
            refine z_bipush C (v := 32) (by decide) dX5_checkpoint_158 ?_
            refine z_icmp_ge C (tgt := 220) dX5_checkpoint_160 (by decide) (fun h160_4 => absurd h160_4 (nI_ge (a := k1) (b := 32) (by omega) (by omega))) (fun h160_4 => ?_)
            refine z_iload C 4 rfl dX5_checkpoint_163 ?_
            refine z_iconst C (v := 5) (by decide) dX5_checkpoint_165 ?_
            refine z_icmp_ge C (tgt := 220) dX5_checkpoint_166 (by decide) (fun h166_5t => ?_) (fun h166_5f => ?_)
            · have hX : ckX M2 k = (k1, m, r) := by rw [← hT3]; simp only [ckL, h166_5t, ↓reduceIte]
              have hk1 : k1 ≤ 32 := by omega
              refine z_aload_n C 0 rfl rfl dX5_checkpoint_220 ?_
              refine z_get C (Cn := RX5) (T := TX5) (Nf := 20) (ci := 5) in5 0 19 l42 (v := .ref (a 11)) rfl rfl (by decide) rfl dX5_checkpoint_221 ?_
              refine z_iconst C (v := 5) (by decide) dX5_checkpoint_224 ?_
              refine z_iload C 4 rfl dX5_checkpoint_225 ?_
              refine z_i2b C (v := (b8 (nI m))) rfl dX5_checkpoint_227 ?_
              obtain ⟨fz9, hz9⟩ : ∃ z : Nat → Int32, (upd r 5 (b8 (nI m))) = z := ⟨_, rfl⟩
              refine z_bast C 11 rfl (vp_in_nI (n := 5) (by omega) (by omega)) (g := fz9) (Eq.trans (congrArg (upd r 5) (b8_nar _)) hz9) (V' := (wM E a N (msRw M2 fz9))) rfl dX5_checkpoint_228 ?_
              refine z_aload_n C 0 rfl rfl dX5_checkpoint_229 ?_
              refine z_get C (Cn := RX5) (T := TX5) (Nf := 20) (ci := 5) in5 0 19 l42 (v := .ref (a 11)) rfl rfl (by decide) rfl dX5_checkpoint_230 ?_
              refine z_bipush C (v := 26) (by decide) dX5_checkpoint_233 ?_
              refine z_iload C 3 rfl dX5_checkpoint_235 ?_
              refine z_i2b C (v := (b8 (nI j))) rfl dX5_checkpoint_237 ?_
              obtain ⟨fz10, hz10⟩ : ∃ z : Nat → Int32, (upd fz9 26 (b8 (nI j))) = z := ⟨_, rfl⟩
              refine z_bast C 11 rfl (vp_in_nI (n := 26) (by omega) (by omega)) (g := fz10) (Eq.trans (congrArg (upd fz9 26) (b8_nar _)) hz10) (V' := (wM E a N (msRw M2 fz10))) rfl dX5_checkpoint_238 ?_
              refine z_aload_n C 0 rfl rfl dX5_checkpoint_239 ?_
              refine z_get C (Cn := RX5) (T := TX5) (Nf := 20) (ci := 5) in5 0 19 l42 (v := .ref (a 11)) rfl rfl (by decide) rfl dX5_checkpoint_240 ?_
              refine z_bipush C (v := 27) (by decide) dX5_checkpoint_243 ?_
              refine z_iload_n C 1 rfl rfl dX5_checkpoint_245 ?_
              refine z_i2b C (v := (b8 (nI P))) rfl dX5_checkpoint_246 ?_
              obtain ⟨fz11, hz11⟩ : ∃ z : Nat → Int32, (upd fz10 27 (b8 (nI P))) = z := ⟨_, rfl⟩
              refine z_bast C 11 rfl (vp_in_nI (n := 27) (by omega) (by omega)) (g := fz11) (Eq.trans (congrArg (upd fz10 27) (b8_nar _)) hz11) (V' := (wM E a N (msRw M2 fz11))) rfl dX5_checkpoint_247 ?_
              refine z_aload_n C 0 rfl rfl dX5_checkpoint_248 ?_
              obtain ⟨Mq13, hq249_13⟩ : ∃ z : MS, (mWr N (msRw M2 fz11) w2 c2) = z := ⟨_, rfl⟩
              have ct12 : zV E yX5_write wsX5_write rmX5_write [.ref (a 0)] (wM E a N (msRw M2 fz11)) (wM E a N Mq13) := by subst hq249_13; exact c_X5_write E N hN a (msRw M2 fz11) w2 c2 hw2a (by omega) hc2a hc2N
              refine z_callVV C ct12 gX5_checkpoint_X5_write (ci := 5) (q0 := 0) rfl rfl hyX5_write rfl ⟨rfl, rfl⟩ ⟨by decide, by decide⟩ ⟨by decide, by decide⟩ [0, 1, 2, 3, 4, 5, 6, 7, 8, 9, 10, 11] [] [0, 1, 2, 3, 4, 5, 6, 7, 8, 9, 10, 11] (wr := []) (V' := (wM E a N Mq13)) rfl rfl (by decide) (by decide) (by decide) rfl (by decide) (st := []) (Nat.le_of_ble_eq_true rfl) dX5_checkpoint_249 ?_ rfl
              refine z_iinc C 3 rfl (v := (nI (j + 1))) (zinc _) (lv' := [(4, .int (nI (j + 1))), (0, .ref (a 0)), (2, .int (nI P)), (3, .int (nI k1)), (5, .int (nI m))]) rfl (by decide) dX5_checkpoint_252 ?_
              refine z_goto C (tgt := 137) dX5_checkpoint_255 (by decide) ?_
              subst hq249_13
              subst hz11
              subst hz10
              subst hz9
              refine z_lv (lv' := [(0, .ref (a 0)), (2, .int (nI P)), (3, .int (nI k1)), (4, .int (nI (j + 1)))]) [1, 2, 3, 0] rfl ?_
              exact ih137 (j + 1) _ (w2 + 1) ((c2 + 1) % N) _ (by omega) hk1 rfl rfl (Nat.mod_lt _ (by omega)) (by omega) (by rw [← hT2]; simp only [cpL, ckR, hX, cpL])
            · have hm4 : m < 5 := zlt5 hm5 h166_5f
              refine z_aload_n C 0 rfl rfl dX5_checkpoint_169 ?_
              refine z_get C (Cn := RX5) (T := TX5) (Nf := 20) (ci := 5) in5 0 14 l29 (v := .ref (a 7)) rfl rfl (by decide) rfl dX5_checkpoint_170 ?_
              refine z_iload_n C 2 rfl rfl dX5_checkpoint_173 ?_
              refine z_iald C 7 rfl (vp_in_nI (by omega) (by omega)) (v := ((mVa M2) k1)) (congrArg (mVa M2) (nI_clamp (by omega))) dX5_checkpoint_174 ?_
              refine z_iconst C (v := (-1)) (by decide) dX5_checkpoint_175 ?_
              refine z_icmp_eq C (tgt := 214) dX5_checkpoint_176 (by decide) (fun h176_6t => ?_) (fun h176_6f => ?_)
              · refine z_iinc C 2 rfl (v := (nI (k1 + 1))) (zinc _) (lv' := [(3, .int (nI (k1 + 1))), (0, .ref (a 0)), (2, .int (nI P)), (4, .int (nI j)), (5, .int (nI m))]) rfl (by decide) dX5_checkpoint_214 ?_
                refine z_goto C (tgt := 157) dX5_checkpoint_217 (by decide) ?_
                refine z_lv (lv' := [(0, .ref (a 0)), (2, .int (nI P)), (3, .int (nI (k1 + 1))), (4, .int (nI j)), (5, .int (nI m))]) [1, 2, 0, 3, 4] rfl ?_
                exact ih157 (k1 + 1) m _ (by omega) hm5 (by rw [← hT3]; first | (simp only [ckL, if_neg h160_4, if_neg h166_5f, if_pos h176_6t, ↓reduceIte]; done) | (simp only [ckL, if_neg h160_4, if_neg h166_5f, if_pos h176_6t, ↓reduceIte]; rfl))
              · refine z_aload_n C 0 rfl rfl dX5_checkpoint_179 ?_
                refine z_get C (Cn := RX5) (T := TX5) (Nf := 20) (ci := 5) in5 0 19 l42 (v := .ref (a 11)) rfl rfl (by decide) rfl dX5_checkpoint_180 ?_
                refine z_bipush C (v := 6) (by decide) dX5_checkpoint_183 ?_
                refine z_iconst C (v := 4) (by decide) dX5_checkpoint_185 ?_
                refine z_iload C 4 rfl dX5_checkpoint_186 ?_
                refine z_imul C dX5_checkpoint_188 ?_
                refine z_top (y := (nI (4 * m))) (zmul 4 m) ?_
                refine z_iadd C dX5_checkpoint_189 ?_
                refine z_top (y := (nI (6 + 4 * m))) (nI_add 6 _) ?_
                refine z_iload_n C 2 rfl rfl dX5_checkpoint_190 ?_
                refine z_i2b C (v := (b8 (nI k1))) rfl dX5_checkpoint_191 ?_
                obtain ⟨fz14, hz14⟩ : ∃ z : Nat → Int32, (upd r (6 + 4 * m) (b8 (nI k1))) = z := ⟨_, rfl⟩
                refine z_bast C 11 rfl (vp_in_nI (by omega) (by omega)) (g := fz14) (Eq.trans (by rw [b8_nar, nI_clamp (by omega)]) hz14) (V' := (wM E a N (msRw M2 fz14))) rfl dX5_checkpoint_192 ?_
                refine z_aload_n C 0 rfl rfl dX5_checkpoint_193 ?_
                refine z_bipush C (v := 7) (by decide) dX5_checkpoint_194 ?_
                refine z_iconst C (v := 4) (by decide) dX5_checkpoint_196 ?_
                refine z_iload C 4 rfl dX5_checkpoint_197 ?_
                refine z_imul C dX5_checkpoint_199 ?_
                refine z_top (y := (nI (4 * m))) (zmul 4 m) ?_
                refine z_iadd C dX5_checkpoint_200 ?_
                refine z_top (y := (nI (7 + 4 * m))) (nI_add 7 _) ?_
                refine z_aload_n C 0 rfl rfl dX5_checkpoint_201 ?_
                refine z_get C (Cn := RX5) (T := TX5) (Nf := 20) (ci := 5) in5 0 14 l29 (v := .ref (a 7)) rfl rfl (by decide) rfl dX5_checkpoint_202 ?_
                refine z_iload_n C 2 rfl rfl dX5_checkpoint_205 ?_
                refine z_iald C 7 rfl (vp_in_nI (by omega) (by omega)) (v := ((mVa M2) k1)) (congrArg (mVa M2) (nI_clamp (by omega))) dX5_checkpoint_206 ?_
                refine z_iconst C (v := 3) (by decide) dX5_checkpoint_207 ?_
                obtain ⟨fq16, hq208_16⟩ : ∃ z : Nat → Int32, (nmL ((mVa M2) k1) 3 (7 + 4 * m) (mRw (msRw M2 fz14)) 3) = z := ⟨_, rfl⟩
                have ct15 : zV E yX5_number wsX5_number rmX5_number [.ref (a 0), .int (nI (7 + 4 * m)), .int ((mVa M2) k1), .int 3] (wM E a N (msRw M2 fz14)) (wM E a N (msRw M2 fq16)) := by subst hq208_16; exact c_X5_number E N hN a (msRw M2 fz14) (7 + 4 * m) ((mVa M2) k1) 3 (by omega)
                refine z_callVV C ct15 gX5_checkpoint_X5_number (ci := 5) (q0 := 0) rfl rfl hyX5_number rfl ⟨rfl, rfl⟩ ⟨by decide, by decide⟩ ⟨by decide, by decide⟩ [0, 1, 2, 3, 4, 5, 6, 7, 8, 9, 10, 11] [] [0, 1, 2, 3, 4, 5, 6, 7, 8, 9, 10, 11] (wr := []) (V' := (wM E a N (msRw M2 fq16))) rfl rfl (by decide) (by decide) (by decide) rfl (by decide) (st := []) (Nat.le_of_ble_eq_true rfl) dX5_checkpoint_208 ?_ rfl
                refine z_iinc C 4 rfl (v := (nI (m + 1))) (zinc _) (lv' := [(5, .int (nI (m + 1))), (0, .ref (a 0)), (2, .int (nI P)), (3, .int (nI k1)), (4, .int (nI j))]) rfl (by decide) dX5_checkpoint_211 ?_
                refine z_iinc C 3 rfl (v := (nI (k1 + 1))) (zinc _) (lv' := [(3, .int (nI (k1 + 1))), (5, .int (nI (m + 1))), (0, .ref (a 0)), (2, .int (nI P)), (4, .int (nI j))]) rfl (by decide) dX5_checkpoint_214 ?_
                refine z_goto C (tgt := 157) dX5_checkpoint_217 (by decide) ?_
                subst hq208_16
                subst hz14
                refine z_lv (lv' := [(0, .ref (a 0)), (2, .int (nI P)), (3, .int (nI (k1 + 1))), (4, .int (nI j)), (5, .int (nI (m + 1)))]) [2, 3, 0, 4, 1] rfl ?_
                exact ih157 (k1 + 1) (m + 1) _ (by omega) (by omega) (by rw [← hT3]; first | (simp only [ckL, if_neg h160_4, if_neg h166_5f, if_neg h176_6f, ↓reduceIte]; done) | (simp only [ckL, if_neg h160_4, if_neg h166_5f, if_neg h176_6f, ↓reduceIte]; rfl))
        refine z_lv (lv' := [(0, .ref (a 0)), (2, .int (nI P)), (3, .int (nI k)), (4, .int (nI j)), (5, .int 0)]) [1, 2, 3, 4, 0] rfl ?_
        exact loop157 (32 - k) k 0 _ (by omega) (by omega) rfl
    refine z_lv (lv' := [(0, .ref (a 0)), (2, .int (nI P)), (3, .int 0), (4, .int 0)]) [2, 3, 1, 0] rfl ?_
    exact loop137 P 0 0 w1 c1 _ (by omega) (by omega) hw1 hc1 hc1N (by omega) rfl
  have join87 : ∀ (qx : Int32), mDn M = 0 → mOp M 0 = 0 → mOp M 1 = 0 → mOp M 2 = 0 → Z E K 0 0 (wM E a N M) 87 [(0, .ref (a 0)), (1, .int qx), (2, .int (nI P))] [] := by
    intro qx hdn ho0 ho1 ho2
    refine z_aload_n C 0 rfl rfl dX5_checkpoint_87 ?_
    refine z_iload_n C 2 rfl rfl dX5_checkpoint_88 ?_
    refine z_aload_n C 0 rfl rfl dX5_checkpoint_89 ?_
    refine z_get C (Cn := RX5) (T := TX5) (Nf := 20) (ci := 5) in5 0 10 l55 (v := .int (mEn M)) rfl rfl (by decide) rfl dX5_checkpoint_90 ?_
    refine z_if_le C (tgt := 100) dX5_checkpoint_93 (by decide) (fun h93_7t => ?_) (fun h93_7f => ?_)
    · refine z_iconst C (v := 0) (by decide) dX5_checkpoint_100 ?_
      refine z_iadd C dX5_checkpoint_101 ?_
      refine z_rVI C (c_X5_mayWrite E N hN a M ((nI P) + 0)) gX5_checkpoint_X5_mayWrite (ci := 5) (q0 := 0) rfl rfl hyX5_mayWrite rfl ⟨rfl, rfl⟩ ⟨by decide, by decide⟩ ⟨by decide, by decide⟩ [0, 1, 2, 3, 4, 5, 6, 7, 8, 9, 10, 11] rfl (by decide) (st := []) (Nat.le_of_ble_eq_true rfl) dX5_checkpoint_102 ?_ rfl
      refine z_if_ne C (tgt := 111) dX5_checkpoint_105 (by decide) (fun h105_8t => ?_) (fun h105_8f => ?_)
      · refine z_aload_n C 0 rfl rfl dX5_checkpoint_111 ?_
        refine z_get C (Cn := RX5) (T := TX5) (Nf := 20) (ci := 5) in5 0 10 l55 (v := .int (mEn M)) rfl rfl (by decide) rfl dX5_checkpoint_112 ?_
        refine z_if_le C (tgt := 122) dX5_checkpoint_115 (by decide) (fun h115_9 => ?_) (fun h115_9 => absurd h93_7t h115_9)
        refine z_lv (lv' := [(0, .ref (a 0)), (2, .int (nI P))]) [0, 2] rfl ?_
        exact join122 M w c hw hc hc2 (hwA h93_7t h105_8t) (by simp only [mChk, hdn, ho0, ho1, ho2, if_pos h93_7t, if_neg h105_8t, if_pos h115_9, ↓reduceIte])
      · refine z_bipush C (v := (-2)) (by decide) dX5_checkpoint_108 ?_
        exact ret _ _ _ _ (by first | rfl | (simp only [mChk, mcI, hdn, ho0, ho1, ho2, if_pos h93_7t, if_pos h105_8f, ↓reduceIte]; done) | (simp only [mChk, mcI, hdn, ho0, ho1, ho2, if_pos h93_7t, if_pos h105_8f, ↓reduceIte]; rfl) | (simp [mChk, mcI, hdn, ho0, ho1, ho2, if_pos h93_7t, if_pos h105_8f, ↓reduceIte]; done)) (by first | rfl | (simp only [mChk, mcI, hdn, ho0, ho1, ho2, if_pos h93_7t, if_pos h105_8f, ↓reduceIte]; done) | (simp only [mChk, mcI, hdn, ho0, ho1, ho2, if_pos h93_7t, if_pos h105_8f, ↓reduceIte]; rfl) | (simp [mChk, mcI, hdn, ho0, ho1, ho2, if_pos h93_7t, if_pos h105_8f, ↓reduceIte]; done)) dX5_checkpoint_110
    · refine z_iconst C (v := 1) (by decide) dX5_checkpoint_96 ?_
      refine z_goto C (tgt := 101) dX5_checkpoint_97 (by decide) ?_
      refine z_iadd C dX5_checkpoint_101 ?_
      refine z_rVI C (c_X5_mayWrite E N hN a M ((nI P) + 1)) gX5_checkpoint_X5_mayWrite (ci := 5) (q0 := 0) rfl rfl hyX5_mayWrite rfl ⟨rfl, rfl⟩ ⟨by decide, by decide⟩ ⟨by decide, by decide⟩ [0, 1, 2, 3, 4, 5, 6, 7, 8, 9, 10, 11] rfl (by decide) (st := []) (Nat.le_of_ble_eq_true rfl) dX5_checkpoint_102 ?_ rfl
      refine z_if_ne C (tgt := 111) dX5_checkpoint_105 (by decide) (fun h105_10t => ?_) (fun h105_10f => ?_)
      · refine z_aload_n C 0 rfl rfl dX5_checkpoint_111 ?_
        refine z_get C (Cn := RX5) (T := TX5) (Nf := 20) (ci := 5) in5 0 10 l55 (v := .int (mEn M)) rfl rfl (by decide) rfl dX5_checkpoint_112 ?_
        refine z_if_le C (tgt := 122) dX5_checkpoint_115 (by decide) (fun h115_11 => absurd h115_11 h93_7f) (fun h115_11 => ?_)
        refine z_aload_n C 0 rfl rfl dX5_checkpoint_118 ?_
        obtain ⟨Mq18, hq119_18⟩ : ∃ z : MS, (mWE N M e w c) = z := ⟨_, rfl⟩
        have ct17 : zV E yX5_writeEntries wsX5_writeEntries rmX5_writeEntries [.ref (a 0)] (wM E a N M) (wM E a N Mq18) := by subst hq119_18; exact c_X5_writeEntries E N hN a M e he (by omega) w c hw hw2 hc hc2
        refine z_callVV C ct17 gX5_checkpoint_X5_writeEntries (ci := 5) (q0 := 0) rfl rfl hyX5_writeEntries rfl ⟨rfl, rfl⟩ ⟨by decide, by decide⟩ ⟨by decide, by decide⟩ [0, 1, 2, 3, 4, 5, 6, 7, 8, 9, 10, 11] [] [0, 1, 2, 3, 4, 5, 6, 7, 8, 9, 10, 11] (wr := []) (V' := (wM E a N Mq18)) rfl rfl (by decide) (by decide) (by decide) rfl (by decide) (st := []) (Nat.le_of_ble_eq_true rfl) dX5_checkpoint_119 ?_ rfl
        subst hq119_18
        refine z_lv (lv' := [(0, .ref (a 0)), (2, .int (nI P))]) [0, 2] rfl ?_
        exact join122 _ (w + 1) ((c + 1) % N) rfl rfl (Nat.mod_lt _ (by omega)) (hwB h93_7f h105_10t) (by simp only [mChk, hdn, ho0, ho1, ho2, if_neg h93_7f, if_neg h105_10t, if_neg h115_11, ↓reduceIte])
      · refine z_bipush C (v := (-2)) (by decide) dX5_checkpoint_108 ?_
        exact ret _ _ _ _ (by first | rfl | (simp only [mChk, mcI, hdn, ho0, ho1, ho2, if_neg h93_7f, if_pos h105_10f, ↓reduceIte]; done) | (simp only [mChk, mcI, hdn, ho0, ho1, ho2, if_neg h93_7f, if_pos h105_10f, ↓reduceIte]; rfl) | (simp [mChk, mcI, hdn, ho0, ho1, ho2, if_neg h93_7f, if_pos h105_10f, ↓reduceIte]; done)) (by first | rfl | (simp only [mChk, mcI, hdn, ho0, ho1, ho2, if_neg h93_7f, if_pos h105_10f, ↓reduceIte]; done) | (simp only [mChk, mcI, hdn, ho0, ho1, ho2, if_neg h93_7f, if_pos h105_10f, ↓reduceIte]; rfl) | (simp [mChk, mcI, hdn, ho0, ho1, ho2, if_neg h93_7f, if_pos h105_10f, ↓reduceIte]; done)) dX5_checkpoint_110
  refine z_aload_n C 0 rfl rfl dX5_checkpoint_0 ?_
  refine z_get C (Cn := RX5) (T := TX5) (Nf := 20) (ci := 5) in5 0 2 l64 (v := .int (mDn M)) rfl rfl (by decide) rfl dX5_checkpoint_1 ?_
  refine z_if_eq C (tgt := 10) dX5_checkpoint_4 (by decide) (fun h4_12t => ?_) (fun h4_12f => ?_)
  · refine z_aload_n C 0 rfl rfl dX5_checkpoint_10 ?_
    refine z_get C (Cn := RX5) (T := TX5) (Nf := 20) (ci := 5) in5 0 15 l32 (v := .ref (a 8)) rfl rfl (by decide) rfl dX5_checkpoint_11 ?_
    refine z_iconst C (v := 0) (by decide) dX5_checkpoint_14 ?_
    refine z_zald C 8 rfl (vp_in_nI (n := 0) (by omega) (by omega)) (v := ((mOp M) 0)) rfl dX5_checkpoint_15 ?_
    refine z_if_ne C (tgt := 37) dX5_checkpoint_16 (by decide) (fun h16_13t => ?_) (fun h16_13f => ?_)
    · refine z_iconst C (v := (-1)) (by decide) dX5_checkpoint_37 ?_
      exact ret _ _ _ _ (by first | rfl | (simp only [mChk, mcI, if_pos h4_12t, if_neg h16_13t, ↓reduceIte]; done) | (simp only [mChk, mcI, if_pos h4_12t, if_neg h16_13t, ↓reduceIte]; rfl) | (simp [mChk, mcI, if_pos h4_12t, if_neg h16_13t, ↓reduceIte]; done)) (by first | rfl | (simp only [mChk, mcI, if_pos h4_12t, if_neg h16_13t, ↓reduceIte]; done) | (simp only [mChk, mcI, if_pos h4_12t, if_neg h16_13t, ↓reduceIte]; rfl) | (simp [mChk, mcI, if_pos h4_12t, if_neg h16_13t, ↓reduceIte]; done)) dX5_checkpoint_38
    · refine z_aload_n C 0 rfl rfl dX5_checkpoint_19 ?_
      refine z_get C (Cn := RX5) (T := TX5) (Nf := 20) (ci := 5) in5 0 15 l32 (v := .ref (a 8)) rfl rfl (by decide) rfl dX5_checkpoint_20 ?_
      refine z_iconst C (v := 1) (by decide) dX5_checkpoint_23 ?_
      refine z_zald C 8 rfl (vp_in_nI (n := 1) (by omega) (by omega)) (v := ((mOp M) 1)) rfl dX5_checkpoint_24 ?_
      refine z_if_ne C (tgt := 37) dX5_checkpoint_25 (by decide) (fun h25_14t => ?_) (fun h25_14f => ?_)
      · refine z_iconst C (v := (-1)) (by decide) dX5_checkpoint_37 ?_
        exact ret _ _ _ _ (by first | rfl | (simp only [mChk, mcI, if_pos h4_12t, if_pos h16_13f, if_neg h25_14t, ↓reduceIte]; done) | (simp only [mChk, mcI, if_pos h4_12t, if_pos h16_13f, if_neg h25_14t, ↓reduceIte]; rfl) | (simp [mChk, mcI, if_pos h4_12t, if_pos h16_13f, if_neg h25_14t, ↓reduceIte]; done)) (by first | rfl | (simp only [mChk, mcI, if_pos h4_12t, if_pos h16_13f, if_neg h25_14t, ↓reduceIte]; done) | (simp only [mChk, mcI, if_pos h4_12t, if_pos h16_13f, if_neg h25_14t, ↓reduceIte]; rfl) | (simp [mChk, mcI, if_pos h4_12t, if_pos h16_13f, if_neg h25_14t, ↓reduceIte]; done)) dX5_checkpoint_38
      · refine z_aload_n C 0 rfl rfl dX5_checkpoint_28 ?_
        refine z_get C (Cn := RX5) (T := TX5) (Nf := 20) (ci := 5) in5 0 15 l32 (v := .ref (a 8)) rfl rfl (by decide) rfl dX5_checkpoint_29 ?_
        refine z_iconst C (v := 2) (by decide) dX5_checkpoint_32 ?_
        refine z_zald C 8 rfl (vp_in_nI (n := 2) (by omega) (by omega)) (v := ((mOp M) 2)) rfl dX5_checkpoint_33 ?_
        refine z_if_eq C (tgt := 39) dX5_checkpoint_34 (by decide) (fun h34_15t => ?_) (fun h34_15f => ?_)
        · refine z_iconst C (v := 0) (by decide) dX5_checkpoint_39 ?_
          refine z_istore_n C (lv' := [(1, .int 0), (0, .ref (a 0))]) rfl rfl (by decide) dX5_checkpoint_40 ?_
          refine z_iconst C (v := 0) (by decide) dX5_checkpoint_41 ?_
          refine z_istore_n C (lv' := [(2, .int 0), (1, .int 0), (0, .ref (a 0))]) rfl rfl (by decide) dX5_checkpoint_42 ?_
          have loop43 : ∀ (n j : Nat), j + n = 32 → Z E K 0 0 (wM E a N M) 43 [(0, .ref (a 0)), (1, .int (mcI M j)), (2, .int (nI j))] [] := by
            intro n
            induction n with
            | zero => 
              intro j hj
              obtain rfl : j = 32 := by omega
              refine z_iload_n C 2 rfl rfl dX5_checkpoint_43 ?_
              refine z_bipush C (v := 32) (by decide) dX5_checkpoint_44 ?_
              refine z_icmp_ge C (tgt := 73) dX5_checkpoint_46 (by decide) (fun h46_16 => ?_) (fun h46_16 => absurd (nI_le (a := 32) (b := 32) (Nat.le_refl _) (by omega)) h46_16)
              refine z_iload_n C 1 rfl rfl dX5_checkpoint_73 ?_
              refine z_if_ne C (tgt := 81) dX5_checkpoint_74 (by decide) (fun h74_17t => ?_) (fun h74_17f => ?_)
              · refine z_iload_n C 1 rfl rfl dX5_checkpoint_81 ?_
                refine z_iconst C (v := 4) (by decide) dX5_checkpoint_82 ?_
                refine z_iadd C dX5_checkpoint_83 ?_
                refine z_iconst C (v := 5) (by decide) dX5_checkpoint_84 ?_
                refine z_idiv C (by decide) dX5_checkpoint_85 ?_
                refine z_top (y := (nI P)) (by rw [← hP]; simp only [mPg, h74_17t, ↓reduceIte]) ?_
                refine z_istore_n C (lv' := [(2, .int (nI P)), (0, .ref (a 0)), (1, .int (mcI M 32))]) rfl rfl (by decide) dX5_checkpoint_86 ?_
                refine z_lv (lv' := [(0, .ref (a 0)), (1, .int (mcI M 32)), (2, .int (nI P))]) [1, 2, 0] rfl ?_
                exact join87 _ h4_12t h16_13f h25_14f h34_15t
              · refine z_iconst C (v := 1) (by decide) dX5_checkpoint_77 ?_
                refine z_top (y := (nI P)) (by rw [← hP]; simp only [mPg, h74_17f, ↓reduceIte]) ?_
                refine z_goto C (tgt := 86) dX5_checkpoint_78 (by decide) ?_
                refine z_istore_n C (lv' := [(2, .int (nI P)), (0, .ref (a 0)), (1, .int (mcI M 32))]) rfl rfl (by decide) dX5_checkpoint_86 ?_
                refine z_lv (lv' := [(0, .ref (a 0)), (1, .int (mcI M 32)), (2, .int (nI P))]) [1, 2, 0] rfl ?_
                exact join87 _ h4_12t h16_13f h25_14f h34_15t
            | succ n ih43 => 
              intro j hj
              refine z_iload_n C 2 rfl rfl dX5_checkpoint_43 ?_
              refine z_bipush C (v := 32) (by decide) dX5_checkpoint_44 ?_
              refine z_icmp_ge C (tgt := 73) dX5_checkpoint_46 (by decide) (fun h46_18 => absurd h46_18 (nI_ge (a := j) (b := 32) (by omega) (by omega))) (fun h46_18 => ?_)
              refine z_iload_n C 1 rfl rfl dX5_checkpoint_49 ?_
              refine z_aload_n C 0 rfl rfl dX5_checkpoint_50 ?_
              refine z_get C (Cn := RX5) (T := TX5) (Nf := 20) (ci := 5) in5 0 14 l29 (v := .ref (a 7)) rfl rfl (by decide) rfl dX5_checkpoint_51 ?_
              refine z_iload_n C 2 rfl rfl dX5_checkpoint_54 ?_
              refine z_iald C 7 rfl (vp_in_nI (by omega) (by omega)) (v := ((mVa M) j)) (congrArg (mVa M) (nI_clamp (by omega))) dX5_checkpoint_55 ?_
              refine z_iconst C (v := (-1)) (by decide) dX5_checkpoint_56 ?_
              refine z_icmp_eq C (tgt := 64) dX5_checkpoint_57 (by decide) (fun h57_19t => ?_) (fun h57_19f => ?_)
              · refine z_iconst C (v := 0) (by decide) dX5_checkpoint_64 ?_
                refine z_iadd C dX5_checkpoint_65 ?_
                refine z_istore_n C (lv' := [(1, .int ((mcI M j) + 0)), (0, .ref (a 0)), (2, .int (nI j))]) rfl rfl (by decide) dX5_checkpoint_66 ?_
                refine z_iinc C 2 rfl (v := (nI (j + 1))) (zinc _) (lv' := [(2, .int (nI (j + 1))), (1, .int ((mcI M j) + 0)), (0, .ref (a 0))]) rfl (by decide) dX5_checkpoint_67 ?_
                refine z_goto C (tgt := 43) dX5_checkpoint_70 (by decide) ?_
                refine z_lv (lv' := [(0, .ref (a 0)), (1, .int ((mcI M j) + 0)), (2, .int (nI (j + 1)))]) [2, 1, 0] rfl ?_
                refine z_eq (V2 := (wM E a N M)) (lv2 := [(0, .ref (a 0)), (1, .int (mcI M (j + 1))), (2, .int (nI (j + 1)))]) (by first | rfl | (simp only [mChk, mcI, if_pos h4_12t, if_pos h16_13f, if_pos h25_14f, if_pos h34_15t, if_neg h46_18, if_pos h57_19t, ↓reduceIte]; done) | (simp only [mChk, mcI, if_pos h4_12t, if_pos h16_13f, if_pos h25_14f, if_pos h34_15t, if_neg h46_18, if_pos h57_19t, ↓reduceIte]; rfl)) (by first | rfl | (simp only [mChk, mcI, if_pos h4_12t, if_pos h16_13f, if_pos h25_14f, if_pos h34_15t, if_neg h46_18, if_pos h57_19t, ↓reduceIte]; done) | (simp only [mChk, mcI, if_pos h4_12t, if_pos h16_13f, if_pos h25_14f, if_pos h34_15t, if_neg h46_18, if_pos h57_19t, ↓reduceIte]; rfl)) rfl ?_
                exact ih43 (j + 1)  (by omega)
              · refine z_iconst C (v := 1) (by decide) dX5_checkpoint_60 ?_
                refine z_goto C (tgt := 65) dX5_checkpoint_61 (by decide) ?_
                refine z_iadd C dX5_checkpoint_65 ?_
                refine z_istore_n C (lv' := [(1, .int ((mcI M j) + 1)), (0, .ref (a 0)), (2, .int (nI j))]) rfl rfl (by decide) dX5_checkpoint_66 ?_
                refine z_iinc C 2 rfl (v := (nI (j + 1))) (zinc _) (lv' := [(2, .int (nI (j + 1))), (1, .int ((mcI M j) + 1)), (0, .ref (a 0))]) rfl (by decide) dX5_checkpoint_67 ?_
                refine z_goto C (tgt := 43) dX5_checkpoint_70 (by decide) ?_
                refine z_lv (lv' := [(0, .ref (a 0)), (1, .int ((mcI M j) + 1)), (2, .int (nI (j + 1)))]) [2, 1, 0] rfl ?_
                refine z_eq (V2 := (wM E a N M)) (lv2 := [(0, .ref (a 0)), (1, .int (mcI M (j + 1))), (2, .int (nI (j + 1)))]) (by first | rfl | (simp only [mChk, mcI, if_pos h4_12t, if_pos h16_13f, if_pos h25_14f, if_pos h34_15t, if_neg h46_18, if_neg h57_19f, ↓reduceIte]; done) | (simp only [mChk, mcI, if_pos h4_12t, if_pos h16_13f, if_pos h25_14f, if_pos h34_15t, if_neg h46_18, if_neg h57_19f, ↓reduceIte]; rfl)) (by first | rfl | (simp only [mChk, mcI, if_pos h4_12t, if_pos h16_13f, if_pos h25_14f, if_pos h34_15t, if_neg h46_18, if_neg h57_19f, ↓reduceIte]; done) | (simp only [mChk, mcI, if_pos h4_12t, if_pos h16_13f, if_pos h25_14f, if_pos h34_15t, if_neg h46_18, if_neg h57_19f, ↓reduceIte]; rfl)) rfl ?_
                exact ih43 (j + 1)  (by omega)
          refine z_lv (lv' := [(0, .ref (a 0)), (1, .int 0), (2, .int 0)]) [2, 1, 0] rfl ?_
          exact loop43 32 0  (by omega)
        · refine z_iconst C (v := (-1)) (by decide) dX5_checkpoint_37 ?_
          exact ret _ _ _ _ (by first | rfl | (simp only [mChk, mcI, if_pos h4_12t, if_pos h16_13f, if_pos h25_14f, if_neg h34_15f, ↓reduceIte]; done) | (simp only [mChk, mcI, if_pos h4_12t, if_pos h16_13f, if_pos h25_14f, if_neg h34_15f, ↓reduceIte]; rfl) | (simp [mChk, mcI, if_pos h4_12t, if_pos h16_13f, if_pos h25_14f, if_neg h34_15f, ↓reduceIte]; done)) (by first | rfl | (simp only [mChk, mcI, if_pos h4_12t, if_pos h16_13f, if_pos h25_14f, if_neg h34_15f, ↓reduceIte]; done) | (simp only [mChk, mcI, if_pos h4_12t, if_pos h16_13f, if_pos h25_14f, if_neg h34_15f, ↓reduceIte]; rfl) | (simp [mChk, mcI, if_pos h4_12t, if_pos h16_13f, if_pos h25_14f, if_neg h34_15f, ↓reduceIte]; done)) dX5_checkpoint_38
  · refine z_bipush C (v := (-3)) (by decide) dX5_checkpoint_7 ?_
    exact ret _ _ _ _ (by first | rfl | (simp only [mChk, mcI, if_neg h4_12f, ↓reduceIte]; done) | (simp only [mChk, mcI, if_neg h4_12f, ↓reduceIte]; rfl) | (simp [mChk, mcI, if_neg h4_12f, ↓reduceIte]; done)) (by first | rfl | (simp only [mChk, mcI, if_neg h4_12f, ↓reduceIte]; done) | (simp only [mChk, mcI, if_neg h4_12f, ↓reduceIte]; rfl) | (simp [mChk, mcI, if_neg h4_12f, ↓reduceIte]; done)) dX5_checkpoint_9

/-! Part 95c: the law's cases -/
set_option maxHeartbeats 4000000 in
set_option maxRecDepth 3000 in
theorem lwc_begin {E : GE} {K : KX} {N : Nat} (hN : 16 ≤ N ∧ N ≤ 64) {ax am : Nat → Nat} {X : XS} {M : MS} {b L i : Nat} {xs : Nat → Int32} (hL : L ≤ 257) (hi : i + 4 ≤ L) (C : zC E K cL_law lw_tbl RL room_1 4) (hX : zX K b L xs) (R : Rel N X M) (next : ∀ (X1 : XS) (M1 : MS), Rel N X1 M1 → Z E K 27 8620 (wX E ax N X1 ++ wM E am N M1) 508 [(3, .int (nI i)), (2, .ref (am 0)), (1, .ref (ax 0)), (0, .ref b)] []) : Z E K 27 8620 (wX E ax N X ++ wM E am N M) 120 [(3, .int (nI i)), (2, .ref (am 0)), (1, .ref (ax 0)), (0, .ref b)] [] := by
  obtain ⟨h1, h2⟩ := r_begin R
  have ct1 := c_X4_begin E N hN ax X
  have ct2 := c_X5_begin E N hN am M
  obtain ⟨r1, hr1⟩ : ∃ z : Int32, (xBegin X).1 = z := ⟨_, rfl⟩
  rw [hr1] at ct1 h1
  obtain ⟨Xq, hXq⟩ : ∃ z : XS, (xBegin X).2 = z := ⟨_, rfl⟩
  rw [hXq] at ct1 h2
  obtain ⟨r2, hr2⟩ : ∃ z : Int32, (mBegin M).1 = z := ⟨_, rfl⟩
  rw [hr2] at ct2 h1
  obtain ⟨Mq, hMq⟩ : ∃ z : MS, (mBegin M).2 = z := ⟨_, rfl⟩
  rw [hMq] at ct2 h2
  refine z_aload_n C 2 rfl rfl dL_law_120 ?_
  refine z_callVI C ct1 glX4_begin (ci := 4) (q0 := 0) rfl rfl hyX4_begin rfl ⟨rfl, rfl⟩ ⟨by decide, by decide⟩ ⟨by decide, by decide⟩ [0, 1, 2, 3, 4, 5, 6, 7, 8, 9, 10, 11, 12, 13, 14] [15, 16, 17, 18, 19, 20, 21, 22, 23, 24, 25, 26] [12, 13, 14, 15, 16, 17, 18, 19, 20, 21, 22, 23, 24, 25, 26, 0, 1, 2, 3, 4, 5, 6, 7, 8, 9, 10, 11] (wr := wM E am N M) (V' := (wX E ax N Xq ++ wM E am N M)) rfl rfl (by decide) (by decide) (by decide) rfl (by decide) (st := []) (Nat.le_of_ble_eq_true rfl) dL_law_121 ?_ rfl
  refine z_aload_n C 1 rfl rfl dL_law_124 ?_
  refine z_callVI C ct2 glX5_begin (ci := 5) (q0 := 0) rfl rfl hyX5_begin rfl ⟨rfl, rfl⟩ ⟨by decide, by decide⟩ ⟨by decide, by decide⟩ [15, 16, 17, 18, 19, 20, 21, 22, 23, 24, 25, 26] [0, 1, 2, 3, 4, 5, 6, 7, 8, 9, 10, 11, 12, 13, 14] [0, 1, 2, 3, 4, 5, 6, 7, 8, 9, 10, 11, 12, 13, 14, 15, 16, 17, 18, 19, 20, 21, 22, 23, 24, 25, 26] (wr := wX E ax N Xq) (V' := (wX E ax N Xq ++ wM E am N Mq)) rfl rfl (by decide) (by decide) (by decide) rfl (by decide) (st := [.int r1]) (Nat.le_of_ble_eq_true rfl) dL_law_125 ?_ rfl
  exact z_icmp_eq C (tgt := 508) dL_law_128 (by decide) (fun _ => next Xq Mq h2) (fun h => absurd h1 h)
set_option maxHeartbeats 4000000 in
set_option maxRecDepth 3000 in
theorem lwc_put {E : GE} {K : KX} {N : Nat} (hN : 16 ≤ N ∧ N ≤ 64) {ax am : Nat → Nat} {X : XS} {M : MS} {b L i : Nat} {xs : Nat → Int32} (hL : L ≤ 257) (hi : i + 4 ≤ L) (C : zC E K cL_law lw_tbl RL room_1 4) (hX : zX K b L xs) (R : Rel N X M) (next : ∀ (X1 : XS) (M1 : MS), Rel N X1 M1 → Z E K 27 8620 (wX E ax N X1 ++ wM E am N M1) 508 [(3, .int (nI i)), (2, .ref (am 0)), (1, .ref (ax 0)), (0, .ref b)] []) : Z E K 27 8620 (wX E ax N X ++ wM E am N M) 133 [(3, .int (nI i)), (2, .ref (am 0)), (1, .ref (ax 0)), (0, .ref b)] [] := by
  obtain ⟨a1, ha1⟩ : ∃ z : Int32, xs (i + 1) = z := ⟨_, rfl⟩
  obtain ⟨a2, ha2⟩ : ∃ z : Int32, xs (i + 2) = z := ⟨_, rfl⟩
  obtain ⟨a3, ha3⟩ : ∃ z : Int32, xs (i + 3) = z := ⟨_, rfl⟩
  obtain ⟨e, w, c, hy, h1, h2⟩ := r_put hN R a1 a2 a3
  have ct1 := c_X4_put E N hN ax X a1 a2 a3 e hy.ej hy.e3
  have ct2 := c_X5_put E N hN am M a1 a2 a3 e hy.em hy.e3 w c hy.wm hy.w2 hy.sc hy.c2
  obtain ⟨r1, hr1⟩ : ∃ z : Int32, (xPut N X a1 a2 a3 e).1 = z := ⟨_, rfl⟩
  rw [hr1] at ct1 h1
  obtain ⟨Xq, hXq⟩ : ∃ z : XS, (xPut N X a1 a2 a3 e).2 = z := ⟨_, rfl⟩
  rw [hXq] at ct1 h2
  obtain ⟨r2, hr2⟩ : ∃ z : Int32, (mPut N M a1 a2 a3 e w c).1 = z := ⟨_, rfl⟩
  rw [hr2] at ct2 h1
  obtain ⟨Mq, hMq⟩ : ∃ z : MS, (mPut N M a1 a2 a3 e w c).2 = z := ⟨_, rfl⟩
  rw [hMq] at ct2 h2
  refine z_aload_n C 2 rfl rfl dL_law_133 ?_
  refine z_aload_n C 3 rfl rfl dL_law_134 ?_
  refine z_iload_n C 0 rfl rfl dL_law_135 ?_
  refine z_iconst C (v := 1) (by decide) dL_law_136 ?_
  refine z_iadd C dL_law_137 ?_
  refine z_top (nI_add i 1) ?_
  refine z_sld C hX (v := a1) (vp_in_nI (by omega) (by omega)) (by rw [nI_clamp (by omega)]; exact ha1) dL_law_138 ?_
  refine z_aload_n C 3 rfl rfl dL_law_139 ?_
  refine z_iload_n C 0 rfl rfl dL_law_140 ?_
  refine z_iconst C (v := 2) (by decide) dL_law_141 ?_
  refine z_iadd C dL_law_142 ?_
  refine z_top (nI_add i 2) ?_
  refine z_sld C hX (v := a2) (vp_in_nI (by omega) (by omega)) (by rw [nI_clamp (by omega)]; exact ha2) dL_law_143 ?_
  refine z_aload_n C 3 rfl rfl dL_law_144 ?_
  refine z_iload_n C 0 rfl rfl dL_law_145 ?_
  refine z_iconst C (v := 3) (by decide) dL_law_146 ?_
  refine z_iadd C dL_law_147 ?_
  refine z_top (nI_add i 3) ?_
  refine z_sld C hX (v := a3) (vp_in_nI (by omega) (by omega)) (by rw [nI_clamp (by omega)]; exact ha3) dL_law_148 ?_
  refine z_callVI C ct1 glX4_put (ci := 4) (q0 := 0) rfl rfl hyX4_put rfl ⟨rfl, rfl⟩ ⟨by decide, by decide⟩ ⟨by decide, by decide⟩ [0, 1, 2, 3, 4, 5, 6, 7, 8, 9, 10, 11, 12, 13, 14] [15, 16, 17, 18, 19, 20, 21, 22, 23, 24, 25, 26] [12, 13, 14, 15, 16, 17, 18, 19, 20, 21, 22, 23, 24, 25, 26, 0, 1, 2, 3, 4, 5, 6, 7, 8, 9, 10, 11] (wr := wM E am N M) (V' := (wX E ax N Xq ++ wM E am N M)) rfl rfl (by decide) (by decide) (by decide) rfl (by decide) (st := []) (Nat.le_of_ble_eq_true rfl) dL_law_149 ?_ rfl
  refine z_aload_n C 1 rfl rfl dL_law_152 ?_
  refine z_aload_n C 3 rfl rfl dL_law_153 ?_
  refine z_iload_n C 0 rfl rfl dL_law_154 ?_
  refine z_iconst C (v := 1) (by decide) dL_law_155 ?_
  refine z_iadd C dL_law_156 ?_
  refine z_top (nI_add i 1) ?_
  refine z_sld C hX (v := a1) (vp_in_nI (by omega) (by omega)) (by rw [nI_clamp (by omega)]; exact ha1) dL_law_157 ?_
  refine z_aload_n C 3 rfl rfl dL_law_158 ?_
  refine z_iload_n C 0 rfl rfl dL_law_159 ?_
  refine z_iconst C (v := 2) (by decide) dL_law_160 ?_
  refine z_iadd C dL_law_161 ?_
  refine z_top (nI_add i 2) ?_
  refine z_sld C hX (v := a2) (vp_in_nI (by omega) (by omega)) (by rw [nI_clamp (by omega)]; exact ha2) dL_law_162 ?_
  refine z_aload_n C 3 rfl rfl dL_law_163 ?_
  refine z_iload_n C 0 rfl rfl dL_law_164 ?_
  refine z_iconst C (v := 3) (by decide) dL_law_165 ?_
  refine z_iadd C dL_law_166 ?_
  refine z_top (nI_add i 3) ?_
  refine z_sld C hX (v := a3) (vp_in_nI (by omega) (by omega)) (by rw [nI_clamp (by omega)]; exact ha3) dL_law_167 ?_
  refine z_callVI C ct2 glX5_put (ci := 5) (q0 := 0) rfl rfl hyX5_put rfl ⟨rfl, rfl⟩ ⟨by decide, by decide⟩ ⟨by decide, by decide⟩ [15, 16, 17, 18, 19, 20, 21, 22, 23, 24, 25, 26] [0, 1, 2, 3, 4, 5, 6, 7, 8, 9, 10, 11, 12, 13, 14] [0, 1, 2, 3, 4, 5, 6, 7, 8, 9, 10, 11, 12, 13, 14, 15, 16, 17, 18, 19, 20, 21, 22, 23, 24, 25, 26] (wr := wX E ax N Xq) (V' := (wX E ax N Xq ++ wM E am N Mq)) rfl rfl (by decide) (by decide) (by decide) rfl (by decide) (st := [.int r1]) (Nat.le_of_ble_eq_true rfl) dL_law_168 ?_ rfl
  exact z_icmp_eq C (tgt := 508) dL_law_171 (by decide) (fun _ => next Xq Mq h2) (fun h => absurd h1 h)
set_option maxHeartbeats 4000000 in
set_option maxRecDepth 3000 in
theorem lwc_commit {E : GE} {K : KX} {N : Nat} (hN : 16 ≤ N ∧ N ≤ 64) {ax am : Nat → Nat} {X : XS} {M : MS} {b L i : Nat} {xs : Nat → Int32} (hL : L ≤ 257) (hi : i + 4 ≤ L) (C : zC E K cL_law lw_tbl RL room_1 4) (hX : zX K b L xs) (R : Rel N X M) (next : ∀ (X1 : XS) (M1 : MS), Rel N X1 M1 → Z E K 27 8620 (wX E ax N X1 ++ wM E am N M1) 508 [(3, .int (nI i)), (2, .ref (am 0)), (1, .ref (ax 0)), (0, .ref b)] []) : Z E K 27 8620 (wX E ax N X ++ wM E am N M) 176 [(3, .int (nI i)), (2, .ref (am 0)), (1, .ref (ax 0)), (0, .ref b)] [] := by
  obtain ⟨a1, ha1⟩ : ∃ z : Int32, xs (i + 1) = z := ⟨_, rfl⟩
  obtain ⟨e, w, c, hy, h1, h2⟩ := r_commit hN R a1
  have ct1 := c_X4_commit E N hN ax X a1 e hy.ej hy.e3
  have ct2 := c_X5_commit E N hN am M a1 e hy.em hy.e3 w c hy.wm hy.w2 hy.sc hy.c2
  obtain ⟨r1, hr1⟩ : ∃ z : Int32, (xCommit N X a1 e).1 = z := ⟨_, rfl⟩
  rw [hr1] at ct1 h1
  obtain ⟨Xq, hXq⟩ : ∃ z : XS, (xCommit N X a1 e).2 = z := ⟨_, rfl⟩
  rw [hXq] at ct1 h2
  obtain ⟨r2, hr2⟩ : ∃ z : Int32, (mFin N M a1 1 e w c).1 = z := ⟨_, rfl⟩
  rw [hr2] at ct2 h1
  obtain ⟨Mq, hMq⟩ : ∃ z : MS, (mFin N M a1 1 e w c).2 = z := ⟨_, rfl⟩
  rw [hMq] at ct2 h2
  refine z_aload_n C 2 rfl rfl dL_law_176 ?_
  refine z_aload_n C 3 rfl rfl dL_law_177 ?_
  refine z_iload_n C 0 rfl rfl dL_law_178 ?_
  refine z_iconst C (v := 1) (by decide) dL_law_179 ?_
  refine z_iadd C dL_law_180 ?_
  refine z_top (nI_add i 1) ?_
  refine z_sld C hX (v := a1) (vp_in_nI (by omega) (by omega)) (by rw [nI_clamp (by omega)]; exact ha1) dL_law_181 ?_
  refine z_callVI C ct1 glX4_commit (ci := 4) (q0 := 0) rfl rfl hyX4_commit rfl ⟨rfl, rfl⟩ ⟨by decide, by decide⟩ ⟨by decide, by decide⟩ [0, 1, 2, 3, 4, 5, 6, 7, 8, 9, 10, 11, 12, 13, 14] [15, 16, 17, 18, 19, 20, 21, 22, 23, 24, 25, 26] [12, 13, 14, 15, 16, 17, 18, 19, 20, 21, 22, 23, 24, 25, 26, 0, 1, 2, 3, 4, 5, 6, 7, 8, 9, 10, 11] (wr := wM E am N M) (V' := (wX E ax N Xq ++ wM E am N M)) rfl rfl (by decide) (by decide) (by decide) rfl (by decide) (st := []) (Nat.le_of_ble_eq_true rfl) dL_law_182 ?_ rfl
  refine z_aload_n C 1 rfl rfl dL_law_185 ?_
  refine z_aload_n C 3 rfl rfl dL_law_186 ?_
  refine z_iload_n C 0 rfl rfl dL_law_187 ?_
  refine z_iconst C (v := 1) (by decide) dL_law_188 ?_
  refine z_iadd C dL_law_189 ?_
  refine z_top (nI_add i 1) ?_
  refine z_sld C hX (v := a1) (vp_in_nI (by omega) (by omega)) (by rw [nI_clamp (by omega)]; exact ha1) dL_law_190 ?_
  refine z_callVI C ct2 glX5_commit (ci := 5) (q0 := 0) rfl rfl hyX5_commit rfl ⟨rfl, rfl⟩ ⟨by decide, by decide⟩ ⟨by decide, by decide⟩ [15, 16, 17, 18, 19, 20, 21, 22, 23, 24, 25, 26] [0, 1, 2, 3, 4, 5, 6, 7, 8, 9, 10, 11, 12, 13, 14] [0, 1, 2, 3, 4, 5, 6, 7, 8, 9, 10, 11, 12, 13, 14, 15, 16, 17, 18, 19, 20, 21, 22, 23, 24, 25, 26] (wr := wX E ax N Xq) (V' := (wX E ax N Xq ++ wM E am N Mq)) rfl rfl (by decide) (by decide) (by decide) rfl (by decide) (st := [.int r1]) (Nat.le_of_ble_eq_true rfl) dL_law_191 ?_ rfl
  exact z_icmp_eq C (tgt := 508) dL_law_194 (by decide) (fun _ => next Xq Mq h2) (fun h => absurd h1 h)
set_option maxHeartbeats 4000000 in
set_option maxRecDepth 3000 in
theorem lwc_undo {E : GE} {K : KX} {N : Nat} (hN : 16 ≤ N ∧ N ≤ 64) {ax am : Nat → Nat} {X : XS} {M : MS} {b L i : Nat} {xs : Nat → Int32} (hL : L ≤ 257) (hi : i + 4 ≤ L) (C : zC E K cL_law lw_tbl RL room_1 4) (hX : zX K b L xs) (R : Rel N X M) (next : ∀ (X1 : XS) (M1 : MS), Rel N X1 M1 → Z E K 27 8620 (wX E ax N X1 ++ wM E am N M1) 508 [(3, .int (nI i)), (2, .ref (am 0)), (1, .ref (ax 0)), (0, .ref b)] []) : Z E K 27 8620 (wX E ax N X ++ wM E am N M) 199 [(3, .int (nI i)), (2, .ref (am 0)), (1, .ref (ax 0)), (0, .ref b)] [] := by
  obtain ⟨a1, ha1⟩ : ∃ z : Int32, xs (i + 1) = z := ⟨_, rfl⟩
  obtain ⟨e, w, c, hy, h1, h2⟩ := r_undo hN R a1
  have ct1 := c_X4_undo E N hN ax X a1 e hy.ej hy.e3
  have ct2 := c_X5_undo E N hN am M a1 e hy.em hy.e3 w c hy.wm hy.w2 hy.sc hy.c2
  obtain ⟨r1, hr1⟩ : ∃ z : Int32, (xEnd N X a1 3 e).1 = z := ⟨_, rfl⟩
  rw [hr1] at ct1 h1
  obtain ⟨Xq, hXq⟩ : ∃ z : XS, (xEnd N X a1 3 e).2 = z := ⟨_, rfl⟩
  rw [hXq] at ct1 h2
  obtain ⟨r2, hr2⟩ : ∃ z : Int32, (mFin N M a1 0 e w c).1 = z := ⟨_, rfl⟩
  rw [hr2] at ct2 h1
  obtain ⟨Mq, hMq⟩ : ∃ z : MS, (mFin N M a1 0 e w c).2 = z := ⟨_, rfl⟩
  rw [hMq] at ct2 h2
  refine z_aload_n C 2 rfl rfl dL_law_199 ?_
  refine z_aload_n C 3 rfl rfl dL_law_200 ?_
  refine z_iload_n C 0 rfl rfl dL_law_201 ?_
  refine z_iconst C (v := 1) (by decide) dL_law_202 ?_
  refine z_iadd C dL_law_203 ?_
  refine z_top (nI_add i 1) ?_
  refine z_sld C hX (v := a1) (vp_in_nI (by omega) (by omega)) (by rw [nI_clamp (by omega)]; exact ha1) dL_law_204 ?_
  refine z_callVI C ct1 glX4_undo (ci := 4) (q0 := 0) rfl rfl hyX4_undo rfl ⟨rfl, rfl⟩ ⟨by decide, by decide⟩ ⟨by decide, by decide⟩ [0, 1, 2, 3, 4, 5, 6, 7, 8, 9, 10, 11, 12, 13, 14] [15, 16, 17, 18, 19, 20, 21, 22, 23, 24, 25, 26] [12, 13, 14, 15, 16, 17, 18, 19, 20, 21, 22, 23, 24, 25, 26, 0, 1, 2, 3, 4, 5, 6, 7, 8, 9, 10, 11] (wr := wM E am N M) (V' := (wX E ax N Xq ++ wM E am N M)) rfl rfl (by decide) (by decide) (by decide) rfl (by decide) (st := []) (Nat.le_of_ble_eq_true rfl) dL_law_205 ?_ rfl
  refine z_aload_n C 1 rfl rfl dL_law_208 ?_
  refine z_aload_n C 3 rfl rfl dL_law_209 ?_
  refine z_iload_n C 0 rfl rfl dL_law_210 ?_
  refine z_iconst C (v := 1) (by decide) dL_law_211 ?_
  refine z_iadd C dL_law_212 ?_
  refine z_top (nI_add i 1) ?_
  refine z_sld C hX (v := a1) (vp_in_nI (by omega) (by omega)) (by rw [nI_clamp (by omega)]; exact ha1) dL_law_213 ?_
  refine z_callVI C ct2 glX5_undo (ci := 5) (q0 := 0) rfl rfl hyX5_undo rfl ⟨rfl, rfl⟩ ⟨by decide, by decide⟩ ⟨by decide, by decide⟩ [15, 16, 17, 18, 19, 20, 21, 22, 23, 24, 25, 26] [0, 1, 2, 3, 4, 5, 6, 7, 8, 9, 10, 11, 12, 13, 14] [0, 1, 2, 3, 4, 5, 6, 7, 8, 9, 10, 11, 12, 13, 14, 15, 16, 17, 18, 19, 20, 21, 22, 23, 24, 25, 26] (wr := wX E ax N Xq) (V' := (wX E ax N Xq ++ wM E am N Mq)) rfl rfl (by decide) (by decide) (by decide) rfl (by decide) (st := [.int r1]) (Nat.le_of_ble_eq_true rfl) dL_law_214 ?_ rfl
  exact z_icmp_eq C (tgt := 508) dL_law_217 (by decide) (fun _ => next Xq Mq h2) (fun h => absurd h1 h)
set_option maxHeartbeats 4000000 in
set_option maxRecDepth 3000 in
theorem lwc_get {E : GE} {K : KX} {N : Nat} (hN : 16 ≤ N ∧ N ≤ 64) {ax am : Nat → Nat} {X : XS} {M : MS} {b L i : Nat} {xs : Nat → Int32} (hL : L ≤ 257) (hi : i + 4 ≤ L) (C : zC E K cL_law lw_tbl RL room_1 4) (hX : zX K b L xs) (R : Rel N X M) (next : ∀ (X1 : XS) (M1 : MS), Rel N X1 M1 → Z E K 27 8620 (wX E ax N X1 ++ wM E am N M1) 508 [(3, .int (nI i)), (2, .ref (am 0)), (1, .ref (ax 0)), (0, .ref b)] []) : Z E K 27 8620 (wX E ax N X ++ wM E am N M) 222 [(3, .int (nI i)), (2, .ref (am 0)), (1, .ref (ax 0)), (0, .ref b)] [] := by
  obtain ⟨a1, ha1⟩ : ∃ z : Int32, xs (i + 1) = z := ⟨_, rfl⟩
  have h1 := r_get R a1
  have ct1 := c_X4_get E N hN ax X a1
  have ct2 := c_X5_get E N hN am M a1
  obtain ⟨r1, hr1⟩ : ∃ z : Int32, xGet X a1 = z := ⟨_, rfl⟩
  rw [hr1] at ct1 h1
  obtain ⟨r2, hr2⟩ : ∃ z : Int32, mGet M a1 = z := ⟨_, rfl⟩
  rw [hr2] at ct2 h1
  refine z_aload_n C 2 rfl rfl dL_law_222 ?_
  refine z_aload_n C 3 rfl rfl dL_law_223 ?_
  refine z_iload_n C 0 rfl rfl dL_law_224 ?_
  refine z_iconst C (v := 1) (by decide) dL_law_225 ?_
  refine z_iadd C dL_law_226 ?_
  refine z_top (nI_add i 1) ?_
  refine z_sld C hX (v := a1) (vp_in_nI (by omega) (by omega)) (by rw [nI_clamp (by omega)]; exact ha1) dL_law_227 ?_
  refine z_rVI C ct1 glX4_get (ci := 4) (q0 := 0) rfl rfl hyX4_get rfl ⟨rfl, rfl⟩ ⟨by decide, by decide⟩ ⟨by decide, by decide⟩ [0, 1, 2, 3, 4, 5, 6, 7, 8, 9, 10, 11, 12, 13, 14] rfl (by decide) (st := []) (Nat.le_of_ble_eq_true rfl) dL_law_228 ?_ rfl
  refine z_aload_n C 1 rfl rfl dL_law_231 ?_
  refine z_aload_n C 3 rfl rfl dL_law_232 ?_
  refine z_iload_n C 0 rfl rfl dL_law_233 ?_
  refine z_iconst C (v := 1) (by decide) dL_law_234 ?_
  refine z_iadd C dL_law_235 ?_
  refine z_top (nI_add i 1) ?_
  refine z_sld C hX (v := a1) (vp_in_nI (by omega) (by omega)) (by rw [nI_clamp (by omega)]; exact ha1) dL_law_236 ?_
  refine z_rVI C ct2 glX5_get (ci := 5) (q0 := 0) rfl rfl hyX5_get rfl ⟨rfl, rfl⟩ ⟨by decide, by decide⟩ ⟨by decide, by decide⟩ [15, 16, 17, 18, 19, 20, 21, 22, 23, 24, 25, 26] rfl (by decide) (st := [.int r1]) (Nat.le_of_ble_eq_true rfl) dL_law_237 ?_ rfl
  exact z_icmp_eq C (tgt := 508) dL_law_240 (by decide) (fun _ => next X M R) (fun h => absurd h1 h)
set_option maxHeartbeats 4000000 in
set_option maxRecDepth 3000 in
theorem lwc_seen {E : GE} {K : KX} {N : Nat} (hN : 16 ≤ N ∧ N ≤ 64) {ax am : Nat → Nat} {X : XS} {M : MS} {b L i : Nat} {xs : Nat → Int32} (hL : L ≤ 257) (hi : i + 4 ≤ L) (C : zC E K cL_law lw_tbl RL room_1 4) (hX : zX K b L xs) (R : Rel N X M) (next : ∀ (X1 : XS) (M1 : MS), Rel N X1 M1 → Z E K 27 8620 (wX E ax N X1 ++ wM E am N M1) 508 [(3, .int (nI i)), (2, .ref (am 0)), (1, .ref (ax 0)), (0, .ref b)] []) : Z E K 27 8620 (wX E ax N X ++ wM E am N M) 245 [(3, .int (nI i)), (2, .ref (am 0)), (1, .ref (ax 0)), (0, .ref b)] [] := by
  obtain ⟨a1, ha1⟩ : ∃ z : Int32, xs (i + 1) = z := ⟨_, rfl⟩
  obtain ⟨a2, ha2⟩ : ∃ z : Int32, xs (i + 2) = z := ⟨_, rfl⟩
  have h1 := r_seen R a1 a2
  have ct1 := c_X4_seen E N hN ax X a1 a2
  have ct2 := c_X5_seen E N hN am M a1 a2
  obtain ⟨r1, hr1⟩ : ∃ z : Int32, xSeen X a1 a2 = z := ⟨_, rfl⟩
  rw [hr1] at ct1 h1
  obtain ⟨r2, hr2⟩ : ∃ z : Int32, mSeen M a1 a2 = z := ⟨_, rfl⟩
  rw [hr2] at ct2 h1
  refine z_aload_n C 2 rfl rfl dL_law_245 ?_
  refine z_aload_n C 3 rfl rfl dL_law_246 ?_
  refine z_iload_n C 0 rfl rfl dL_law_247 ?_
  refine z_iconst C (v := 1) (by decide) dL_law_248 ?_
  refine z_iadd C dL_law_249 ?_
  refine z_top (nI_add i 1) ?_
  refine z_sld C hX (v := a1) (vp_in_nI (by omega) (by omega)) (by rw [nI_clamp (by omega)]; exact ha1) dL_law_250 ?_
  refine z_aload_n C 3 rfl rfl dL_law_251 ?_
  refine z_iload_n C 0 rfl rfl dL_law_252 ?_
  refine z_iconst C (v := 2) (by decide) dL_law_253 ?_
  refine z_iadd C dL_law_254 ?_
  refine z_top (nI_add i 2) ?_
  refine z_sld C hX (v := a2) (vp_in_nI (by omega) (by omega)) (by rw [nI_clamp (by omega)]; exact ha2) dL_law_255 ?_
  refine z_rVI C ct1 glX4_seen (ci := 4) (q0 := 0) rfl rfl hyX4_seen rfl ⟨rfl, rfl⟩ ⟨by decide, by decide⟩ ⟨by decide, by decide⟩ [0, 1, 2, 3, 4, 5, 6, 7, 8, 9, 10, 11, 12, 13, 14] rfl (by decide) (st := []) (Nat.le_of_ble_eq_true rfl) dL_law_256 ?_ rfl
  refine z_aload_n C 1 rfl rfl dL_law_259 ?_
  refine z_aload_n C 3 rfl rfl dL_law_260 ?_
  refine z_iload_n C 0 rfl rfl dL_law_261 ?_
  refine z_iconst C (v := 1) (by decide) dL_law_262 ?_
  refine z_iadd C dL_law_263 ?_
  refine z_top (nI_add i 1) ?_
  refine z_sld C hX (v := a1) (vp_in_nI (by omega) (by omega)) (by rw [nI_clamp (by omega)]; exact ha1) dL_law_264 ?_
  refine z_aload_n C 3 rfl rfl dL_law_265 ?_
  refine z_iload_n C 0 rfl rfl dL_law_266 ?_
  refine z_iconst C (v := 2) (by decide) dL_law_267 ?_
  refine z_iadd C dL_law_268 ?_
  refine z_top (nI_add i 2) ?_
  refine z_sld C hX (v := a2) (vp_in_nI (by omega) (by omega)) (by rw [nI_clamp (by omega)]; exact ha2) dL_law_269 ?_
  refine z_rVI C ct2 glX5_seen (ci := 5) (q0 := 0) rfl rfl hyX5_seen rfl ⟨rfl, rfl⟩ ⟨by decide, by decide⟩ ⟨by decide, by decide⟩ [15, 16, 17, 18, 19, 20, 21, 22, 23, 24, 25, 26] rfl (by decide) (st := [.int r1]) (Nat.le_of_ble_eq_true rfl) dL_law_270 ?_ rfl
  exact z_icmp_eq C (tgt := 508) dL_law_273 (by decide) (fun _ => next X M R) (fun h => absurd h1 h)
set_option maxHeartbeats 4000000 in
set_option maxRecDepth 3000 in
theorem lwc_sync {E : GE} {K : KX} {N : Nat} (hN : 16 ≤ N ∧ N ≤ 64) {ax am : Nat → Nat} {X : XS} {M : MS} {b L i : Nat} {xs : Nat → Int32} (hL : L ≤ 257) (hi : i + 4 ≤ L) (C : zC E K cL_law lw_tbl RL room_1 4) (hX : zX K b L xs) (R : Rel N X M) (next : ∀ (X1 : XS) (M1 : MS), Rel N X1 M1 → Z E K 27 8620 (wX E ax N X1 ++ wM E am N M1) 508 [(3, .int (nI i)), (2, .ref (am 0)), (1, .ref (ax 0)), (0, .ref b)] []) : Z E K 27 8620 (wX E ax N X ++ wM E am N M) 278 [(3, .int (nI i)), (2, .ref (am 0)), (1, .ref (ax 0)), (0, .ref b)] [] := by
  obtain ⟨e, w, c, v, hy, hv, h1, h2⟩ := r_sync hN R
  have ct1 := c_X4_sync E N hN ax X e hy.ej hy.e3 v hv
  have ct2 := c_X5_sync E N hN am M e hy.em hy.e3 w c hy.wm hy.w2 hy.sc hy.c2 hy.wt
  obtain ⟨r1, hr1⟩ : ∃ z : Int32, (xSync N X e v).1 = z := ⟨_, rfl⟩
  rw [hr1] at ct1 h1
  obtain ⟨Xq, hXq⟩ : ∃ z : XS, (xSync N X e v).2 = z := ⟨_, rfl⟩
  rw [hXq] at ct1 h2
  obtain ⟨r2, hr2⟩ : ∃ z : Int32, (mSync N M e w c).1 = z := ⟨_, rfl⟩
  rw [hr2] at ct2 h1
  obtain ⟨Mq, hMq⟩ : ∃ z : MS, (mSync N M e w c).2 = z := ⟨_, rfl⟩
  rw [hMq] at ct2 h2
  refine z_aload_n C 2 rfl rfl dL_law_278 ?_
  refine z_callVI C ct1 glX4_sync (ci := 4) (q0 := 0) rfl rfl hyX4_sync rfl ⟨rfl, rfl⟩ ⟨by decide, by decide⟩ ⟨by decide, by decide⟩ [0, 1, 2, 3, 4, 5, 6, 7, 8, 9, 10, 11, 12, 13, 14] [15, 16, 17, 18, 19, 20, 21, 22, 23, 24, 25, 26] [12, 13, 14, 15, 16, 17, 18, 19, 20, 21, 22, 23, 24, 25, 26, 0, 1, 2, 3, 4, 5, 6, 7, 8, 9, 10, 11] (wr := wM E am N M) (V' := (wX E ax N Xq ++ wM E am N M)) rfl rfl (by decide) (by decide) (by decide) rfl (by decide) (st := []) (Nat.le_of_ble_eq_true rfl) dL_law_279 ?_ rfl
  refine z_aload_n C 1 rfl rfl dL_law_282 ?_
  refine z_callVI C ct2 glX5_sync (ci := 5) (q0 := 0) rfl rfl hyX5_sync rfl ⟨rfl, rfl⟩ ⟨by decide, by decide⟩ ⟨by decide, by decide⟩ [15, 16, 17, 18, 19, 20, 21, 22, 23, 24, 25, 26] [0, 1, 2, 3, 4, 5, 6, 7, 8, 9, 10, 11, 12, 13, 14] [0, 1, 2, 3, 4, 5, 6, 7, 8, 9, 10, 11, 12, 13, 14, 15, 16, 17, 18, 19, 20, 21, 22, 23, 24, 25, 26] (wr := wX E ax N Xq) (V' := (wX E ax N Xq ++ wM E am N Mq)) rfl rfl (by decide) (by decide) (by decide) rfl (by decide) (st := [.int r1]) (Nat.le_of_ble_eq_true rfl) dL_law_283 ?_ rfl
  exact z_icmp_eq C (tgt := 508) dL_law_286 (by decide) (fun _ => next Xq Mq h2) (fun h => absurd h1 h)
set_option maxHeartbeats 4000000 in
set_option maxRecDepth 3000 in
theorem lwc_checkpoint {E : GE} {K : KX} {N : Nat} (hN : 16 ≤ N ∧ N ≤ 64) {ax am : Nat → Nat} {X : XS} {M : MS} {b L i : Nat} {xs : Nat → Int32} (hL : L ≤ 257) (hi : i + 4 ≤ L) (C : zC E K cL_law lw_tbl RL room_1 4) (hX : zX K b L xs) (R : Rel N X M) (next : ∀ (X1 : XS) (M1 : MS), Rel N X1 M1 → Z E K 27 8620 (wX E ax N X1 ++ wM E am N M1) 508 [(3, .int (nI i)), (2, .ref (am 0)), (1, .ref (ax 0)), (0, .ref b)] []) : Z E K 27 8620 (wX E ax N X ++ wM E am N M) 291 [(3, .int (nI i)), (2, .ref (am 0)), (1, .ref (ax 0)), (0, .ref b)] [] := by
  obtain ⟨e, w, c, P, hy, p1, p2, p3, pA, pB, h1, h2⟩ := r_chk hN R
  have ct1 := c_X4_checkpoint E N hN ax X e hy.ej hy.e3 P p1 p2
  have ct2 := c_X5_checkpoint E N hN am M e hy.em hy.e3 w c hy.wm hy.w2 hy.sc hy.c2 P p3 p2 pA pB
  obtain ⟨r1, hr1⟩ : ∃ z : Int32, (xChk N X e P).1 = z := ⟨_, rfl⟩
  rw [hr1] at ct1 h1
  obtain ⟨Xq, hXq⟩ : ∃ z : XS, (xChk N X e P).2 = z := ⟨_, rfl⟩
  rw [hXq] at ct1 h2
  obtain ⟨r2, hr2⟩ : ∃ z : Int32, (mChk N M e w c P).1 = z := ⟨_, rfl⟩
  rw [hr2] at ct2 h1
  obtain ⟨Mq, hMq⟩ : ∃ z : MS, (mChk N M e w c P).2 = z := ⟨_, rfl⟩
  rw [hMq] at ct2 h2
  refine z_aload_n C 2 rfl rfl dL_law_291 ?_
  refine z_callVI C ct1 glX4_checkpoint (ci := 4) (q0 := 0) rfl rfl hyX4_checkpoint rfl ⟨rfl, rfl⟩ ⟨by decide, by decide⟩ ⟨by decide, by decide⟩ [0, 1, 2, 3, 4, 5, 6, 7, 8, 9, 10, 11, 12, 13, 14] [15, 16, 17, 18, 19, 20, 21, 22, 23, 24, 25, 26] [12, 13, 14, 15, 16, 17, 18, 19, 20, 21, 22, 23, 24, 25, 26, 0, 1, 2, 3, 4, 5, 6, 7, 8, 9, 10, 11] (wr := wM E am N M) (V' := (wX E ax N Xq ++ wM E am N M)) rfl rfl (by decide) (by decide) (by decide) rfl (by decide) (st := []) (Nat.le_of_ble_eq_true rfl) dL_law_292 ?_ rfl
  refine z_aload_n C 1 rfl rfl dL_law_295 ?_
  refine z_callVI C ct2 glX5_checkpoint (ci := 5) (q0 := 0) rfl rfl hyX5_checkpoint rfl ⟨rfl, rfl⟩ ⟨by decide, by decide⟩ ⟨by decide, by decide⟩ [15, 16, 17, 18, 19, 20, 21, 22, 23, 24, 25, 26] [0, 1, 2, 3, 4, 5, 6, 7, 8, 9, 10, 11, 12, 13, 14] [0, 1, 2, 3, 4, 5, 6, 7, 8, 9, 10, 11, 12, 13, 14, 15, 16, 17, 18, 19, 20, 21, 22, 23, 24, 25, 26] (wr := wX E ax N Xq) (V' := (wX E ax N Xq ++ wM E am N Mq)) rfl rfl (by decide) (by decide) (by decide) rfl (by decide) (st := [.int r1]) (Nat.le_of_ble_eq_true rfl) dL_law_296 ?_ rfl
  exact z_icmp_eq C (tgt := 508) dL_law_299 (by decide) (fun _ => next Xq Mq h2) (fun h => absurd h1 h)

/-! The reference: twoOf, worked, gives -/
theorem sa_sa {w : gx_W} {r : Nat} {f g : Nat → Int32} : s_a (s_a w r f) r g = s_a w r g := by
  unfold s_a
  show (w.1, w.2.1, w.2.2.1, va_up (va_up w.2.2.2.1 r f) r g, w.2.2.2.2) = _
  rw [va_up_up]
theorem wa_sat {w : gx_W} {r : Nat} {f : Nat → Int32} : w_a (s_a w r f) r = f := va_up_at
theorem lw_m1d (a : Int32) : a / (-1) = -a := by
  rw [pI_eq, Int32.toInt_div, show (-1 : Int32).toInt = -1 by decide, Int32.toInt_neg]
  congr 1
  rw [Int.tdiv_neg, Int.tdiv_one]
theorem lw_m1r (a : Int32) : a - a / (-1) * (-1) = 0 := by
  rw [lw_m1d, pI_eq, Int32.toInt_sub, Int32.toInt_mul, show (-1 : Int32).toInt = -1 by decide, Int32.toInt_neg, show (0 : Int32).toInt = 0 by decide]
  have e : ((2 ^ 32 : Nat) : Int) = 4294967296 := by decide
  unfold Int.bmod
  rw [e]
  simp only []
  omega
theorem lt_43 (a b : Int32) : lw_two 43 a b = a + b := rfl
theorem lt_45 (a b : Int32) : lw_two 45 a b = a - b := rfl
theorem lt_42 (a b : Int32) : lw_two 42 a b = a * b := rfl
theorem lt_47 (a b : Int32) : lw_two 47 a b = if b = 0 then 0 else a / b := rfl
theorem lt_37 (a b : Int32) : lw_two 37 a b = if b = 0 then 0 else a - a / b * b := rfl
theorem lt_60 (a b : Int32) : lw_two 60 a b = if a < b then 1 else 0 := rfl
theorem lt_61 (a b : Int32) : lw_two 61 a b = if a = b then 1 else 0 := rfl
theorem lt_62 (a b : Int32) : lw_two 62 a b = if a > b then 1 else 0 := rfl
theorem lt_38 (a b : Int32) : lw_two 38 a b = if a ≠ 0 ∧ b ≠ 0 then 1 else 0 := rfl
theorem lt_124 (a b : Int32) : lw_two 124 a b = if a ≠ 0 ∨ b ≠ 0 then 1 else 0 := rfl
theorem isOp_124 {s : Int32} (h : isOp s = true) (h1 : ¬ s = 37) (h2 : ¬ s = 38) (h3 : ¬ s = 42) (h4 : ¬ s = 43) (h5 : ¬ s = 45) (h6 : ¬ s = 47) (h7 : ¬ s = 60) (h8 : ¬ s = 61) (h9 : ¬ s = 62) : s = 124 := by
  simp [isOp, h1, h2, h3, h4, h5, h6, h7, h8, h9] at h
  exact h
set_option maxHeartbeats 4000000 in
theorem c_X10_twoOf {d : Nat} {w : gx_W} {s a b : Int32} {k : Int32 → gx_W → Prop} (hd : 0 ≤ d) (hs : isOp s = true) (kk : k (lw_two s a b) w) : gx_C 0 0 d mX10_twoOf [.int s, .int a, .int b] w (Qi k) := by
  refine gx_C_of' (L := [.int s, .int a, .int b]) (by decide +kernel) rfl (Nat.le_of_ble_eq_true rfl) ?_
  refine g_iload_n dX10_twoOf_0 rfl ?_
  by_cases s1_0 : s = 37
  · refine g_tableIn (off := 153) (tgt := 154) dX10_twoOf_1 (by rw [s1_0]; decide) (by rw [s1_0]; decide) (by rw [s1_0]; rfl) (by decide) ?_
    refine g_iload_n dX10_twoOf_154 rfl ?_
    refine g_if_eq (tgt := 163) dX10_twoOf_155 (by decide) (fun zc155 => ?_) (fun zc155 => ?_)
    · refine g_iconst (v := 0) dX10_twoOf_163 rfl ?_
      refine g_goto (tgt := 170) dX10_twoOf_164 (by decide) ?_
      refine g_iret dX10_twoOf_170 rfl ⟨_, rfl, ?_⟩
      have K : lw_two s a b = 0 := by rw [s1_0, lt_37]; exact if_pos zc155
      rw [K] at kk
      exact kk
    · refine g_iload_n dX10_twoOf_158 rfl ?_
      refine g_iconst (v := -1) dX10_twoOf_159 rfl ?_
      refine g_icmp_ne (tgt := 167) dX10_twoOf_160 (by decide) (fun zc160 => ?_) (fun zc160 => ?_)
      · refine g_iload_n dX10_twoOf_167 rfl ?_
        refine g_iload_n dX10_twoOf_168 rfl ?_
        refine g_irem dX10_twoOf_169 zc155 ?_
        refine g_iret dX10_twoOf_170 rfl ⟨_, rfl, ?_⟩
        have K : lw_two s a b = a - a / b * b := by rw [s1_0, lt_37]; exact if_neg zc155
        rw [K] at kk
        exact kk
      · refine g_iconst (v := 0) dX10_twoOf_163 rfl ?_
        refine g_goto (tgt := 170) dX10_twoOf_164 (by decide) ?_
        refine g_iret dX10_twoOf_170 rfl ⟨_, rfl, ?_⟩
        have K : lw_two s a b = 0 := by rw [s1_0, lt_37]; rw [zc160]; exact (if_neg (by decide)).trans (lw_m1r a)
        rw [K] at kk
        exact kk
  by_cases s1_1 : s = 38
  · refine g_tableIn (off := 203) (tgt := 204) dX10_twoOf_1 (by rw [s1_1]; decide) (by rw [s1_1]; decide) (by rw [s1_1]; rfl) (by decide) ?_
    refine g_iload_n dX10_twoOf_204 rfl ?_
    refine g_if_eq (tgt := 216) dX10_twoOf_205 (by decide) (fun zc205 => ?_) (fun zc205 => ?_)
    · refine g_iconst (v := 0) dX10_twoOf_216 rfl ?_
      refine g_iret dX10_twoOf_217 rfl ⟨_, rfl, ?_⟩
      have K : lw_two s a b = 0 := by rw [s1_1, lt_38]; exact if_neg (fun q => q.1 zc205)
      rw [K] at kk
      exact kk
    · refine g_iload_n dX10_twoOf_208 rfl ?_
      refine g_if_eq (tgt := 216) dX10_twoOf_209 (by decide) (fun zc209 => ?_) (fun zc209 => ?_)
      · refine g_iconst (v := 0) dX10_twoOf_216 rfl ?_
        refine g_iret dX10_twoOf_217 rfl ⟨_, rfl, ?_⟩
        have K : lw_two s a b = 0 := by rw [s1_1, lt_38]; exact if_neg (fun q => q.2 zc209)
        rw [K] at kk
        exact kk
      · refine g_iconst (v := 1) dX10_twoOf_212 rfl ?_
        refine g_goto (tgt := 217) dX10_twoOf_213 (by decide) ?_
        refine g_iret dX10_twoOf_217 rfl ⟨_, rfl, ?_⟩
        have K : lw_two s a b = 1 := by rw [s1_1, lt_38]; exact if_pos ⟨zc205, zc209⟩
        rw [K] at kk
        exact kk
  by_cases s1_2 : s = 39
  · refine g_tableIn (off := 217) (tgt := 218) dX10_twoOf_1 (by rw [s1_2]; decide) (by rw [s1_2]; decide) (by rw [s1_2]; rfl) (by decide) ?_
    rw [s1_2] at hs; exact absurd hs (by decide)
  by_cases s1_3 : s = 40
  · refine g_tableIn (off := 217) (tgt := 218) dX10_twoOf_1 (by rw [s1_3]; decide) (by rw [s1_3]; decide) (by rw [s1_3]; rfl) (by decide) ?_
    rw [s1_3] at hs; exact absurd hs (by decide)
  by_cases s1_4 : s = 41
  · refine g_tableIn (off := 217) (tgt := 218) dX10_twoOf_1 (by rw [s1_4]; decide) (by rw [s1_4]; decide) (by rw [s1_4]; rfl) (by decide) ?_
    rw [s1_4] at hs; exact absurd hs (by decide)
  by_cases s1_5 : s = 42
  · refine g_tableIn (off := 127) (tgt := 128) dX10_twoOf_1 (by rw [s1_5]; decide) (by rw [s1_5]; decide) (by rw [s1_5]; rfl) (by decide) ?_
    refine g_iload_n dX10_twoOf_128 rfl ?_
    refine g_iload_n dX10_twoOf_129 rfl ?_
    refine g_imul dX10_twoOf_130 ?_
    refine g_iret dX10_twoOf_131 rfl ⟨_, rfl, ?_⟩
    have K : lw_two s a b = a * b := by rw [s1_5, lt_42]
    rw [K] at kk
    exact kk
  by_cases s1_6 : s = 43
  · refine g_tableIn (off := 119) (tgt := 120) dX10_twoOf_1 (by rw [s1_6]; decide) (by rw [s1_6]; decide) (by rw [s1_6]; rfl) (by decide) ?_
    refine g_iload_n dX10_twoOf_120 rfl ?_
    refine g_iload_n dX10_twoOf_121 rfl ?_
    refine g_iadd dX10_twoOf_122 ?_
    refine g_iret dX10_twoOf_123 rfl ⟨_, rfl, ?_⟩
    have K : lw_two s a b = a + b := by rw [s1_6, lt_43]
    rw [K] at kk
    exact kk
  by_cases s1_7 : s = 44
  · refine g_tableIn (off := 217) (tgt := 218) dX10_twoOf_1 (by rw [s1_7]; decide) (by rw [s1_7]; decide) (by rw [s1_7]; rfl) (by decide) ?_
    rw [s1_7] at hs; exact absurd hs (by decide)
  by_cases s1_8 : s = 45
  · refine g_tableIn (off := 123) (tgt := 124) dX10_twoOf_1 (by rw [s1_8]; decide) (by rw [s1_8]; decide) (by rw [s1_8]; rfl) (by decide) ?_
    refine g_iload_n dX10_twoOf_124 rfl ?_
    refine g_iload_n dX10_twoOf_125 rfl ?_
    refine g_isub dX10_twoOf_126 ?_
    refine g_iret dX10_twoOf_127 rfl ⟨_, rfl, ?_⟩
    have K : lw_two s a b = a - b := by rw [s1_8, lt_45]
    rw [K] at kk
    exact kk
  by_cases s1_9 : s = 46
  · refine g_tableIn (off := 217) (tgt := 218) dX10_twoOf_1 (by rw [s1_9]; decide) (by rw [s1_9]; decide) (by rw [s1_9]; rfl) (by decide) ?_
    rw [s1_9] at hs; exact absurd hs (by decide)
  by_cases s1_10 : s = 47
  · refine g_tableIn (off := 131) (tgt := 132) dX10_twoOf_1 (by rw [s1_10]; decide) (by rw [s1_10]; decide) (by rw [s1_10]; rfl) (by decide) ?_
    refine g_iload_n dX10_twoOf_132 rfl ?_
    refine g_if_ne (tgt := 140) dX10_twoOf_133 (by decide) (fun zc133 => ?_) (fun zc133 => ?_)
    · refine g_iload_n dX10_twoOf_140 rfl ?_
      refine g_iconst (v := -1) dX10_twoOf_141 rfl ?_
      refine g_icmp_ne (tgt := 150) dX10_twoOf_142 (by decide) (fun zc142 => ?_) (fun zc142 => ?_)
      · refine g_iload_n dX10_twoOf_150 rfl ?_
        refine g_iload_n dX10_twoOf_151 rfl ?_
        refine g_idiv dX10_twoOf_152 zc133 ?_
        refine g_iret dX10_twoOf_153 rfl ⟨_, rfl, ?_⟩
        have K : lw_two s a b = a / b := by rw [s1_10, lt_47]; exact if_neg zc133
        rw [K] at kk
        exact kk
      · refine g_iload_n dX10_twoOf_145 rfl ?_
        refine g_ineg dX10_twoOf_146 ?_
        refine g_goto (tgt := 153) dX10_twoOf_147 (by decide) ?_
        refine g_iret dX10_twoOf_153 rfl ⟨_, rfl, ?_⟩
        have K : lw_two s a b = -a := by rw [s1_10, lt_47]; rw [zc142]; exact (if_neg (by decide)).trans (lw_m1d a)
        rw [K] at kk
        exact kk
    · refine g_iconst (v := 0) dX10_twoOf_136 rfl ?_
      refine g_goto (tgt := 153) dX10_twoOf_137 (by decide) ?_
      refine g_iret dX10_twoOf_153 rfl ⟨_, rfl, ?_⟩
      have K : lw_two s a b = 0 := by rw [s1_10, lt_47]; exact if_pos zc133
      rw [K] at kk
      exact kk
  by_cases s1_11 : s = 48
  · refine g_tableIn (off := 217) (tgt := 218) dX10_twoOf_1 (by rw [s1_11]; decide) (by rw [s1_11]; decide) (by rw [s1_11]; rfl) (by decide) ?_
    rw [s1_11] at hs; exact absurd hs (by decide)
  by_cases s1_12 : s = 49
  · refine g_tableIn (off := 217) (tgt := 218) dX10_twoOf_1 (by rw [s1_12]; decide) (by rw [s1_12]; decide) (by rw [s1_12]; rfl) (by decide) ?_
    rw [s1_12] at hs; exact absurd hs (by decide)
  by_cases s1_13 : s = 50
  · refine g_tableIn (off := 217) (tgt := 218) dX10_twoOf_1 (by rw [s1_13]; decide) (by rw [s1_13]; decide) (by rw [s1_13]; rfl) (by decide) ?_
    rw [s1_13] at hs; exact absurd hs (by decide)
  by_cases s1_14 : s = 51
  · refine g_tableIn (off := 217) (tgt := 218) dX10_twoOf_1 (by rw [s1_14]; decide) (by rw [s1_14]; decide) (by rw [s1_14]; rfl) (by decide) ?_
    rw [s1_14] at hs; exact absurd hs (by decide)
  by_cases s1_15 : s = 52
  · refine g_tableIn (off := 217) (tgt := 218) dX10_twoOf_1 (by rw [s1_15]; decide) (by rw [s1_15]; decide) (by rw [s1_15]; rfl) (by decide) ?_
    rw [s1_15] at hs; exact absurd hs (by decide)
  by_cases s1_16 : s = 53
  · refine g_tableIn (off := 217) (tgt := 218) dX10_twoOf_1 (by rw [s1_16]; decide) (by rw [s1_16]; decide) (by rw [s1_16]; rfl) (by decide) ?_
    rw [s1_16] at hs; exact absurd hs (by decide)
  by_cases s1_17 : s = 54
  · refine g_tableIn (off := 217) (tgt := 218) dX10_twoOf_1 (by rw [s1_17]; decide) (by rw [s1_17]; decide) (by rw [s1_17]; rfl) (by decide) ?_
    rw [s1_17] at hs; exact absurd hs (by decide)
  by_cases s1_18 : s = 55
  · refine g_tableIn (off := 217) (tgt := 218) dX10_twoOf_1 (by rw [s1_18]; decide) (by rw [s1_18]; decide) (by rw [s1_18]; rfl) (by decide) ?_
    rw [s1_18] at hs; exact absurd hs (by decide)
  by_cases s1_19 : s = 56
  · refine g_tableIn (off := 217) (tgt := 218) dX10_twoOf_1 (by rw [s1_19]; decide) (by rw [s1_19]; decide) (by rw [s1_19]; rfl) (by decide) ?_
    rw [s1_19] at hs; exact absurd hs (by decide)
  by_cases s1_20 : s = 57
  · refine g_tableIn (off := 217) (tgt := 218) dX10_twoOf_1 (by rw [s1_20]; decide) (by rw [s1_20]; decide) (by rw [s1_20]; rfl) (by decide) ?_
    rw [s1_20] at hs; exact absurd hs (by decide)
  by_cases s1_21 : s = 58
  · refine g_tableIn (off := 217) (tgt := 218) dX10_twoOf_1 (by rw [s1_21]; decide) (by rw [s1_21]; decide) (by rw [s1_21]; rfl) (by decide) ?_
    rw [s1_21] at hs; exact absurd hs (by decide)
  by_cases s1_22 : s = 59
  · refine g_tableIn (off := 217) (tgt := 218) dX10_twoOf_1 (by rw [s1_22]; decide) (by rw [s1_22]; decide) (by rw [s1_22]; rfl) (by decide) ?_
    rw [s1_22] at hs; exact absurd hs (by decide)
  by_cases s1_23 : s = 60
  · refine g_tableIn (off := 170) (tgt := 171) dX10_twoOf_1 (by rw [s1_23]; decide) (by rw [s1_23]; decide) (by rw [s1_23]; rfl) (by decide) ?_
    refine g_iload_n dX10_twoOf_171 rfl ?_
    refine g_iload_n dX10_twoOf_172 rfl ?_
    refine g_icmp_ge (tgt := 180) dX10_twoOf_173 (by decide) (fun zc173 => ?_) (fun zc173 => ?_)
    · refine g_iconst (v := 0) dX10_twoOf_180 rfl ?_
      refine g_iret dX10_twoOf_181 rfl ⟨_, rfl, ?_⟩
      have K : lw_two s a b = 0 := by rw [s1_23, lt_60]; exact if_neg (Int32.not_lt.mpr zc173)
      rw [K] at kk
      exact kk
    · refine g_iconst (v := 1) dX10_twoOf_176 rfl ?_
      refine g_goto (tgt := 181) dX10_twoOf_177 (by decide) ?_
      refine g_iret dX10_twoOf_181 rfl ⟨_, rfl, ?_⟩
      have K : lw_two s a b = 1 := by rw [s1_23, lt_60]; exact if_pos (Int32.not_le.mp zc173)
      rw [K] at kk
      exact kk
  by_cases s1_24 : s = 61
  · refine g_tableIn (off := 181) (tgt := 182) dX10_twoOf_1 (by rw [s1_24]; decide) (by rw [s1_24]; decide) (by rw [s1_24]; rfl) (by decide) ?_
    refine g_iload_n dX10_twoOf_182 rfl ?_
    refine g_iload_n dX10_twoOf_183 rfl ?_
    refine g_icmp_ne (tgt := 191) dX10_twoOf_184 (by decide) (fun zc184 => ?_) (fun zc184 => ?_)
    · refine g_iconst (v := 0) dX10_twoOf_191 rfl ?_
      refine g_iret dX10_twoOf_192 rfl ⟨_, rfl, ?_⟩
      have K : lw_two s a b = 0 := by rw [s1_24, lt_61]; exact if_neg zc184
      rw [K] at kk
      exact kk
    · refine g_iconst (v := 1) dX10_twoOf_187 rfl ?_
      refine g_goto (tgt := 192) dX10_twoOf_188 (by decide) ?_
      refine g_iret dX10_twoOf_192 rfl ⟨_, rfl, ?_⟩
      have K : lw_two s a b = 1 := by rw [s1_24, lt_61]; exact if_pos zc184
      rw [K] at kk
      exact kk
  by_cases s1_25 : s = 62
  · refine g_tableIn (off := 192) (tgt := 193) dX10_twoOf_1 (by rw [s1_25]; decide) (by rw [s1_25]; decide) (by rw [s1_25]; rfl) (by decide) ?_
    refine g_iload_n dX10_twoOf_193 rfl ?_
    refine g_iload_n dX10_twoOf_194 rfl ?_
    refine g_icmp_le (tgt := 202) dX10_twoOf_195 (by decide) (fun zc195 => ?_) (fun zc195 => ?_)
    · refine g_iconst (v := 0) dX10_twoOf_202 rfl ?_
      refine g_iret dX10_twoOf_203 rfl ⟨_, rfl, ?_⟩
      have K : lw_two s a b = 0 := by rw [s1_25, lt_62]; exact if_neg (Int32.not_lt.mpr zc195)
      rw [K] at kk
      exact kk
    · refine g_iconst (v := 1) dX10_twoOf_198 rfl ?_
      refine g_goto (tgt := 203) dX10_twoOf_199 (by decide) ?_
      refine g_iret dX10_twoOf_203 rfl ⟨_, rfl, ?_⟩
      have K : lw_two s a b = 1 := by rw [s1_25, lt_62]; exact if_pos (Int32.not_le.mp zc195)
      rw [K] at kk
      exact kk
  refine g_tableOut (tgt := 218) dX10_twoOf_1 (by have z0 := lv_neT s1_0 (a := 37) (by decide); have z1 := lv_neT s1_1 (a := 38) (by decide); have z2 := lv_neT s1_2 (a := 39) (by decide); have z3 := lv_neT s1_3 (a := 40) (by decide); have z4 := lv_neT s1_4 (a := 41) (by decide); have z5 := lv_neT s1_5 (a := 42) (by decide); have z6 := lv_neT s1_6 (a := 43) (by decide); have z7 := lv_neT s1_7 (a := 44) (by decide); have z8 := lv_neT s1_8 (a := 45) (by decide); have z9 := lv_neT s1_9 (a := 46) (by decide); have z10 := lv_neT s1_10 (a := 47) (by decide); have z11 := lv_neT s1_11 (a := 48) (by decide); have z12 := lv_neT s1_12 (a := 49) (by decide); have z13 := lv_neT s1_13 (a := 50) (by decide); have z14 := lv_neT s1_14 (a := 51) (by decide); have z15 := lv_neT s1_15 (a := 52) (by decide); have z16 := lv_neT s1_16 (a := 53) (by decide); have z17 := lv_neT s1_17 (a := 54) (by decide); have z18 := lv_neT s1_18 (a := 55) (by decide); have z19 := lv_neT s1_19 (a := 56) (by decide); have z20 := lv_neT s1_20 (a := 57) (by decide); have z21 := lv_neT s1_21 (a := 58) (by decide); have z22 := lv_neT s1_22 (a := 59) (by decide); have z23 := lv_neT s1_23 (a := 60) (by decide); have z24 := lv_neT s1_24 (a := 61) (by decide); have z25 := lv_neT s1_25 (a := 62) (by decide); omega) (by decide) ?_
  refine g_iload_n dX10_twoOf_218 rfl ?_
  refine g_if_ne (tgt := 226) dX10_twoOf_219 (by decide) (fun zc219 => ?_) (fun zc219 => ?_)
  · refine g_iconst (v := 1) dX10_twoOf_226 rfl ?_
    refine g_goto (tgt := 231) dX10_twoOf_227 (by decide) ?_
    refine g_iret dX10_twoOf_231 rfl ⟨_, rfl, ?_⟩
    have hz := isOp_124 hs s1_0 s1_1 s1_5 s1_6 s1_8 s1_10 s1_23 s1_24 s1_25
    have K : lw_two s a b = 1 := by rw [hz, lt_124]; exact if_pos (Or.inl zc219)
    rw [K] at kk
    exact kk
  · refine g_iload_n dX10_twoOf_222 rfl ?_
    refine g_if_eq (tgt := 230) dX10_twoOf_223 (by decide) (fun zc223 => ?_) (fun zc223 => ?_)
    · refine g_iconst (v := 0) dX10_twoOf_230 rfl ?_
      refine g_iret dX10_twoOf_231 rfl ⟨_, rfl, ?_⟩
      have hz := isOp_124 hs s1_0 s1_1 s1_5 s1_6 s1_8 s1_10 s1_23 s1_24 s1_25
      have K : lw_two s a b = 0 := by rw [hz, lt_124]; exact if_neg (fun q => q.elim (fun q => q zc219) (fun q => q zc223))
      rw [K] at kk
      exact kk
    · refine g_iconst (v := 1) dX10_twoOf_226 rfl ?_
      refine g_goto (tgt := 231) dX10_twoOf_227 (by decide) ?_
      refine g_iret dX10_twoOf_231 rfl ⟨_, rfl, ?_⟩
      have hz := isOp_124 hs s1_0 s1_1 s1_5 s1_6 s1_8 s1_10 s1_23 s1_24 s1_25
      have K : lw_two s a b = 1 := by rw [hz, lt_124]; exact if_pos (Or.inr zc223)
      rw [K] at kk
      exact kk
theorem rs1_1 {nm : Nat → Int32} {v : Int32} {n : Nat} {P : Nat → Int32} {q : Nat × (Nat → Int32)} (h : rs1 nm 1 v n P = some q) : n < 130 ∧ q = (n + 1, va_up P n v) := by
  unfold rs1 at h
  rw [if_pos rfl] at h
  split at h
  · rename_i z; exact ⟨z, (Option.some.inj h).symm⟩
  · cases h
theorem rs1_2 {nm : Nat → Int32} {v : Int32} {n : Nat} {P : Nat → Int32} {q : Nat × (Nat → Int32)} (h : rs1 nm 2 v n P = some q) : (n < 130 ∧ 0 ≤ v ∧ v < 6) ∧ q = (n + 1, va_up P n (nm v.toNatClampNeg)) := by
  unfold rs1 at h
  rw [if_neg (by decide), if_pos rfl] at h
  split at h
  · rename_i z; exact ⟨z, (Option.some.inj h).symm⟩
  · cases h
theorem rs1_3 {nm : Nat → Int32} {v : Int32} {n : Nat} {P : Nat → Int32} {q : Nat × (Nat → Int32)} (h : rs1 nm 3 v n P = some q) : ∃ m, n = m + 1 ∧ n ≤ 130 ∧ q = (m + 1, va_up P m (if P m = 0 then 1 else 0)) := by
  unfold rs1 at h
  rw [if_neg (by decide), if_neg (by decide), if_pos rfl] at h
  split at h
  · rename_i z
    obtain ⟨m, rfl⟩ : ∃ m, n = m + 1 := ⟨n - 1, by omega⟩
    exact ⟨m, rfl, z.2, (Option.some.inj h).symm⟩
  · cases h
theorem rs1_4 {nm : Nat → Int32} {v : Int32} {n : Nat} {P : Nat → Int32} {q : Nat × (Nat → Int32)} (h : rs1 nm 4 v n P = some q) : ∃ m, n = m + 1 ∧ n ≤ 130 ∧ q = (m + 1, va_up P m (-(P m))) := by
  unfold rs1 at h
  rw [if_neg (by decide), if_neg (by decide), if_neg (by decide), if_pos rfl] at h
  split at h
  · rename_i z
    obtain ⟨m, rfl⟩ : ∃ m, n = m + 1 := ⟨n - 1, by omega⟩
    exact ⟨m, rfl, z.2, (Option.some.inj h).symm⟩
  · cases h
theorem rs1_5 {nm : Nat → Int32} {a v : Int32} {n : Nat} {P : Nat → Int32} {q : Nat × (Nat → Int32)} (h1 : ¬ a = 1) (h2 : ¬ a = 2) (h3 : ¬ a = 3) (h4 : ¬ a = 4) (h : rs1 nm a v n P = some q) : isOp a = true ∧ ∃ m, n = m + 1 + 1 ∧ n ≤ 130 ∧ q = (m + 1, va_up P m (lw_two a (P m) (P (m + 1)))) := by
  unfold rs1 at h
  rw [if_neg h1, if_neg h2, if_neg h3, if_neg h4] at h
  split at h
  · rename_i z
    obtain ⟨m, rfl⟩ : ∃ m, n = m + 1 + 1 := ⟨n - 2, by omega⟩
    exact ⟨z.1, m, rfl, z.2.2, (Option.some.inj h).symm⟩
  · cases h
theorem z130 (b : Nat) : (130 : Int32) * 0 + nI b = nI b := by simp
set_option maxHeartbeats 4000000 in
theorem l_X10_worked {d a b : Nat} {w : gx_W} {nm : Nat → Int32} {k : Int32 → gx_W → Prop} (hd : 1 ≤ d) (h : moO w) (hb : b ≤ 130) (hf : ∀ j, j < 6 → w_a w 73 j = nm j) {n' : Nat} {P' : Nat → Int32} (kk : k (P' 0) (s_a w 74 P')) : ∀ (z i n : Nat) (P : Nat → Int32) (x6 : Value), i + z = b → rrun nm (w_a w 68) (w_a w 69) z i n P = some (n', P') → gx_G 0 0 d mX10_worked (Qi k) 12 [.ref 57, .int 0, .int (nI a), .int (nI b), .int (nI n), .int (nI i), x6] [] (s_a w 74 P) := by
  intro z
  induction z with
  | zero =>
    intro i n P x6 hi hr
    have h1 : moO (s_a w 74 P) := h.same (same.sa (R := [74]) (F := []) same.rf (List.mem_singleton.mpr rfl))
    have e : i = b := by omega
    subst e
    have hP : P = P' := congrArg Prod.snd (Option.some.inj hr)
    subst hP
    refine g_iload dX10_worked_12 rfl ?_
    refine g_sipush (v := 130) dX10_worked_14 rfl ?_
    refine g_iload_n dX10_worked_17 rfl ?_
    refine g_imul dX10_worked_18 ?_
    refine g_iload_n dX10_worked_19 rfl ?_
    refine g_iadd dX10_worked_20 ?_
    rw [z130]
    refine g_icmp_ge (tgt := 188) dX10_worked_21 (by decide) (fun zc21 => ?_) (fun zc21 => ?_)
    · refine g_aload_n dX10_worked_188 rfl ?_
      refine g_getr dX10_worked_189 fl_X10_62 h1.1 (moR_74 h1) ?_
      refine g_iconst (v := 0) dX10_worked_192 rfl ?_
      refine g_iald dX10_worked_193 (moA_74 h1) (vp_in_nI (n := 0) (by decide) (by decide)) ?_
      refine g_iret dX10_worked_194 rfl ⟨_, rfl, ?_⟩
      rw [wa_sat]; exact kk
    · exact absurd (Int32.le_refl _) zc21
  | succ z ih =>
    intro i n P x6 hi hr
    have h1 : moO (s_a w 74 P) := h.same (same.sa (R := [74]) (F := []) same.rf (List.mem_singleton.mpr rfl))
    have e68 : w_a (s_a w 74 P) 68 = w_a w 68 := by rw [wa_sa, if_neg (by decide)]
    have e69 : w_a (s_a w 74 P) 69 = w_a w 69 := by rw [wa_sa, if_neg (by decide)]
    have e73 : w_a (s_a w 74 P) 73 = w_a w 73 := by rw [wa_sa, if_neg (by decide)]
    obtain ⟨q, hq, hr⟩ := Option.bind_eq_some_iff.mp hr
    refine g_iload dX10_worked_12 rfl ?_
    refine g_sipush (v := 130) dX10_worked_14 rfl ?_
    refine g_iload_n dX10_worked_17 rfl ?_
    refine g_imul dX10_worked_18 ?_
    refine g_iload_n dX10_worked_19 rfl ?_
    refine g_iadd dX10_worked_20 ?_
    rw [z130]
    refine g_icmp_ge (tgt := 188) dX10_worked_21 (by decide) (fun zc21 => ?_) (fun zc21 => ?_)
    · exact absurd zc21 (nI_ge (by omega) (by omega))
    · refine g_aload_n dX10_worked_24 rfl ?_
      refine g_getr dX10_worked_25 fl_X10_43 h1.1 (moR_68 h1) ?_
      refine g_iload dX10_worked_28 rfl ?_
      refine g_bald dX10_worked_30 (moA_68 h1) (vp_in_nI (by omega) (by decide)) ?_
      rw [e68, (nI_n (show i < 2 ^ 31 by omega))]
      refine g_istore dX10_worked_31 (Nat.le_of_ble_eq_true rfl) rfl ?_
      refine g_iload dX10_worked_33 rfl ?_
      refine g_iconst (v := 1) dX10_worked_35 rfl ?_
      refine g_icmp_eq (tgt := 45) dX10_worked_36 (by decide) (fun zc36 => ?_) (fun zc36 => ?_)
      · refine g_aload_n dX10_worked_45 rfl ?_
        refine g_getr dX10_worked_46 fl_X10_62 h1.1 (moR_74 h1) ?_
        refine g_iload dX10_worked_49 rfl ?_
        refine g_iload dX10_worked_51 rfl ?_
        refine g_iconst (v := 1) dX10_worked_53 rfl ?_
        rw [zc36] at hq
        obtain ⟨hn, rfl⟩ := rs1_1 hq
        refine g_icmp_ne (tgt := 67) dX10_worked_54 (by decide) (fun zc54 => ?_) (fun zc54 => ?_)
        · exact absurd zc36 zc54
        · refine g_aload_n dX10_worked_57 rfl ?_
          refine g_getr dX10_worked_58 fl_X10_46 h1.1 (moR_69 h1) ?_
          refine g_iload dX10_worked_61 rfl ?_
          refine g_iald dX10_worked_63 (moA_69 h1) (vp_in_nI (by omega) (by decide)) ?_
          rw [e69, (nI_n (show i < 2 ^ 31 by omega))]
          refine g_goto (tgt := 79) dX10_worked_64 (by decide) ?_
          refine g_iast dX10_worked_79 (moA_74 h1) (vp_in_nI (by omega) (by decide)) ?_
          rw [nI_n (show n < 2 ^ 31 by omega), wa_sat, sa_sa]
          refine g_iinc dX10_worked_80 rfl rfl ?_
          rw [show nI n + Int32.ofInt 1 = nI (n + 1) from nI_1' n]
          refine g_goto (tgt := 182) dX10_worked_83 (by decide) ?_
          refine g_iinc dX10_worked_182 rfl rfl ?_
          refine g_goto (tgt := 12) dX10_worked_185 (by decide) ?_
          rw [nI_1']
          exact ih (i + 1) _ _ _ (by omega) hr
      · refine g_iload dX10_worked_39 rfl ?_
        refine g_iconst (v := 2) dX10_worked_41 rfl ?_
        refine g_icmp_ne (tgt := 86) dX10_worked_42 (by decide) (fun zc42 => ?_) (fun zc42 => ?_)
        · refine g_iload dX10_worked_86 rfl ?_
          refine g_iconst (v := 3) dX10_worked_88 rfl ?_
          refine g_icmp_ne (tgt := 121) dX10_worked_89 (by decide) (fun zc89 => ?_) (fun zc89 => ?_)
          · refine g_iload dX10_worked_121 rfl ?_
            refine g_iconst (v := 4) dX10_worked_123 rfl ?_
            refine g_icmp_ne (tgt := 149) dX10_worked_124 (by decide) (fun zc124 => ?_) (fun zc124 => ?_)
            · obtain ⟨hop, m, rfl, hm, rfl⟩ := rs1_5 zc36 zc42 zc89 zc124 hq
              refine g_iinc dX10_worked_149 rfl rfl ?_
              rw [show nI (m + 1 + 1) + Int32.ofInt (-1) = nI (m + 1) from pk_m1 (m + 1)]
              refine g_aload_n dX10_worked_152 rfl ?_
              refine g_getr dX10_worked_153 fl_X10_62 h1.1 (moR_74 h1) ?_
              refine g_iload dX10_worked_156 rfl ?_
              refine g_iconst (v := 1) dX10_worked_158 rfl ?_
              refine g_isub dX10_worked_159 ?_
              rw [nI_pred]
              refine g_iload dX10_worked_160 rfl ?_
              refine g_aload_n dX10_worked_162 rfl ?_
              refine g_getr dX10_worked_163 fl_X10_62 h1.1 (moR_74 h1) ?_
              refine g_iload dX10_worked_166 rfl ?_
              refine g_iconst (v := 1) dX10_worked_168 rfl ?_
              refine g_isub dX10_worked_169 ?_
              rw [nI_pred]
              refine g_iald dX10_worked_170 (moA_74 h1) (vp_in_nI (by omega) (by decide)) ?_
              rw [nI_n (show m < 2 ^ 31 by omega), wa_sat]
              refine g_aload_n dX10_worked_171 rfl ?_
              refine g_getr dX10_worked_172 fl_X10_62 h1.1 (moR_74 h1) ?_
              refine g_iload dX10_worked_175 rfl ?_
              refine g_iald dX10_worked_177 (moA_74 h1) (vp_in_nI (by omega) (by decide)) ?_
              rw [nI_n (show m + 1 < 2 ^ 31 by omega), wa_sat]
              refine g_cS3i dX10_worked_178 ml_X10_224 mi_X10_twoOf ms_X10_twoOf (Nat.le_of_ble_eq_true rfl) rfl (by omega) ?_
              refine c_X10_twoOf (by omega) hop ?_
              refine g_iast dX10_worked_181 (moA_74 h1) (vp_in_nI (by omega) (by decide)) ?_
              rw [nI_n (show m < 2 ^ 31 by omega), wa_sat, sa_sa]
              refine g_iinc dX10_worked_182 rfl rfl ?_
              refine g_goto (tgt := 12) dX10_worked_185 (by decide) ?_
              rw [nI_1']
              exact ih (i + 1) _ _ _ (by omega) hr
            · rw [zc124] at hq
              obtain ⟨m, rfl, hm, rfl⟩ := rs1_4 hq
              refine g_aload_n dX10_worked_127 rfl ?_
              refine g_getr dX10_worked_128 fl_X10_62 h1.1 (moR_74 h1) ?_
              refine g_iload dX10_worked_131 rfl ?_
              refine g_iconst (v := 1) dX10_worked_133 rfl ?_
              refine g_isub dX10_worked_134 ?_
              rw [nI_pred]
              refine g_aload_n dX10_worked_135 rfl ?_
              refine g_getr dX10_worked_136 fl_X10_62 h1.1 (moR_74 h1) ?_
              refine g_iload dX10_worked_139 rfl ?_
              refine g_iconst (v := 1) dX10_worked_141 rfl ?_
              refine g_isub dX10_worked_142 ?_
              rw [nI_pred]
              refine g_iald dX10_worked_143 (moA_74 h1) (vp_in_nI (by omega) (by decide)) ?_
              rw [nI_n (show m < 2 ^ 31 by omega), wa_sat]
              refine g_ineg dX10_worked_144 ?_
              refine g_iast dX10_worked_145 (moA_74 h1) (vp_in_nI (by omega) (by decide)) ?_
              rw [nI_n (show m < 2 ^ 31 by omega), wa_sat, sa_sa]
              refine g_goto (tgt := 182) dX10_worked_146 (by decide) ?_
              refine g_iinc dX10_worked_182 rfl rfl ?_
              refine g_goto (tgt := 12) dX10_worked_185 (by decide) ?_
              rw [nI_1']
              exact ih (i + 1) _ _ _ (by omega) hr
          · rw [zc89] at hq
            obtain ⟨m, rfl, hm, rfl⟩ := rs1_3 hq
            refine g_aload_n dX10_worked_92 rfl ?_
            refine g_getr dX10_worked_93 fl_X10_62 h1.1 (moR_74 h1) ?_
            refine g_iload dX10_worked_96 rfl ?_
            refine g_iconst (v := 1) dX10_worked_98 rfl ?_
            refine g_isub dX10_worked_99 ?_
            rw [nI_pred]
            refine g_aload_n dX10_worked_100 rfl ?_
            refine g_getr dX10_worked_101 fl_X10_62 h1.1 (moR_74 h1) ?_
            refine g_iload dX10_worked_104 rfl ?_
            refine g_iconst (v := 1) dX10_worked_106 rfl ?_
            refine g_isub dX10_worked_107 ?_
            rw [nI_pred]
            refine g_iald dX10_worked_108 (moA_74 h1) (vp_in_nI (by omega) (by decide)) ?_
            rw [nI_n (show m < 2 ^ 31 by omega), wa_sat]
            refine g_if_ne (tgt := 116) dX10_worked_109 (by decide) (fun zc109 => ?_) (fun zc109 => ?_)
            · refine g_iconst (v := 0) dX10_worked_116 rfl ?_
              rw [show (if P m = 0 then (1 : Int32) else 0) = 0 from if_neg zc109] at hr
              refine g_iast dX10_worked_117 (moA_74 h1) (vp_in_nI (by omega) (by decide)) ?_
              rw [nI_n (show m < 2 ^ 31 by omega), wa_sat, sa_sa]
              refine g_goto (tgt := 182) dX10_worked_118 (by decide) ?_
              refine g_iinc dX10_worked_182 rfl rfl ?_
              refine g_goto (tgt := 12) dX10_worked_185 (by decide) ?_
              rw [nI_1']
              exact ih (i + 1) _ _ _ (by omega) hr
            · refine g_iconst (v := 1) dX10_worked_112 rfl ?_
              refine g_goto (tgt := 117) dX10_worked_113 (by decide) ?_
              rw [show (if P m = 0 then (1 : Int32) else 0) = 1 from if_pos zc109] at hr
              refine g_iast dX10_worked_117 (moA_74 h1) (vp_in_nI (by omega) (by decide)) ?_
              rw [nI_n (show m < 2 ^ 31 by omega), wa_sat, sa_sa]
              refine g_goto (tgt := 182) dX10_worked_118 (by decide) ?_
              refine g_iinc dX10_worked_182 rfl rfl ?_
              refine g_goto (tgt := 12) dX10_worked_185 (by decide) ?_
              rw [nI_1']
              exact ih (i + 1) _ _ _ (by omega) hr
        · refine g_aload_n dX10_worked_45 rfl ?_
          refine g_getr dX10_worked_46 fl_X10_62 h1.1 (moR_74 h1) ?_
          refine g_iload dX10_worked_49 rfl ?_
          refine g_iload dX10_worked_51 rfl ?_
          refine g_iconst (v := 1) dX10_worked_53 rfl ?_
          rw [zc42] at hq
          obtain ⟨⟨hn, hv0, hv6⟩, rfl⟩ := rs1_2 hq
          have hvi : vp_in (w_a w 69 i) 6 := by
            obtain ⟨y, hy, ey⟩ := pI_cases (n := 6) (by decide) (Int32.not_lt.mpr hv0) hv6
            rw [ey]; exact vp_in_nI hy (by decide)
          have hvf : w_a w 73 (w_a w 69 i).toNatClampNeg = nm (w_a w 69 i).toNatClampNeg := by
            obtain ⟨y, hy, ey⟩ := pI_cases (n := 6) (by decide) (Int32.not_lt.mpr hv0) hv6
            rw [ey, nI_n (by omega)]; exact hf y hy
          refine g_icmp_ne (tgt := 67) dX10_worked_54 (by decide) (fun zc54 => ?_) (fun zc54 => ?_)
          · refine g_aload_n dX10_worked_67 rfl ?_
            refine g_getr dX10_worked_68 fl_X10_59 h1.1 (moR_73 h1) ?_
            refine g_aload_n dX10_worked_71 rfl ?_
            refine g_getr dX10_worked_72 fl_X10_46 h1.1 (moR_69 h1) ?_
            refine g_iload dX10_worked_75 rfl ?_
            refine g_iald dX10_worked_77 (moA_69 h1) (vp_in_nI (by omega) (by decide)) ?_
            rw [e69, (nI_n (show i < 2 ^ 31 by omega))]
            refine g_iald dX10_worked_78 (moA_73 h1) hvi ?_
            rw [e73, hvf]
            refine g_iast dX10_worked_79 (moA_74 h1) (vp_in_nI (by omega) (by decide)) ?_
            rw [nI_n (show n < 2 ^ 31 by omega), wa_sat, sa_sa]
            refine g_iinc dX10_worked_80 rfl rfl ?_
            rw [show nI n + Int32.ofInt 1 = nI (n + 1) from nI_1' n]
            refine g_goto (tgt := 182) dX10_worked_83 (by decide) ?_
            refine g_iinc dX10_worked_182 rfl rfl ?_
            refine g_goto (tgt := 12) dX10_worked_185 (by decide) ?_
            rw [nI_1']
            exact ih (i + 1) _ _ _ (by omega) hr
          · exact absurd (zc42.symm.trans zc54) (by decide)
theorem c_X10_worked {d : Nat} {w : gx_W} {a b : Nat} {nm : Nat → Int32} {n' : Nat} {P' : Nat → Int32} {k : Int32 → gx_W → Prop} (hd : 1 ≤ d) (h : moO w) (hab : a ≤ b) (hb : b ≤ 130) (hf : ∀ j, j < 6 → w_a w 73 j = nm j) (hr : rrun nm (w_a w 68) (w_a w 69) (b - a) a 0 (w_a w 74) = some (n', P')) (kk : k (P' 0) (s_a w 74 P')) : gx_C 0 0 d mX10_worked [.ref 57, .int 0, .int (nI a), .int (nI b)] w (Qi k) := by
  refine gx_C_of' (L := [.ref 57, .int 0, .int (nI a), .int (nI b), .retAddr 0, .retAddr 0, .retAddr 0]) (by decide +kernel) rfl (Nat.le_of_ble_eq_true rfl) ?_
  refine g_iconst (v := 0) dX10_worked_0 rfl ?_
  refine g_istore dX10_worked_1 (Nat.le_of_ble_eq_true rfl) rfl ?_
  refine g_sipush (v := 130) dX10_worked_3 rfl ?_
  refine g_iload_n dX10_worked_6 rfl ?_
  refine g_imul dX10_worked_7 ?_
  refine g_iload_n dX10_worked_8 rfl ?_
  refine g_iadd dX10_worked_9 ?_
  rw [z130]
  refine g_istore dX10_worked_10 (Nat.le_of_ble_eq_true rfl) rfl ?_
  have K := l_X10_worked (a := a) (d := d) hd h hb hf kk (b - a) a 0 (w_a w 74) (.retAddr 0) (by omega) hr
  have ew : s_a w 74 (w_a w 74) = w := by
    unfold s_a
    rw [show va_up w.2.2.2.1 74 (w_a w 74) = w.2.2.2.1 from by funext j; unfold va_up; split <;> simp_all [w_a]]
  rw [ew] at K
  exact K
theorem c_workedW {d a b : Nat} {w : gx_W} {nm : Nat → Int32} {x : Int32} {k : Int32 → gx_W → Prop} (hd : 1 ≤ d) (h : moO w) (hW : okW nm (w_a w 68) (w_a w 69) a b x) (hf : ∀ j, j < 6 → w_a w 73 j = nm j) (kk : ∀ P', k x (s_a w 74 P')) : gx_C 0 0 d mX10_worked [.ref 57, .int 0, .int (nI a), .int (nI b)] w (Qi k) := by
  obtain ⟨h1, h2, h3⟩ := hW
  obtain ⟨n', P', hr, hx⟩ := h3 (w_a w 74)
  refine c_X10_worked hd h h1 h2 hf hr ?_
  rw [hx]
  exact kk P'
theorem z61 (b : Int32) : (61 : Int32) * 0 + b = b := by simp
set_option maxHeartbeats 4000000 in
theorem l_X10_gives {d M : Nat} {w : gx_W} {nm : Nat → Int32} {te le : Nat → Nat} {k : Int32 → gx_W → Prop} (hd : 2 ≤ d) (h : moO w) (hM : M ≤ 61) (h70 : w_a w 70 0 = nI M) (h71 : ∀ l, l < M → w_a w 71 l = nI (te l)) (h72 : ∀ l, l < M → w_a w 72 l = nI (le l)) (hf : ∀ j, j < 6 → w_a w 73 j = nm j) {R : Int32} (hte : ∀ l, l < M → te l ≤ 130) (hle : ∀ l, l < M → le l ≤ 130) (kk : ∀ P', k R (s_a w 74 P')) : ∀ (z l ri : Nat) (P : Nat → Int32), l + z = M → ri ≤ 130 → rfG nm (w_a w 68) (w_a w 69) te le z l ri R → gx_G 0 0 d mX10_gives (Qi k) 7 [.ref 57, .int 0, .int (nI ri), .int (nI l)] [] (s_a w 74 P) := by
  intro z
  induction z with
  | zero =>
    intro l ri P hl hri hr
    have h1 : moO (s_a w 74 P) := h.same (same.sa (R := [74]) (F := []) same.rf (List.mem_singleton.mpr rfl))
    have e : l = M := by omega
    subst e
    have hR : R = 0 := hr
    subst hR
    refine g_iload_n dX10_gives_7 rfl ?_
    refine g_bipush (v := 61) dX10_gives_8 rfl ?_
    refine g_iload_n dX10_gives_10 rfl ?_
    refine g_imul dX10_gives_11 ?_
    refine g_aload_n dX10_gives_12 rfl ?_
    refine g_getr dX10_gives_13 fl_X10_49 h1.1 (moR_70 h1) ?_
    refine g_iload_n dX10_gives_16 rfl ?_
    refine g_iald dX10_gives_17 (moA_70 h1) (vp_in_nI (n := 0) (by decide) (by decide)) ?_
    rw [show (0 : Int32).toNatClampNeg = 0 from rfl, wa_sa, if_neg (by decide), h70]
    refine g_iadd dX10_gives_18 ?_
    rw [z61]
    refine g_icmp_ge (tgt := 78) dX10_gives_19 (by decide) (fun zc19 => ?_) (fun zc19 => ?_)
    · refine g_iconst (v := 0) dX10_gives_78 rfl ?_
      refine g_iret dX10_gives_79 rfl ⟨_, rfl, ?_⟩
      exact kk P
    · exact absurd (Int32.le_refl _) zc19
  | succ z ih =>
    intro l ri P hl hri hr
    have h1 : moO (s_a w 74 P) := h.same (same.sa (R := [74]) (F := []) same.rf (List.mem_singleton.mpr rfl))
    have hl2 : l < M := by omega
    have t71 : w_a (s_a w 74 P) 71 l = nI (te l) := by rw [wa_sa, if_neg (by decide)]; exact h71 l hl2
    have t72 : w_a (s_a w 74 P) 72 l = nI (le l) := by rw [wa_sa, if_neg (by decide)]; exact h72 l hl2
    have htl := hte l hl2
    refine g_iload_n dX10_gives_7 rfl ?_
    refine g_bipush (v := 61) dX10_gives_8 rfl ?_
    refine g_iload_n dX10_gives_10 rfl ?_
    refine g_imul dX10_gives_11 ?_
    refine g_aload_n dX10_gives_12 rfl ?_
    refine g_getr dX10_gives_13 fl_X10_49 h1.1 (moR_70 h1) ?_
    refine g_iload_n dX10_gives_16 rfl ?_
    refine g_iald dX10_gives_17 (moA_70 h1) (vp_in_nI (n := 0) (by decide) (by decide)) ?_
    rw [show (0 : Int32).toNatClampNeg = 0 from rfl, wa_sa, if_neg (by decide), h70]
    refine g_iadd dX10_gives_18 ?_
    rw [z61]
    refine g_icmp_ge (tgt := 78) dX10_gives_19 (by decide) (fun zc19 => ?_) (fun zc19 => ?_)
    · refine g_iconst (v := 0) dX10_gives_78 rfl ?_
      refine g_iret dX10_gives_79 rfl ⟨_, rfl, ?_⟩
      exact absurd zc19 (nI_ge (by omega) (by omega))
    · refine g_aload_n dX10_gives_22 rfl ?_
      refine g_getr dX10_gives_23 fl_X10_52 h1.1 (moR_71 h1) ?_
      refine g_iload_n dX10_gives_26 rfl ?_
      refine g_sald dX10_gives_27 (moA_71 h1) (vp_in_nI (by omega) (by decide)) ?_
      rw [nI_n (show l < 2 ^ 31 by omega), t71]
      refine g_iload_n dX10_gives_28 rfl ?_
      refine g_icmp_eq (tgt := 47) dX10_gives_29 (by decide) (fun zc29 => ?_) (fun zc29 => ?_)
      · have hW : okW nm (w_a w 68) (w_a w 69) (te l) (le l) R := by
          rcases hr with ⟨-, q⟩ | ⟨q, -⟩
          · exact q
          · exact absurd (pI_inj (by omega) (by omega) zc29) q
        refine g_aload_n dX10_gives_47 rfl ?_
        refine g_iload_n dX10_gives_48 rfl ?_
        refine g_aload_n dX10_gives_49 rfl ?_
        refine g_getr dX10_gives_50 fl_X10_52 h1.1 (moR_71 h1) ?_
        refine g_iload_n dX10_gives_53 rfl ?_
        refine g_sald dX10_gives_54 (moA_71 h1) (vp_in_nI (by omega) (by decide)) ?_
        rw [nI_n (show l < 2 ^ 31 by omega), t71]
        refine g_aload_n dX10_gives_55 rfl ?_
        refine g_getr dX10_gives_56 fl_X10_56 h1.1 (moR_72 h1) ?_
        refine g_iload_n dX10_gives_59 rfl ?_
        refine g_sald dX10_gives_60 (moA_72 h1) (vp_in_nI (by omega) (by decide)) ?_
        rw [nI_n (show l < 2 ^ 31 by omega), t72]
        refine g_cV3i dX10_gives_61 ml_X10_227 mi_X10_worked mv_X10_worked h1.1 ⟨_, rfl, rfl⟩ (Nat.le_of_ble_eq_true rfl) rfl (by omega) ?_
        refine c_workedW (by omega) h1 (by rw [wa_sa, if_neg (by decide), wa_sa, if_neg (by decide)]; exact hW) (by rw [wa_sa, if_neg (by decide)]; exact hf) (fun P3 => ?_)
        refine g_iret dX10_gives_64 rfl ⟨_, rfl, ?_⟩
        rw [sa_sa]; exact kk _
      · refine g_aload_n dX10_gives_32 rfl ?_
        refine g_iload_n dX10_gives_33 rfl ?_
        refine g_iload_n dX10_gives_34 rfl ?_
        refine g_aload_n dX10_gives_35 rfl ?_
        refine g_getr dX10_gives_36 fl_X10_52 h1.1 (moR_71 h1) ?_
        refine g_iload_n dX10_gives_39 rfl ?_
        refine g_sald dX10_gives_40 (moA_71 h1) (vp_in_nI (by omega) (by decide)) ?_
        rw [nI_n (show l < 2 ^ 31 by omega), t71]
        obtain ⟨x, hx, hr2⟩ : ∃ x, okW nm (w_a w 68) (w_a w 69) ri (te l) x ∧ ((x ≠ 0 ∧ okW nm (w_a w 68) (w_a w 69) (te l) (le l) R) ∨ (x = 0 ∧ rfG nm (w_a w 68) (w_a w 69) te le z (l + 1) (le l) R)) := by
          rcases hr with ⟨q, -⟩ | ⟨-, q⟩
          · exact absurd (by rw [q]) zc29
          · exact q
        refine g_cV3i dX10_gives_41 ml_X10_227 mi_X10_worked mv_X10_worked h1.1 ⟨_, rfl, rfl⟩ (Nat.le_of_ble_eq_true rfl) rfl (by omega) ?_
        refine c_workedW (by omega) h1 (by rw [wa_sa, if_neg (by decide), wa_sa, if_neg (by decide)]; exact hx) (by rw [wa_sa, if_neg (by decide)]; exact hf) (fun P2 => ?_)
        rw [sa_sa]
        have h2 : moO (s_a w 74 P2) := h.same (same.sa (R := [74]) (F := []) same.rf (List.mem_singleton.mpr rfl))
        have u71 : w_a (s_a w 74 P2) 71 l = nI (te l) := by rw [wa_sa, if_neg (by decide)]; exact h71 l hl2
        have u72 : w_a (s_a w 74 P2) 72 l = nI (le l) := by rw [wa_sa, if_neg (by decide)]; exact h72 l hl2
        refine g_if_eq (tgt := 65) dX10_gives_44 (by decide) (fun zc44 => ?_) (fun zc44 => ?_)
        · refine g_aload_n dX10_gives_65 rfl ?_
          refine g_getr dX10_gives_66 fl_X10_56 h2.1 (moR_72 h2) ?_
          refine g_iload_n dX10_gives_69 rfl ?_
          refine g_sald dX10_gives_70 (moA_72 h2) (vp_in_nI (by omega) (by decide)) ?_
          rw [nI_n (show l < 2 ^ 31 by omega), u72]
          refine g_istore_n dX10_gives_71 (Nat.le_of_ble_eq_true rfl) rfl ?_
          refine g_iinc dX10_gives_72 rfl rfl ?_
          refine g_goto (tgt := 7) dX10_gives_75 (by decide) ?_
          rw [nI_1']
          have hr3 : rfG nm (w_a w 68) (w_a w 69) te le z (l + 1) (le l) R := by
            rcases hr2 with ⟨q, -⟩ | ⟨-, q⟩
            · exact absurd zc44 q
            · exact q
          exact ih (l + 1) (le l) P2 (by omega) (hle l hl2) hr3
        · have hW : okW nm (w_a w 68) (w_a w 69) (te l) (le l) R := by
            rcases hr2 with ⟨-, q⟩ | ⟨q, -⟩
            · exact q
            · exact absurd q zc44
          refine g_aload_n dX10_gives_47 rfl ?_
          refine g_iload_n dX10_gives_48 rfl ?_
          refine g_aload_n dX10_gives_49 rfl ?_
          refine g_getr dX10_gives_50 fl_X10_52 h2.1 (moR_71 h2) ?_
          refine g_iload_n dX10_gives_53 rfl ?_
          refine g_sald dX10_gives_54 (moA_71 h2) (vp_in_nI (by omega) (by decide)) ?_
          rw [nI_n (show l < 2 ^ 31 by omega), u71]
          refine g_aload_n dX10_gives_55 rfl ?_
          refine g_getr dX10_gives_56 fl_X10_56 h2.1 (moR_72 h2) ?_
          refine g_iload_n dX10_gives_59 rfl ?_
          refine g_sald dX10_gives_60 (moA_72 h2) (vp_in_nI (by omega) (by decide)) ?_
          rw [nI_n (show l < 2 ^ 31 by omega), u72]
          refine g_cV3i dX10_gives_61 ml_X10_227 mi_X10_worked mv_X10_worked h2.1 ⟨_, rfl, rfl⟩ (Nat.le_of_ble_eq_true rfl) rfl (by omega) ?_
          refine c_workedW (by omega) h2 (by rw [wa_sa, if_neg (by decide), wa_sa, if_neg (by decide)]; exact hW) (by rw [wa_sa, if_neg (by decide)]; exact hf) (fun P3 => ?_)
          refine g_iret dX10_gives_64 rfl ⟨_, rfl, ?_⟩
          rw [sa_sa]; exact kk _

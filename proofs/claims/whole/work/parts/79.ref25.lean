/-! The reference: readText's rows, law -/
theorem nar_b : ∀ m, m < 128 → vp_nar .byte (nI m) = nI m := by decide +kernel
theorem nar_s : ∀ m, m < 131 → vp_nar .short (nI m) = nI m := by decide +kernel
/-- i places brought down by b -/
def dnF (a : Nat → Int32) (b i : Nat) : Nat → Int32 := fun j => if j < i then a (b + j) else a j
theorem dnF_0 (a : Nat → Int32) (b : Nat) : dnF a b 0 = a := by
  funext j
  exact if_neg (Nat.not_lt_zero _)
theorem dnF_s (a : Nat → Int32) (b i : Nat) (hb : i < b) : va_up (dnF a b i) i (a (b + i)) = dnF a b (i + 1) := by
  funext j
  rw [up_at]
  unfold dnF
  by_cases q : j = i
  · rw [if_pos q, if_pos (show j < i + 1 by omega), q]
  · rw [if_neg q]
    by_cases y : j < i
    · rw [if_pos y, if_pos (show j < i + 1 by omega)]
    · rw [if_neg y, if_neg (show ¬ j < i + 1 by omega)]
theorem dnF_at (a : Nat → Int32) (b i : Nat) (h : i ≤ b) : dnF a b i (b + i) = a (b + i) := if_neg (by omega)
set_option maxHeartbeats 4000000 in
theorem l_X10_read1 {d K : Nat} {w0 : gx_W} {k : Int32 → gx_W → Prop} (h : moO w0) (hK : w_i w0 57 18 = nI K) (hK2 : K ≤ 121) (hby : ∀ j, j < K → ∃ c, c < 128 ∧ w_a w0 68 (130 + j) = nI c) (kk : ∀ w', same [68, 69] [] w0 w' → w_a w' 68 = dnF (w_a w0 68) 130 K → w_a w' 69 = dnF (w_a w0 69) 130 K → gx_G 0 0 d mX10_readText (Qi k) 163 [.ref 57, .int 0, .int (nI K)] [] w') : ∀ (z i : Nat) (w1 : gx_W), i + z = K → same [68, 69] [] w0 w1 → w_a w1 68 = dnF (w_a w0 68) 130 i → w_a w1 69 = dnF (w_a w0 69) 130 i → gx_G 0 0 d mX10_readText (Qi k) 105 [.ref 57, .int 0, .int (nI i)] [] w1 := by
  intro z
  induction z with
  | zero =>
    intro i w1 hi hs e1 e2
    have h1 := h.same hs
    have en : w_i w1 57 18 = nI K := (hs.2.1 57 18 (by simp)).trans hK
    have e : i = K := by omega
    subst e
    refine g_iload_n dX10_readText_105 rfl ?_
    refine g_aload_n dX10_readText_106 rfl ?_
    refine g_geti dX10_readText_107 fl_X10_175 h1.1 ?_
    rw [en]
    refine g_icmp_ge (tgt := 163) dX10_readText_110 (by decide) (fun zc110 => ?_) (fun zc110 => ?_)
    · exact kk w1 hs e1 e2
    · exact absurd (Int32.le_refl _) zc110
  | succ z ih =>
    intro i w1 hi hs e1 e2
    have h1 := h.same hs
    have en : w_i w1 57 18 = nI K := (hs.2.1 57 18 (by simp)).trans hK
    obtain ⟨c, hc, ec⟩ := hby i (by omega)
    refine g_iload_n dX10_readText_105 rfl ?_
    refine g_aload_n dX10_readText_106 rfl ?_
    refine g_geti dX10_readText_107 fl_X10_175 h1.1 ?_
    rw [en]
    refine g_icmp_ge (tgt := 163) dX10_readText_110 (by decide) (fun zc110 => ?_) (fun zc110 => ?_)
    · exact absurd zc110 (nI_ge (by omega) (by omega))
    · refine g_aload_n dX10_readText_113 rfl ?_
      refine g_getr dX10_readText_114 fl_X10_43 h1.1 (moR_68 h1) ?_
      refine g_sipush (v := 130) dX10_readText_117 rfl ?_
      refine g_iload_n dX10_readText_120 rfl ?_
      refine g_imul dX10_readText_121 ?_
      refine g_iload_n dX10_readText_122 rfl ?_
      refine g_iadd dX10_readText_123 ?_
      rw [z130]
      refine g_aload_n dX10_readText_124 rfl ?_
      refine g_getr dX10_readText_125 fl_X10_43 h1.1 (moR_68 h1) ?_
      refine g_sipush (v := 130) dX10_readText_128 rfl ?_
      refine g_iload_n dX10_readText_131 rfl ?_
      refine g_iadd dX10_readText_132 ?_
      rw [ad_130]
      refine g_bald dX10_readText_133 (moA_68 h1) (vp_in_nI (by omega) (by decide)) ?_
      rw [nI_n (show 130 + i < 2 ^ 31 by omega), e1, show dnF (w_a w0 68) 130 i (130 + i) = w_a w0 68 (130 + i) from if_neg (by omega), ec]
      refine g_bast dX10_readText_134 (moA_68 h1) (vp_in_nI (by omega) (by decide)) ?_
      rw [nI_n (show i < 2 ^ 31 by omega), nar_b c hc, ← ec, e1, dnF_s _ _ _ (by omega)]
      refine g_aload_n dX10_readText_135 rfl ?_
      refine g_getr dX10_readText_136 fl_X10_46 h1.1 (moR_69 h1) ?_
      refine g_sipush (v := 130) dX10_readText_139 rfl ?_
      refine g_iload_n dX10_readText_142 rfl ?_
      refine g_imul dX10_readText_143 ?_
      refine g_iload_n dX10_readText_144 rfl ?_
      refine g_iadd dX10_readText_145 ?_
      rw [z130]
      refine g_aload_n dX10_readText_146 rfl ?_
      refine g_getr dX10_readText_147 fl_X10_46 h1.1 (moR_69 h1) ?_
      refine g_sipush (v := 130) dX10_readText_150 rfl ?_
      refine g_iload_n dX10_readText_153 rfl ?_
      refine g_iadd dX10_readText_154 ?_
      rw [ad_130]
      refine g_iald dX10_readText_155 (moA_69 h1) (vp_in_nI (by omega) (by decide)) ?_
      rw [nI_n (show 130 + i < 2 ^ 31 by omega), wa_sa (k := 68) 69, if_neg (by decide), e2, show dnF (w_a w0 69) 130 i (130 + i) = w_a w0 69 (130 + i) from if_neg (by omega)]
      refine g_iast dX10_readText_156 (moA_69 h1) (vp_in_nI (by omega) (by decide)) ?_
      rw [nI_n (show i < 2 ^ 31 by omega), wa_sa (k := 68) 69, if_neg (by decide), e2, dnF_s _ _ _ (by omega)]
      refine g_iinc dX10_readText_157 rfl rfl ?_
      refine g_goto (tgt := 105) dX10_readText_160 (by decide) ?_
      rw [nI_1']
      refine ih (i + 1) _ (by omega) ((hs.sa (by simp)).sa (by simp)) ?_ ?_
      · rw [wa_sa, if_neg (by decide), wa_sat]
      · rw [wa_sat]
set_option maxHeartbeats 4000000 in
theorem l_X10_read2 {d M : Nat} {w0 : gx_W} {k : Int32 → gx_W → Prop} (h : moO w0) (hM : w_a w0 70 0 = nI M) (hM2 : M ≤ 61) (hby : ∀ j, j < M → ∃ c, c < 131 ∧ w_a w0 71 (61 + j) = nI c) (hby2 : ∀ j, j < M → ∃ c, c < 131 ∧ w_a w0 72 (61 + j) = nI c) (kk : ∀ w', same [71, 72] [] w0 w' → w_a w' 71 = dnF (w_a w0 71) 61 M → w_a w' 72 = dnF (w_a w0 72) 61 M → k (-1) w') : ∀ (z i : Nat) (w1 : gx_W), i + z = M → same [71, 72] [] w0 w1 → w_a w1 71 = dnF (w_a w0 71) 61 i → w_a w1 72 = dnF (w_a w0 72) 61 i → gx_G 0 0 d mX10_readText (Qi k) 177 [.ref 57, .int 0, .int (nI i)] [] w1 := by
  intro z
  induction z with
  | zero =>
    intro i w1 hi hs e1 e2
    have h1 := h.same hs
    have en : w_a w1 70 0 = nI M := by rw [(hs.2.2.2.1 70 (by simp)).1]; exact hM
    have e : i = M := by omega
    subst e
    refine g_iload_n dX10_readText_177 rfl ?_
    refine g_aload_n dX10_readText_178 rfl ?_
    refine g_getr dX10_readText_179 fl_X10_49 h1.1 (moR_70 h1) ?_
    refine g_iload_n dX10_readText_182 rfl ?_
    refine g_iald dX10_readText_183 (moA_70 h1) (vp_in_nI (n := 0) (by decide) (by decide)) ?_
    rw [show (0 : Int32).toNatClampNeg = 0 from rfl, en]
    refine g_icmp_ge (tgt := 233) dX10_readText_184 (by decide) (fun zc184 => ?_) (fun zc184 => ?_)
    · refine g_iconst (v := -1) dX10_readText_233 rfl ?_
      refine g_iret dX10_readText_234 rfl ⟨_, rfl, ?_⟩
      exact kk w1 hs e1 e2
    · exact absurd (Int32.le_refl _) zc184
  | succ z ih =>
    intro i w1 hi hs e1 e2
    have h1 := h.same hs
    have en : w_a w1 70 0 = nI M := by rw [(hs.2.2.2.1 70 (by simp)).1]; exact hM
    obtain ⟨c, hc, ec⟩ := hby i (by omega)
    obtain ⟨b, hb, eb⟩ := hby2 i (by omega)
    refine g_iload_n dX10_readText_177 rfl ?_
    refine g_aload_n dX10_readText_178 rfl ?_
    refine g_getr dX10_readText_179 fl_X10_49 h1.1 (moR_70 h1) ?_
    refine g_iload_n dX10_readText_182 rfl ?_
    refine g_iald dX10_readText_183 (moA_70 h1) (vp_in_nI (n := 0) (by decide) (by decide)) ?_
    rw [show (0 : Int32).toNatClampNeg = 0 from rfl, en]
    refine g_icmp_ge (tgt := 233) dX10_readText_184 (by decide) (fun zc184 => ?_) (fun zc184 => ?_)
    · refine g_iconst (v := -1) dX10_readText_233 rfl ?_
      refine g_iret dX10_readText_234 rfl ⟨_, rfl, ?_⟩
      exact absurd zc184 (nI_ge (by omega) (by omega))
    · refine g_aload_n dX10_readText_187 rfl ?_
      refine g_getr dX10_readText_188 fl_X10_52 h1.1 (moR_71 h1) ?_
      refine g_bipush (v := 61) dX10_readText_191 rfl ?_
      refine g_iload_n dX10_readText_193 rfl ?_
      refine g_imul dX10_readText_194 ?_
      refine g_iload_n dX10_readText_195 rfl ?_
      refine g_iadd dX10_readText_196 ?_
      rw [z61]
      refine g_aload_n dX10_readText_197 rfl ?_
      refine g_getr dX10_readText_198 fl_X10_52 h1.1 (moR_71 h1) ?_
      refine g_bipush (v := 61) dX10_readText_201 rfl ?_
      refine g_iload_n dX10_readText_203 rfl ?_
      refine g_iadd dX10_readText_204 ?_
      rw [ad_61]
      refine g_sald dX10_readText_205 (moA_71 h1) (vp_in_nI (by omega) (by decide)) ?_
      rw [nI_n (show 61 + i < 2 ^ 31 by omega), e1, show dnF (w_a w0 71) 61 i (61 + i) = w_a w0 71 (61 + i) from if_neg (by omega), ec]
      refine g_sast dX10_readText_206 (moA_71 h1) (vp_in_nI (by omega) (by decide)) ?_
      rw [nI_n (show i < 2 ^ 31 by omega), nar_s c hc, ← ec, e1, dnF_s _ _ _ (by omega)]
      refine g_aload_n dX10_readText_207 rfl ?_
      refine g_getr dX10_readText_208 fl_X10_56 h1.1 (moR_72 h1) ?_
      refine g_bipush (v := 61) dX10_readText_211 rfl ?_
      refine g_iload_n dX10_readText_213 rfl ?_
      refine g_imul dX10_readText_214 ?_
      refine g_iload_n dX10_readText_215 rfl ?_
      refine g_iadd dX10_readText_216 ?_
      rw [z61]
      refine g_aload_n dX10_readText_217 rfl ?_
      refine g_getr dX10_readText_218 fl_X10_56 h1.1 (moR_72 h1) ?_
      refine g_bipush (v := 61) dX10_readText_221 rfl ?_
      refine g_iload_n dX10_readText_223 rfl ?_
      refine g_iadd dX10_readText_224 ?_
      rw [ad_61]
      refine g_sald dX10_readText_225 (moA_72 h1) (vp_in_nI (by omega) (by decide)) ?_
      rw [nI_n (show 61 + i < 2 ^ 31 by omega), wa_sa (k := 71) 72, if_neg (by decide), e2, show dnF (w_a w0 72) 61 i (61 + i) = w_a w0 72 (61 + i) from if_neg (by omega), eb]
      refine g_sast dX10_readText_226 (moA_72 h1) (vp_in_nI (by omega) (by decide)) ?_
      rw [nI_n (show i < 2 ^ 31 by omega), nar_s b hb, ← eb, wa_sa (k := 71) 72, if_neg (by decide), e2, dnF_s _ _ _ (by omega)]
      refine g_iinc dX10_readText_227 rfl rfl ?_
      refine g_goto (tgt := 177) dX10_readText_230 (by decide) ?_
      rw [nI_1']
      refine ih (i + 1) _ (by omega) ((hs.sa (by simp)).sa (by simp)) ?_ ?_
      · rw [wa_sa, if_neg (by decide), wa_sat]
      · rw [wa_sat]

/-! The reference: changes -/
def cgM (w w' : gx_W) (D : Nat) (a b c e : Int32) : Prop := same [58, 59, 60, 61, 62, 63, 64, 65, 66] [(57, 7), (57, 8)] w w' ∧ w_i w' 57 7 = nI (min D 39 + 1) ∧ w_i w' 57 8 = 0 ∧ w_a w' 63 = va_up (if D = 40 then ch_sh (w_a w 63) else w_a w 63) (min D 39) a ∧ w_a w' 64 = va_up (if D = 40 then ch_sh (w_a w 64) else w_a w 64) (min D 39) b ∧ w_a w' 65 = va_up (if D = 40 then ch_sh (w_a w 65) else w_a w 65) (min D 39) c ∧ w_a w' 66 = va_up (if D = 40 then ch_sh (w_a w 66) else w_a w 66) (min D 39) e
def shF (a : Nat → Int32) (i : Nat) : Nat → Int32 := fun j => if j < i then a (j + 1) else a j
theorem shF_s (a : Nat → Int32) (i : Nat) : va_up (shF a i) i (shF a i (i + 1)) = shF a (i + 1) := by
  funext j
  rw [up_at]
  unfold shF
  by_cases q : j = i
  · rw [if_pos q, if_pos (show j < i + 1 by omega), if_neg (show ¬ i + 1 < i by omega), q]
  · rw [if_neg q]
    by_cases y : j < i
    · rw [if_pos y, if_pos (show j < i + 1 by omega)]
    · rw [if_neg y, if_neg (show ¬ j < i + 1 by omega)]
theorem shF_0 (a : Nat → Int32) : shF a 0 = a := by
  funext j
  exact if_neg (Nat.not_lt_zero _)
theorem shF_e (a : Nat → Int32) : shF a 39 = ch_sh a := by
  funext j
  unfold shF ch_sh va_cpy
  by_cases q : j < 39
  · rw [if_pos q, if_pos (show 0 ≤ j ∧ j < 0 + 39 from ⟨by omega, by omega⟩), show 1 + (j - 0) = j + 1 by omega]
  · rw [if_neg q, if_neg (show ¬ (0 ≤ j ∧ j < 0 + 39) by omega)]
set_option maxHeartbeats 4000000 in
theorem l_X10_changes1 {d : Nat} {w0 : gx_W} {x y v c : Int32} {k : Int32 → gx_W → Prop} (h : moO w0) (kk : ∀ w', same [63, 64, 65, 66] [] w0 w' → w_a w' 63 = ch_sh (w_a w0 63) → w_a w' 64 = ch_sh (w_a w0 64) → w_a w' 65 = ch_sh (w_a w0 65) → w_a w' 66 = ch_sh (w_a w0 66) → gx_G 0 0 d mX10_changes (Qi k) 111 [.ref 57, .int y, .int x, .int v, .int c, .int (nI 40)] [] w') : ∀ (z i : Nat) (w1 : gx_W), i + z = 39 → same [63, 64, 65, 66] [] w0 w1 → w_a w1 63 = shF (w_a w0 63) i → w_a w1 64 = shF (w_a w0 64) i → w_a w1 65 = shF (w_a w0 65) i → w_a w1 66 = shF (w_a w0 66) i → gx_G 0 0 d mX10_changes (Qi k) 34 [.ref 57, .int y, .int x, .int v, .int c, .int (nI (i + 1))] [] w1 := by
  intro z
  induction z with
  | zero =>
    intro i w1 hi hs e1 e2 e3 e4
    have e : i = 39 := by omega
    subst e
    rw [shF_e] at e1 e2 e3 e4
    have h1 := h.same hs
    refine g_iload dX10_changes_34 rfl ?_
    refine g_bipush (v := 40) dX10_changes_36 rfl ?_
    refine g_icmp_ge (tgt := 111) dX10_changes_38 (by decide) (fun zc38 => ?_) (fun zc38 => ?_)
    · exact kk w1 hs e1 e2 e3 e4
    · exact absurd (by decide) zc38
  | succ z ih =>
    intro i w1 hi hs e1 e2 e3 e4
    have h1 := h.same hs
    refine g_iload dX10_changes_34 rfl ?_
    refine g_bipush (v := 40) dX10_changes_36 rfl ?_
    refine g_icmp_ge (tgt := 111) dX10_changes_38 (by decide) (fun zc38 => ?_) (fun zc38 => ?_)
    · exact absurd zc38 (nI_ge (b := 40) (by omega) (by decide))
    · refine g_aload_n dX10_changes_41 rfl ?_
      refine g_getr dX10_changes_42 fl_X10_27 h1.1 (moR_63 h1) ?_
      refine g_iload dX10_changes_45 rfl ?_
      refine g_iconst (v := 1) dX10_changes_47 rfl ?_
      refine g_isub dX10_changes_48 ?_
      rw [nI_pred]
      refine g_aload_n dX10_changes_49 rfl ?_
      refine g_getr dX10_changes_50 fl_X10_27 h1.1 (moR_63 h1) ?_
      refine g_iload dX10_changes_53 rfl ?_
      refine g_iald dX10_changes_55 (moA_63 h1) (vp_in_nI (by omega) (by decide)) ?_
      rw [nI_n (show i + 1 < 2 ^ 31 by omega), e1]
      refine g_iast dX10_changes_56 (moA_63 h1) (vp_in_nI (by omega) (by decide)) ?_
      rw [nI_n (show i < 2 ^ 31 by omega), e1, shF_s]
      refine g_aload_n dX10_changes_57 rfl ?_
      refine g_getr dX10_changes_58 fl_X10_30 h1.1 (moR_64 h1) ?_
      refine g_iload dX10_changes_61 rfl ?_
      refine g_iconst (v := 1) dX10_changes_63 rfl ?_
      refine g_isub dX10_changes_64 ?_
      rw [nI_pred]
      refine g_aload_n dX10_changes_65 rfl ?_
      refine g_getr dX10_changes_66 fl_X10_30 h1.1 (moR_64 h1) ?_
      refine g_iload dX10_changes_69 rfl ?_
      refine g_iald dX10_changes_71 (moA_64 h1) (vp_in_nI (by omega) (by decide)) ?_
      rw [nI_n (show i + 1 < 2 ^ 31 by omega), wa_sa (k := 63) 64, if_neg (by decide), e2]
      refine g_iast dX10_changes_72 (moA_64 h1) (vp_in_nI (by omega) (by decide)) ?_
      rw [nI_n (show i < 2 ^ 31 by omega), wa_sa (k := 63) 64, if_neg (by decide), e2, shF_s]
      refine g_aload_n dX10_changes_73 rfl ?_
      refine g_getr dX10_changes_74 fl_X10_33 h1.1 (moR_65 h1) ?_
      refine g_iload dX10_changes_77 rfl ?_
      refine g_iconst (v := 1) dX10_changes_79 rfl ?_
      refine g_isub dX10_changes_80 ?_
      rw [nI_pred]
      refine g_aload_n dX10_changes_81 rfl ?_
      refine g_getr dX10_changes_82 fl_X10_33 h1.1 (moR_65 h1) ?_
      refine g_iload dX10_changes_85 rfl ?_
      refine g_iald dX10_changes_87 (moA_65 h1) (vp_in_nI (by omega) (by decide)) ?_
      rw [nI_n (show i + 1 < 2 ^ 31 by omega), wa_sa (k := 64) 65, if_neg (by decide), wa_sa (k := 63) 65, if_neg (by decide), e3]
      refine g_iast dX10_changes_88 (moA_65 h1) (vp_in_nI (by omega) (by decide)) ?_
      rw [nI_n (show i < 2 ^ 31 by omega), wa_sa (k := 64) 65, if_neg (by decide), wa_sa (k := 63) 65, if_neg (by decide), e3, shF_s]
      refine g_aload_n dX10_changes_89 rfl ?_
      refine g_getr dX10_changes_90 fl_X10_36 h1.1 (moR_66 h1) ?_
      refine g_iload dX10_changes_93 rfl ?_
      refine g_iconst (v := 1) dX10_changes_95 rfl ?_
      refine g_isub dX10_changes_96 ?_
      rw [nI_pred]
      refine g_aload_n dX10_changes_97 rfl ?_
      refine g_getr dX10_changes_98 fl_X10_36 h1.1 (moR_66 h1) ?_
      refine g_iload dX10_changes_101 rfl ?_
      refine g_iald dX10_changes_103 (moA_66 h1) (vp_in_nI (by omega) (by decide)) ?_
      rw [nI_n (show i + 1 < 2 ^ 31 by omega), wa_sa (k := 65) 66, if_neg (by decide), wa_sa (k := 64) 66, if_neg (by decide), wa_sa (k := 63) 66, if_neg (by decide), e4]
      refine g_iast dX10_changes_104 (moA_66 h1) (vp_in_nI (by omega) (by decide)) ?_
      rw [nI_n (show i < 2 ^ 31 by omega), wa_sa (k := 65) 66, if_neg (by decide), wa_sa (k := 64) 66, if_neg (by decide), wa_sa (k := 63) 66, if_neg (by decide), e4, shF_s]
      refine g_iinc dX10_changes_105 rfl rfl ?_
      refine g_goto (tgt := 34) dX10_changes_108 (by decide) ?_
      rw [nI_1']
      refine ih (i + 1) _ (by omega) ((((hs.sa (by simp)).sa (by simp)).sa (by simp)).sa (by simp)) ?_ ?_ ?_ ?_
      · rw [wa_sa, if_neg (by decide), wa_sa, if_neg (by decide), wa_sa, if_neg (by decide), wa_sat]
      · rw [wa_sa, if_neg (by decide), wa_sa, if_neg (by decide), wa_sat]
      · rw [wa_sa, if_neg (by decide), wa_sat]
      · rw [wa_sat]
set_option maxHeartbeats 4000000 in
theorem l_X10_changes2 {d n p E : Nat} {w : gx_W} {f : Nat → Int32} {x y v : Int32} {x5 : Value} {k : Int32 → gx_W → Prop} (hd : 1 ≤ d) (h : moO w) (hx : mxD w f n) (hp : chOK n x y p) (hE : w_i w 57 7 = nI E) (hE4 : E < 40) (kk : ∀ w', same [58, 59, 60, 61, 62, 63, 64, 65, 66] [(57, 7)] w w' → mxD w' (va_up f p v) n → w_i w' 57 7 = nI (E + 1) → w_a w' 63 = va_up (w_a w 63) E y → w_a w' 64 = va_up (w_a w 64) E x → w_a w' 65 = va_up (w_a w 65) E (f p) → w_a w' 66 = va_up (w_a w 66) E v → k (f p) w') : gx_G 0 0 d mX10_changes (Qi k) 121 [.ref 57, .int y, .int x, .int v, .int (f p), x5] [] w := by
  refine g_aload_n dX10_changes_121 rfl ?_
  refine g_getr dX10_changes_122 fl_X10_27 h.1 (moR_63 h) ?_
  refine g_aload_n dX10_changes_125 rfl ?_
  refine g_geti dX10_changes_126 fl_X10_148 h.1 ?_
  rw [hE]
  refine g_iload_n dX10_changes_129 rfl ?_
  refine g_iast dX10_changes_130 (moA_63 h) (vp_in_nI (by omega) (by decide)) ?_
  rw [nI_n (show E < 2 ^ 31 by omega)]
  refine g_aload_n dX10_changes_131 rfl ?_
  refine g_getr dX10_changes_132 fl_X10_30 h.1 (moR_64 h) ?_
  refine g_aload_n dX10_changes_135 rfl ?_
  refine g_geti dX10_changes_136 fl_X10_148 h.1 ?_
  rw [show w_i (s_a w 63 (va_up (w_a w 63) E y)) 57 7 = nI E from hE]
  refine g_iload_n dX10_changes_139 rfl ?_
  refine g_iast dX10_changes_140 (moA_64 h) (vp_in_nI (by omega) (by decide)) ?_
  rw [nI_n (show E < 2 ^ 31 by omega)]
  refine g_aload_n dX10_changes_141 rfl ?_
  refine g_getr dX10_changes_142 fl_X10_33 h.1 (moR_65 h) ?_
  refine g_aload_n dX10_changes_145 rfl ?_
  refine g_geti dX10_changes_146 fl_X10_148 h.1 ?_
  rw [show w_i (s_a (s_a w 63 (va_up (w_a w 63) E y)) 64 (va_up (w_a (s_a w 63 (va_up (w_a w 63) E y)) 64) E x)) 57 7 = nI E from hE]
  refine g_iload dX10_changes_149 rfl ?_
  refine g_iast dX10_changes_151 (moA_65 h) (vp_in_nI (by omega) (by decide)) ?_
  rw [nI_n (show E < 2 ^ 31 by omega)]
  refine g_aload_n dX10_changes_152 rfl ?_
  refine g_getr dX10_changes_153 fl_X10_36 h.1 (moR_66 h) ?_
  refine g_aload_n dX10_changes_156 rfl ?_
  refine g_geti dX10_changes_157 fl_X10_148 h.1 ?_
  rw [show w_i (s_a (s_a (s_a w 63 (va_up (w_a w 63) E y)) 64 (va_up (w_a (s_a w 63 (va_up (w_a w 63) E y)) 64) E x)) 65 (va_up (w_a (s_a (s_a w 63 (va_up (w_a w 63) E y)) 64 (va_up (w_a (s_a w 63 (va_up (w_a w 63) E y)) 64) E x)) 65) E (f p))) 57 7 = nI E from hE]
  refine g_iload_n dX10_changes_160 rfl ?_
  refine g_iast dX10_changes_161 (moA_66 h) (vp_in_nI (by omega) (by decide)) ?_
  rw [nI_n (show E < 2 ^ 31 by omega)]
  refine g_aload_n dX10_changes_162 rfl ?_
  refine g_dup dX10_changes_163 rfl ?_
  refine g_geti dX10_changes_164 fl_X10_148 h.1 ?_
  rw [show w_i (s_a (s_a (s_a (s_a w 63 (va_up (w_a w 63) E y)) 64 (va_up (w_a (s_a w 63 (va_up (w_a w 63) E y)) 64) E x)) 65 (va_up (w_a (s_a (s_a w 63 (va_up (w_a w 63) E y)) 64 (va_up (w_a (s_a w 63 (va_up (w_a w 63) E y)) 64) E x)) 65) E (f p))) 66 (va_up (w_a (s_a (s_a (s_a w 63 (va_up (w_a w 63) E y)) 64 (va_up (w_a (s_a w 63 (va_up (w_a w 63) E y)) 64) E x)) 65 (va_up (w_a (s_a (s_a w 63 (va_up (w_a w 63) E y)) 64 (va_up (w_a (s_a w 63 (va_up (w_a w 63) E y)) 64) E x)) 65) E (f p))) 66) E v)) 57 7 = nI E from hE]
  refine g_iconst (v := 1) dX10_changes_167 rfl ?_
  refine g_iadd dX10_changes_168 ?_
  rw [nI_1]
  refine g_puti dX10_changes_169 fl_X10_148 ft_10_7 h.1 ?_
  have s5 : same [63, 64, 65, 66] [(57, 7)] w (s_i (s_a (s_a (s_a (s_a w 63 (va_up (w_a w 63) E y)) 64 (va_up (w_a (s_a w 63 (va_up (w_a w 63) E y)) 64) E x)) 65 (va_up (w_a (s_a (s_a w 63 (va_up (w_a w 63) E y)) 64 (va_up (w_a (s_a w 63 (va_up (w_a w 63) E y)) 64) E x)) 65) E (f p))) 66 (va_up (w_a (s_a (s_a (s_a w 63 (va_up (w_a w 63) E y)) 64 (va_up (w_a (s_a w 63 (va_up (w_a w 63) E y)) 64) E x)) 65 (va_up (w_a (s_a (s_a w 63 (va_up (w_a w 63) E y)) 64 (va_up (w_a (s_a w 63 (va_up (w_a w 63) E y)) 64) E x)) 65) E (f p))) 66) E v)) 57 7 (nI (E + 1))) := ((((same.rf.sa (by simp)).sa (by simp)).sa (by simp)).sa (by simp)).si (by simp)
  have x5m : mxD (s_i (s_a (s_a (s_a (s_a w 63 (va_up (w_a w 63) E y)) 64 (va_up (w_a (s_a w 63 (va_up (w_a w 63) E y)) 64) E x)) 65 (va_up (w_a (s_a (s_a w 63 (va_up (w_a w 63) E y)) 64 (va_up (w_a (s_a w 63 (va_up (w_a w 63) E y)) 64) E x)) 65) E (f p))) 66 (va_up (w_a (s_a (s_a (s_a w 63 (va_up (w_a w 63) E y)) 64 (va_up (w_a (s_a w 63 (va_up (w_a w 63) E y)) 64) E x)) 65 (va_up (w_a (s_a (s_a w 63 (va_up (w_a w 63) E y)) 64 (va_up (w_a (s_a w 63 (va_up (w_a w 63) E y)) 64) E x)) 65) E (f p))) 66) E v)) 57 7 (nI (E + 1))) f n := ⟨hx.1.same s5 (by simp) (by simp), fun j hj => by rw [(s5.2.2.2.1 61 (by simp)).1]; exact hx.2 j hj⟩
  refine g_aload_n dX10_changes_172 rfl ?_
  refine g_iload_n dX10_changes_173 rfl ?_
  refine g_iload_n dX10_changes_174 rfl ?_
  refine g_iload_n dX10_changes_175 rfl ?_
  refine g_cV3v dX10_changes_176 ml_X10_151 mi_X10_lays mv_X10_lays h.1 ⟨_, rfl, rfl⟩ (Nat.le_of_ble_eq_true rfl) rfl (by omega) ?_
  refine c_X10_lays (by omega) (h.same s5) x5m hp (fun w6 s6 x6 => ?_)
  refine g_iload dX10_changes_179 rfl ?_
  refine g_iret dX10_changes_181 rfl ⟨_, rfl, ?_⟩
  have e6 : ∀ r, 63 ≤ r → w_a w6 r = w_a (s_i (s_a (s_a (s_a (s_a w 63 (va_up (w_a w 63) E y)) 64 (va_up (w_a (s_a w 63 (va_up (w_a w 63) E y)) 64) E x)) 65 (va_up (w_a (s_a (s_a w 63 (va_up (w_a w 63) E y)) 64 (va_up (w_a (s_a w 63 (va_up (w_a w 63) E y)) 64) E x)) 65) E (f p))) 66 (va_up (w_a (s_a (s_a (s_a w 63 (va_up (w_a w 63) E y)) 64 (va_up (w_a (s_a w 63 (va_up (w_a w 63) E y)) 64) E x)) 65 (va_up (w_a (s_a (s_a w 63 (va_up (w_a w 63) E y)) 64 (va_up (w_a (s_a w 63 (va_up (w_a w 63) E y)) 64) E x)) 65) E (f p))) 66) E v)) 57 7 (nI (E + 1))) r := fun r hr => (s6.2.2.2.1 r (by simp; omega)).1
  refine kk w6 ((s5.wk (by simp) (by simp)).tr (s6.wk (by simp) (by simp))) x6 ?_ ?_ ?_ ?_ ?_
  · rw [s6.2.1 57 7 (by simp), wi_si, if_pos ⟨rfl, rfl⟩]
  · rw [e6 63 (by decide)]; rfl
  · rw [e6 64 (by decide)]; rfl
  · rw [e6 65 (by decide)]; rfl
  · rw [e6 66 (by decide)]; rfl
set_option maxHeartbeats 4000000 in
theorem c_X10_changes {d : Nat} {w : gx_W} {f : Nat → Int32} {n p D : Nat} {x y v : Int32} {k : Int32 → gx_W → Prop} (hd : 2 ≤ d) (h : moO w) (hx : mxD w f n) (hp : chOK n x y p) (hD : w_i w 57 7 = nI D) (hD4 : D ≤ 40) (k1 : f p = v → k (f p) w) (k2 : ¬ f p = v → ∀ w', cgM w w' D y x (f p) v → mxD w' (va_up f p v) n → k (f p) w') : gx_C 0 0 d mX10_changes [.ref 57, .int y, .int x, .int v] w (Qi k) := by
  refine gx_C_of' (L := [.ref 57, .int y, .int x, .int v, .retAddr 0, .retAddr 0]) (by decide +kernel) rfl (Nat.le_of_ble_eq_true rfl) ?_
  refine g_aload_n dX10_changes_0 rfl ?_
  refine g_iload_n dX10_changes_1 rfl ?_
  refine g_iload_n dX10_changes_2 rfl ?_
  refine g_cV2i dX10_changes_3 ml_X10_141 mi_X10_valueAt mv_X10_valueAt h.1 ⟨_, rfl, rfl⟩ (Nat.le_of_ble_eq_true rfl) rfl (by omega) ?_
  refine c_X10_valueAt (by omega) h hx hp ?_
  refine g_istore dX10_changes_6 (Nat.le_of_ble_eq_true rfl) rfl ?_
  refine g_iload dX10_changes_8 rfl ?_
  refine g_iload_n dX10_changes_10 rfl ?_
  refine g_icmp_ne (tgt := 17) dX10_changes_11 (by decide) (fun zc11 => ?_) (fun zc11 => ?_)
  · refine g_aload_n dX10_changes_17 rfl ?_
    refine g_iconst (v := 0) dX10_changes_18 rfl ?_
    refine g_puti dX10_changes_19 fl_X10_145 ft_10_8 h.1 ?_
    refine g_aload_n dX10_changes_22 rfl ?_
    refine g_geti dX10_changes_23 fl_X10_148 h.1 ?_
    refine g_bipush (v := 40) dX10_changes_26 rfl ?_
    rw [show w_i (s_i w 57 8 0) 57 7 = nI D from hD]
    refine g_icmp_ne (tgt := 121) dX10_changes_28 (by decide) (fun zc28 => ?_) (fun zc28 => ?_)
    · have hD0 : ¬ D = 40 := fun q => zc28 (by rw [q]; rfl)
      refine l_X10_changes2 (E := D) (w := s_i w 57 8 0) (by omega) h ⟨hx.1.same (same.rf.si (F := [(57, 8)]) (R := []) (by simp)) (by simp) (by simp), hx.2⟩ hp hD (by omega) (fun w' s1 x1 e0 e1 e2 e3 e4 => k2 zc11 w' ⟨((same.rf.si (by simp)).tr (s1.wk (by simp) (by simp))), by rw [e0, show min D 39 = D by omega], (s1.2.1 57 8 (by simp)).trans (by rw [wi_si, if_pos ⟨rfl, rfl⟩]), ?_, ?_, ?_, ?_⟩ x1)
      · rw [e1, if_neg hD0, show min D 39 = D by omega]; rfl
      · rw [e2, if_neg hD0, show min D 39 = D by omega]; rfl
      · rw [e3, if_neg hD0, show min D 39 = D by omega]; rfl
      · rw [e4, if_neg hD0, show min D 39 = D by omega]; rfl
    · refine g_iconst (v := 1) dX10_changes_31 rfl ?_
      refine g_istore dX10_changes_32 (Nat.le_of_ble_eq_true rfl) rfl ?_
      have hD0 : D = 40 := pI_inj (a := D) (b := 40) (by omega) (by decide) zc28
      subst hD0
      refine l_X10_changes1 (w0 := s_i w 57 8 0) h (fun w2 s2 a1 a2 a3 a4 => ?_) 39 0 _ rfl same.rf (shF_0 _).symm (shF_0 _).symm (shF_0 _).symm (shF_0 _).symm
      have h2 : moO w2 := (h.same (same.rf.si (F := [(57, 8)]) (R := []) (by simp))).same s2
      have eD2 : w_i w2 57 7 = nI 40 := (s2.2.1 57 7 (by simp)).trans hD
      refine g_aload_n dX10_changes_111 rfl ?_
      refine g_dup dX10_changes_112 rfl ?_
      refine g_geti dX10_changes_113 fl_X10_148 h2.1 ?_
      refine g_iconst (v := 1) dX10_changes_116 rfl ?_
      refine g_isub dX10_changes_117 ?_
      rw [eD2, show nI 40 - 1 = nI 39 from rfl]
      refine g_puti dX10_changes_118 fl_X10_148 ft_10_7 h2.1 ?_
      have s3 : same [63, 64, 65, 66] [(57, 7), (57, 8)] w (s_i w2 57 7 (nI 39)) := ((same.rf.si (by simp)).tr (s2.wk (by simp) (by simp))).si (by simp)
      refine l_X10_changes2 (E := 39) (w := s_i w2 57 7 (nI 39)) (by omega) h2 ⟨hx.1.same s3 (by simp) (by simp), fun j hj => by rw [(s3.2.2.2.1 61 (by simp)).1]; exact hx.2 j hj⟩ hp (by rw [wi_si, if_pos ⟨rfl, rfl⟩]) (by decide) (fun w' s1 x1 e0 e1 e2 e3 e4 => k2 zc11 w' ⟨(s3.wk (by simp) (by simp)).tr (s1.wk (by simp) (by simp)), e0, (s1.2.1 57 8 (by simp)).trans ((s2.2.1 57 8 (by simp)).trans (by rw [wi_si, if_pos ⟨rfl, rfl⟩])), ?_, ?_, ?_, ?_⟩ x1)
      · rw [e1, if_pos rfl, show w_a (s_i w2 57 7 (nI 39)) 63 = w_a w2 63 from rfl, a1]; rfl
      · rw [e2, if_pos rfl, show w_a (s_i w2 57 7 (nI 39)) 64 = w_a w2 64 from rfl, a2]; rfl
      · rw [e3, if_pos rfl, show w_a (s_i w2 57 7 (nI 39)) 65 = w_a w2 65 from rfl, a3]; rfl
      · rw [e4, if_pos rfl, show w_a (s_i w2 57 7 (nI 39)) 66 = w_a w2 66 from rfl, a4]; rfl
  · refine g_iload dX10_changes_14 rfl ?_
    refine g_iret dX10_changes_16 rfl ⟨_, rfl, ?_⟩
    exact k1 zc11

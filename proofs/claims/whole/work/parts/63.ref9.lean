/-! The reference: goAhead -/
set_option maxHeartbeats 4000000 in
theorem l_X10_goAhead3 {n N c q z s d : Nat} {f sg va : Nat → Int32} {w1 : gx_W} {k : Int32 → gx_W → Prop} (hn : n ≤ 6) (hq : q < n) (hc : c < 100) (IH : gaC n N c q z sg va) (hsz : s + (z + 1) ≤ 3) (hd : 7 + z ≤ d) : ∀ (y co : Nat) (tr : Int32) (x7 x8 : Value) (w2 : gx_W), x7.category = 1 → co + y = 100 → same GR [] w1 w2 → moT w2 f n N sg va → (∀ j, j < n → w_a w2 79 (6 * s + j) = f (18 + j)) → (∀ j, j < 6 * s → w_a w2 79 j = w_a w1 79 j) → (∀ j, j < s → w_a w2 80 j = w_a w1 80 j) → (∀ l', gR (cr_has N sg va f n) (fun r => me_re N sg va n c q z (cr_set f n r.toNatClampNeg)) y co tr = some l' → ∀ w', same GR [] w1 w' → (∀ j v, l'[j]? = some v → w_a w' 80 (s + j) = nI v) → (∀ j, j < s → w_a w' 80 j = w_a w1 80 j) → k 1 w') → (gR (cr_has N sg va f n) (fun r => me_re N sg va n c q z (cr_set f n r.toNatClampNeg)) y co tr = none → ∀ w', same GR [] w1 w' → moT w' f n N sg va → (∀ j, j < 6 * s → w_a w' 79 j = w_a w1 79 j) → (∀ j, j < s → w_a w' 80 j = w_a w1 80 j) → k 0 w') → gx_G 0 0 d mX10_goAhead (Qi k) 64 [.ref 57, .int (nI q), .int (nI c), .int (nI s), .int (nI (s + (z + 1))), .int tr, .int (nI co), x7, x8] [] w2 := by
  intro y
  induction y with
  | zero =>
    intro co tr x7 x8 w2 hx7 hj hs hI hr h79 h80 kt kf
    have e : co = 100 := by omega
    subst e
    refine g_iload dX10_goAhead_64 rfl ?_
    refine g_bipush (v := 99) dX10_goAhead_66 rfl ?_
    refine g_icmp_gt (tgt := 175) dX10_goAhead_68 (by decide) (fun zc68 => ?_) (fun zc68 => ?_)
    · refine g_iconst (v := 0) dX10_goAhead_175 rfl ?_
      refine g_zret dX10_goAhead_176 rfl (Or.inl rfl) ⟨_, rfl, ?_⟩
      exact kf rfl w2 hs hI h79 h80
    · exact absurd (by decide) zc68
  | succ y ih =>
    intro co tr x7 x8 w2 hx7 hj hs hI hr h79 h80 kt kf
    obtain ⟨t, ht, et⟩ := cr_has_pos (N := N) (sg := sg) (va := va) (f := f) (c := co) hn (by omega)
    have h0c : ¬ tr = 5 → True := fun _ => trivial
    clear h0c
    refine g_iload dX10_goAhead_64 rfl ?_
    refine g_bipush (v := 99) dX10_goAhead_66 rfl ?_
    refine g_icmp_gt (tgt := 175) dX10_goAhead_68 (by decide) (fun zc68 => ?_) (fun zc68 => ?_)
    · refine g_iconst (v := 0) dX10_goAhead_175 rfl ?_
      refine g_zret dX10_goAhead_176 rfl (Or.inl rfl) ⟨_, rfl, ?_⟩
      exact absurd (show nI 99 < nI co from zc68) (nI_nlt (by omega) (by omega))
    · refine g_aload_n dX10_goAhead_71 rfl ?_
      refine g_iload dX10_goAhead_72 rfl ?_
      refine g_cV1i dX10_goAhead_74 ml_X10_249 mi_X10_hasNow mv_X10_hasNow hI.1.1 ⟨_, rfl, rfl⟩ (Nat.le_of_ble_eq_true rfl) rfl (by omega) ?_
      refine c_X10_hasNow (by omega) hI (by omega) (fun w3 hs3 => ?_)
      have h3 := hI.same hs3 (by simp) (by simp)
      rw [et]
      refine g_istore dX10_goAhead_77 (Nat.le_of_ble_eq_true rfl) rfl ?_
      refine g_iload dX10_goAhead_79 rfl ?_
      refine g_iload dX10_goAhead_81 rfl ?_
      refine g_ishr dX10_goAhead_83 ?_
      refine g_iconst (v := 1) dX10_goAhead_84 rfl ?_
      refine g_iand dX10_goAhead_85 ?_
      refine g_iconst (v := 1) dX10_goAhead_86 rfl ?_
      refine g_icmp_ne (tgt := 93) dX10_goAhead_87 (by decide) (fun zc87 => ?_) (fun zc87 => ?_)
      · refine g_iload dX10_goAhead_93 rfl ?_
        refine g_iconst (v := 1) dX10_goAhead_95 rfl ?_
        refine g_iload dX10_goAhead_96 rfl ?_
        refine g_ishl dX10_goAhead_98 ?_
        refine g_ior dX10_goAhead_99 ?_
        refine g_istore dX10_goAhead_100 (Nat.le_of_ble_eq_true rfl) rfl ?_
        refine g_aload_n dX10_goAhead_102 rfl ?_
        refine g_getr dX10_goAhead_103 fl_X10_80 h3.1.1 (moR_80 h3.1) ?_
        refine g_iload_n dX10_goAhead_106 rfl ?_
        refine g_iload dX10_goAhead_107 rfl ?_
        refine g_iast dX10_goAhead_109 (moA_80 h3.1) (vp_in_nI (by omega) (by decide)) ?_
        rw [nI_n (show s < 2 ^ 31 by omega)]
        have h3b : moT (s_a w3 80 (va_up (w_a w3 80) s (nI co))) f n N sg va := h3.same (same.rf.sa (R := [80]) (F := []) (by simp)) (by simp) (by simp)
        refine g_aload_n dX10_goAhead_110 rfl ?_
        refine g_iload dX10_goAhead_111 rfl ?_
        refine g_cV1v dX10_goAhead_113 ml_X10_252 mi_X10_takesNow mv_X10_takesNow h3.1.1 ⟨_, rfl, rfl⟩ (Nat.le_of_ble_eq_true rfl) rfl (by omega) ?_
        refine c_X10_takesNow (by omega) h3b ht (fun w4 hs4 h4 => ?_)
        refine g_aload_n dX10_goAhead_116 rfl ?_
        refine g_iload_n dX10_goAhead_117 rfl ?_
        refine g_iload_n dX10_goAhead_118 rfl ?_
        refine g_iload_n dX10_goAhead_119 rfl ?_
        refine g_iconst (v := 1) dX10_goAhead_120 rfl ?_
        refine g_iadd dX10_goAhead_121 ?_
        refine g_iload dX10_goAhead_122 rfl ?_
        have k79 : ∀ j, w_a w4 79 j = w_a w2 79 j := fun j => by rw [(hs4.2.2.2.1 79 (by simp)).1, wa_sa, if_neg (by decide), (hs3.2.2.2.1 79 (by simp)).1]
        have k80 : ∀ j, w_a w4 80 j = va_up (w_a w2 80) s (nI co) j := fun j => by rw [(hs4.2.2.2.1 80 (by simp)).1, wa_sat, (hs3.2.2.2.1 80 (by simp)).1]
        have s4 : same GR [] w2 w4 := ((hs3.wk (by simp) (by simp)).sa (by simp)).tr (hs4.wk (by simp) (by simp))
        rw [nI_1, show s + (z + 1) = s + 1 + z by omega]
        refine g_cV4i dX10_goAhead_124 ml_X10_283 mi_X10_goAhead mv_X10_goAhead h4.1.1 ⟨_, rfl, rfl⟩ (Nat.le_of_ble_eq_true rfl) rfl (by omega) ?_
        refine IH (s + 1) (d - 1) (cr_set f n t) w4 _ (by omega) (by omega) h4 (fun l5 hsome w5 hs5 l5v l5k => ?_) (fun hnone w5 hs5 h5 k5 l5 => ?_)
        · rw [show s + 1 + z = s + (z + 1) by omega]
          refine g_if_eq (tgt := 132) dX10_goAhead_127 (by decide) (fun q => absurd q (by decide)) (fun _ => ?_)
          refine g_iconst (v := 1) dX10_goAhead_130 rfl ?_
          refine g_zret dX10_goAhead_131 rfl (Or.inr rfl) ⟨_, rfl, ?_⟩
          have es : gR (cr_has N sg va f n) (fun r => me_re N sg va n c q z (cr_set f n r.toNatClampNeg)) (y + 1) co tr = some (co :: l5) := by
            show (if _ then _ else match me_re N sg va n c q z (cr_set f n (cr_has N sg va f n co).toNatClampNeg) with | some l => some (co :: l) | none => _) = _
            rw [et, nI_n (by omega), if_neg (by rw [cr_out_0 zc87]; decide), hsome]
          refine kt _ es w5 (hs.tr (s4.tr hs5)) (fun j v hv => ?_) (fun j hj => by rw [l5k j (by omega), k80, va_up_row (by omega)]; exact h80 j hj)
          cases j with
          | zero =>
            have ev : co = v := Option.some.inj hv
            subst ev
            rw [Nat.add_zero, l5k s (by omega), k80, va_up_at]
          | succ j =>
            have := l5v j v hv
            rw [show s + (j + 1) = s + 1 + j by omega]
            exact this
        · rw [show s + 1 + z = s + (z + 1) by omega]
          refine g_if_eq (tgt := 132) dX10_goAhead_127 (by decide) (fun _ => ?_) (fun q => absurd q (by decide))
          refine g_iconst (v := 0) dX10_goAhead_132 rfl ?_
          refine g_istore dX10_goAhead_133 (Nat.le_of_ble_eq_true rfl) rfl ?_
          have es : gR (cr_has N sg va f n) (fun r => me_re N sg va n c q z (cr_set f n r.toNatClampNeg)) (y + 1) co tr = gR (cr_has N sg va f n) (fun r => me_re N sg va n c q z (cr_set f n r.toNatClampNeg)) y (co + 1) (tr ||| (1 <<< (nI t &&& 31))) := by
            show (if _ then _ else match me_re N sg va n c q z (cr_set f n (cr_has N sg va f n co).toNatClampNeg) with | some l => some (co :: l) | none => _) = _
            rw [et, nI_n (by omega), if_neg (by rw [cr_out_0 zc87]; decide), hnone]
          rw [es] at kt kf
          have e79 : ∀ j, j < n → w_a w5 79 (6 * s + j) = f (18 + j) := fun j hj => by rw [k5 _ (by omega), k79]; exact hr j hj
          have K : ∀ kk, gx_G 0 0 d mX10_goAhead (Qi k) 135 [.ref 57, .int (nI q), .int (nI c), .int (nI s), .int (nI (s + (z + 1))), .int (tr ||| (1 <<< (nI t &&& 31))), .int (nI co), .int (nI t), .int (nI 0)] [] (s_a w5 75 (rsF (w_a w5 75) (w_a w5 79) (6 * s) 0)) := fun kk => l_X10_goAhead2 (w := w5) h5.1 h5.2.1.1.1 hn (by omega) kk n 0 (Nat.zero_add _)
          rw [sa_id (rsF_0 _ _ _)] at K
          refine K ?_
          refine g_iinc dX10_goAhead_169 rfl rfl ?_
          refine g_goto (tgt := 64) dX10_goAhead_172 (by decide) ?_
          rw [nI_1']
          have s6 : same [75] [] w5 (s_a w5 75 (rsF (w_a w5 75) (w_a w5 79) (6 * s) n)) := same.rf.sa (by simp)
          refine ih (co + 1) _ _ _ _ rfl (by omega) ((hs.tr (s4.tr hs5)).sa (by simp)) ⟨h5.1.same s6, ⟨(h5.2.1.1.same s6 (by simp) (by simp)).unset, fun j hj => ?_⟩, h5.2.2.1.same s6 (by simp) (fun k h1 h2 => by simp; omega), hI.2.2.2⟩ (fun j hj => ?_) (fun j hj => ?_) (fun j hj => ?_) kt kf
          · rw [wa_sat]
            show (if j < n then w_a w5 79 (6 * s + j) else w_a w5 75 j) = _
            rw [if_pos hj]
            exact e79 j hj
          · rw [wa_sa, if_neg (by decide)]; exact e79 j hj
          · rw [wa_sa, if_neg (by decide), k5 j (by omega), k79]; exact h79 j hj
          · rw [wa_sa, if_neg (by decide), l5 j (by omega), k80, va_up_row (by omega)]; exact h80 j hj
      · refine g_goto (tgt := 169) dX10_goAhead_90 (by decide) ?_
        refine g_iinc dX10_goAhead_169 rfl rfl ?_
        refine g_goto (tgt := 64) dX10_goAhead_172 (by decide) ?_
        have es : gR (cr_has N sg va f n) (fun r => me_re N sg va n c q z (cr_set f n r.toNatClampNeg)) (y + 1) co tr = gR (cr_has N sg va f n) (fun r => me_re N sg va n c q z (cr_set f n r.toNatClampNeg)) y (co + 1) tr := by
          show (if _ then _ else _) = _
          rw [et, nI_n (by omega), if_pos (cr_out_1 zc87)]
        rw [es] at kt kf
        rw [nI_1']
        exact ih (co + 1) tr _ _ w3 rfl (by omega) (hs.tr (hs3.wk (by simp) (by simp))) h3 (fun j hj => by rw [(hs3.2.2.2.1 79 (by simp)).1]; exact hr j hj) (fun j hj => by rw [(hs3.2.2.2.1 79 (by simp)).1]; exact h79 j hj) (fun j hj => by rw [(hs3.2.2.2.1 80 (by simp)).1]; exact h80 j hj) kt kf
set_option maxHeartbeats 4000000 in
theorem l_X10_goAheadS {n N c q z : Nat} {sg va : Nat → Int32} (hn : n ≤ 6) (hq : q < n) (hc : c < 100) (IH : gaC n N c q z sg va) : gaC n N c q (z + 1) sg va := by
  intro s d f w1 k hsz hd hI kt kf
  have hH : ∀ x, ∃ t, t < n ∧ cr_has N sg va f n x = nI t := fun x => cr_has_pos hn (by omega)
  have eq : me_re N sg va n c q (z + 1) f = gR (cr_has N sg va f n) (fun r => me_re N sg va n c q z (cr_set f n r.toNatClampNeg)) 100 0 0 := gR_eq hH hn 100 0 0 (Nat.two_pow_pos n)
  rw [eq] at kt kf
  refine gx_C_of' (L := [.ref 57, .int (nI q), .int (nI c), .int (nI s), .int (nI (s + (z + 1))), .retAddr 0, .retAddr 0, .retAddr 0, .retAddr 0]) (by decide +kernel) rfl (Nat.le_of_ble_eq_true rfl) ?_
  refine g_iload_n dX10_goAhead_0 rfl ?_
  refine g_iload dX10_goAhead_1 rfl ?_
  refine g_icmp_ne (tgt := 21) dX10_goAhead_3 (by decide) (fun zc3 => ?_) (fun zc3 => ?_)
  · refine g_iconst (v := 0) dX10_goAhead_21 rfl ?_
    refine g_istore dX10_goAhead_22 (Nat.le_of_ble_eq_true rfl) rfl ?_
    have K : ∀ kk, gx_G 0 0 d mX10_goAhead (Qi k) 24 [.ref 57, .int (nI q), .int (nI c), .int (nI s), .int (nI (s + (z + 1))), .int (nI 0), .retAddr 0, .retAddr 0, .retAddr 0] [] (s_a w1 79 (svF (w_a w1 79) (w_a w1 75) (6 * s) 0)) := fun kk => l_X10_goAhead1 (w := w1) hI.1 hI.2.1.1.1 hn (by omega) kk n 0 (Nat.zero_add _)
    rw [sa_id (svF_0 _ _ _)] at K
    refine K ?_
    refine g_iconst (v := 0) dX10_goAhead_58 rfl ?_
    refine g_istore dX10_goAhead_59 (Nat.le_of_ble_eq_true rfl) rfl ?_
    refine g_iconst (v := 0) dX10_goAhead_61 rfl ?_
    refine g_istore dX10_goAhead_62 (Nat.le_of_ble_eq_true rfl) rfl ?_
    have s2 : same [79] [] w1 (s_a w1 79 (svF (w_a w1 79) (w_a w1 75) (6 * s) n)) := same.rf.sa (by simp)
    refine l_X10_goAhead3 hn hq hc IH hsz (by omega) 100 0 0 (.retAddr 0) (.retAddr 0) _ rfl rfl (s2.wk (by simp) (by simp)) (hI.same s2 (by simp) (by simp)) (fun j hj => ?_) (fun j hj => ?_) (fun j hj => by rw [wa_sa, if_neg (by decide)]) kt kf
    · rw [wa_sat]
      show (if 6 * s ≤ 6 * s + j ∧ 6 * s + j < 6 * s + n then w_a w1 75 (6 * s + j - 6 * s) else _) = _
      rw [if_pos ⟨by omega, by omega⟩, show 6 * s + j - 6 * s = j by omega]
      exact hI.2.1.2 j hj
    · rw [wa_sat]
      exact if_neg (by omega)
  · exact absurd (pI_inj (by omega) (by omega) zc3) (by omega)
theorem ga_all {n N c q : Nat} {sg va : Nat → Int32} (hn : n ≤ 6) (hq : q < n) (hc : c < 100) : ∀ z, z ≤ 3 → gaC n N c q z sg va := by
  intro z
  induction z with
  | zero => intro _; exact l_X10_goAhead0 hn hq hc
  | succ z ih => intro hz; exact l_X10_goAheadS hn hq hc (ih (by omega))

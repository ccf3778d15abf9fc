/-! The reference: roads shift -/
theorem lNt {n : Nat} (h : n < 2 ^ 40) : (lN n).toInt = (n : Int) := lg_ofNat_toInt (by omega)
theorem lN_neg {n : Nat} (h : n < 2 ^ 40) : ¬ lN n < 0 := by
  intro q
  rw [Int64.lt_iff_toInt_lt, lNt h] at q
  have e : (0 : Int64).toInt = 0 := by decide
  omega
theorem lN_le' {a b : Nat} (ha : a < 2 ^ 40) (hb : b < 2 ^ 40) : lN a ≤ lN b ↔ a ≤ b := by
  rw [Int64.le_iff_toInt_le, lNt ha, lNt hb]
  omega
theorem neg_l {y : Int32} (h : y < 0) : y.toInt64 + ((3 : Int32) * 0).toInt64 < 0 := by
  have e : ((3 : Int32) * 0).toInt64 = 0 := by decide
  rw [e, Int64.add_zero, Int64.lt_iff_toInt_lt, Int32.toInt_toInt64]
  rw [pI_lt] at h
  have e0 : (0 : Int64).toInt = 0 := by decide
  have e1 : (0 : Int32).toInt = 0 := by decide
  omega
theorem at_e {i j : Nat} : nI (60 * i) + nI j = nI (60 * i + j) := nI_add _ _
theorem l_X10_roadsN {d i M : Nat} {w : gx_W} {y : Int32} {x5 x6 x7 : Value} {k : Int32 → gx_W → Prop} (hM : 1 ≤ M) (hM6 : M ≤ 6) (hy : y < 0) (kk : k 0 w) : gx_G 0 0 d mX10_roads (Qi k) 58 [.ref 57, .int (nI i), .int y, .int (nI M), .int 0, x5, x6, x7] [] w := by
  refine g_iload dX10_roads_58 rfl ?_
  refine g_iload_n dX10_roads_60 rfl ?_
  refine g_icmp_ge (tgt := 218) dX10_roads_61 (by decide) (fun zc61 => ?_) (fun zc61 => ?_)
  · exact absurd (show nI M ≤ nI 0 from zc61) (nI_ge (by omega) (by omega))
  · refine g_iload_n dX10_roads_64 rfl ?_
    refine g_i2l dX10_roads_65 ?_
    refine g_iconst (v := 3) dX10_roads_66 rfl ?_
    refine g_iload dX10_roads_67 rfl ?_
    refine g_imul dX10_roads_69 ?_
    refine g_i2l dX10_roads_70 ?_
    refine g_ladd dX10_roads_71 ?_
    refine g_lstore dX10_roads_72 (Nat.le_of_ble_eq_true rfl) rfl ?_
    refine g_lload dX10_roads_74 rfl ?_
    refine g_lconst (v := 0) dX10_roads_76 rfl ?_
    refine g_lcmp dX10_roads_77 ?_
    refine g_if_lt (tgt := 107) dX10_roads_78 (by decide) (fun zc78 => ?_) (fun zc78 => ?_)
    · refine g_iload dX10_roads_107 rfl ?_
      refine g_iret dX10_roads_109 rfl ⟨_, rfl, ?_⟩
      exact kk
    · exact absurd ((lg_cmp_lt _ _).mpr (neg_l hy)) zc78
set_option maxHeartbeats 4000000 in
theorem l_X10_roads {d i ln p M : Nat} {w : gx_W} {C : Nat → Int64} {k : Int32 → gx_W → Prop} (hd : 2 ≤ d) (h : moO w) (hi : i < 6) (hsh : shM w i ln C) (hp : p < 2 ^ 31) (hM6 : M ≤ 6) : ∀ (z c n : Nat) (f : Nat → Int32) (x5 x6 x7 : Value) (w1 : gx_W), c + z = M → same [58, 59, 60, 61] [(57, 1)] w w1 → mxD w1 f n → (∀ w', same [58, 59, 60, 61] [(57, 1)] w w' → mxD w' (me_rd (fun j => (C j).toInt32) ln p z c n f).2.2 (me_rd (fun j => (C j).toInt32) ln p z c n f).2.1 → k (nI (me_rd (fun j => (C j).toInt32) ln p z c n f).1) w') → gx_G 0 0 d mX10_roads (Qi k) 58 [.ref 57, .int (nI i), .int (nI p), .int (nI M), .int (nI c), x5, x6, x7] [] w1 := by
  intro z
  have hln := hsh.2.1
  induction z with
  | zero =>
    intro c n f x5 x6 x7 w1 hc hs hx kk
    have h1 := h.same hs
    have e : c = M := by omega
    subst e
    refine g_iload dX10_roads_58 rfl ?_
    refine g_iload_n dX10_roads_60 rfl ?_
    refine g_icmp_ge (tgt := 218) dX10_roads_61 (by decide) (fun zc61 => ?_) (fun zc61 => ?_)
    · refine g_iload_n dX10_roads_218 rfl ?_
      refine g_iret dX10_roads_219 rfl ⟨_, rfl, ?_⟩
      exact kk w1 hs hx
    · exact absurd (Int32.le_refl _) zc61
  | succ z ih =>
    intro c n f x5 x6 x7 w1 hc hs hx kk
    have h1 := h.same hs
    have hn6 := hx.1.2.1
    have hsh1 := hsh.same hs (by simp)
    refine g_iload dX10_roads_58 rfl ?_
    refine g_iload_n dX10_roads_60 rfl ?_
    refine g_icmp_ge (tgt := 218) dX10_roads_61 (by decide) (fun zc61 => ?_) (fun zc61 => ?_)
    · refine g_iload_n dX10_roads_218 rfl ?_
      refine g_iret dX10_roads_219 rfl ⟨_, rfl, ?_⟩
      exact absurd zc61 (nI_ge (by omega) (by omega))
    · refine g_iload_n dX10_roads_64 rfl ?_
      refine g_i2l dX10_roads_65 ?_
      refine g_iconst (v := 3) dX10_roads_66 rfl ?_
      refine g_iload dX10_roads_67 rfl ?_
      refine g_imul dX10_roads_69 ?_
      refine g_i2l dX10_roads_70 ?_
      refine g_ladd dX10_roads_71 ?_
      rw [show (3 : Int32) * nI c = nI (3 * c) from pk_mul 3 c, nI_l hp, nI_l (by omega), lN_add]
      refine g_lstore dX10_roads_72 (Nat.le_of_ble_eq_true rfl) rfl ?_
      refine g_lload dX10_roads_74 rfl ?_
      refine g_lconst (v := 0) dX10_roads_76 rfl ?_
      refine g_lcmp dX10_roads_77 ?_
      refine g_if_lt (tgt := 107) dX10_roads_78 (by decide) (fun zc78 => ?_) (fun zc78 => ?_)
      · refine g_iload dX10_roads_107 rfl ?_
        refine g_iret dX10_roads_109 rfl ⟨_, rfl, ?_⟩
        exact absurd ((lg_cmp_lt _ _).mp zc78) (lN_neg (by omega))
      · refine g_lload dX10_roads_81 rfl ?_
        refine g_ldc2 dX10_roads_83 ct_X10_139 ?_
        refine g_ladd dX10_roads_86 ?_
        rw [show lN (p + 3 * c) + 2 = lN (p + 3 * c + 2) from lN_add _ 2]
        refine g_aload_n dX10_roads_87 rfl ?_
        refine g_getr dX10_roads_88 fl_X10_108 h1.1 (moR_88 h1) ?_
        refine g_iload_n dX10_roads_91 rfl ?_
        refine g_iald dX10_roads_92 (moA_88 h1) (vp_in_nI (by omega) (by decide)) ?_
        rw [nI_n (show i < 2 ^ 31 by omega), hsh1.1]
        refine g_i2l dX10_roads_93 ?_
        rw [nI_l (by omega)]
        refine g_lcmp dX10_roads_94 ?_
        refine g_if_ge (tgt := 107) dX10_roads_95 (by decide) (fun zc95 => ?_) (fun zc95 => ?_)
        · refine g_iload dX10_roads_107 rfl ?_
          refine g_iret dX10_roads_109 rfl ⟨_, rfl, ?_⟩
          rw [me_rd_stop (E := fun j => (C j).toInt32) (ln := ln) (p := p) (c := c) (n := n) (f := f) (z := z) (fun q => by have := q.1; have q2 := (lN_le' (by omega) (by omega)).mp ((lg_cmp_ge _ _).mp zc95); omega)] at kk
          exact kk w1 hs hx
        · refine g_aload_n dX10_roads_98 rfl ?_
          refine g_geti dX10_roads_99 fl_X10_121 h1.1 ?_
          rw [hx.1.1]
          refine g_bipush (v := 6) dX10_roads_102 rfl ?_
          refine g_icmp_ne (tgt := 110) dX10_roads_104 (by decide) (fun zc104 => ?_) (fun zc104 => ?_)
          · have hlt : p + 3 * c + 3 ≤ ln := by
              rcases Nat.lt_or_ge ln (p + 3 * c + 3) with q | q
              · exact absurd ((lg_cmp_ge _ _).mpr ((lN_le' (by omega) (by omega)).mpr (by omega))) zc95
              · exact q
            have hn5 : n < 6 := by
              rcases Nat.lt_or_ge n 6 with q | q
              · exact q
              · exact absurd (show nI n = 6 by rw [show n = 6 by omega]; rfl) zc104
            refine g_bipush (v := 60) dX10_roads_110 rfl ?_
            refine g_iload_n dX10_roads_112 rfl ?_
            refine g_imul dX10_roads_113 ?_
            refine g_lload dX10_roads_114 rfl ?_
            refine g_l2i dX10_roads_116 ?_
            refine g_iadd dX10_roads_117 ?_
            rw [z60a, lN_i, at_e]
            refine g_istore dX10_roads_118 (Nat.le_of_ble_eq_true rfl) rfl ?_
            refine g_aload_n dX10_roads_120 rfl ?_
            refine g_getr dX10_roads_121 fl_X10_111 h1.1 (moR_89 h1) ?_
            refine g_iload dX10_roads_124 rfl ?_
            refine g_lald dX10_roads_126 (moA_89 h1) (vp_in_nI (by omega) (by decide)) ?_
            rw [nI_n (show 60 * i + (p + 3 * c) < 2 ^ 31 by omega), hsh1.2.2 (p + 3 * c) (by omega)]
            refine g_l2i dX10_roads_127 ?_
            refine g_iconst (v := 0) dX10_roads_128 rfl ?_
            refine g_bipush (v := 9) dX10_roads_129 rfl ?_
            refine g_cS3i dX10_roads_131 ml_X10_124 mi_X10_in ms_X10_in (Nat.le_of_ble_eq_true rfl) rfl (by omega) ?_
            refine c_X10_in (by omega) (fun a1 a2 => ?_) (fun na => ?_)
            · refine g_if_eq (tgt := 176) dX10_roads_134 (by decide) (fun q => absurd q (by decide)) (fun _ => ?_)
              refine g_aload_n dX10_roads_137 rfl ?_
              refine g_getr dX10_roads_138 fl_X10_111 h1.1 (moR_89 h1) ?_
              refine g_iload dX10_roads_141 rfl ?_
              refine g_iconst (v := 1) dX10_roads_143 rfl ?_
              refine g_iadd dX10_roads_144 ?_
              rw [nI_1, show 60 * i + (p + 3 * c) + 1 = 60 * i + (p + 3 * c + 1) from rfl]
              refine g_lald dX10_roads_145 (moA_89 h1) (vp_in_nI (by omega) (by decide)) ?_
              rw [nI_n (show 60 * i + (p + 3 * c + 1) < 2 ^ 31 by omega), hsh1.2.2 (p + 3 * c + 1) (by omega)]
              refine g_l2i dX10_roads_146 ?_
              refine g_iconst (v := 0) dX10_roads_147 rfl ?_
              refine g_bipush (v := 9) dX10_roads_148 rfl ?_
              refine g_cS3i dX10_roads_150 ml_X10_124 mi_X10_in ms_X10_in (Nat.le_of_ble_eq_true rfl) rfl (by omega) ?_
              refine c_X10_in (by omega) (fun b1 b2 => ?_) (fun nb => ?_)
              · refine g_if_eq (tgt := 176) dX10_roads_153 (by decide) (fun q => absurd q (by decide)) (fun _ => ?_)
                refine g_aload_n dX10_roads_156 rfl ?_
                refine g_getr dX10_roads_157 fl_X10_111 h1.1 (moR_89 h1) ?_
                refine g_iload dX10_roads_160 rfl ?_
                refine g_iconst (v := 2) dX10_roads_162 rfl ?_
                refine g_iadd dX10_roads_163 ?_
                rw [show (2 : Int32) = nI 2 from rfl, nI_add, show 60 * i + (p + 3 * c) + 2 = 60 * i + (p + 3 * c + 2) from rfl]
                refine g_lald dX10_roads_164 (moA_89 h1) (vp_in_nI (by omega) (by decide)) ?_
                rw [nI_n (show 60 * i + (p + 3 * c + 2) < 2 ^ 31 by omega), hsh1.2.2 (p + 3 * c + 2) (by omega)]
                refine g_l2i dX10_roads_165 ?_
                refine g_bipush (v := -99) dX10_roads_166 rfl ?_
                refine g_bipush (v := 99) dX10_roads_168 rfl ?_
                refine g_cS3i dX10_roads_170 ml_X10_124 mi_X10_in ms_X10_in (Nat.le_of_ble_eq_true rfl) rfl (by omega) ?_
                refine c_X10_in (by omega) (fun c1 c2 => ?_) (fun nc => ?_)
                · refine g_if_ne (tgt := 179) dX10_roads_173 (by decide) (fun _ => ?_) (fun q => absurd q (by decide))
                  refine g_aload_n dX10_roads_179 rfl ?_
                  refine g_aload_n dX10_roads_180 rfl ?_
                  refine g_getr dX10_roads_181 fl_X10_111 h1.1 (moR_89 h1) ?_
                  refine g_iload dX10_roads_184 rfl ?_
                  refine g_lald dX10_roads_186 (moA_89 h1) (vp_in_nI (by omega) (by decide)) ?_
                  rw [nI_n (show 60 * i + (p + 3 * c) < 2 ^ 31 by omega), hsh1.2.2 (p + 3 * c) (by omega)]
                  refine g_l2i dX10_roads_187 ?_
                  refine g_aload_n dX10_roads_188 rfl ?_
                  refine g_getr dX10_roads_189 fl_X10_111 h1.1 (moR_89 h1) ?_
                  refine g_iload dX10_roads_192 rfl ?_
                  refine g_iconst (v := 1) dX10_roads_194 rfl ?_
                  refine g_iadd dX10_roads_195 ?_
                  rw [nI_1, show 60 * i + (p + 3 * c) + 1 = 60 * i + (p + 3 * c + 1) from rfl]
                  refine g_lald dX10_roads_196 (moA_89 h1) (vp_in_nI (by omega) (by decide)) ?_
                  rw [nI_n (show 60 * i + (p + 3 * c + 1) < 2 ^ 31 by omega), hsh1.2.2 (p + 3 * c + 1) (by omega)]
                  refine g_l2i dX10_roads_197 ?_
                  refine g_aload_n dX10_roads_198 rfl ?_
                  refine g_getr dX10_roads_199 fl_X10_111 h1.1 (moR_89 h1) ?_
                  refine g_iload dX10_roads_202 rfl ?_
                  refine g_iconst (v := 2) dX10_roads_204 rfl ?_
                  refine g_iadd dX10_roads_205 ?_
                  rw [show (2 : Int32) = nI 2 from rfl, nI_add, show 60 * i + (p + 3 * c) + 2 = 60 * i + (p + 3 * c + 2) from rfl]
                  refine g_lald dX10_roads_206 (moA_89 h1) (vp_in_nI (by omega) (by decide)) ?_
                  rw [nI_n (show 60 * i + (p + 3 * c + 2) < 2 ^ 31 by omega), hsh1.2.2 (p + 3 * c + 2) (by omega)]
                  refine g_l2i dX10_roads_207 ?_
                  refine g_cV3i dX10_roads_208 ml_X10_132 mi_X10_addRoad mv_X10_addRoad h1.1 ⟨_, rfl, rfl⟩ (Nat.le_of_ble_eq_true rfl) rfl (by omega) ?_
                  refine c_X10_addRoad (by omega) h1 hx hn5 (fun w2 hs2 hx2 => ?_)
                  refine g_pop dX10_roads_211 rfl ?_
                  refine g_iinc dX10_roads_212 rfl rfl ?_
                  refine g_goto (tgt := 58) dX10_roads_215 (by decide) ?_
                  rw [me_rd_go (E := fun j => (C j).toInt32) (ln := ln) (p := p) (z := z) (c := c) (n := n) (f := f) ⟨hlt, hn5, fit0.mpr ⟨a1, a2⟩, fit1.mpr ⟨b1, b2⟩, fit2.mpr ⟨c1, c2⟩⟩] at kk
                  rw [nI_1']
                  exact ih (c + 1) (n + 1) _ _ _ _ w2 (by omega) (hs.tr hs2) hx2 kk
                · refine g_if_ne (tgt := 179) dX10_roads_173 (by decide) (fun q => absurd q (by decide)) (fun _ => ?_)
                  refine g_iload dX10_roads_176 rfl ?_
                  refine g_iret dX10_roads_178 rfl ⟨_, rfl, ?_⟩
                  rw [me_rd_stop (E := fun j => (C j).toInt32) (ln := ln) (p := p) (c := c) (n := n) (f := f) (z := z) (fun q => nc (fit2.mp q.2.2.2.2))] at kk
                  exact kk w1 hs hx
              · refine g_if_eq (tgt := 176) dX10_roads_153 (by decide) (fun _ => ?_) (fun q => absurd q (by decide))
                refine g_iload dX10_roads_176 rfl ?_
                refine g_iret dX10_roads_178 rfl ⟨_, rfl, ?_⟩
                rw [me_rd_stop (E := fun j => (C j).toInt32) (ln := ln) (p := p) (c := c) (n := n) (f := f) (z := z) (fun q => nb (fit1.mp q.2.2.2.1))] at kk
                exact kk w1 hs hx
            · refine g_if_eq (tgt := 176) dX10_roads_134 (by decide) (fun _ => ?_) (fun q => absurd q (by decide))
              refine g_iload dX10_roads_176 rfl ?_
              refine g_iret dX10_roads_178 rfl ⟨_, rfl, ?_⟩
              rw [me_rd_stop (E := fun j => (C j).toInt32) (ln := ln) (p := p) (c := c) (n := n) (f := f) (z := z) (fun q => na (fit0.mp q.2.2.1))] at kk
              exact kk w1 hs hx
          · refine g_iload dX10_roads_107 rfl ?_
            refine g_iret dX10_roads_109 rfl ⟨_, rfl, ?_⟩
            rw [me_rd_stop (E := fun j => (C j).toInt32) (ln := ln) (p := p) (c := c) (n := n) (f := f) (z := z) (fun q => by have := q.2.1; exact absurd (pI_inj (a := n) (b := 6) (by omega) (by decide) zc104) (by omega))] at kk
            exact kk w1 hs hx
theorem c_X10_roads {d : Nat} {w : gx_W} {f : Nat → Int32} {n : Nat} {ln : Nat → Nat} {C : Nat → Nat → Int64} {x y m : Int32} {k : Int32 → gx_W → Prop} (hd : 3 ≤ d) (h : moO w) (hx : mxD w f n) (hsh : ∀ i, i < 6 → w_a w 87 i = -2 → shM w i (ln i) (C i)) (k1 : (∀ i, i < 6 → x ≠ nI i) → k (-1) w) (k2 : (m < 1 ∨ 6 < m) → k (-1) w) (k3 : ∀ i, x = nI i → i < 6 → ¬ m < 1 → ¬ 6 < m → w_a w 87 i = -1 → k 0 w) (k4 : ∀ i, x = nI i → i < 6 → ¬ m < 1 → ¬ 6 < m → ¬ w_a w 87 i = -1 → ¬ w_a w 87 i = -2 → k (-12) w) (k5 : ∀ i M, x = nI i → i < 6 → m = nI M → 1 ≤ M → M ≤ 6 → w_a w 87 i = -2 → y < 0 → k 0 w) (k6 : ∀ i M p, x = nI i → i < 6 → m = nI M → 1 ≤ M → M ≤ 6 → w_a w 87 i = -2 → y = nI p → p < 2 ^ 31 → ∀ w', same [58, 59, 60, 61] [(57, 1)] w w' → mxD w' (me_rd (fun j => (C i j).toInt32) (ln i) p M 0 n f).2.2 (me_rd (fun j => (C i j).toInt32) (ln i) p M 0 n f).2.1 → k (nI (me_rd (fun j => (C i j).toInt32) (ln i) p M 0 n f).1) w') : gx_C 0 0 d mX10_roads [.ref 57, .int x, .int y, .int m] w (Qi k) := by
  refine gx_C_of' (L := [.ref 57, .int x, .int y, .int m, .retAddr 0, .retAddr 0, .retAddr 0, .retAddr 0]) (by decide +kernel) rfl (Nat.le_of_ble_eq_true rfl) ?_
  refine g_iload_n dX10_roads_0 rfl ?_
  refine g_cS1i dX10_roads_1 ml_X10_136 mi_X10_isShelf ms_X10_isShelf (Nat.le_of_ble_eq_true rfl) rfl (by omega) ?_
  refine c_X10_isShelf (by omega) (fun i ei hi => ?_) (fun nx => ?_)
  · refine g_if_eq (tgt := 17) dX10_roads_4 (by decide) (fun q => absurd q (by decide)) (fun _ => ?_)
    refine g_iload_n dX10_roads_7 rfl ?_
    refine g_iconst (v := 1) dX10_roads_8 rfl ?_
    refine g_bipush (v := 6) dX10_roads_9 rfl ?_
    refine g_cS3i dX10_roads_11 ml_X10_124 mi_X10_in ms_X10_in (Nat.le_of_ble_eq_true rfl) rfl (by omega) ?_
    refine c_X10_in (by omega) (fun a1 a2 => ?_) (fun na => ?_)
    · refine g_if_ne (tgt := 19) dX10_roads_14 (by decide) (fun _ => ?_) (fun q => absurd q (by decide))
      subst ei
      have hm1 : ¬ m < 1 := Int32.not_lt.mpr a1
      have hm2 : ¬ 6 < m := Int32.not_lt.mpr a2
      refine g_aload_n dX10_roads_19 rfl ?_
      refine g_getr dX10_roads_20 fl_X10_105 h.1 (moR_87 h) ?_
      refine g_iload_n dX10_roads_23 rfl ?_
      refine g_iald dX10_roads_24 (moA_87 h) (vp_in_nI (by omega) (by decide)) ?_
      rw [nI_n (show i < 2 ^ 31 by omega)]
      refine g_iconst (v := -1) dX10_roads_25 rfl ?_
      refine g_icmp_eq (tgt := 43) dX10_roads_26 (by decide) (fun zc26 => ?_) (fun zc26 => ?_)
      · refine g_aload_n dX10_roads_43 rfl ?_
        refine g_getr dX10_roads_44 fl_X10_105 h.1 (moR_87 h) ?_
        refine g_iload_n dX10_roads_47 rfl ?_
        refine g_iald dX10_roads_48 (moA_87 h) (vp_in_nI (by omega) (by decide)) ?_
        rw [nI_n (show i < 2 ^ 31 by omega)]
        refine g_iconst (v := -1) dX10_roads_49 rfl ?_
        refine g_icmp_ne (tgt := 55) dX10_roads_50 (by decide) (fun zc50 => ?_) (fun zc50 => ?_)
        · refine g_iconst (v := 0) dX10_roads_55 rfl ?_
          refine g_istore dX10_roads_56 (Nat.le_of_ble_eq_true rfl) rfl ?_
          exact absurd zc26 zc50
        · refine g_iconst (v := 0) dX10_roads_53 rfl ?_
          refine g_iret dX10_roads_54 rfl ⟨_, rfl, ?_⟩
          exact k3 i rfl hi hm1 hm2 zc26
      · refine g_aload_n dX10_roads_29 rfl ?_
        refine g_getr dX10_roads_30 fl_X10_105 h.1 (moR_87 h) ?_
        refine g_iload_n dX10_roads_33 rfl ?_
        refine g_iald dX10_roads_34 (moA_87 h) (vp_in_nI (by omega) (by decide)) ?_
        rw [nI_n (show i < 2 ^ 31 by omega)]
        refine g_bipush (v := -2) dX10_roads_35 rfl ?_
        refine g_icmp_eq (tgt := 43) dX10_roads_37 (by decide) (fun zc37 => ?_) (fun zc37 => ?_)
        · refine g_aload_n dX10_roads_43 rfl ?_
          refine g_getr dX10_roads_44 fl_X10_105 h.1 (moR_87 h) ?_
          refine g_iload_n dX10_roads_47 rfl ?_
          refine g_iald dX10_roads_48 (moA_87 h) (vp_in_nI (by omega) (by decide)) ?_
          rw [nI_n (show i < 2 ^ 31 by omega)]
          refine g_iconst (v := -1) dX10_roads_49 rfl ?_
          refine g_icmp_ne (tgt := 55) dX10_roads_50 (by decide) (fun zc50 => ?_) (fun zc50 => ?_)
          · refine g_iconst (v := 0) dX10_roads_55 rfl ?_
            refine g_istore dX10_roads_56 (Nat.le_of_ble_eq_true rfl) rfl ?_
            obtain ⟨M, hM6, eM⟩ := nI_of2 (M := 6) (n := 6) (by decide) (fun q => absurd (Int32.lt_trans q (show (0 : Int32) < 1 by decide)) hm1) (Int32.not_lt.mp hm2)
            have hM1 : 1 ≤ M := by
              rcases Nat.eq_zero_or_pos M with e | e
              · subst e; subst eM; exact absurd (show nI 0 < 1 by decide) hm1
              · exact e
            subst eM
            by_cases hy : y < 0
            · exact l_X10_roadsN hM1 hM6 hy (k5 i M rfl hi rfl hM1 hM6 zc37 hy)
            · obtain ⟨p, hp, ep⟩ := nI_of hy
              subst ep
              exact l_X10_roads (by omega) h hi (hsh i hi zc37) hp hM6 M 0 n f _ _ _ w (Nat.zero_add _) same.rf hx (k6 i M p rfl hi rfl hM1 hM6 zc37 rfl hp)
          · refine g_iconst (v := 0) dX10_roads_53 rfl ?_
            refine g_iret dX10_roads_54 rfl ⟨_, rfl, ?_⟩
            exact absurd (zc37.symm.trans zc50) (by decide)
        · refine g_bipush (v := -12) dX10_roads_40 rfl ?_
          refine g_iret dX10_roads_42 rfl ⟨_, rfl, ?_⟩
          exact k4 i rfl hi hm1 hm2 zc26 zc37
    · refine g_if_ne (tgt := 19) dX10_roads_14 (by decide) (fun q => absurd q (by decide)) (fun _ => ?_)
      refine g_iconst (v := -1) dX10_roads_17 rfl ?_
      refine g_iret dX10_roads_18 rfl ⟨_, rfl, ?_⟩
      exact k2 (by
        rcases Decidable.em (m < 1) with q | q
        · exact Or.inl q
        · refine Or.inr ?_
          rw [pI_lt] at q ⊢
          rw [pI_le, pI_le] at na
          omega)
  · refine g_if_eq (tgt := 17) dX10_roads_4 (by decide) (fun _ => ?_) (fun q => absurd q (by decide))
    refine g_iconst (v := -1) dX10_roads_17 rfl ?_
    refine g_iret dX10_roads_18 rfl ⟨_, rfl, ?_⟩
    exact k1 nx
theorem cpy_0 {α : Type} {f g : Nat → α} {sp dp : Nat} : va_cpy f g sp dp 0 = g := by
  funext j
  unfold va_cpy
  rw [if_neg (by omega)]
theorem cpy_s {α : Type} {f g : Nat → α} {sp dp t : Nat} : va_up (va_cpy f g sp dp t) (dp + t) (f (sp + t)) = va_cpy f g sp dp (t + 1) := by
  funext j
  rw [up_at]
  unfold va_cpy
  by_cases e : j = dp + t
  · rw [if_pos e, if_pos (by omega), show sp + (j - dp) = sp + t by omega]
  · rw [if_neg e]
    by_cases q : dp ≤ j ∧ j < dp + t
    · rw [if_pos q, if_pos (by omega)]
    · rw [if_neg q, if_neg (by omega)]
theorem cpy_at {α : Type} {f g : Nat → α} {sp t m : Nat} (h : t < m) : va_cpy f g sp 0 m t = f (sp + t) := by
  unfold va_cpy
  rw [if_pos (by omega), Nat.sub_zero]
theorem l_X10_shift1 {d i o p q m : Nat} {w : gx_W} {k : Int32 → gx_W → Prop} (h : moO w) (hi : i < 6) (hpm : p + m ≤ 60) (kk : gx_G 0 0 d mX10_shift (Qi k) 147 [.ref 57, .int (nI i), .int (nI p), .int (nI o), .int (nI q), .int (nI m), .int (nI m)] [] (s_l w 90 (va_cpy (w_l w 89) (w_l w 90) (60 * i + p) 0 m))) : ∀ z t : Nat, t + z = m → gx_G 0 0 d mX10_shift (Qi k) 113 [.ref 57, .int (nI i), .int (nI p), .int (nI o), .int (nI q), .int (nI m), .int (nI t)] [] (s_l w 90 (va_cpy (w_l w 89) (w_l w 90) (60 * i + p) 0 t)) := by
  intro z
  induction z with
  | zero =>
    intro t ht
    have e : t = m := by omega
    subst e
    refine g_iload dX10_shift_113 rfl ?_
    refine g_iload dX10_shift_115 rfl ?_
    refine g_icmp_ge (tgt := 147) dX10_shift_117 (by decide) (fun zc117 => ?_) (fun zc117 => ?_)
    · exact kk
    · exact absurd (Int32.le_refl _) zc117
  | succ z ih =>
    intro t ht
    have ihs := ih (t + 1) (by omega)
    refine g_iload dX10_shift_113 rfl ?_
    refine g_iload dX10_shift_115 rfl ?_
    refine g_icmp_ge (tgt := 147) dX10_shift_117 (by decide) (fun zc117 => ?_) (fun zc117 => ?_)
    · exact absurd zc117 (nI_ge (by omega) (by omega))
    · refine g_aload_n dX10_shift_120 rfl ?_
      refine g_getr dX10_shift_121 fl_X10_115 h.1 (moR_90 h) ?_
      refine g_iload dX10_shift_124 rfl ?_
      refine g_aload_n dX10_shift_126 rfl ?_
      refine g_getr dX10_shift_127 fl_X10_111 h.1 (moR_89 h) ?_
      refine g_bipush (v := 60) dX10_shift_130 rfl ?_
      refine g_iload_n dX10_shift_132 rfl ?_
      refine g_imul dX10_shift_133 ?_
      refine g_iload_n dX10_shift_134 rfl ?_
      refine g_iadd dX10_shift_135 ?_
      refine g_iload dX10_shift_136 rfl ?_
      refine g_iadd dX10_shift_138 ?_
      rw [z60a, nI_add, nI_add]
      refine g_lald dX10_shift_139 (moA_89 h) (vp_in_nI (by omega) (by decide)) ?_
      rw [nI_n (show 60 * i + p + t < 2 ^ 31 by omega), show w_l (s_l w 90 (va_cpy (w_l w 89) (w_l w 90) (60 * i + p) 0 t)) 89 = w_l w 89 from rfl]
      refine g_last dX10_shift_140 (moA_90 h) (vp_in_nI (by omega) (by decide)) ?_
      rw [nI_n (show t < 2 ^ 31 by omega), show w_l (s_l w 90 (va_cpy (w_l w 89) (w_l w 90) (60 * i + p) 0 t)) 90 = va_cpy (w_l w 89) (w_l w 90) (60 * i + p) 0 t from by rw [wl_sl, if_pos rfl], s_l_l, show va_up (va_cpy (w_l w 89) (w_l w 90) (60 * i + p) 0 t) t (w_l w 89 (60 * i + p + t)) = va_cpy (w_l w 89) (w_l w 90) (60 * i + p) 0 (t + 1) from by
        have y := cpy_s (f := w_l w 89) (g := w_l w 90) (sp := 60 * i + p) (dp := 0) (t := t)
        rw [Nat.zero_add] at y
        exact y]
      refine g_iinc dX10_shift_141 rfl rfl ?_
      refine g_goto (tgt := 113) dX10_shift_144 (by decide) ?_
      rw [nI_1']
      exact ihs
theorem l_X10_shift2 {d i o p q m : Nat} {w : gx_W} {k : Int32 → gx_W → Prop} {S : Nat → Int64} (h : moO w) (ho : o < 6) (hpm : q + m ≤ 60) (hS : ∀ t, t < m → w_l w 90 t = S (60 * i + p + t)) (kk : k (nI m) (s_l w 89 (va_cpy S (w_l w 89) (60 * i + p) (60 * o + q) m))) : ∀ z t : Nat, t + z = m → gx_G 0 0 d mX10_shift (Qi k) 150 [.ref 57, .int (nI i), .int (nI p), .int (nI o), .int (nI q), .int (nI m), .int (nI t)] [] (s_l w 89 (va_cpy S (w_l w 89) (60 * i + p) (60 * o + q) t)) := by
  intro z
  induction z with
  | zero =>
    intro t ht
    have e : t = m := by omega
    subst e
    refine g_iload dX10_shift_150 rfl ?_
    refine g_iload dX10_shift_152 rfl ?_
    refine g_icmp_ge (tgt := 185) dX10_shift_154 (by decide) (fun zc154 => ?_) (fun zc154 => ?_)
    · refine g_iload dX10_shift_185 rfl ?_
      refine g_iret dX10_shift_187 rfl ⟨_, rfl, ?_⟩
      exact kk
    · exact absurd (Int32.le_refl _) zc154
  | succ z ih =>
    intro t ht
    have ihs := ih (t + 1) (by omega)
    refine g_iload dX10_shift_150 rfl ?_
    refine g_iload dX10_shift_152 rfl ?_
    refine g_icmp_ge (tgt := 185) dX10_shift_154 (by decide) (fun zc154 => ?_) (fun zc154 => ?_)
    · exact absurd zc154 (nI_ge (by omega) (by omega))
    · refine g_aload_n dX10_shift_157 rfl ?_
      refine g_getr dX10_shift_158 fl_X10_111 h.1 (moR_89 h) ?_
      refine g_bipush (v := 60) dX10_shift_161 rfl ?_
      refine g_iload_n dX10_shift_163 rfl ?_
      refine g_imul dX10_shift_164 ?_
      refine g_iload dX10_shift_165 rfl ?_
      refine g_iadd dX10_shift_167 ?_
      refine g_iload dX10_shift_168 rfl ?_
      refine g_iadd dX10_shift_170 ?_
      rw [z60a, nI_add, nI_add]
      refine g_aload_n dX10_shift_171 rfl ?_
      refine g_getr dX10_shift_172 fl_X10_115 h.1 (moR_90 h) ?_
      refine g_iload dX10_shift_175 rfl ?_
      refine g_lald dX10_shift_177 (moA_90 h) (vp_in_nI (by omega) (by decide)) ?_
      rw [nI_n (show t < 2 ^ 31 by omega), show w_l (s_l w 89 (va_cpy S (w_l w 89) (60 * i + p) (60 * o + q) t)) 90 = w_l w 90 from rfl, hS t (by omega)]
      refine g_last dX10_shift_178 (moA_89 h) (vp_in_nI (by omega) (by decide)) ?_
      rw [nI_n (show 60 * o + q + t < 2 ^ 31 by omega), show w_l (s_l w 89 (va_cpy S (w_l w 89) (60 * i + p) (60 * o + q) t)) 89 = va_cpy S (w_l w 89) (60 * i + p) (60 * o + q) t from by rw [wl_sl, if_pos rfl], s_l_l, cpy_s]
      refine g_iinc dX10_shift_179 rfl rfl ?_
      refine g_goto (tgt := 150) dX10_shift_182 (by decide) ?_
      rw [nI_1']
      exact ihs
theorem sh_gt {s m : Nat} {a : Int32} {n : Int32} (hs : s ≤ 60) (hn : n = nI m) (hm : m < 2 ^ 31) : (nI s - n < a ↔ (s : Int) - m < a.toInt) := by
  subst hn
  have e : (nI s - nI m).toInt = (s : Int) - m := by
    rw [pI_sub (by rw [nI_toInt (by omega), nI_toInt hm]; omega) (by rw [nI_toInt (by omega), nI_toInt hm]; omega), nI_toInt (by omega), nI_toInt hm]
  rw [pI_lt, e]
theorem sh_le {s m : Nat} {a : Int32} {n : Int32} (hs : s ≤ 60) (hn : n = nI m) (hm : m < 2 ^ 31) : (a ≤ nI s - n ↔ a.toInt ≤ (s : Int) - m) := by
  subst hn
  have e : (nI s - nI m).toInt = (s : Int) - m := by
    rw [pI_sub (by rw [nI_toInt (by omega), nI_toInt hm]; omega) (by rw [nI_toInt (by omega), nI_toInt hm]; omega), nI_toInt (by omega), nI_toInt hm]
  rw [pI_le, e]
theorem c_X10_shift {d : Nat} {w : gx_W} {ln : Nat → Nat} {x a y b c : Int32} {k : Int32 → gx_W → Prop} (hd : 2 ≤ d) (h : moO w) (hsz : ∀ i, i < 6 → ¬ w_a w 87 i = -1 → w_a w 87 i < 0 → w_a w 88 i = nI (ln i) ∧ ln i ≤ 60) (k1 : ((∀ i, i < 6 → x ≠ nI i) ∨ ∀ i, i < 6 → y ≠ nI i) → k (-1) w) (k2 : ∀ i j, x = nI i → i < 6 → y = nI j → j < 6 → (w_a w 87 i = -1 ∨ w_a w 87 j = -1) → k (-11) w) (k4 : ∀ i j, x = nI i → i < 6 → y = nI j → j < 6 → ¬ w_a w 87 i = -1 → ¬ w_a w 87 j = -1 → ¬ (w_a w 87 i < 0 ∧ w_a w 87 i = w_a w 87 j) → k (-12) w) (k5 : ∀ i j, x = nI i → i < 6 → y = nI j → j < 6 → ¬ w_a w 87 i = -1 → w_a w 87 i < 0 → w_a w 87 i = w_a w 87 j → (∀ p q m, a = nI p → b = nI q → c = nI m → p + m ≤ ln i → q + m ≤ ln j → False) → k (-13) w) (k6 : ∀ i j, x = nI i → i < 6 → y = nI j → j < 6 → ¬ w_a w 87 i = -1 → w_a w 87 i < 0 → w_a w 87 i = w_a w 87 j → ∀ p q m, a = nI p → b = nI q → c = nI m → p + m ≤ ln i → q + m ≤ ln j → ∀ w', same [89, 90] [] w w' → w_l w' 89 = va_cpy (w_l w 89) (w_l w 89) (60 * i + p) (60 * j + q) m → k c w') : gx_C 0 0 d mX10_shift [.ref 57, .int x, .int a, .int y, .int b, .int c] w (Qi k) := by
  refine gx_C_of' (L := [.ref 57, .int x, .int a, .int y, .int b, .int c, .retAddr 0]) (by decide +kernel) rfl (Nat.le_of_ble_eq_true rfl) ?_
  refine g_iload_n dX10_shift_0 rfl ?_
  refine g_cS1i dX10_shift_1 ml_X10_136 mi_X10_isShelf ms_X10_isShelf (Nat.le_of_ble_eq_true rfl) rfl (by omega) ?_
  refine c_X10_isShelf (by omega) (fun i ei hi => ?_) (fun nx => ?_)
  · refine g_if_eq (tgt := 14) dX10_shift_4 (by decide) (fun q => absurd q (by decide)) (fun _ => ?_)
    refine g_iload_n dX10_shift_7 rfl ?_
    refine g_cS1i dX10_shift_8 ml_X10_136 mi_X10_isShelf ms_X10_isShelf (Nat.le_of_ble_eq_true rfl) rfl (by omega) ?_
    refine c_X10_isShelf (by omega) (fun o eo ho => ?_) (fun ny => ?_)
    · refine g_if_ne (tgt := 16) dX10_shift_11 (by decide) (fun _ => ?_) (fun q => absurd q (by decide))
      subst ei
      subst eo
      refine g_aload_n dX10_shift_16 rfl ?_
      refine g_getr dX10_shift_17 fl_X10_105 h.1 (moR_87 h) ?_
      refine g_iload_n dX10_shift_20 rfl ?_
      refine g_iald dX10_shift_21 (moA_87 h) (vp_in_nI (by omega) (by decide)) ?_
      rw [nI_n (show i < 2 ^ 31 by omega)]
      refine g_iconst (v := -1) dX10_shift_22 rfl ?_
      refine g_icmp_eq (tgt := 36) dX10_shift_23 (by decide) (fun zc23 => ?_) (fun zc23 => ?_)
      · refine g_bipush (v := -11) dX10_shift_36 rfl ?_
        refine g_iret dX10_shift_38 rfl ⟨_, rfl, ?_⟩
        exact k2 i o rfl hi rfl ho (Or.inl zc23)
      · refine g_aload_n dX10_shift_26 rfl ?_
        refine g_getr dX10_shift_27 fl_X10_105 h.1 (moR_87 h) ?_
        refine g_iload_n dX10_shift_30 rfl ?_
        refine g_iald dX10_shift_31 (moA_87 h) (vp_in_nI (by omega) (by decide)) ?_
        rw [nI_n (show o < 2 ^ 31 by omega)]
        refine g_iconst (v := -1) dX10_shift_32 rfl ?_
        refine g_icmp_ne (tgt := 39) dX10_shift_33 (by decide) (fun zc33 => ?_) (fun zc33 => ?_)
        · refine g_aload_n dX10_shift_39 rfl ?_
          refine g_getr dX10_shift_40 fl_X10_105 h.1 (moR_87 h) ?_
          refine g_iload_n dX10_shift_43 rfl ?_
          refine g_iald dX10_shift_44 (moA_87 h) (vp_in_nI (by omega) (by decide)) ?_
          rw [nI_n (show i < 2 ^ 31 by omega)]
          refine g_if_ge (tgt := 63) dX10_shift_45 (by decide) (fun zc45 => ?_) (fun zc45 => ?_)
          · refine g_bipush (v := -12) dX10_shift_63 rfl ?_
            refine g_iret dX10_shift_65 rfl ⟨_, rfl, ?_⟩
            exact k4 i o rfl hi rfl ho zc23 zc33 (fun q => absurd q.1 (Int32.not_lt.mpr zc45))
          · refine g_aload_n dX10_shift_48 rfl ?_
            refine g_getr dX10_shift_49 fl_X10_105 h.1 (moR_87 h) ?_
            refine g_iload_n dX10_shift_52 rfl ?_
            refine g_iald dX10_shift_53 (moA_87 h) (vp_in_nI (by omega) (by decide)) ?_
            rw [nI_n (show i < 2 ^ 31 by omega)]
            refine g_aload_n dX10_shift_54 rfl ?_
            refine g_getr dX10_shift_55 fl_X10_105 h.1 (moR_87 h) ?_
            refine g_iload_n dX10_shift_58 rfl ?_
            refine g_iald dX10_shift_59 (moA_87 h) (vp_in_nI (by omega) (by decide)) ?_
            rw [nI_n (show o < 2 ^ 31 by omega)]
            refine g_icmp_eq (tgt := 66) dX10_shift_60 (by decide) (fun zc60 => ?_) (fun zc60 => ?_)
            · have hi1 := zc23
              have ho1 := zc33
              have hi2 : w_a w 87 i < 0 := Int32.not_le.mp zc45
              have hoo : w_a w 87 i = w_a w 87 o := zc60
              have ho2 : w_a w 87 o < 0 := by rw [← hoo]; exact hi2
              have s1 := (hsz i hi hi1 hi2).2
              have s2 := (hsz o ho ho1 ho2).2
              refine g_iload dX10_shift_66 rfl ?_
              refine g_if_lt (tgt := 107) dX10_shift_68 (by decide) (fun zc68 => ?_) (fun zc68 => ?_)
              · refine g_bipush (v := -13) dX10_shift_107 rfl ?_
                refine g_iret dX10_shift_109 rfl ⟨_, rfl, ?_⟩
                exact k5 i o rfl hi rfl ho hi1 hi2 hoo (fun p q m ea eb ec h1 h2 => by rw [ec] at zc68; exact absurd zc68 (nI_pos (by omega)))
              · refine g_iload_n dX10_shift_71 rfl ?_
                refine g_if_lt (tgt := 107) dX10_shift_72 (by decide) (fun zc72 => ?_) (fun zc72 => ?_)
                · refine g_bipush (v := -13) dX10_shift_107 rfl ?_
                  refine g_iret dX10_shift_109 rfl ⟨_, rfl, ?_⟩
                  exact k5 i o rfl hi rfl ho hi1 hi2 hoo (fun p q m ea eb ec h1 h2 => by rw [ea] at zc72; exact absurd zc72 (nI_pos (by omega)))
                · refine g_iload dX10_shift_75 rfl ?_
                  refine g_if_lt (tgt := 107) dX10_shift_77 (by decide) (fun zc77 => ?_) (fun zc77 => ?_)
                  · refine g_bipush (v := -13) dX10_shift_107 rfl ?_
                    refine g_iret dX10_shift_109 rfl ⟨_, rfl, ?_⟩
                    exact k5 i o rfl hi rfl ho hi1 hi2 hoo (fun p q m ea eb ec h1 h2 => by rw [eb] at zc77; exact absurd zc77 (nI_pos (by omega)))
                  · refine g_iload_n dX10_shift_80 rfl ?_
                    refine g_aload_n dX10_shift_81 rfl ?_
                    refine g_getr dX10_shift_82 fl_X10_108 h.1 (moR_88 h) ?_
                    refine g_iload_n dX10_shift_85 rfl ?_
                    refine g_iald dX10_shift_86 (moA_88 h) (vp_in_nI (by omega) (by decide)) ?_
                    rw [nI_n (show i < 2 ^ 31 by omega), (hsz i hi hi1 hi2).1]
                    refine g_iload dX10_shift_87 rfl ?_
                    refine g_isub dX10_shift_89 ?_
                    refine g_icmp_gt (tgt := 107) dX10_shift_90 (by decide) (fun zc90 => ?_) (fun zc90 => ?_)
                    · refine g_bipush (v := -13) dX10_shift_107 rfl ?_
                      refine g_iret dX10_shift_109 rfl ⟨_, rfl, ?_⟩
                      exact k5 i o rfl hi rfl ho hi1 hi2 hoo (fun p q m ea eb ec h1 h2 => by
                          rw [sh_gt (hsz i hi hi1 hi2).2 ec (by omega), ea, nI_toInt (by omega)] at zc90
                          omega)
                    · refine g_iload dX10_shift_93 rfl ?_
                      refine g_aload_n dX10_shift_95 rfl ?_
                      refine g_getr dX10_shift_96 fl_X10_108 h.1 (moR_88 h) ?_
                      refine g_iload_n dX10_shift_99 rfl ?_
                      refine g_iald dX10_shift_100 (moA_88 h) (vp_in_nI (by omega) (by decide)) ?_
                      rw [nI_n (show o < 2 ^ 31 by omega), (hsz o ho ho1 ho2).1]
                      refine g_iload dX10_shift_101 rfl ?_
                      refine g_isub dX10_shift_103 ?_
                      refine g_icmp_le (tgt := 110) dX10_shift_104 (by decide) (fun zc104 => ?_) (fun zc104 => ?_)
                      · refine g_iconst (v := 0) dX10_shift_110 rfl ?_
                        refine g_istore dX10_shift_111 (Nat.le_of_ble_eq_true rfl) rfl ?_
                        obtain ⟨m, hm, em⟩ := nI_of zc68
                        obtain ⟨p, hp, ep⟩ := nI_of zc72
                        obtain ⟨q, hq, eq⟩ := nI_of zc77
                        have hpm : p + m ≤ ln i := by
                          rw [sh_gt s1 em hm, ep, nI_toInt hp] at zc90
                          omega
                        have hqm : q + m ≤ ln o := by
                          rw [sh_le s2 em hm, eq, nI_toInt hq] at zc104
                          omega
                        subst em
                        subst ep
                        subst eq
                        have hI : moO (s_l w 90 (va_cpy (w_l w 89) (w_l w 90) (60 * i + p) 0 m)) := h
                        have K := l_X10_shift1 (d := d) (i := i) (o := o) (p := p) (q := q) (m := m) (k := k) h hi (by omega) ?_ m 0 (Nat.zero_add _)
                        · rw [cpy_0, s_l_id] at K
                          exact K
                        refine g_iconst (v := 0) dX10_shift_147 rfl ?_
                        refine g_istore dX10_shift_148 (Nat.le_of_ble_eq_true rfl) rfl ?_
                        have K := l_X10_shift2 (d := d) (i := i) (o := o) (p := p) (q := q) (m := m) (k := k) (S := w_l w 89) hI ho (by omega) (fun t ht => ?_) ?_ m 0 (Nat.zero_add _)
                        · rw [cpy_0, s_l_id] at K
                          exact K
                        · show va_cpy (w_l w 89) (w_l w 90) (60 * i + p) 0 m t = _
                          exact cpy_at ht
                        · refine k6 i o rfl hi rfl ho hi1 hi2 hoo p q m rfl rfl rfl hpm hqm _ ((same.rf.sl (by simp)).sl (by simp)) ?_
                          rw [wl_sl, if_pos rfl]
                          rfl
                      · refine g_bipush (v := -13) dX10_shift_107 rfl ?_
                        refine g_iret dX10_shift_109 rfl ⟨_, rfl, ?_⟩
                        exact k5 i o rfl hi rfl ho hi1 hi2 hoo (fun p q m ea eb ec h1 h2 => by
                            rw [sh_le (hsz o ho ho1 ho2).2 ec (by omega), eb, nI_toInt (by omega)] at zc104
                            omega)
            · refine g_bipush (v := -12) dX10_shift_63 rfl ?_
              refine g_iret dX10_shift_65 rfl ⟨_, rfl, ?_⟩
              exact k4 i o rfl hi rfl ho zc23 zc33 (fun q => zc60 q.2)
        · refine g_bipush (v := -11) dX10_shift_36 rfl ?_
          refine g_iret dX10_shift_38 rfl ⟨_, rfl, ?_⟩
          exact k2 i o rfl hi rfl ho (Or.inr zc33)
    · refine g_if_ne (tgt := 16) dX10_shift_11 (by decide) (fun q => absurd q (by decide)) (fun _ => ?_)
      refine g_iconst (v := -1) dX10_shift_14 rfl ?_
      refine g_iret dX10_shift_15 rfl ⟨_, rfl, ?_⟩
      exact k1 (Or.inr ny)
  · refine g_if_eq (tgt := 14) dX10_shift_4 (by decide) (fun _ => ?_) (fun q => absurd q (by decide))
    refine g_iconst (v := -1) dX10_shift_14 rfl ?_
    refine g_iret dX10_shift_15 rfl ⟨_, rfl, ?_⟩
    exact k1 (Or.inl nx)

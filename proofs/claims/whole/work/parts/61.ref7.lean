/-! The reference: goDay, hasAll, wrongTwo -/
theorem dyS.same {w w' : gx_W} {n N : Nat} {sg va : Nat → Int32} {s : thS} (h : dyS w n N sg va s) {R : List Nat} (hs : same R [] w w') (hR : ∀ k, k ∈ R → k = 73 ∨ k = 74) : dyS w' n N sg va s := by
  obtain ⟨h1, h2, h3, h4, h5⟩ := h
  have e : ∀ k, 75 ≤ k → w_a w' k = w_a w k := fun k hk => (hs.2.2.2.1 k (fun q => by have := hR k q; omega)).1
  exact ⟨h1.same hs (by simp) (fun k q => by have := hR k q; omega), by rw [e 76 (by decide)]; exact h2, by rw [e 77 (by decide)]; exact h3, by rw [e 78 (by decide)]; exact h4, (hs.2.1 57 31 (by simp)).trans h5⟩
set_option maxHeartbeats 4000000 in
theorem l_X10_goDay3 {d n N i ln M : Nat} {w : gx_W} {f sg va : Nat → Int32} {C : Nat → Int64} {x2 : Int32} {k : gx_W → Prop} (hd : 7 ≤ d) (hi6 : i < 6) (hsh : shM w i ln C) (hM : M ≤ ln) (hco : ∀ j, j < M → isCo (C j).toInt32 = true) (hn6 : n ≤ 6) (kk : ∀ w', same [73, 74, 75, 76, 77, 78] [(57, 31)] w w' → dyS w' n N sg va (th_day N sg va n (fun j => (C j).toInt32.toNatClampNeg) M (th_00 f)) → k w') : ∀ (z j : Nat) (x5 : Value) (w1 : gx_W), j + z = M → same [73, 74, 75, 76, 77, 78] [(57, 31)] w w1 → dyS w1 n N sg va (th_day N sg va n (fun j => (C j).toInt32.toNatClampNeg) j (th_00 f)) → gx_G 0 0 d mX10_goDay (Qv k) 63 [.ref 57, .int (nI i), .int x2, .int (nI M), .int (nI j), x5] [] w1 := by
  intro z
  have hln := hsh.2.1
  induction z with
  | zero =>
    intro j x5 w1 hj hs hI
    have e : j = M := by omega
    subst e
    refine g_iload dX10_goDay_63 rfl ?_
    refine g_iload_n dX10_goDay_65 rfl ?_
    refine g_icmp_ge (tgt := 185) dX10_goDay_66 (by decide) (fun zc66 => ?_) (fun zc66 => ?_)
    · refine g_vret dX10_goDay_185 rfl ⟨rfl, ?_⟩
      exact kk w1 hs hI
    · exact absurd (Int32.le_refl _) zc66
  | succ z ih =>
    intro j x5 w1 hj hs hI
    have hjM : j < M := by omega
    have hsh1 := hsh.same hs (by simp)
    obtain ⟨hc1, hc2⟩ := isCo_val (hco j hjM)
    have hiv := (dyI.day (N := N) (sg := sg) (va := va) (C := (fun j => (C j).toInt32.toNatClampNeg)) hn6 (dyI_0 n f)) j (by omega)
    generalize hS : (th_day N sg va n (fun j => (C j).toInt32.toNatClampNeg) j (th_00 f)) = S at hI hiv
    have hday : (th_day N sg va n (fun j => (C j).toInt32.toNatClampNeg) (j + 1) (th_00 f)) = th_go N sg va n S (C j).toInt32.toNatClampNeg := by rw [← hS]; rfl
    refine g_iload dX10_goDay_63 rfl ?_
    refine g_iload_n dX10_goDay_65 rfl ?_
    refine g_icmp_ge (tgt := 185) dX10_goDay_66 (by decide) (fun zc66 => ?_) (fun zc66 => ?_)
    · exact absurd zc66 (nI_ge (by omega) (by omega))
    · refine g_aload_n dX10_goDay_69 rfl ?_
      refine g_aload_n dX10_goDay_70 rfl ?_
      refine g_aload_n dX10_goDay_71 rfl ?_
      refine g_iload_n dX10_goDay_72 rfl ?_
      refine g_iload dX10_goDay_73 rfl ?_
      refine g_cV2i dX10_goDay_75 ml_X10_262 mi_X10_at mv_X10_at hI.1.1.1 ⟨_, rfl, rfl⟩ (Nat.le_of_ble_eq_true rfl) rfl (by omega) ?_
      refine c_X10_at (by omega) hI.1.1 hi6 (show j < 60 by omega) ?_
      rw [hsh1.2.2 j (by omega), hc1]
      refine g_cV1i dX10_goDay_78 ml_X10_271 mi_X10_goComer mv_X10_goComer hI.1.1.1 ⟨_, rfl, rfl⟩ (Nat.le_of_ble_eq_true rfl) rfl (by omega) ?_
      refine c_X10_goComer (by omega) hI.1 hc2 (fun w2 hs2 h2 => ?_)
      refine g_puti dX10_goDay_81 fl_X10_265 ft_10_31 h2.1.1 ?_
      refine g_aload_n dX10_goDay_84 rfl ?_
      refine g_geti dX10_goDay_85 fl_X10_265 h2.1.1 ?_
      rw [wi_si, if_pos ⟨rfl, rfl⟩]
      have hH : cr_has N sg va S.1 n (C j).toInt32.toNatClampNeg = cr_has N sg va S.1 n (C j).toInt32.toNatClampNeg := rfl
      refine g_if_ge (tgt := 94) dX10_goDay_88 (by decide) (fun zc88 => ?_) (fun zc88 => ?_)
      · obtain ⟨t, ht, et⟩ : ∃ t, t < n ∧ cr_has N sg va S.1 n (C j).toInt32.toNatClampNeg = nI t := by
          rcases cr_has_cases (N := N) (sg := sg) (va := va) (f := S.1) (c := (C j).toInt32.toNatClampNeg) hn6 with z3 | z3
          · rw [z3] at zc88; exact absurd zc88 (by decide)
          · exact z3
        rw [et]
        rw [me_nx_B (by omega) et] at h2
        have hgo : th_go N sg va n S (C j).toInt32.toNatClampNeg = th_B n t S := by
          unfold th_go
          rw [et, if_neg (nI_pos (by omega)), nI_n (by omega)]
        obtain ⟨hv0, hiv2⟩ := hiv
        obtain ⟨u, u1, u2, u3⟩ := hiv2 t ht
        have a76 : w_a (s_i w2 57 31 (nI t)) 76 = w_a w1 76 := (hs2.2.2.2.1 76 (by simp)).1
        have a77 : w_a (s_i w2 57 31 (nI t)) 77 = w_a w1 77 := (hs2.2.2.2.1 77 (by simp)).1
        have a78 : w_a (s_i w2 57 31 (nI t)) 78 = w_a w1 78 := (hs2.2.2.2.1 78 (by simp)).1
        have s3 : same [73, 74, 75, 76, 77, 78] [(57, 31)] w (s_i w2 57 31 (nI t)) := (hs.tr (hs2.wk (by simp) (by simp))).si (by simp)
        have eI : w_i (s_i w2 57 31 (nI t)) 57 31 = nI t := by rw [wi_si, if_pos ⟨rfl, rfl⟩]
        refine g_aload_n dX10_goDay_94 rfl ?_
        refine g_getr dX10_goDay_95 fl_X10_68 h2.1.1 (moR_76 h2.1) ?_
        refine g_aload_n dX10_goDay_98 rfl ?_
        refine g_geti dX10_goDay_99 fl_X10_265 h2.1.1 ?_
        rw [eI]
        refine g_iald dX10_goDay_102 (moA_76 h2.1) (vp_in_nI (by omega) (by decide)) ?_
        rw [nI_n (show t < 2 ^ 31 by omega), a76, hI.2.1 t ht, u2]
        refine g_if_ne (tgt := 117) dX10_goDay_103 (by decide) (fun zc103 => ?_) (fun zc103 => ?_)
        · refine g_aload_n dX10_goDay_117 rfl ?_
          refine g_getr dX10_goDay_118 fl_X10_68 h2.1.1 (moR_76 h2.1) ?_
          refine g_aload_n dX10_goDay_121 rfl ?_
          refine g_geti dX10_goDay_122 fl_X10_265 h2.1.1 ?_
          refine g_dup2 dX10_goDay_125 rfl rfl ?_
          rw [show w_i (s_i w2 57 31 (nI t)) 57 31 = nI t from eI]
          refine g_iald dX10_goDay_126 (moA_76 h2.1) (vp_in_nI (by omega) (by decide)) ?_
          rw [nI_n (show t < 2 ^ 31 by omega), show w_a (s_i w2 57 31 (nI t)) 76 t = nI u from by rw [a76, hI.2.1 t ht, u2]]
          refine g_iconst (v := 1) dX10_goDay_127 rfl ?_
          refine g_iadd dX10_goDay_128 ?_
          refine g_iast dX10_goDay_129 (moA_76 h2.1) (vp_in_nI (by omega) (by decide)) ?_
          rw [nI_n (show t < 2 ^ 31 by omega)]
          refine g_iconst (v := 0) dX10_goDay_130 rfl ?_
          refine g_istore dX10_goDay_131 (Nat.le_of_ble_eq_true rfl) rfl ?_
          refine l_X10_goDay2 (w0 := (s_a (s_i w2 57 31 (nI t)) 76 (va_up (w_a (s_i w2 57 31 (nI t)) 76) t (nI u + 1)))) h2.1 (by show w_i w2 57 1 = nI n; exact h2.2.1.1.1) hn6 (fun w5 hs5 hv5 => ?_) n 0 _ (Nat.zero_add _) same.rf (fun y => by rw [if_neg (Nat.not_lt_zero _)])
          refine g_iinc dX10_goDay_179 rfl rfl ?_
          refine g_goto (tgt := 63) dX10_goDay_182 (by decide) ?_
          rw [nI_1']
          have sB : same [73, 74, 75, 76, 77, 78] [(57, 31)] w (s_a (s_i w2 57 31 (nI t)) 76 (va_up (w_a (s_i w2 57 31 (nI t)) 76) t (nI u + 1))) := s3.sa (by simp)
          have sW : same [76, 77] [(57, 31)] w2 (s_a (s_i w2 57 31 (nI t)) 76 (va_up (w_a (s_i w2 57 31 (nI t)) 76) t (nI u + 1))) := (same.rf.si (by simp)).sa (by simp)
          have m5 : moT w5 (cr_set S.1 n t) n N sg va := (h2.same sW (by simp) (by simp)).same hs5 (by simp) (by simp)
          refine ih (j + 1) _ w5 (by omega) (sB.tr (hs5.wk (by simp) (by simp))) ?_
          rw [hday, hgo]
          refine ⟨m5, fun y hy => ?_, fun y hy => ?_, fun y hy => ?_, ?_⟩
          · rw [(hs5.2.2.2.1 76 (by simp)).1, wa_sat, up_at]
            show _ = va_up S.2.1 t (S.2.1 t + 1) y
            rw [up_at, u2]
            by_cases q : y = t
            · rw [if_pos q, if_pos q]
            · rw [if_neg q, if_neg q, a76]; exact hI.2.1 y hy
          · rw [(hs5.2.2.2.1 77 (by simp)).1]
            rw [wa_sa, if_neg (by decide), a77]
            · show _ = (if S.2.2.1 t = -2 then va_up S.2.2.1 t S.2.2.2.2.1 else S.2.2.1) y
              rw [if_neg (fun q => zc103 (by rw [u3.mpr q]; rfl))]
              exact hI.2.2.1 y hy
          · rw [hv5 y hy]
            show _ = (if y < n then mxI (S.2.2.2.1 y) (cr_set S.1 n t (18 + y)) else S.2.2.2.1 y)
            rw [if_pos hy, show w_a (s_a (s_i w2 57 31 (nI t)) 76 (va_up (w_a (s_i w2 57 31 (nI t)) 76) t (nI u + 1))) 78 = w_a w1 78 from a78, hI.2.2.2.1 y hy, show w_a (s_a (s_i w2 57 31 (nI t)) 76 (va_up (w_a (s_i w2 57 31 (nI t)) 76) t (nI u + 1))) 75 = w_a w2 75 from rfl, h2.2.1.2 y hy]
          · rw [hs5.2.1 57 31 (by simp)]
            exact eI
        · refine g_aload_n dX10_goDay_106 rfl ?_
          refine g_getr dX10_goDay_107 fl_X10_71 h2.1.1 (moR_77 h2.1) ?_
          refine g_aload_n dX10_goDay_110 rfl ?_
          refine g_geti dX10_goDay_111 fl_X10_265 h2.1.1 ?_
          refine g_iload dX10_goDay_114 rfl ?_
          rw [show w_i (s_i w2 57 31 (nI t)) 57 31 = nI t from eI]
          refine g_iast dX10_goDay_116 (moA_77 h2.1) (vp_in_nI (by omega) (by decide)) ?_
          rw [nI_n (show t < 2 ^ 31 by omega)]
          refine g_aload_n dX10_goDay_117 rfl ?_
          refine g_getr dX10_goDay_118 fl_X10_68 h2.1.1 (moR_76 h2.1) ?_
          refine g_aload_n dX10_goDay_121 rfl ?_
          refine g_geti dX10_goDay_122 fl_X10_265 h2.1.1 ?_
          refine g_dup2 dX10_goDay_125 rfl rfl ?_
          rw [show w_i (s_a (s_i w2 57 31 (nI t)) 77 (va_up (w_a (s_i w2 57 31 (nI t)) 77) t (nI j))) 57 31 = nI t from eI]
          refine g_iald dX10_goDay_126 (moA_76 h2.1) (vp_in_nI (by omega) (by decide)) ?_
          rw [nI_n (show t < 2 ^ 31 by omega), show w_a (s_a (s_i w2 57 31 (nI t)) 77 (va_up (w_a (s_i w2 57 31 (nI t)) 77) t (nI j))) 76 t = nI u from by rw [wa_sa, if_neg (by decide), a76, hI.2.1 t ht, u2]]
          refine g_iconst (v := 1) dX10_goDay_127 rfl ?_
          refine g_iadd dX10_goDay_128 ?_
          refine g_iast dX10_goDay_129 (moA_76 h2.1) (vp_in_nI (by omega) (by decide)) ?_
          rw [nI_n (show t < 2 ^ 31 by omega)]
          refine g_iconst (v := 0) dX10_goDay_130 rfl ?_
          refine g_istore dX10_goDay_131 (Nat.le_of_ble_eq_true rfl) rfl ?_
          refine l_X10_goDay2 (w0 := (s_a (s_a (s_i w2 57 31 (nI t)) 77 (va_up (w_a (s_i w2 57 31 (nI t)) 77) t (nI j))) 76 (va_up (w_a (s_a (s_i w2 57 31 (nI t)) 77 (va_up (w_a (s_i w2 57 31 (nI t)) 77) t (nI j))) 76) t (nI u + 1)))) h2.1 (by show w_i w2 57 1 = nI n; exact h2.2.1.1.1) hn6 (fun w5 hs5 hv5 => ?_) n 0 _ (Nat.zero_add _) same.rf (fun y => by rw [if_neg (Nat.not_lt_zero _)])
          refine g_iinc dX10_goDay_179 rfl rfl ?_
          refine g_goto (tgt := 63) dX10_goDay_182 (by decide) ?_
          rw [nI_1']
          have sB : same [73, 74, 75, 76, 77, 78] [(57, 31)] w (s_a (s_a (s_i w2 57 31 (nI t)) 77 (va_up (w_a (s_i w2 57 31 (nI t)) 77) t (nI j))) 76 (va_up (w_a (s_a (s_i w2 57 31 (nI t)) 77 (va_up (w_a (s_i w2 57 31 (nI t)) 77) t (nI j))) 76) t (nI u + 1))) := (s3.sa (by simp)).sa (by simp)
          have sW : same [76, 77] [(57, 31)] w2 (s_a (s_a (s_i w2 57 31 (nI t)) 77 (va_up (w_a (s_i w2 57 31 (nI t)) 77) t (nI j))) 76 (va_up (w_a (s_a (s_i w2 57 31 (nI t)) 77 (va_up (w_a (s_i w2 57 31 (nI t)) 77) t (nI j))) 76) t (nI u + 1))) := ((same.rf.si (by simp)).sa (by simp)).sa (by simp)
          have m5 : moT w5 (cr_set S.1 n t) n N sg va := (h2.same sW (by simp) (by simp)).same hs5 (by simp) (by simp)
          refine ih (j + 1) _ w5 (by omega) (sB.tr (hs5.wk (by simp) (by simp))) ?_
          rw [hday, hgo]
          refine ⟨m5, fun y hy => ?_, fun y hy => ?_, fun y hy => ?_, ?_⟩
          · rw [(hs5.2.2.2.1 76 (by simp)).1, wa_sat, up_at]
            show _ = va_up S.2.1 t (S.2.1 t + 1) y
            rw [up_at, u2]
            by_cases q : y = t
            · rw [if_pos q, if_pos q]
            · rw [if_neg q, if_neg q, wa_sa, if_neg (by decide), a76]; exact hI.2.1 y hy
          · rw [(hs5.2.2.2.1 77 (by simp)).1]
            rw [wa_sa, if_neg (by decide)]
            · show _ = (if S.2.2.1 t = -2 then va_up S.2.2.1 t S.2.2.2.2.1 else S.2.2.1) y
              rw [if_pos (u3.mp (pI_inj (a := u) (b := 0) (by omega) (by omega) zc103))]
              rw [wa_sat, up_at, up_at, hv0]
              by_cases q : y = t
              · rw [if_pos q, if_pos q]
              · rw [if_neg q, if_neg q, a77]; exact hI.2.2.1 y hy
          · rw [hv5 y hy]
            show _ = (if y < n then mxI (S.2.2.2.1 y) (cr_set S.1 n t (18 + y)) else S.2.2.2.1 y)
            rw [if_pos hy, show w_a (s_a (s_a (s_i w2 57 31 (nI t)) 77 (va_up (w_a (s_i w2 57 31 (nI t)) 77) t (nI j))) 76 (va_up (w_a (s_a (s_i w2 57 31 (nI t)) 77 (va_up (w_a (s_i w2 57 31 (nI t)) 77) t (nI j))) 76) t (nI u + 1))) 78 = w_a w1 78 from a78, hI.2.2.2.1 y hy, show w_a (s_a (s_a (s_i w2 57 31 (nI t)) 77 (va_up (w_a (s_i w2 57 31 (nI t)) 77) t (nI j))) 76 (va_up (w_a (s_a (s_i w2 57 31 (nI t)) 77 (va_up (w_a (s_i w2 57 31 (nI t)) 77) t (nI j))) 76) t (nI u + 1))) 75 = w_a w2 75 from rfl, h2.2.1.2 y hy]
          · rw [hs5.2.1 57 31 (by simp)]
            exact eI
      · refine g_goto (tgt := 179) dX10_goDay_91 (by decide) ?_
        refine g_iinc dX10_goDay_179 rfl rfl ?_
        refine g_goto (tgt := 63) dX10_goDay_182 (by decide) ?_
        rw [nI_1']
        have hl : cr_has N sg va S.1 n (C j).toInt32.toNatClampNeg = -2 := by
          rcases cr_has_cases (N := N) (sg := sg) (va := va) (f := S.1) (c := (C j).toInt32.toNatClampNeg) hn6 with z3 | ⟨t, ht, z3⟩
          · exact z3
          · rw [z3] at zc88; exact absurd (show (0 : Int32) ≤ nI t from nI_pos' (by omega)) zc88
        rw [me_nx_A hl] at h2
        refine ih (j + 1) _ _ (by omega) ((hs.tr (hs2.wk (by simp) (by simp))).si (by simp)) ?_
        rw [hday, show th_go N sg va n S (C j).toInt32.toNatClampNeg = th_A S from by unfold th_go; rw [hl, if_pos (by decide)]]
        exact ⟨h2.same (same.rf.si (F := [(57, 31)]) (R := []) (by simp)) (by simp) (by simp), fun y hy => by show w_a w2 76 y = _; rw [(hs2.2.2.2.1 76 (by simp)).1]; exact hI.2.1 y hy, fun y hy => by show w_a w2 77 y = _; rw [(hs2.2.2.2.1 77 (by simp)).1]; exact hI.2.2.1 y hy, fun y hy => by show w_a w2 78 y = _; rw [(hs2.2.2.2.1 78 (by simp)).1]; exact hI.2.2.2.1 y hy, by rw [wi_si, if_pos ⟨rfl, rfl⟩]; exact hl⟩
theorem c_X10_goDay {d : Nat} {w : gx_W} {f : Nat → Int32} {n N i ln m : Nat} {sg va : Nat → Int32} {C : Nat → Int64} {k : gx_W → Prop} (hd : 7 ≤ d) (h : moO w) (hx : mxD w f n) (hl : lwM w N sg va) (hb : bnd f n) (hi6 : i < 6) (hsh : shM w i ln C) (hm : m ≤ 60) (kk : ∀ w', same [73, 74, 75, 76, 77, 78] [(57, 31)] w w' → dyS w' n N sg va (th_day N sg va n (fun j => (C j).toInt32.toNatClampNeg) (sh_com (fun j => isCo (C j).toInt32) (min m ln)) (th_00 f)) → k w') : gx_C 0 0 d mX10_goDay [.ref 57, .int (nI i), .int (nI m)] w (Qv k) := by
  refine gx_C_of' (L := [.ref 57, .int (nI i), .int (nI m), .retAddr 0, .retAddr 0, .retAddr 0]) (by decide +kernel) rfl (Nat.le_of_ble_eq_true rfl) ?_
  refine g_aload_n dX10_goDay_0 rfl ?_
  refine g_cV0v dX10_goDay_1 ml_X10_259 mi_X10_layNow mv_X10_layNow h.1 ⟨_, rfl, rfl⟩ (Nat.le_of_ble_eq_true rfl) rfl (by omega) ?_
  refine c_X10_layNow (by omega) h hx hl hb (fun w1 hs1 h1 => ?_)
  refine g_aload_n dX10_goDay_4 rfl ?_
  refine g_bipush (v := -2) dX10_goDay_5 rfl ?_
  refine g_puti dX10_goDay_7 fl_X10_265 ft_10_31 h1.1.1 ?_
  refine g_iconst (v := 0) dX10_goDay_10 rfl ?_
  refine g_istore_n dX10_goDay_11 (Nat.le_of_ble_eq_true rfl) rfl ?_
  refine l_X10_goDay1 (w0 := s_i w1 57 31 (-2)) h1.1 h1.2.1.1.1 h1.2.1.1.2.1 (fun w3 hs hv => ?_) n 0 _ (Nat.zero_add _) same.rf (fun y hy => absurd hy (Nat.not_lt_zero _))
  have hs3 : same [75, 76, 77, 78] [(57, 31)] w1 w3 := ((same.rf (R := [75, 76, 77, 78])).si (F := [(57, 31)]) (by simp)).tr (hs.wk (by simp) (by simp))
  have hs4 : same [76, 77, 78] [(57, 31)] w1 w3 := ((same.rf (R := [76, 77, 78])).si (F := [(57, 31)]) (by simp)).tr (hs.wk (by simp) (by simp))
  have hs5 : same [73, 74, 75, 76, 77, 78] [(57, 31)] w w3 := (hs1.wk (by simp) (by simp)).tr (hs3.wk (by simp) (by simp))
  have h3 : moO w3 := h1.1.same hs3
  refine g_aload_n dX10_goDay_53 rfl ?_
  refine g_iload_n dX10_goDay_54 rfl ?_
  refine g_iload_n dX10_goDay_55 rfl ?_
  refine g_cV2i dX10_goDay_56 ml_X10_268 mi_X10_longOf mv_X10_longOf h3.1 ⟨_, rfl, rfl⟩ (Nat.le_of_ble_eq_true rfl) rfl (by omega) ?_
  refine c_X10_longOf (by omega) h3 hi6 (hsh.same hs5 (by simp)) hm ?_
  refine g_istore_n dX10_goDay_59 (Nat.le_of_ble_eq_true rfl) rfl ?_
  refine g_iconst (v := 0) dX10_goDay_60 rfl ?_
  refine g_istore dX10_goDay_61 (Nat.le_of_ble_eq_true rfl) rfl ?_
  refine l_X10_goDay3 (f := f) (by omega) hi6 hsh (Nat.le_trans (sh_com_le _ _) (Nat.min_le_right _ _)) (fun j hj => sh_com_all' _ _ j hj) h1.2.1.1.2.1 kk _ 0 _ w3 (Nat.zero_add _) hs5 ?_
  refine ⟨h1.same hs4 (by simp) (by simp), fun j hj => (hv j hj).1, fun j hj => (hv j hj).2.1, fun j hj => ?_, ?_⟩
  · rw [(hv j hj).2.2]
    exact h1.2.1.2 j hj
  · rw [hs.2.1 57 31 (by simp), wi_si, if_pos ⟨rfl, rfl⟩]
    rfl
theorem me_all_no {N : Nat} {sg va f : Nat → Int32} {n p j : Nat} {x : Int32} (hj : j < 10) (h : ¬ cr_has N sg va f n (10 * p + j) = x) : me_all N sg va f n p x = false := by
  cases e : me_all N sg va f n p x with
  | false => rfl
  | true => exact absurd (me_all_iff.mp e j hj) h
theorem z10 (i j : Nat) : (10 : Int32) * nI i + nI j = nI (10 * i + j) := by
  rw [show (10 : Int32) * nI i = nI (10 * i) from pk_mul 10 i, nI_add]
theorem l_X10_hasAll {d n N p : Nat} {w : gx_W} {f sg va : Nat → Int32} {x : Int32} {k : Int32 → gx_W → Prop} (hd : 6 ≤ d) (h : moT w f n N sg va) (hp : p < 10) (k1 : me_all N sg va f n p x = true → ∀ w', same [73, 74] [] w w' → k 1 w') (k2 : me_all N sg va f n p x = false → ∀ w', same [73, 74] [] w w' → k 0 w') : ∀ (z j : Nat) (w1 : gx_W), j + z = 10 → same [73, 74] [] w w1 → (∀ y, y < j → cr_has N sg va f n (10 * p + y) = x) → gx_G 0 0 d mX10_hasAll (Qi k) 2 [.ref 57, .int x, .int (nI p), .int (nI j)] [] w1 := by
  intro z
  induction z with
  | zero =>
    intro j w1 hj hs hall
    have e : j = 10 := by omega
    subst e
    refine g_iload_n dX10_hasAll_2 rfl ?_
    refine g_bipush (v := 10) dX10_hasAll_3 rfl ?_
    refine g_icmp_ge (tgt := 30) dX10_hasAll_5 (by decide) (fun zc5 => ?_) (fun zc5 => ?_)
    · refine g_iconst (v := 1) dX10_hasAll_30 rfl ?_
      refine g_zret dX10_hasAll_31 rfl (Or.inr rfl) ⟨_, rfl, ?_⟩
      exact k1 (me_all_iff.mpr hall) w1 hs
    · exact absurd (by decide) zc5
  | succ z ih =>
    intro j w1 hj hs hall
    have h1 := h.same hs (by simp) (by simp)
    refine g_iload_n dX10_hasAll_2 rfl ?_
    refine g_bipush (v := 10) dX10_hasAll_3 rfl ?_
    refine g_icmp_ge (tgt := 30) dX10_hasAll_5 (by decide) (fun zc5 => ?_) (fun zc5 => ?_)
    · refine g_iconst (v := 1) dX10_hasAll_30 rfl ?_
      refine g_zret dX10_hasAll_31 rfl (Or.inr rfl) ⟨_, rfl, ?_⟩
      exact absurd (show nI 10 ≤ nI j from zc5) (nI_ge (by omega) (by omega))
    · refine g_aload_n dX10_hasAll_8 rfl ?_
      refine g_bipush (v := 10) dX10_hasAll_9 rfl ?_
      refine g_iload_n dX10_hasAll_11 rfl ?_
      refine g_imul dX10_hasAll_12 ?_
      refine g_iload_n dX10_hasAll_13 rfl ?_
      refine g_iadd dX10_hasAll_14 ?_
      rw [z10]
      refine g_cV1i dX10_hasAll_15 ml_X10_249 mi_X10_hasNow mv_X10_hasNow h1.1.1 ⟨_, rfl, rfl⟩ (Nat.le_of_ble_eq_true rfl) rfl (by omega) ?_
      refine c_X10_hasNow (by omega) h1 (by omega) (fun w2 hs2 => ?_)
      refine g_iload_n dX10_hasAll_18 rfl ?_
      refine g_icmp_eq (tgt := 24) dX10_hasAll_19 (by decide) (fun zc19 => ?_) (fun zc19 => ?_)
      · refine g_iinc dX10_hasAll_24 rfl rfl ?_
        refine g_goto (tgt := 2) dX10_hasAll_27 (by decide) ?_
        rw [nI_1']
        exact ih (j + 1) w2 (by omega) (hs.tr hs2) (fun y hy => by rcases Nat.lt_or_ge y j with q | q; exact hall y q; rw [show y = j by omega]; exact zc19)
      · refine g_iconst (v := 0) dX10_hasAll_22 rfl ?_
        refine g_zret dX10_hasAll_23 rfl (Or.inl rfl) ⟨_, rfl, ?_⟩
        exact k2 (me_all_no (by omega) zc19) w2 (hs.tr hs2)
theorem c_X10_hasAll {d : Nat} {w : gx_W} {f : Nat → Int32} {n N p : Nat} {sg va : Nat → Int32} {x : Int32} {k : Int32 → gx_W → Prop} (hd : 6 ≤ d) (h : moT w f n N sg va) (hp : p < 10) (k1 : me_all N sg va f n p x = true → ∀ w', same [73, 74] [] w w' → k 1 w') (k2 : me_all N sg va f n p x = false → ∀ w', same [73, 74] [] w w' → k 0 w') : gx_C 0 0 d mX10_hasAll [.ref 57, .int x, .int (nI p)] w (Qi k) := by
  refine gx_C_of' (L := [.ref 57, .int x, .int (nI p), .retAddr 0]) (by decide +kernel) rfl (Nat.le_of_ble_eq_true rfl) ?_
  refine g_iconst (v := 0) dX10_hasAll_0 rfl ?_
  refine g_istore_n dX10_hasAll_1 (Nat.le_of_ble_eq_true rfl) rfl ?_
  exact l_X10_hasAll hd h hp k1 k2 10 0 w rfl same.rf (fun y hy => absurd hy (Nat.not_lt_zero _))
theorem z2 (i : Nat) : (2 : Int32) * nI i = nI (2 * i) := pk_mul 2 i
set_option maxHeartbeats 4000000 in
theorem l_X10_wrongTwo {d n N i ln : Nat} {w : gx_W} {sg va : Nat → Int32} {C : Nat → Int64} {k : Int32 → gx_W → Prop} (hd : 7 ≤ d) (hi6 : i < 6) (hsh : shM w i ln C) : ∀ (z two : Nat) (f : Nat → Int32) (w1 : gx_W), two + z = (ln + 1) / 2 → same [73, 74, 75] [] w w1 → moT w1 f n N sg va → (∀ w', same [73, 74, 75] [] w w' → k (me_fw N sg va n (fun j => (C j).toInt32) ln z two f) w') → gx_G 0 0 d mX10_wrongTwo (Qi k) 6 [.ref 57, .int (nI i), .int (nI two)] [] w1 := by
  intro z
  have hln := hsh.2.1
  induction z with
  | zero =>
    intro two f w1 hj hs hI kk
    have hsh1 := hsh.same hs (by simp)
    have e : two = (ln + 1) / 2 := by omega
    refine g_iconst (v := 2) dX10_wrongTwo_6 rfl ?_
    refine g_iload_n dX10_wrongTwo_7 rfl ?_
    refine g_imul dX10_wrongTwo_8 ?_
    rw [z2]
    refine g_aload_n dX10_wrongTwo_9 rfl ?_
    refine g_getr dX10_wrongTwo_10 fl_X10_108 hI.1.1 (moR_88 hI.1) ?_
    refine g_iload_n dX10_wrongTwo_13 rfl ?_
    refine g_iald dX10_wrongTwo_14 (moA_88 hI.1) (vp_in_nI (by omega) (by decide)) ?_
    rw [nI_n (by omega), hsh1.1]
    refine g_icmp_ge (tgt := 98) dX10_wrongTwo_15 (by decide) (fun zc15 => ?_) (fun zc15 => ?_)
    · refine g_bipush (v := -2) dX10_wrongTwo_98 rfl ?_
      refine g_iret dX10_wrongTwo_100 rfl ⟨_, rfl, ?_⟩
      exact kk w1 hs
    · exact absurd (nI_le (by omega) (by omega)) zc15
  | succ z ih =>
    intro two f w1 hj hs hI kk
    have hsh1 := hsh.same hs (by simp)
    have hn6 := hI.2.1.1.2.1
    refine g_iconst (v := 2) dX10_wrongTwo_6 rfl ?_
    refine g_iload_n dX10_wrongTwo_7 rfl ?_
    refine g_imul dX10_wrongTwo_8 ?_
    rw [z2]
    refine g_aload_n dX10_wrongTwo_9 rfl ?_
    refine g_getr dX10_wrongTwo_10 fl_X10_108 hI.1.1 (moR_88 hI.1) ?_
    refine g_iload_n dX10_wrongTwo_13 rfl ?_
    refine g_iald dX10_wrongTwo_14 (moA_88 hI.1) (vp_in_nI (by omega) (by decide)) ?_
    rw [nI_n (by omega), hsh1.1]
    refine g_icmp_ge (tgt := 98) dX10_wrongTwo_15 (by decide) (fun zc15 => ?_) (fun zc15 => ?_)
    · refine g_bipush (v := -2) dX10_wrongTwo_98 rfl ?_
      refine g_iret dX10_wrongTwo_100 rfl ⟨_, rfl, ?_⟩
      exact absurd zc15 (nI_ge (by omega) (by omega))
    · refine g_iconst (v := 2) dX10_wrongTwo_18 rfl ?_
      refine g_iload_n dX10_wrongTwo_19 rfl ?_
      refine g_imul dX10_wrongTwo_20 ?_
      rw [z2]
      refine g_iconst (v := 1) dX10_wrongTwo_21 rfl ?_
      refine g_iadd dX10_wrongTwo_22 ?_
      rw [nI_1]
      refine g_aload_n dX10_wrongTwo_23 rfl ?_
      refine g_getr dX10_wrongTwo_24 fl_X10_108 hI.1.1 (moR_88 hI.1) ?_
      refine g_iload_n dX10_wrongTwo_27 rfl ?_
      refine g_iald dX10_wrongTwo_28 (moA_88 hI.1) (vp_in_nI (by omega) (by decide)) ?_
      rw [nI_n (by omega), hsh1.1]
      refine g_icmp_ge (tgt := 63) dX10_wrongTwo_29 (by decide) (fun zc29 => ?_) (fun zc29 => ?_)
      · refine g_iload_n dX10_wrongTwo_63 rfl ?_
        refine g_iret dX10_wrongTwo_64 rfl ⟨_, rfl, ?_⟩
        rw [me_fw_stop hn6 (C := fun j => (C j).toInt32) (fun q => absurd zc29 (nI_ge (by have := q.1; omega) (by omega)))] at kk
        exact kk w1 hs
      · have hlt : 2 * two + 1 < ln := by rcases Nat.lt_or_ge (2 * two + 1) ln with q | q; exact q; exact absurd (nI_le q (by omega)) zc29
        refine g_aload_n dX10_wrongTwo_32 rfl ?_
        refine g_iload_n dX10_wrongTwo_33 rfl ?_
        refine g_iconst (v := 2) dX10_wrongTwo_34 rfl ?_
        refine g_iload_n dX10_wrongTwo_35 rfl ?_
        refine g_imul dX10_wrongTwo_36 ?_
        rw [z2]
        refine g_cV2i dX10_wrongTwo_37 ml_X10_262 mi_X10_at mv_X10_at hI.1.1 ⟨_, rfl, rfl⟩ (Nat.le_of_ble_eq_true rfl) rfl (by omega) ?_
        refine c_X10_at (by omega) hI.1 hi6 (show 2 * two < 60 by omega) ?_
        rw [hsh1.2.2 _ (by omega)]
        refine g_cS1i dX10_wrongTwo_40 ml_X10_256 mi_X10_isComer ms_X10_isComer (Nat.le_of_ble_eq_true rfl) rfl (by omega) ?_
        refine c_isCoM (by omega) (fun hco => ?_) (fun hco => ?_)
        · refine g_if_eq (tgt := 63) dX10_wrongTwo_43 (by decide) (fun q => absurd q (by decide)) (fun _ => ?_)
          refine g_aload_n dX10_wrongTwo_46 rfl ?_
          refine g_aload_n dX10_wrongTwo_47 rfl ?_
          refine g_iload_n dX10_wrongTwo_48 rfl ?_
          refine g_iconst (v := 2) dX10_wrongTwo_49 rfl ?_
          refine g_iload_n dX10_wrongTwo_50 rfl ?_
          refine g_imul dX10_wrongTwo_51 ?_
          rw [z2]
          refine g_iconst (v := 1) dX10_wrongTwo_52 rfl ?_
          refine g_iadd dX10_wrongTwo_53 ?_
          rw [nI_1]
          refine g_cV2i dX10_wrongTwo_54 ml_X10_262 mi_X10_at mv_X10_at hI.1.1 ⟨_, rfl, rfl⟩ (Nat.le_of_ble_eq_true rfl) rfl (by omega) ?_
          refine c_X10_at (by omega) hI.1 hi6 (show 2 * two + 1 < 60 by omega) ?_
          rw [hsh1.2.2 _ (by omega)]
          refine g_cV1i dX10_wrongTwo_57 ml_X10_128 mi_X10_isRoad mv_X10_isRoad hI.1.1 ⟨_, rfl, rfl⟩ (Nat.le_of_ble_eq_true rfl) rfl (by omega) ?_
          refine c_X10_isRoad (by omega) hI.1 hI.2.1.1.1 hn6 (fun m em hm => ?_) (fun nrd => ?_)
          · refine g_if_ne (tgt := 65) dX10_wrongTwo_60 (by decide) (fun _ => ?_) (fun q => absurd q (by decide))
            refine g_aload_n dX10_wrongTwo_65 rfl ?_
            refine g_aload_n dX10_wrongTwo_66 rfl ?_
            refine g_iload_n dX10_wrongTwo_67 rfl ?_
            refine g_iconst (v := 2) dX10_wrongTwo_68 rfl ?_
            refine g_iload_n dX10_wrongTwo_69 rfl ?_
            refine g_imul dX10_wrongTwo_70 ?_
            rw [z2]
            refine g_cV2i dX10_wrongTwo_71 ml_X10_262 mi_X10_at mv_X10_at hI.1.1 ⟨_, rfl, rfl⟩ (Nat.le_of_ble_eq_true rfl) rfl (by omega) ?_
            refine c_X10_at (by omega) hI.1 hi6 (show 2 * two < 60 by omega) ?_
            rw [hsh1.2.2 _ (by omega)]
            obtain ⟨hc1, hc2⟩ := isCo_val hco
            rw [hc1]
            refine g_cV1i dX10_wrongTwo_74 ml_X10_271 mi_X10_goComer mv_X10_goComer hI.1.1 ⟨_, rfl, rfl⟩ (Nat.le_of_ble_eq_true rfl) rfl (by omega) ?_
            refine c_X10_goComer (by omega) hI hc2 (fun w2 hs2 h2 => ?_)
            refine g_aload_n dX10_wrongTwo_77 rfl ?_
            refine g_iload_n dX10_wrongTwo_78 rfl ?_
            refine g_iconst (v := 2) dX10_wrongTwo_79 rfl ?_
            refine g_iload_n dX10_wrongTwo_80 rfl ?_
            refine g_imul dX10_wrongTwo_81 ?_
            rw [z2]
            refine g_iconst (v := 1) dX10_wrongTwo_82 rfl ?_
            refine g_iadd dX10_wrongTwo_83 ?_
            rw [nI_1]
            refine g_cV2i dX10_wrongTwo_84 ml_X10_262 mi_X10_at mv_X10_at h2.1.1 ⟨_, rfl, rfl⟩ (Nat.le_of_ble_eq_true rfl) rfl (by omega) ?_
            refine c_X10_at (by omega) h2.1 hi6 (show 2 * two + 1 < 60 by omega) ?_
            rw [(hs2.2.2.2.1 89 (by simp)).2, hsh1.2.2 _ (by omega)]
            refine g_icmp_eq (tgt := 92) dX10_wrongTwo_87 (by decide) (fun zc87 => ?_) (fun zc87 => ?_)
            · refine g_iinc dX10_wrongTwo_92 rfl rfl ?_
              refine g_goto (tgt := 6) dX10_wrongTwo_95 (by decide) ?_
              rw [me_fw_go hn6 (C := fun j => (C j).toInt32) ⟨by omega, hco, ⟨m, hm, em⟩, zc87⟩] at kk
              rw [nI_1']
              exact ih (two + 1) _ w2 (by omega) (hs.tr hs2) h2 kk
            · refine g_iload_n dX10_wrongTwo_90 rfl ?_
              refine g_iret dX10_wrongTwo_91 rfl ⟨_, rfl, ?_⟩
              rw [me_fw_stop hn6 (C := fun j => (C j).toInt32) (fun q => zc87 q.2.2.2)] at kk
              exact kk w2 (hs.tr hs2)
          · refine g_if_ne (tgt := 65) dX10_wrongTwo_60 (by decide) (fun q => absurd q (by decide)) (fun _ => ?_)
            refine g_iload_n dX10_wrongTwo_63 rfl ?_
            refine g_iret dX10_wrongTwo_64 rfl ⟨_, rfl, ?_⟩
            rw [me_fw_stop hn6 (C := fun j => (C j).toInt32) (fun q => by obtain ⟨m, hm, e⟩ := q.2.2.1; exact nrd m hm e)] at kk
            exact kk w1 hs
        · refine g_if_eq (tgt := 63) dX10_wrongTwo_43 (by decide) (fun _ => ?_) (fun q => absurd q (by decide))
          refine g_iload_n dX10_wrongTwo_63 rfl ?_
          refine g_iret dX10_wrongTwo_64 rfl ⟨_, rfl, ?_⟩
          rw [me_fw_stop hn6 (C := fun j => (C j).toInt32) (fun q => hco q.2.1)] at kk
          exact kk w1 hs
theorem c_X10_wrongTwo {d : Nat} {w : gx_W} {f : Nat → Int32} {n N i ln : Nat} {sg va : Nat → Int32} {C : Nat → Int64} {k : Int32 → gx_W → Prop} (hd : 7 ≤ d) (h : moO w) (hx : mxD w f n) (hl : lwM w N sg va) (hb : bnd f n) (hi6 : i < 6) (hsh : shM w i ln C) (kk : ∀ w', same [73, 74, 75] [] w w' → k (me_fw N sg va n (fun j => (C j).toInt32) ln ((ln + 1) / 2) 0 f) w') : gx_C 0 0 d mX10_wrongTwo [.ref 57, .int (nI i)] w (Qi k) := by
  refine gx_C_of' (L := [.ref 57, .int (nI i), .retAddr 0]) (by decide +kernel) rfl (Nat.le_of_ble_eq_true rfl) ?_
  refine g_aload_n dX10_wrongTwo_0 rfl ?_
  refine g_cV0v dX10_wrongTwo_1 ml_X10_259 mi_X10_layNow mv_X10_layNow h.1 ⟨_, rfl, rfl⟩ (Nat.le_of_ble_eq_true rfl) rfl (by omega) ?_
  refine c_X10_layNow (by omega) h hx hl hb (fun w1 hs1 h1 => ?_)
  refine g_iconst (v := 0) dX10_wrongTwo_4 rfl ?_
  refine g_istore_n dX10_wrongTwo_5 (Nat.le_of_ble_eq_true rfl) rfl ?_
  exact l_X10_wrongTwo (by omega) hi6 hsh ((ln + 1) / 2) 0 f w1 (Nat.zero_add _) (hs1.wk (by simp) (by simp)) h1 kk

/-! The reference: line -/
theorem ln_1 {g : Nat → Int32} {T p : Nat} (h : (tp_e g T p).1 = true) (h6 : ¬ tp_h g T (tp_e g T p).2.1 = 63) : tp_ln g T p = (true, (tp_e g T p).2.1, (tp_e g T p).2.2 ++ [(59, 0)]) := by
  unfold tp_ln
  rw [if_pos h, if_neg h6]
theorem ln_2 {g : Nat → Int32} {T p : Nat} (h : (tp_e g T p).1 = true) (h6 : tp_h g T (tp_e g T p).2.1 = 63) (h2 : (tp_e g T ((tp_e g T p).2.1 + 1)).1 = true) : tp_ln g T p = (true, (tp_e g T ((tp_e g T p).2.1 + 1)).2.1, (tp_e g T p).2.2 ++ (63, 0) :: ((tp_e g T ((tp_e g T p).2.1 + 1)).2.2 ++ [(59, 0)])) := by
  unfold tp_ln
  rw [if_pos h, if_pos h6, if_pos h2]
theorem ln_bad1 {g : Nat → Int32} {T p : Nat} (hB : (tp_e g T p).1 = false ∨ tp_dg (tp_h g T (tp_e g T p).2.1) = true) : (tp_ln g T p).2.1 = (tp_e g T p).2.1 ∧ ((tp_ln g T p).1 = false ∨ tp_dg (tp_h g T (tp_e g T p).2.1) = true) := by
  cases e : (tp_e g T p).1 with
  | true =>
    have hd : tp_dg (tp_h g T (tp_e g T p).2.1) = true := by
      rcases hB with q | q
      · rw [e] at q; cases q
      · exact q
    rw [ln_1 e (fun q => by rw [q] at hd; exact absurd hd (by decide))]
    exact ⟨rfl, Or.inr hd⟩
  | false =>
    unfold tp_ln
    rw [if_neg (by rw [e]; decide)]
    exact ⟨rfl, Or.inl rfl⟩
theorem ln_bad2 {g : Nat → Int32} {T p : Nat} (h : (tp_e g T p).1 = true) (h6 : tp_h g T (tp_e g T p).2.1 = 63) (hB : (tp_e g T ((tp_e g T p).2.1 + 1)).1 = false ∨ tp_dg (tp_h g T (tp_e g T ((tp_e g T p).2.1 + 1)).2.1) = true) : (tp_ln g T p).2.1 = (tp_e g T ((tp_e g T p).2.1 + 1)).2.1 ∧ ((tp_ln g T p).1 = false ∨ tp_dg (tp_h g T (tp_e g T ((tp_e g T p).2.1 + 1)).2.1) = true) := by
  cases e : (tp_e g T ((tp_e g T p).2.1 + 1)).1 with
  | true =>
    have hd : tp_dg (tp_h g T (tp_e g T ((tp_e g T p).2.1 + 1)).2.1) = true := by
      rcases hB with q | q
      · rw [e] at q; cases q
      · exact q
    rw [ln_2 h h6 e]
    exact ⟨rfl, Or.inr hd⟩
  | false =>
    unfold tp_ln
    rw [if_pos h, if_pos h6, if_neg (by rw [e]; decide)]
    exact ⟨rfl, Or.inl rfl⟩
theorem ln_nar : ∀ m, m < 131 → vp_nar .short (nI m).toInt16.toInt32 = nI m := by decide +kernel
theorem ad_61 (m : Nat) : (61 : Int32) + nI m = nI (61 + m) := nI_add 61 m
abbrev lnX : List Nat := [68, 69, 70, 71, 72]
def lowL (w w' : gx_W) : Prop := lowK w w' ∧ w_a w' 70 0 = w_a w 70 0 ∧ ∀ j, j < 61 → w_a w' 71 j = w_a w 71 j ∧ w_a w' 72 j = w_a w 72 j
theorem lowL.tr {w w' w'' : gx_W} (h : lowL w w') (h' : lowL w' w'') : lowL w w'' := ⟨h.1.tr h'.1, h'.2.1.trans h.2.1, fun j hj => ⟨(h'.2.2 j hj).1.trans (h.2.2 j hj).1, (h'.2.2 j hj).2.trans (h.2.2 j hj).2⟩⟩
def lnA (w w' : gx_W) (m N p' : Nat) (t b : List stS) : Prop := same lnX prF w w' ∧ w_i w' 57 15 = nI p' ∧ w_i w' 57 16 = -1 ∧ w_i w' 57 17 = 0 ∧ w_i w' 57 18 = nI (N + t.length + b.length) ∧ (w_a w' 68 = tp_row (w_a w 68) (130 + N) ((t ++ b).map (fun s => (mpS s).1)) ∧ w_a w' 69 = tp_row (w_a w 69) (130 + N) ((t ++ b).map (fun s => (mpS s).2))) ∧ w_a w' 70 = va_up (w_a w 70) 1 (nI (m + 1)) ∧ w_a w' 71 = va_up (w_a w 71) (61 + m) (nI (N + t.length)) ∧ w_a w' 72 = va_up (w_a w 72) (61 + m) (nI (N + t.length + b.length))
set_option maxHeartbeats 4000000 in
theorem c_X10_line {d : Nat} {w : gx_W} {T p N m : Nat} {g : Nat → Int32} {k : gx_W → Prop} (hd : 47 ≤ d) (h : prI w T g p 0 N) (hN : N ≤ p) (hm : w_a w 70 1 = nI m) (hm2 : m < 61) (kA : (tp_ln g T p).1 = true → ∀ t b, (t = [] ∨ exS t 36) → exS b 36 → lsC [(t, b)] = (tp_ln g T p).2.2 → ∀ w', lnA w w' m N (tp_ln g T p).2.1 t b → k w') (kB : ((tp_ln g T p).1 = false ∨ tp_dg (tp_h g T (tp_ln g T p).2.1) = true) → ∀ w', same lnX prF w w' → lowL w w' → w_i w' 57 16 = nI (tp_ln g T p).2.1 → k w') : gx_C 0 0 d mX10_line [.ref 57] w (Qv k) := by
  refine gx_C_of' (L := [.ref 57, .retAddr 0]) (by decide +kernel) rfl (Nat.le_of_ble_eq_true rfl) ?_
  refine g_bipush (v := 61) dX10_line_0 rfl ?_
  refine g_aload_n dX10_line_2 rfl ?_
  refine g_getr dX10_line_3 fl_X10_49 h.1.1 (moR_70 h.1) ?_
  refine g_iconst (v := 1) dX10_line_6 rfl ?_
  refine g_iald dX10_line_7 (moA_70 h.1) (vp_in_nI (n := 1) (by decide) (by decide)) ?_
  rw [show (1 : Int32).toNatClampNeg = 1 from rfl, hm]
  have hT := h.2.1.2.1
  have hpT := h.2.2.2.1
  refine g_iadd dX10_line_8 ?_
  rw [ad_61]
  refine g_istore_n dX10_line_9 (Nat.le_of_ble_eq_true rfl) rfl ?_
  refine g_aload_n dX10_line_10 rfl ?_
  refine g_getr dX10_line_11 fl_X10_52 h.1.1 (moR_71 h.1) ?_
  refine g_iload_n dX10_line_14 rfl ?_
  refine g_aload_n dX10_line_15 rfl ?_
  refine g_geti dX10_line_16 fl_X10_175 h.1.1 ?_
  rw [h.2.2.2.2.2.2]
  refine g_i2s dX10_line_19 ?_
  refine g_sast dX10_line_20 (moA_71 h.1) (vp_in_nI (by omega) (by decide)) ?_
  rw [nI_n (show 61 + m < 2 ^ 31 by omega), ln_nar _ (by omega)]
  have h1 : prI (s_a w 71 (va_up (w_a w 71) (61 + m) (nI N))) T g p 0 N := ⟨h.1, h.2.1, h.2.2.1, h.2.2.2.1, h.2.2.2.2.1, h.2.2.2.2.2.1, h.2.2.2.2.2.2⟩
  refine g_aload_n dX10_line_21 rfl ?_
  refine g_cV0v dX10_line_22 ml_X10_203 mi_X10_either mv_X10_either h.1.1 ⟨_, rfl, rfl⟩ (Nat.le_of_ble_eq_true rfl) rfl (by omega) ?_
  refine c_either (by omega) h1 hN (fun hr w2 r2 => ?_) (fun hr w2 b2 => ?_)
  · have hb := tp_e_b (g := g) (T := T) h.2.2.2.1
    unfold tpB at hb
    have h2 := h1.go r2 hb.2
    have m2 : w_a w2 70 1 = nI m := by rw [(r2.1.2.2.2.1 70 (by simp)).1]; exact hm
    refine g_aload_n dX10_line_25 rfl ?_
    refine g_geti dX10_line_26 fl_X10_172 h2.1.1 ?_
    rw [h2.2.2.2.2.1]
    refine g_if_ge (tgt := 66) dX10_line_29 (by decide) (fun zc29 => ?_) (fun zc29 => ?_)
    · exact absurd zc29 (by decide)
    · refine g_aload_n dX10_line_32 rfl ?_
      refine g_cV0i dX10_line_33 ml_X10_184 mi_X10_look mv_X10_look h2.1.1 ⟨_, rfl, rfl⟩ (Nat.le_of_ble_eq_true rfl) rfl (by omega) ?_
      refine c_X10_look (by omega) h2.1 h2.2.1 h2.2.2.1 h2.2.2.2.1 ?_
      refine g_bipush (v := 63) dX10_line_36 rfl ?_
      refine g_icmp_ne (tgt := 66) dX10_line_38 (by decide) (fun zc38 => ?_) (fun zc38 => ?_)
      · refine g_aload_n dX10_line_66 rfl ?_
        refine g_getr dX10_line_67 fl_X10_56 h2.1.1 (moR_72 h2.1) ?_
        refine g_iload_n dX10_line_70 rfl ?_
        refine g_aload_n dX10_line_71 rfl ?_
        refine g_geti dX10_line_72 fl_X10_175 h2.1.1 ?_
        rw [h2.2.2.2.2.2.2]
        refine g_i2s dX10_line_75 ?_
        refine g_sast dX10_line_76 (moA_72 h2.1) (vp_in_nI (by omega) (by decide)) ?_
        rw [nI_n (show 61 + m < 2 ^ 31 by omega), ln_nar _ (by omega)]
        refine g_aload_n dX10_line_77 rfl ?_
        refine g_getr dX10_line_78 fl_X10_49 h2.1.1 (moR_70 h2.1) ?_
        refine g_iconst (v := 1) dX10_line_81 rfl ?_
        refine g_dup2 dX10_line_82 rfl rfl ?_
        refine g_iald dX10_line_83 (moA_70 h2.1) (vp_in_nI (n := 1) (by decide) (by decide)) ?_
        rw [show (1 : Int32).toNatClampNeg = 1 from rfl, show w_a (s_a w2 72 _) 70 1 = nI m from m2]
        refine g_iconst (v := 1) dX10_line_84 rfl ?_
        refine g_iadd dX10_line_85 ?_
        rw [nI_1]
        refine g_iast dX10_line_86 (moA_70 h2.1) (vp_in_nI (n := 1) (by decide) (by decide)) ?_
        refine g_vret dX10_line_87 rfl ⟨rfl, ?_⟩
        have n63 : ¬ tp_h g T (tp_e g T p).2.1 = 63 := fun q => zc38 ((lk_c h2.2.1 _ (c := 63) (by decide)).mpr q)
        rw [ln_1 hr n63] at kA
        refine kA rfl [] (tp_e g T p).2.2 (Or.inl rfl) (ex_e hr) (by show (if _ then _ else _) ++ [] = _; rw [if_pos rfl, List.append_nil]) _ ⟨((((same.rf.sa (by simp)).tr (r2.1.wk (by simp) (fun _ z => z))).sa (by simp)).sa (by simp)), h2.2.2.1, h2.2.2.2.2.1, h2.2.2.2.2.2.1, h2.2.2.2.2.2.2, ⟨?_, ?_⟩, ?_, ?_, ?_⟩
        · show w_a w2 68 = _
          rw [r2.2.2.2.2.2.1]
          rfl
        · show w_a w2 69 = _
          rw [r2.2.2.2.2.2.2]
          rfl
        · rw [wa_sat, show w_a (s_a w2 72 (va_up (w_a w2 72) (61 + m) (nI (N + (tp_e g T p).2.2.length)))) 70 = w_a w2 70 from rfl, (r2.1.2.2.2.1 70 (by simp)).1]
          rfl
        · show w_a w2 71 = _
          rw [(r2.1.2.2.2.1 71 (by simp)).1]
          rfl
        · show va_up (w_a w2 72) (61 + m) _ = _
          rw [(r2.1.2.2.2.1 72 (by simp)).1]
          rfl
      · have h63 : tp_h g T (tp_e g T p).2.1 = 63 := (lk_c h2.2.1 _ (c := 63) (by decide)).mp zc38
        have hlt : (tp_e g T p).2.1 < T := tp_lt (by rw [h63]; decide)
        have h3 := h2.hr (p' := (tp_e g T p).2.1 + 1) (by omega)
        refine g_aload_n dX10_line_41 rfl ?_
        refine g_dup dX10_line_42 rfl ?_
        refine g_geti dX10_line_43 fl_X10_169 h2.1.1 ?_
        refine g_iconst (v := 1) dX10_line_46 rfl ?_
        refine g_iadd dX10_line_47 ?_
        rw [h2.at1]
        refine g_puti dX10_line_48 fl_X10_169 ft_10_15 h2.1.1 ?_
        refine g_aload_n dX10_line_51 rfl ?_
        refine g_getr dX10_line_52 fl_X10_52 h2.1.1 (moR_71 h2.1) ?_
        refine g_iload_n dX10_line_55 rfl ?_
        refine g_aload_n dX10_line_56 rfl ?_
        refine g_geti dX10_line_57 fl_X10_175 h2.1.1 ?_
        rw [show w_i (s_i w2 57 15 (nI ((tp_e g T p).2.1 + 1))) 57 18 = nI (N + (tp_e g T p).2.2.length) from h2.2.2.2.2.2.2]
        refine g_i2s dX10_line_60 ?_
        refine g_sast dX10_line_61 (moA_71 h2.1) (vp_in_nI (by omega) (by decide)) ?_
        rw [nI_n (show 61 + m < 2 ^ 31 by omega), ln_nar _ (by omega)]
        have h4 : prI (s_a (s_i w2 57 15 (nI ((tp_e g T p).2.1 + 1))) 71 (va_up (w_a w2 71) (61 + m) (nI (N + (tp_e g T p).2.2.length)))) T g ((tp_e g T p).2.1 + 1) 0 (N + (tp_e g T p).2.2.length) := ⟨h3.1, h3.2.1, h3.2.2.1, h3.2.2.2.1, h3.2.2.2.2.1, h3.2.2.2.2.2.1, h3.2.2.2.2.2.2⟩
        have s4 : same lnX prF w (s_a (s_i w2 57 15 (nI ((tp_e g T p).2.1 + 1))) 71 (va_up (w_a w2 71) (61 + m) (nI (N + (tp_e g T p).2.2.length)))) := (((same.rf.sa (by simp)).tr (r2.1.wk (by simp) (fun _ z => z))).si (by simp)).sa (by simp)
        refine g_aload_n dX10_line_62 rfl ?_
        refine g_cV0v dX10_line_63 ml_X10_203 mi_X10_either mv_X10_either h2.1.1 ⟨_, rfl, rfl⟩ (Nat.le_of_ble_eq_true rfl) rfl (by omega) ?_
        refine c_either (by omega) h4 (by omega) (fun hr2 w5 r5 => ?_) (fun hr2 w5 b5 => ?_)
        · have hb5 := tp_e_b (g := g) (T := T) (p := (tp_e g T p).2.1 + 1) (by omega)
          unfold tpB at hb5
          have h5 := h4.go r5 hb5.2
          have m5 : w_a w5 70 1 = nI m := by rw [(r5.1.2.2.2.1 70 (by simp)).1]; exact m2
          refine g_aload_n dX10_line_66 rfl ?_
          refine g_getr dX10_line_67 fl_X10_56 h5.1.1 (moR_72 h5.1) ?_
          refine g_iload_n dX10_line_70 rfl ?_
          refine g_aload_n dX10_line_71 rfl ?_
          refine g_geti dX10_line_72 fl_X10_175 h5.1.1 ?_
          rw [h5.2.2.2.2.2.2]
          refine g_i2s dX10_line_75 ?_
          refine g_sast dX10_line_76 (moA_72 h5.1) (vp_in_nI (by omega) (by decide)) ?_
          rw [nI_n (show 61 + m < 2 ^ 31 by omega), ln_nar _ (by omega)]
          refine g_aload_n dX10_line_77 rfl ?_
          refine g_getr dX10_line_78 fl_X10_49 h5.1.1 (moR_70 h5.1) ?_
          refine g_iconst (v := 1) dX10_line_81 rfl ?_
          refine g_dup2 dX10_line_82 rfl rfl ?_
          refine g_iald dX10_line_83 (moA_70 h5.1) (vp_in_nI (n := 1) (by decide) (by decide)) ?_
          rw [show (1 : Int32).toNatClampNeg = 1 from rfl, show w_a (s_a w5 72 _) 70 1 = nI m from m5]
          refine g_iconst (v := 1) dX10_line_84 rfl ?_
          refine g_iadd dX10_line_85 ?_
          rw [nI_1]
          refine g_iast dX10_line_86 (moA_70 h5.1) (vp_in_nI (n := 1) (by decide) (by decide)) ?_
          refine g_vret dX10_line_87 rfl ⟨rfl, ?_⟩
          rw [ln_2 hr h63 hr2] at kA
          have ne : ¬ (tp_e g T p).2.2 = [] := fun z => by
            have := (ex_e hr).2.1
            rw [z] at this
            exact absurd this (by decide)
          refine kA rfl (tp_e g T p).2.2 (tp_e g T ((tp_e g T p).2.1 + 1)).2.2 (Or.inr (ex_e hr)) (ex_e hr2) (by show (if _ then _ else _) ++ [] = _; rw [if_neg ne, List.append_nil]) _ ⟨((s4.tr (r5.1.wk (by simp) (fun _ z => z))).sa (by simp)).sa (by simp), h5.2.2.1, h5.2.2.2.2.1, h5.2.2.2.2.2.1, h5.2.2.2.2.2.2, ⟨?_, ?_⟩, ?_, ?_, ?_⟩
          · show w_a w5 68 = _
            rw [r5.2.2.2.2.2.1, List.map_append, tp_row_app, List.length_map, Nat.add_assoc]
            show tp_row (w_a w2 68) _ _ = _
            rw [r2.2.2.2.2.2.1]
            rfl
          · show w_a w5 69 = _
            rw [r5.2.2.2.2.2.2, List.map_append, tp_row_app, List.length_map, Nat.add_assoc]
            show tp_row (w_a w2 69) _ _ = _
            rw [r2.2.2.2.2.2.2]
            rfl
          · rw [wa_sat, show w_a (s_a w5 72 (va_up (w_a w5 72) (61 + m) (nI (N + (tp_e g T p).2.2.length + (tp_e g T ((tp_e g T p).2.1 + 1)).2.2.length)))) 70 = w_a w5 70 from rfl, (r5.1.2.2.2.1 70 (by simp)).1]
            show va_up (w_a w2 70) 1 _ = _
            rw [(r2.1.2.2.2.1 70 (by simp)).1]
            rfl
          · show w_a w5 71 = _
            rw [(r5.1.2.2.2.1 71 (by simp)).1]
            show va_up (w_a w2 71) _ _ = _
            rw [(r2.1.2.2.2.1 71 (by simp)).1]
            show va_up (va_up (w_a w 71) (61 + m) (nI N)) (61 + m) _ = _
            rw [va_up_up]
          · show va_up (w_a w5 72) (61 + m) _ = _
            rw [(r5.1.2.2.2.1 72 (by simp)).1]
            show va_up (w_a w2 72) _ _ = _
            rw [(r2.1.2.2.2.1 72 (by simp)).1]
            rfl
        · have h5 : moO w5 := h4.1.same b5.1
          have m5 : w_a w5 70 1 = nI m := by rw [(b5.1.2.2.2.1 70 (by simp)).1]; exact m2
          refine g_aload_n dX10_line_66 rfl ?_
          refine g_getr dX10_line_67 fl_X10_56 h5.1 (moR_72 h5) ?_
          refine g_iload_n dX10_line_70 rfl ?_
          refine g_aload_n dX10_line_71 rfl ?_
          refine g_geti dX10_line_72 fl_X10_175 h5.1 ?_
          refine g_i2s dX10_line_75 ?_
          refine g_sast dX10_line_76 (moA_72 h5) (vp_in_nI (by omega) (by decide)) ?_
          rw [nI_n (show 61 + m < 2 ^ 31 by omega)]
          refine g_aload_n dX10_line_77 rfl ?_
          refine g_getr dX10_line_78 fl_X10_49 h5.1 (moR_70 h5) ?_
          refine g_iconst (v := 1) dX10_line_81 rfl ?_
          refine g_dup2 dX10_line_82 rfl rfl ?_
          refine g_iald dX10_line_83 (moA_70 h5) (vp_in_nI (n := 1) (by decide) (by decide)) ?_
          rw [show (1 : Int32).toNatClampNeg = 1 from rfl, show w_a (s_a w5 72 _) 70 1 = nI m from m5]
          refine g_iconst (v := 1) dX10_line_84 rfl ?_
          refine g_iadd dX10_line_85 ?_
          rw [nI_1]
          refine g_iast dX10_line_86 (moA_70 h5) (vp_in_nI (n := 1) (by decide) (by decide)) ?_
          refine g_vret dX10_line_87 rfl ⟨rfl, ?_⟩
          obtain ⟨q1, q2⟩ := ln_bad2 hr h63 hr2
          rw [q1] at kB
          refine kB q2 _ ((((s4.tr (b5.1.wk (by simp) (fun _ z => z))).sa (by simp)).sa (by simp))) ⟨?_, ?_, fun j hj => ⟨?_, ?_⟩⟩ b5.2.2.1
          · obtain ⟨N', -, -, b6⟩ := b5.2.2.2
            exact r2.low.tr b6
          · rw [wa_sat, va_up_row (by decide)]
            show w_a w5 70 0 = _
            rw [(b5.1.2.2.2.1 70 (by simp)).1]
            show w_a w2 70 0 = _
            rw [(r2.1.2.2.2.1 70 (by simp)).1]
            rfl
          · show w_a w5 71 j = _
            rw [(b5.1.2.2.2.1 71 (by simp)).1]
            show va_up (w_a w2 71) (61 + m) _ j = _
            rw [va_up_row (by omega), (r2.1.2.2.2.1 71 (by simp)).1]
            show va_up (w_a w 71) (61 + m) _ j = _
            exact va_up_row (by omega)
          · show va_up (w_a w5 72) (61 + m) _ j = _
            rw [va_up_row (by omega), (b5.1.2.2.2.1 72 (by simp)).1]
            show w_a w2 72 j = _
            rw [(r2.1.2.2.2.1 72 (by simp)).1]
            rfl
  · have h2 : moO w2 := h1.1.same b2.1
    have m2 : w_a w2 70 1 = nI m := by rw [(b2.1.2.2.2.1 70 (by simp)).1]; exact hm
    refine g_aload_n dX10_line_25 rfl ?_
    refine g_geti dX10_line_26 fl_X10_172 h2.1 ?_
    rw [b2.2.2.1]
    refine g_if_ge (tgt := 66) dX10_line_29 (by decide) (fun zc29 => ?_) (fun zc29 => ?_)
    · refine g_aload_n dX10_line_66 rfl ?_
      refine g_getr dX10_line_67 fl_X10_56 h2.1 (moR_72 h2) ?_
      refine g_iload_n dX10_line_70 rfl ?_
      refine g_aload_n dX10_line_71 rfl ?_
      refine g_geti dX10_line_72 fl_X10_175 h2.1 ?_
      refine g_i2s dX10_line_75 ?_
      refine g_sast dX10_line_76 (moA_72 h2) (vp_in_nI (by omega) (by decide)) ?_
      rw [nI_n (show 61 + m < 2 ^ 31 by omega)]
      refine g_aload_n dX10_line_77 rfl ?_
      refine g_getr dX10_line_78 fl_X10_49 h2.1 (moR_70 h2) ?_
      refine g_iconst (v := 1) dX10_line_81 rfl ?_
      refine g_dup2 dX10_line_82 rfl rfl ?_
      refine g_iald dX10_line_83 (moA_70 h2) (vp_in_nI (n := 1) (by decide) (by decide)) ?_
      rw [show (1 : Int32).toNatClampNeg = 1 from rfl, show w_a (s_a w2 72 _) 70 1 = nI m from m2]
      refine g_iconst (v := 1) dX10_line_84 rfl ?_
      refine g_iadd dX10_line_85 ?_
      rw [nI_1]
      refine g_iast dX10_line_86 (moA_70 h2) (vp_in_nI (n := 1) (by decide) (by decide)) ?_
      refine g_vret dX10_line_87 rfl ⟨rfl, ?_⟩
      obtain ⟨q1, q2⟩ := ln_bad1 hr
      rw [q1] at kB
      refine kB q2 _ (((((same.rf.sa (by simp)).tr (b2.1.wk (by simp) (fun _ z => z))).sa (by simp)).sa (by simp))) ⟨?_, ?_, fun j hj => ⟨?_, ?_⟩⟩ b2.2.2.1
      · obtain ⟨N', -, -, b6⟩ := b2.2.2.2
        exact b6
      · rw [wa_sat, va_up_row (by decide)]
        show w_a w2 70 0 = _
        rw [(b2.1.2.2.2.1 70 (by simp)).1]
        rfl
      · show w_a w2 71 j = _
        rw [(b2.1.2.2.2.1 71 (by simp)).1]
        show va_up (w_a w 71) (61 + m) _ j = _
        exact va_up_row (by omega)
      · show va_up (w_a w2 72) (61 + m) _ j = _
        rw [va_up_row (by omega), (b2.1.2.2.2.1 72 (by simp)).1]
        rfl
    · exact absurd (show (0 : Int32) ≤ nI (tp_e g T p).2.1 from nI_pos' (by have := tp_e_b (g := g) (T := T) hpT; unfold tpB at this; omega)) zc29

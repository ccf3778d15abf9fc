/-! The reference: shelves, days -/
theorem z60 (i j : Nat) : (60 : Int32) * nI i + nI j = nI (60 * i + j) := by
  rw [show (60 : Int32) * nI i = nI (60 * i) from pk_mul 60 i, nI_add]
def shM (w : gx_W) (i ln : Nat) (C : Nat → Int64) : Prop := w_a w 88 i = nI ln ∧ ln ≤ 60 ∧ ∀ j, j < 60 → w_l w 89 (60 * i + j) = C j
theorem shM.same {R : List Nat} {F : List (Nat × Nat)} {w w' : gx_W} {i ln : Nat} {C : Nat → Int64} (h : shM w i ln C) (hs : same R F w w') (hR : 88 ∉ R ∧ 89 ∉ R) : shM w' i ln C := ⟨by rw [(hs.2.2.2.1 88 hR.1).1]; exact h.1, h.2.1, fun j hj => by rw [(hs.2.2.2.1 89 hR.2).2]; exact h.2.2 j hj⟩
theorem c_X10_rowFault {d : Nat} {w : gx_W} {i : Nat} {k : Int32 → gx_W → Prop} (hd : 0 ≤ d) (h : moO w) (hi : i < 6) (k1 : w_a w 87 i = -1 → k (-11) w) (k2 : w_a w 87 i = -2 → k 0 w) (k3 : ¬ w_a w 87 i = -1 → ¬ w_a w 87 i = -2 → k (-12) w) : gx_C 0 0 d mX10_rowFault [.ref 57, .int (nI i)] w (Qi k) := by
  refine gx_C_of' (L := [.ref 57, .int (nI i)]) (by decide +kernel) rfl (Nat.le_of_ble_eq_true rfl) ?_
  refine g_aload_n dX10_rowFault_0 rfl ?_
  refine g_getr dX10_rowFault_1 fl_X10_105 h.1 (moR_87 h) ?_
  refine g_iload_n dX10_rowFault_4 rfl ?_
  refine g_iald dX10_rowFault_5 (moA_87 h) (vp_in_nI (by omega) (by decide)) ?_
  rw [nI_n (by omega)]
  refine g_iconst (v := -1) dX10_rowFault_6 rfl ?_
  refine g_icmp_ne (tgt := 15) dX10_rowFault_7 (by decide) (fun zc7 => ?_) (fun zc7 => ?_)
  · refine g_aload_n dX10_rowFault_15 rfl ?_
    refine g_getr dX10_rowFault_16 fl_X10_105 h.1 (moR_87 h) ?_
    refine g_iload_n dX10_rowFault_19 rfl ?_
    refine g_iald dX10_rowFault_20 (moA_87 h) (vp_in_nI (by omega) (by decide)) ?_
    rw [nI_n (by omega)]
    refine g_bipush (v := -2) dX10_rowFault_21 rfl ?_
    refine g_icmp_ne (tgt := 30) dX10_rowFault_23 (by decide) (fun zc23 => ?_) (fun zc23 => ?_)
    · refine g_bipush (v := -12) dX10_rowFault_30 rfl ?_
      refine g_iret dX10_rowFault_32 rfl ⟨_, rfl, ?_⟩
      exact k3 zc7 zc23
    · refine g_iconst (v := 0) dX10_rowFault_26 rfl ?_
      refine g_goto (tgt := 32) dX10_rowFault_27 (by decide) ?_
      refine g_iret dX10_rowFault_32 rfl ⟨_, rfl, ?_⟩
      exact k2 zc23
  · refine g_bipush (v := -11) dX10_rowFault_10 rfl ?_
    refine g_goto (tgt := 32) dX10_rowFault_12 (by decide) ?_
    refine g_iret dX10_rowFault_32 rfl ⟨_, rfl, ?_⟩
    exact k1 zc7
theorem c_X10_at {d : Nat} {w : gx_W} {i j : Nat} {k : Int32 → gx_W → Prop} (hd : 0 ≤ d) (h : moO w) (hi : i < 6) (hj : j < 60) (kk : k (w_l w 89 (60 * i + j)).toInt32 w) : gx_C 0 0 d mX10_at [.ref 57, .int (nI i), .int (nI j)] w (Qi k) := by
  refine gx_C_of' (L := [.ref 57, .int (nI i), .int (nI j)]) (by decide +kernel) rfl (Nat.le_of_ble_eq_true rfl) ?_
  refine g_aload_n dX10_at_0 rfl ?_
  refine g_getr dX10_at_1 fl_X10_111 h.1 (moR_89 h) ?_
  refine g_bipush (v := 60) dX10_at_4 rfl ?_
  refine g_iload_n dX10_at_6 rfl ?_
  refine g_imul dX10_at_7 ?_
  refine g_iload_n dX10_at_8 rfl ?_
  refine g_iadd dX10_at_9 ?_
  rw [z60]
  refine g_lald dX10_at_10 (moA_89 h) (vp_in_nI (by omega) (by decide)) ?_
  rw [nI_n (by omega)]
  refine g_l2i dX10_at_11 ?_
  refine g_iret dX10_at_12 rfl ⟨_, rfl, ?_⟩
  exact kk
theorem c_isCoM {d : Nat} {w : gx_W} {x : Int32} {k : Int32 → gx_W → Prop} (hd : 1 ≤ d) (kt : isCo x = true → k 1 w) (kf : ¬ isCo x = true → k 0 w) : gx_C 0 0 d mX10_isComer [.int x] w (Qi k) := by
  refine gx_C_of' (L := [.int x]) (by decide +kernel) rfl (Nat.le_of_ble_eq_true rfl) ?_
  refine g_iload_n dX10_isComer_0 rfl ?_
  refine g_iconst (v := 0) dX10_isComer_1 rfl ?_
  refine g_bipush (v := 99) dX10_isComer_2 rfl ?_
  refine g_cS3i dX10_isComer_4 ml_X10_124 mi_X10_in ms_X10_in (Nat.le_of_ble_eq_true rfl) rfl (by omega) ?_
  refine c_inN (H := 99) rfl (by decide) (fun m e hm => ?_) (fun nx => ?_)
  · refine g_zret dX10_isComer_7 rfl (Or.inr rfl) ⟨_, rfl, ?_⟩
    exact kt (by rw [e]; exact isCo_nI (by omega))
  · refine g_zret dX10_isComer_7 rfl (Or.inl rfl) ⟨_, rfl, ?_⟩
    exact kf (fun q => by obtain ⟨c, hc, e⟩ := isCo_ex q; exact nx c (by omega) e)
theorem l_X10_longOf {d i ln m : Nat} {C : Nat → Int64} {w : gx_W} {k : Int32 → gx_W → Prop} (hd : 2 ≤ d) (h : moO w) (hi : i < 6) (hs : shM w i ln C) (hm : m ≤ 60) (kk : k (nI (sh_com (fun j => isCo (C j).toInt32) (min m ln))) w) : ∀ z j : Nat, j + z = min m ln → (∀ y, y < j → isCo (C y).toInt32 = true) → gx_G 0 0 d mX10_longOf (Qi k) 2 [.ref 57, .int (nI i), .int (nI m), .int (nI j)] [] w := by
  intro z
  have hln := hs.2.1
  induction z with
  | zero =>
    intro j hj hall
    have e : sh_com (fun j => isCo (C j).toInt32) (min m ln) = j := by rw [show min m ln = j by omega]; exact sh_com_all _ _ hall
    rw [e] at kk
    refine g_iload_n dX10_longOf_2 rfl ?_
    refine g_iload_n dX10_longOf_3 rfl ?_
    refine g_icmp_ge (tgt := 35) dX10_longOf_4 (by decide) (fun zc4 => ?_) (fun zc4 => ?_)
    · refine g_iload_n dX10_longOf_35 rfl ?_
      refine g_iret dX10_longOf_36 rfl ⟨_, rfl, ?_⟩
      exact kk
    · refine g_iload_n dX10_longOf_7 rfl ?_
      refine g_aload_n dX10_longOf_8 rfl ?_
      refine g_getr dX10_longOf_9 fl_X10_108 h.1 (moR_88 h) ?_
      refine g_iload_n dX10_longOf_12 rfl ?_
      refine g_iald dX10_longOf_13 (moA_88 h) (vp_in_nI (by omega) (by decide)) ?_
      rw [nI_n (by omega), hs.1]
      refine g_icmp_ge (tgt := 35) dX10_longOf_14 (by decide) (fun zc14 => ?_) (fun zc14 => ?_)
      · refine g_iload_n dX10_longOf_35 rfl ?_
        refine g_iret dX10_longOf_36 rfl ⟨_, rfl, ?_⟩
        exact kk
      · exact absurd (show j < min m ln from Nat.lt_min.mpr ⟨by rcases Nat.lt_or_ge j m with q | q; exact q; exact absurd (nI_le q (by omega)) zc4, by rcases Nat.lt_or_ge j ln with q | q; exact q; exact absurd (nI_le q (by omega)) zc14⟩) (by omega)
  | succ z ih =>
    intro j hj hall
    have hjm : j < m := by omega
    have hjl : j < ln := by omega
    refine g_iload_n dX10_longOf_2 rfl ?_
    refine g_iload_n dX10_longOf_3 rfl ?_
    refine g_icmp_ge (tgt := 35) dX10_longOf_4 (by decide) (fun zc4 => ?_) (fun zc4 => ?_)
    · refine g_iload_n dX10_longOf_35 rfl ?_
      refine g_iret dX10_longOf_36 rfl ⟨_, rfl, ?_⟩
      exact absurd zc4 (nI_ge (by omega) (by omega))
    · refine g_iload_n dX10_longOf_7 rfl ?_
      refine g_aload_n dX10_longOf_8 rfl ?_
      refine g_getr dX10_longOf_9 fl_X10_108 h.1 (moR_88 h) ?_
      refine g_iload_n dX10_longOf_12 rfl ?_
      refine g_iald dX10_longOf_13 (moA_88 h) (vp_in_nI (by omega) (by decide)) ?_
      rw [nI_n (by omega), hs.1]
      refine g_icmp_ge (tgt := 35) dX10_longOf_14 (by decide) (fun zc14 => ?_) (fun zc14 => ?_)
      · refine g_iload_n dX10_longOf_35 rfl ?_
        refine g_iret dX10_longOf_36 rfl ⟨_, rfl, ?_⟩
        exact absurd zc14 (nI_ge (by omega) (by omega))
      · refine g_aload_n dX10_longOf_17 rfl ?_
        refine g_iload_n dX10_longOf_18 rfl ?_
        refine g_iload_n dX10_longOf_19 rfl ?_
        refine g_cV2i dX10_longOf_20 ml_X10_262 mi_X10_at mv_X10_at h.1 ⟨_, rfl, rfl⟩ (Nat.le_of_ble_eq_true rfl) rfl (by omega) ?_
        refine c_X10_at (by omega) h hi (show j < 60 by omega) ?_
        rw [hs.2.2 j (by omega)]
        refine g_cS1i dX10_longOf_23 ml_X10_256 mi_X10_isComer ms_X10_isComer (Nat.le_of_ble_eq_true rfl) rfl (by omega) ?_
        refine c_isCoM (by omega) (fun hc => ?_) (fun hc => ?_)
        · refine g_if_eq (tgt := 35) dX10_longOf_26 (by decide) (fun q => absurd q (by decide)) (fun _ => ?_)
          refine g_iinc dX10_longOf_29 rfl rfl ?_
          refine g_goto (tgt := 2) dX10_longOf_32 (by decide) ?_
          rw [nI_1']
          exact ih (j + 1) (by omega) (fun y hy => by rcases Nat.lt_or_ge y j with q | q; exact hall y q; rw [show y = j by omega]; exact hc)
        · refine g_if_eq (tgt := 35) dX10_longOf_26 (by decide) (fun _ => ?_) (fun q => absurd q (by decide))
          refine g_iload_n dX10_longOf_35 rfl ?_
          refine g_iret dX10_longOf_36 rfl ⟨_, rfl, ?_⟩
          have e : sh_com (fun j => isCo (C j).toInt32) (min m ln) = j := sh_com_at _ _ j (by omega) hall hc
          rw [e] at kk
          exact kk
theorem c_X10_longOf {d : Nat} {w : gx_W} {i ln m : Nat} {C : Nat → Int64} {k : Int32 → gx_W → Prop} (hd : 2 ≤ d) (h : moO w) (hi : i < 6) (hs : shM w i ln C) (hm : m ≤ 60) (kk : k (nI (sh_com (fun j => isCo (C j).toInt32) (min m ln))) w) : gx_C 0 0 d mX10_longOf [.ref 57, .int (nI i), .int (nI m)] w (Qi k) := by
  refine gx_C_of' (L := [.ref 57, .int (nI i), .int (nI m), .retAddr 0]) (by decide +kernel) rfl (Nat.le_of_ble_eq_true rfl) ?_
  refine g_iconst (v := 0) dX10_longOf_0 rfl ?_
  refine g_istore_n dX10_longOf_1 (Nat.le_of_ble_eq_true rfl) rfl ?_
  exact l_X10_longOf hd h hi hs hm kk (min m ln) 0 (Nat.zero_add _) (fun y hy => absurd hy (Nat.not_lt_zero _))
def th_00 (f : Nat → Int32) : thS := (f, fun _ => 0, fun _ => -2, fun j => f (18 + j), 0, -2, 0)
def dyS (w : gx_W) (n N : Nat) (sg va : Nat → Int32) (s : thS) : Prop := moT w s.1 n N sg va ∧ (∀ j, j < n → w_a w 76 j = s.2.1 j) ∧ (∀ j, j < n → w_a w 77 j = s.2.2.1 j) ∧ (∀ j, j < n → w_a w 78 j = s.2.2.2.1 j) ∧ w_i w 57 31 = s.2.2.2.2.2.1
/-- who never came has no first, and the other way round -/
def dyI (n : Nat) (s : thS) (k : Nat) : Prop := s.2.2.2.2.1 = nI k ∧ ∀ j, j < n → ∃ u, u ≤ k ∧ s.2.1 j = nI u ∧ (u = 0 ↔ s.2.2.1 j = -2)
theorem nI_m2 {k : Nat} (h : k < 2 ^ 31) : ¬ nI k = -2 := fun q => by
  have := congrArg Int32.toInt q
  rw [nI_toInt h, show (-2 : Int32).toInt = -2 by decide] at this
  omega
theorem dyI.go {N : Nat} {sg va : Nat → Int32} {n k c : Nat} {s : thS} (hn : n ≤ 6) (hk : k < 2 ^ 20) (h : dyI n s k) : dyI n (th_go N sg va n s c) (k + 1) := by
  obtain ⟨h1, h2⟩ := h
  unfold th_go
  rcases cr_has_cases (N := N) (sg := sg) (va := va) (f := s.1) (c := c) hn with e | ⟨t, ht, e⟩
  · rw [e, if_pos (by decide)]
    refine ⟨by show s.2.2.2.2.1 + 1 = _; rw [h1, nI_1], fun j hj => ?_⟩
    obtain ⟨u, u1, u2, u3⟩ := h2 j hj
    exact ⟨u, by omega, u2, u3⟩
  · rw [e, if_neg (nI_pos (by omega)), nI_n (by omega)]
    refine ⟨by show s.2.2.2.2.1 + 1 = _; rw [h1, nI_1], fun j hj => ?_⟩
    obtain ⟨u, u1, u2, u3⟩ := h2 j hj
    show ∃ u, u ≤ k + 1 ∧ va_up s.2.1 t (s.2.1 t + 1) j = nI u ∧ (u = 0 ↔ (if s.2.2.1 t = -2 then va_up s.2.2.1 t s.2.2.2.2.1 else s.2.2.1) j = -2)
    by_cases q : j = t
    · subst q
      refine ⟨u + 1, by omega, by rw [va_up_at, u2, nI_1], ⟨fun z => absurd z (by omega), fun z => ?_⟩⟩
      by_cases y : s.2.2.1 j = -2
      · rw [if_pos y, va_up_at, h1] at z
        exact absurd z (nI_m2 (by omega))
      · rw [if_neg y] at z
        exact absurd z y
    · refine ⟨u, by omega, by rw [va_up_row q]; exact u2, ?_⟩
      by_cases y : s.2.2.1 t = -2
      · rw [if_pos y, va_up_row q]; exact u3
      · rw [if_neg y]; exact u3
theorem dyI.day {N : Nat} {sg va : Nat → Int32} {n : Nat} {C : Nat → Nat} {s : thS} (hn : n ≤ 6) (h : dyI n s 0) : ∀ k, k < 2 ^ 20 → dyI n (th_day N sg va n C k s) k := by
  intro k
  induction k with
  | zero => intro _; exact h
  | succ k ih => intro hk; exact (ih (by omega)).go hn (by omega)
theorem dyI_0 (n : Nat) (f : Nat → Int32) : dyI n (th_00 f) 0 := ⟨rfl, fun j _ => ⟨0, Nat.le_refl _, rfl, ⟨fun _ => rfl, fun _ => rfl⟩⟩⟩
theorem l_X10_goDay1 {d n : Nat} {w0 : gx_W} {x1 x2 : Int32} {k : gx_W → Prop} (h : moO w0) (hn : w_i w0 57 1 = nI n) (hn6 : n ≤ 6) (kk : ∀ w', same [76, 77, 78] [] w0 w' → (∀ j, j < n → w_a w' 76 j = 0 ∧ w_a w' 77 j = -2 ∧ w_a w' 78 j = w_a w0 75 j) → gx_G 0 0 d mX10_goDay (Qv k) 53 [.ref 57, .int x1, .int x2, .int (nI n), .retAddr 0, .retAddr 0] [] w') : ∀ (z i : Nat) (w1 : gx_W), i + z = n → same [76, 77, 78] [] w0 w1 → (∀ j, j < i → w_a w1 76 j = 0 ∧ w_a w1 77 j = -2 ∧ w_a w1 78 j = w_a w0 75 j) → gx_G 0 0 d mX10_goDay (Qv k) 12 [.ref 57, .int x1, .int x2, .int (nI i), .retAddr 0, .retAddr 0] [] w1 := by
  intro z
  induction z with
  | zero =>
    intro i w1 hi hs hv
    have h1 := h.same hs
    have en : w_i w1 57 1 = nI n := (hs.2.1 57 1 (by simp)).trans hn
    have e : i = n := by omega
    subst e
    refine g_iload_n dX10_goDay_12 rfl ?_
    refine g_aload_n dX10_goDay_13 rfl ?_
    refine g_geti dX10_goDay_14 fl_X10_121 h1.1 ?_
    rw [en]
    refine g_icmp_ge (tgt := 53) dX10_goDay_17 (by decide) (fun zc17 => ?_) (fun zc17 => ?_)
    · exact kk w1 hs hv
    · exact absurd (Int32.le_refl _) zc17
  | succ z ih =>
    intro i w1 hi hs hv
    have h1 := h.same hs
    have en : w_i w1 57 1 = nI n := (hs.2.1 57 1 (by simp)).trans hn
    have e75 : w_a w1 75 = w_a w0 75 := (hs.2.2.2.1 75 (by simp)).1
    refine g_iload_n dX10_goDay_12 rfl ?_
    refine g_aload_n dX10_goDay_13 rfl ?_
    refine g_geti dX10_goDay_14 fl_X10_121 h1.1 ?_
    rw [en]
    refine g_icmp_ge (tgt := 53) dX10_goDay_17 (by decide) (fun zc17 => ?_) (fun zc17 => ?_)
    · exact absurd zc17 (nI_ge (by omega) (by omega))
    · refine g_aload_n dX10_goDay_20 rfl ?_
      refine g_getr dX10_goDay_21 fl_X10_68 h1.1 (moR_76 h1) ?_
      refine g_iload_n dX10_goDay_24 rfl ?_
      refine g_iconst (v := 0) dX10_goDay_25 rfl ?_
      refine g_iast dX10_goDay_26 (moA_76 h1) (vp_in_nI (by omega) (by decide)) ?_
      refine g_aload_n dX10_goDay_27 rfl ?_
      refine g_getr dX10_goDay_28 fl_X10_71 h1.1 (moR_77 h1) ?_
      refine g_iload_n dX10_goDay_31 rfl ?_
      refine g_bipush (v := -2) dX10_goDay_32 rfl ?_
      refine g_iast dX10_goDay_34 (moA_77 h1) (vp_in_nI (by omega) (by decide)) ?_
      refine g_aload_n dX10_goDay_35 rfl ?_
      refine g_getr dX10_goDay_36 fl_X10_74 h1.1 (moR_78 h1) ?_
      refine g_iload_n dX10_goDay_39 rfl ?_
      refine g_aload_n dX10_goDay_40 rfl ?_
      refine g_getr dX10_goDay_41 fl_X10_65 h1.1 (moR_75 h1) ?_
      refine g_iload_n dX10_goDay_44 rfl ?_
      refine g_iald dX10_goDay_45 (moA_75 h1) (vp_in_nI (by omega) (by decide)) ?_
      rw [nI_n (show i < 2 ^ 31 by omega), wa_sa, if_neg (by decide), wa_sa, if_neg (by decide), e75]
      refine g_iast dX10_goDay_46 (moA_78 h1) (vp_in_nI (by omega) (by decide)) ?_
      rw [nI_n (show i < 2 ^ 31 by omega)]
      refine g_iinc dX10_goDay_47 rfl rfl ?_
      refine g_goto (tgt := 12) dX10_goDay_50 (by decide) ?_
      rw [nI_1']
      refine ih (i + 1) _ (by omega) (((hs.sa (by simp)).sa (by simp)).sa (by simp)) (fun j hj => ?_)
      refine ⟨?_, ?_, ?_⟩
      · rw [wa_sa, if_neg (by decide), wa_sa, if_neg (by decide), wa_sat, up_at]
        by_cases q : j = i
        · rw [if_pos q]
        · rw [if_neg q]; exact (hv j (by omega)).1
      · rw [wa_sa, if_neg (by decide), wa_sat, up_at]
        by_cases q : j = i
        · rw [if_pos q]
        · rw [if_neg q, wa_sa, if_neg (by decide)]; exact (hv j (by omega)).2.1
      · rw [wa_sat, up_at]
        by_cases q : j = i
        · rw [if_pos q, q]
        · rw [if_neg q, wa_sa, if_neg (by decide), wa_sa, if_neg (by decide)]; exact (hv j (by omega)).2.2
theorem l_X10_goDay2 {d n : Nat} {w0 : gx_W} {x1 x2 x3 x4 : Int32} {k : gx_W → Prop} (h : moO w0) (hn : w_i w0 57 1 = nI n) (hn6 : n ≤ 6) (kk : ∀ w', same [78] [] w0 w' → (∀ j, j < n → w_a w' 78 j = mxI (w_a w0 78 j) (w_a w0 75 j)) → gx_G 0 0 d mX10_goDay (Qv k) 179 [.ref 57, .int x1, .int x2, .int x3, .int x4, .int (nI n)] [] w') : ∀ (z i : Nat) (w1 : gx_W), i + z = n → same [78] [] w0 w1 → (∀ j, w_a w1 78 j = if j < i then mxI (w_a w0 78 j) (w_a w0 75 j) else w_a w0 78 j) → gx_G 0 0 d mX10_goDay (Qv k) 133 [.ref 57, .int x1, .int x2, .int x3, .int x4, .int (nI i)] [] w1 := by
  intro z
  induction z with
  | zero =>
    intro i w1 hi hs hv
    have h1 := h.same hs
    have en : w_i w1 57 1 = nI n := (hs.2.1 57 1 (by simp)).trans hn
    have e : i = n := by omega
    subst e
    refine g_iload dX10_goDay_133 rfl ?_
    refine g_aload_n dX10_goDay_135 rfl ?_
    refine g_geti dX10_goDay_136 fl_X10_121 h1.1 ?_
    rw [en]
    refine g_icmp_ge (tgt := 179) dX10_goDay_139 (by decide) (fun zc139 => ?_) (fun zc139 => ?_)
    · exact kk w1 hs (fun j hj => by rw [hv j, if_pos hj])
    · exact absurd (Int32.le_refl _) zc139
  | succ z ih =>
    intro i w1 hi hs hv
    have h1 := h.same hs
    have en : w_i w1 57 1 = nI n := (hs.2.1 57 1 (by simp)).trans hn
    have e75 : w_a w1 75 = w_a w0 75 := (hs.2.2.2.1 75 (by simp)).1
    have e78 : w_a w1 78 i = w_a w0 78 i := by rw [hv i, if_neg (Nat.lt_irrefl _)]
    refine g_iload dX10_goDay_133 rfl ?_
    refine g_aload_n dX10_goDay_135 rfl ?_
    refine g_geti dX10_goDay_136 fl_X10_121 h1.1 ?_
    rw [en]
    refine g_icmp_ge (tgt := 179) dX10_goDay_139 (by decide) (fun zc139 => ?_) (fun zc139 => ?_)
    · exact absurd zc139 (nI_ge (by omega) (by omega))
    · refine g_aload_n dX10_goDay_142 rfl ?_
      refine g_getr dX10_goDay_143 fl_X10_65 h1.1 (moR_75 h1) ?_
      refine g_iload dX10_goDay_146 rfl ?_
      refine g_iald dX10_goDay_148 (moA_75 h1) (vp_in_nI (by omega) (by decide)) ?_
      rw [nI_n (show i < 2 ^ 31 by omega), e75]
      refine g_aload_n dX10_goDay_149 rfl ?_
      refine g_getr dX10_goDay_150 fl_X10_74 h1.1 (moR_78 h1) ?_
      refine g_iload dX10_goDay_153 rfl ?_
      refine g_iald dX10_goDay_155 (moA_78 h1) (vp_in_nI (by omega) (by decide)) ?_
      rw [nI_n (show i < 2 ^ 31 by omega), e78]
      refine g_icmp_le (tgt := 173) dX10_goDay_156 (by decide) (fun zc156 => ?_) (fun zc156 => ?_)
      · refine g_iinc dX10_goDay_173 rfl rfl ?_
        refine g_goto (tgt := 133) dX10_goDay_176 (by decide) ?_
        rw [nI_1']
        refine ih (i + 1) w1 (by omega) hs (fun j => ?_)
        rw [hv j]
        by_cases q : j = i
        · rw [if_neg (by omega), if_pos (by omega), q]
          exact (if_neg (Int32.not_lt.mpr zc156)).symm
        · by_cases q2 : j < i
          · rw [if_pos q2, if_pos (by omega)]
          · rw [if_neg q2, if_neg (by omega)]
      · refine g_aload_n dX10_goDay_159 rfl ?_
        refine g_getr dX10_goDay_160 fl_X10_74 h1.1 (moR_78 h1) ?_
        refine g_iload dX10_goDay_163 rfl ?_
        refine g_aload_n dX10_goDay_165 rfl ?_
        refine g_getr dX10_goDay_166 fl_X10_65 h1.1 (moR_75 h1) ?_
        refine g_iload dX10_goDay_169 rfl ?_
        refine g_iald dX10_goDay_171 (moA_75 h1) (vp_in_nI (by omega) (by decide)) ?_
        rw [nI_n (show i < 2 ^ 31 by omega), e75]
        refine g_iast dX10_goDay_172 (moA_78 h1) (vp_in_nI (by omega) (by decide)) ?_
        refine g_iinc dX10_goDay_173 rfl rfl ?_
        refine g_goto (tgt := 133) dX10_goDay_176 (by decide) ?_
        rw [nI_1', nI_n (show i < 2 ^ 31 by omega)]
        refine ih (i + 1) _ (by omega) (hs.sa (by simp)) (fun j => ?_)
        rw [wa_sat, up_at]
        by_cases q : j = i
        · rw [if_pos q, if_pos (by omega), q]
          exact (if_pos (Int32.not_le.mp zc156)).symm
        · rw [if_neg q, hv j]
          by_cases q2 : j < i
          · rw [if_pos q2, if_pos (by omega)]
          · rw [if_neg q2, if_neg (by omega)]

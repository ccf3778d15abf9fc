/-! CrossroadsChoose: law, mend -/
theorem tp_lns_b {g : Nat → Int32} {T : Nat} : ∀ z p, p ≤ T → (tp_lns g T z p).2.1 ≤ T := by
  intro z
  induction z with
  | zero => intro p hp; exact hp
  | succ z ih =>
    intro p hp
    have b := tp_ln_b (g := g) hp
    unfold tp_lns
    split
    · split
      · rename_i hq
        exact ih _ (tp_lt (g := g) (T := T) (p := (tp_ln g T p).2.1) (by rw [hq]; decide))
      · exact b.2
    · exact b.2
theorem c_readInto2 {d l T : Nat} {w : gx_W} {g : Nat → Int32} {k : Int32 → gx_W → Prop} (hd : 133 ≤ d) (ht : tpK w T g) (hl : isLw w l (l + 1) (l + 2) (l + 3) (l + 4)) (h27 : 27 ≤ l) (kt : (tp_lns g T 120 0).1 = true → ∀ w', tpR (s_i (s_i w l 4 0) 7 2 0) w' l 0 (tp_lns g T 120 0).2.1 (tp_lns g T 120 0).2.2 → k (-1) (s_i w' 7 1 0)) (kf : (tp_lns g T 120 0).1 = false → ∀ w', tpR (s_i (s_i w l 4 0) 7 2 0) w' l 0 (tp_lns g T 120 0).2.1 (tp_lns g T 120 0).2.2 → k (nI (tp_lns g T 120 0).2.1) (s_i w' 7 1 0)) : gx_C 0 0 d mX6_readInto [.ref 7, .ref l] w (Qi k) := by
  refine c_X6_readInto hd ht hl h27 (fun w' r => ?_)
  cases e : (tp_lns g T 120 0).1 with
  | true => exact kt e w' r
  | false => exact kf e w' r
theorem same.le {R : List Nat} {F : List (Nat × Nat)} {w w' : gx_W} (h : same R F w w') : w'.1 = w.1 ∧ w_r w' = w_r w := ⟨h.1, h.2.2.1⟩
theorem c_number3 {d : Nat} {w : gx_W} {r a n : Nat} {x y : Int32} {k : Int32 → gx_W → Prop} (hd : 1 ≤ d) (h : isCn w r a n) (k1 : ∀ p, chOK n x y p → k (w_a w a p) w) (k2 : (∀ p, ¬ chOK n x y p) → k (-2000000000) w) : gx_C 0 0 d mX2_number [.ref r, .int x, .int y] w (Qi k) := by
  refine c_X2_number hd h (fun q m e1 e2 hq hm => k1 _ (Or.inl ⟨q, m, e1, e2, hq, hm, rfl⟩)) (fun q e1 e2 h4 h8 => k1 _ (Or.inr ⟨q, e1, e2, h4, h8, rfl⟩)) (fun n1 n2 => k2 (fun p hp => ?_))
  rcases hp with ⟨q, m, e1, e2, hq, hm, _⟩ | ⟨q, e1, e2, h4, h8, _⟩
  · exact n1 q m hq hm e1 e2
  · exact n2 q h4 h8 e1 e2
theorem chOK.lt {n p : Nat} {x y : Int32} (hn : n ≤ 6) (h : chOK n x y p) : p < 28 := by
  rcases h with ⟨q, m, _, _, hq, hm, e⟩ | ⟨q, _, _, h4, h8, e⟩ <;> omega
theorem c_X9_law {d : Nat} {w : gx_W} {l0 l T : Nat} {g : Nat → Int32} {k : Int32 → gx_W → Prop} (hd : 134 ≤ d) (h : clO w) (ht : tpK w T g) (hdr : w_r w 6 10 = some l) (hl : isLw w l (l + 1) (l + 2) (l + 3) (l + 4)) (h27 : 27 ≤ l) (hcr : w.1[37]? = some (2, 0)) (hnl : w_r w 37 2 = some l0) (kt : (tp_lns g T 120 0).1 = true → ∀ w', tpR (s_i (s_i w l 4 0) 7 2 0) w' l 0 (tp_lns g T 120 0).2.1 (tp_lns g T 120 0).2.2 → k 1 (s_r (s_r (s_i w' 7 1 0) 37 2 (some l)) 6 10 (some l0))) (kf : (tp_lns g T 120 0).1 = false → ∀ w', tpR (s_i (s_i w l 4 0) 7 2 0) w' l 0 (tp_lns g T 120 0).2.1 (tp_lns g T 120 0).2.2 → k (-100 - nI (tp_lns g T 120 0).2.1) (s_i w' 7 1 0)) : gx_C 0 0 d mX9_law [.ref 6] w (Qi k) := by
  refine gx_C_of' (L := [.ref 6, .retAddr 0, .retAddr 0]) (by decide +kernel) rfl (Nat.le_of_ble_eq_true rfl) ?_
  refine g_aload_n dX9_law_0 rfl ?_
  refine g_getr dX9_law_1 fl_X9_10 h.1 h.2.1.2.2.1 ?_
  refine g_aload_n dX9_law_4 rfl ?_
  refine g_getr dX9_law_5 fl_X9_58 h.1 hdr ?_
  refine g_cV1i dX9_law_8 ml_X9_128 mi_X6_readInto mv_X6_readInto ht.1.1 ⟨_, rfl, rfl⟩ (Nat.le_of_ble_eq_true rfl) rfl (by omega) ?_
  refine c_readInto2 (by omega) ht hl h27 (fun e w1 r1 => ?_) (fun e w1 r1 => ?_)
  · have e1 : w1.1 = w.1 := r1.1.1
    have e2 : w_r w1 = w_r w := r1.1.2.2.1
    have hs : same [l + 1, l + 2] [(7, 1), (7, 2), (l, 4)] w (s_i w1 7 1 0) := by
      have a1 : same [l + 1, l + 2] [(7, 1), (7, 2), (l, 4)] w (s_i (s_i w l 4 0) 7 2 0) := same.si (same.si same.rf (by simp)) (by simp)
      have a2 : same [l + 1, l + 2] [(7, 1), (7, 2), (l, 4)] (s_i (s_i w l 4 0) 7 2 0) w1 := r1.1.wk (by simp) (by simp)
      exact same.si (a1.tr a2) (by simp)
    have h := h.same hs
    have hcr : (s_i w1 7 1 0).1[37]? = some (2, 0) := by rw [hs.1]; exact hcr
    have hnl : w_r (s_i w1 7 1 0) 37 2 = some l0 := by rw [hs.2.2.1]; exact hnl
    have hdr : w_r (s_i w1 7 1 0) 6 10 = some l := by rw [hs.2.2.1]; exact hdr
    refine g_istore_n dX9_law_11 (Nat.le_of_ble_eq_true rfl) rfl ?_
    refine g_iload_n dX9_law_12 rfl ?_
    refine g_if_lt (tgt := 21) dX9_law_13 (by decide) (fun _ => ?_) (fun q => absurd q (by decide))
    refine g_aload_n dX9_law_21 rfl ?_
    refine g_getr dX9_law_22 fl_X9_67 h.1 h.2.1.1 ?_
    refine g_getr dX9_law_25 fl_X9_132 hcr hnl ?_
    refine g_astore_n dX9_law_28 (Nat.le_of_ble_eq_true rfl) rfl ?_
    refine g_aload_n dX9_law_29 rfl ?_
    refine g_getr dX9_law_30 fl_X9_67 h.1 h.2.1.1 ?_
    refine g_aload_n dX9_law_33 rfl ?_
    refine g_getr dX9_law_34 fl_X9_58 h.1 hdr ?_
    refine g_putr dX9_law_37 fl_X9_132 ft_2_2 rfl (fun h => by cases h) hcr ?_
    refine g_aload_n dX9_law_40 rfl ?_
    refine g_aload_n dX9_law_41 rfl ?_
    refine g_putr dX9_law_42 fl_X9_58 ft_9_10 rfl (fun h => by cases h) h.1 ?_
    refine g_iconst (v := 1) dX9_law_45 rfl ?_
    refine g_iret dX9_law_46 rfl ⟨_, rfl, ?_⟩
    exact kt e w1 r1
  · have e1 : w1.1 = w.1 := r1.1.1
    have e2 : w_r w1 = w_r w := r1.1.2.2.1
    have hs : same [l + 1, l + 2] [(7, 1), (7, 2), (l, 4)] w (s_i w1 7 1 0) := by
      have a1 : same [l + 1, l + 2] [(7, 1), (7, 2), (l, 4)] w (s_i (s_i w l 4 0) 7 2 0) := same.si (same.si same.rf (by simp)) (by simp)
      have a2 : same [l + 1, l + 2] [(7, 1), (7, 2), (l, 4)] (s_i (s_i w l 4 0) 7 2 0) w1 := r1.1.wk (by simp) (by simp)
      exact same.si (a1.tr a2) (by simp)
    have h := h.same hs
    have hcr : (s_i w1 7 1 0).1[37]? = some (2, 0) := by rw [hs.1]; exact hcr
    have hnl : w_r (s_i w1 7 1 0) 37 2 = some l0 := by rw [hs.2.2.1]; exact hnl
    have hdr : w_r (s_i w1 7 1 0) 6 10 = some l := by rw [hs.2.2.1]; exact hdr
    refine g_istore_n dX9_law_11 (Nat.le_of_ble_eq_true rfl) rfl ?_
    refine g_iload_n dX9_law_12 rfl ?_
    refine g_if_lt (tgt := 21) dX9_law_13 (by decide) (fun zc13 => ?_) (fun zc13 => ?_)
    · refine g_aload_n dX9_law_21 rfl ?_
      refine g_getr dX9_law_22 fl_X9_67 h.1 h.2.1.1 ?_
      refine g_getr dX9_law_25 fl_X9_132 hcr hnl ?_
      refine g_astore_n dX9_law_28 (Nat.le_of_ble_eq_true rfl) rfl ?_
      refine g_aload_n dX9_law_29 rfl ?_
      refine g_getr dX9_law_30 fl_X9_67 h.1 h.2.1.1 ?_
      refine g_aload_n dX9_law_33 rfl ?_
      refine g_getr dX9_law_34 fl_X9_58 h.1 hdr ?_
      refine g_putr dX9_law_37 fl_X9_132 ft_2_2 rfl (fun h => by cases h) hcr ?_
      refine g_aload_n dX9_law_40 rfl ?_
      refine g_aload_n dX9_law_41 rfl ?_
      refine g_putr dX9_law_42 fl_X9_58 ft_9_10 rfl (fun h => by cases h) h.1 ?_
      refine g_iconst (v := 1) dX9_law_45 rfl ?_
      refine g_iret dX9_law_46 rfl ⟨_, rfl, ?_⟩
      have b := tp_lns_b (g := g) (T := T) 120 0 (Nat.zero_le _)
      have hT := ht.2.2.1
      exact absurd zc13 (nI_pos (by omega))
    · refine g_bipush (v := -100) dX9_law_16 rfl ?_
      refine g_iload_n dX9_law_18 rfl ?_
      refine g_isub dX9_law_19 ?_
      refine g_iret dX9_law_20 rfl ⟨_, rfl, ?_⟩
      exact kf e w1 r1
theorem c_X9_mend {d : Nat} {w : gx_W} {n D : Nat} {x y v : Int32} {k : Int32 → gx_W → Prop} (hd : 4 ≤ d) (hT : isT w) (h : clO w) (hg : chO w) (hc : isCn w 37 38 n) (hd4 : w_i w 9 4 = nI D) (hD : D ≤ 40) (hne : ∀ p, p < 28 → w_a w 38 p ≠ -2000000000) (k1 : (∀ p, ¬ chOK n x y p) → k (-2000000000) w) (k2 : ∀ p, chOK n x y p → me_fits y v = false → k (-2000000000) w) (k3 : ∀ p, chOK n x y p → me_fits y v = true → w_a w 38 p = v → k (w_a w 38 p) w) (k4 : ∀ p, chOK n x y p → me_fits y v = true → ¬ w_a w 38 p = v → ∀ w', chN w w' D x y (w_a w 38 p) v → k (w_a w 38 p) (s_a w' 38 (va_up (w_a w' 38) p v))) : gx_C 0 0 d mX9_mend [.ref 6, .int x, .int y, .int v] w (Qi k) := by
  refine gx_C_of' (L := [.ref 6, .int x, .int y, .int v, .retAddr 0]) (by decide +kernel) rfl (Nat.le_of_ble_eq_true rfl) ?_
  refine g_aload_n dX9_mend_0 rfl ?_
  refine g_getr dX9_mend_1 fl_X9_67 h.1 h.2.1.1 ?_
  refine g_iload_n dX9_mend_4 rfl ?_
  refine g_iload_n dX9_mend_5 rfl ?_
  refine g_cV2i dX9_mend_6 ml_X9_112 mi_X2_number mv_X2_number hc.1.1 ⟨_, rfl, rfl⟩ (Nat.le_of_ble_eq_true rfl) rfl (by omega) ?_
  refine c_number3 (by omega) hc (fun p hp => ?_) (fun np => ?_)
  · refine g_istore dX9_mend_9 (Nat.le_of_ble_eq_true rfl) rfl ?_
    refine g_iload dX9_mend_11 rfl ?_
    refine g_ldc dX9_mend_13 ct_X9_116 ?_
    refine g_icmp_eq (tgt := 26) dX9_mend_15 (by decide) (fun zc15 => ?_) (fun zc15 => ?_)
    · refine g_ldc dX9_mend_26 ct_X9_116 ?_
      refine g_iret dX9_mend_28 rfl ⟨_, rfl, ?_⟩
      exact absurd zc15 (hne p (hp.lt hc.2.2))
    · refine g_iload_n dX9_mend_18 rfl ?_
      refine g_iload_n dX9_mend_19 rfl ?_
      refine g_cS2i dX9_mend_20 ml_X9_79 mi_X9_fits ms_X9_fits (Nat.le_of_ble_eq_true rfl) rfl (by omega) ?_
      refine c_X9_fits (by omega) hT (fun ft => ?_) (fun ft => ?_)
      · refine g_if_ne (tgt := 29) dX9_mend_23 (by decide) (fun _ => ?_) (fun q => absurd q (by decide))
        refine g_iload dX9_mend_29 rfl ?_
        refine g_iload_n dX9_mend_31 rfl ?_
        refine g_icmp_eq (tgt := 57) dX9_mend_32 (by decide) (fun zc32 => ?_) (fun zc32 => ?_)
        · refine g_iload dX9_mend_57 rfl ?_
          refine g_iret dX9_mend_59 rfl ⟨_, rfl, ?_⟩
          exact k3 p hp ft zc32
        · refine g_aload_n dX9_mend_35 rfl ?_
          refine g_getr dX9_mend_36 fl_X9_19 h.1 h.2.1.2.2.2.1 ?_
          refine g_iload_n dX9_mend_39 rfl ?_
          refine g_iload_n dX9_mend_40 rfl ?_
          refine g_iload dX9_mend_41 rfl ?_
          refine g_iload_n dX9_mend_43 rfl ?_
          refine g_cV4v dX9_mend_44 ml_X9_117 mi_X1_note mv_X1_note hg.1 ⟨_, rfl, rfl⟩ (Nat.le_of_ble_eq_true rfl) rfl (by omega) ?_
          refine c_X1_note (by omega) hg hd4 hD (fun w1 r1 => ?_)
          refine g_aload_n dX9_mend_47 rfl ?_
          refine g_getr dX9_mend_48 fl_X9_67 (h.same r1.1).1 (h.same r1.1).2.1.1 ?_
          refine g_iload_n dX9_mend_51 rfl ?_
          refine g_iload_n dX9_mend_52 rfl ?_
          refine g_iload_n dX9_mend_53 rfl ?_
          refine g_cV3v dX9_mend_54 ml_X9_121 mi_X2_become mv_X2_become (hc.same r1.1 (by simp)).1.1 ⟨_, rfl, rfl⟩ (Nat.le_of_ble_eq_true rfl) rfl (by omega) ?_
          refine c_become_p (by omega) (hc.same r1.1 (by simp)) hp ?_
          refine g_iload dX9_mend_57 rfl ?_
          refine g_iret dX9_mend_59 rfl ⟨_, rfl, ?_⟩
          exact k4 p hp ft zc32 w1 r1
      · refine g_if_ne (tgt := 29) dX9_mend_23 (by decide) (fun q => absurd q (by decide)) (fun _ => ?_)
        refine g_ldc dX9_mend_26 ct_X9_116 ?_
        refine g_iret dX9_mend_28 rfl ⟨_, rfl, ?_⟩
        exact k2 p hp ft
  · refine g_istore dX9_mend_9 (Nat.le_of_ble_eq_true rfl) rfl ?_
    refine g_iload dX9_mend_11 rfl ?_
    refine g_ldc dX9_mend_13 ct_X9_116 ?_
    refine g_icmp_eq (tgt := 26) dX9_mend_15 (by decide) (fun zc15 => ?_) (fun zc15 => ?_)
    · refine g_ldc dX9_mend_26 ct_X9_116 ?_
      refine g_iret dX9_mend_28 rfl ⟨_, rfl, ?_⟩
      exact k1 np
    · exact absurd rfl zc15

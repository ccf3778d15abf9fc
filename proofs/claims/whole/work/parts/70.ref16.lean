/-! The reference: acts -/
set_option maxHeartbeats 2000000 in
theorem c_X10_plainWants {d : Nat} {w : gx_W} {bb kd m : Nat} {x : Int32} {k : Int32 → gx_W → Prop} (hd : 1 ≤ d) (h : bdM w bb kd m) (hm : m + (pW (nI bb) x).2.length < 2 ^ 30) (kk : ∀ w', trR w w' m (pW (nI bb) x).2 → k (pW (nI bb) x).1 w') : gx_C 0 0 d mX10_plainWants [.ref 57, .int (nI bb), .int x] w (Qi k) := by
  refine gx_C_of' (L := [.ref 57, .int (nI bb), .int x]) (by decide +kernel) rfl (Nat.le_of_ble_eq_true rfl) ?_
  have hm : m + ([1]).length < 2 ^ 30 := hm
  refine g_aload_n dX10_plainWants_0 rfl ?_
  refine g_iconst (v := 1) dX10_plainWants_1 rfl ?_
  refine g_cV1v dX10_plainWants_2 ml_X10_339 mi_X10_ran mv_X10_ran h.1.1 ⟨_, rfl, rfl⟩ (Nat.le_of_ble_eq_true rfl) rfl (by omega) ?_
  refine c_X10_ran (r := 1) (by omega) h (by first | exact hm | (simp only [List.length_cons, List.length_append, List.length_nil] at hm ⊢; omega)) (fun w1 t1 => ?_)
  have h1 := h.go t1
  refine g_iload_n dX10_plainWants_5 rfl ?_
  refine g_iload_n dX10_plainWants_6 rfl ?_
  refine g_iadd dX10_plainWants_7 ?_
  refine g_iret dX10_plainWants_8 rfl ⟨_, rfl, ?_⟩
  exact kk w1 t1
set_option maxHeartbeats 2000000 in
theorem c_X10_elmWants {d : Nat} {w : gx_W} {bb kd m : Nat} {x : Int32} {k : Int32 → gx_W → Prop} (hd : 2 ≤ d) (h : bdM w bb kd m) (hm : m + (eW (nI bb) x).2.length < 2 ^ 30) (kk : ∀ w', trR w w' m (eW (nI bb) x).2 → k (eW (nI bb) x).1 w') : gx_C 0 0 d mX10_elmWants [.ref 57, .int (nI bb), .int x] w (Qi k) := by
  refine gx_C_of' (L := [.ref 57, .int (nI bb), .int x]) (by decide +kernel) rfl (Nat.le_of_ble_eq_true rfl) ?_
  have hm : m + (70 :: (pW (nI bb) x).2).length < 2 ^ 30 := hm
  refine g_aload_n dX10_elmWants_0 rfl ?_
  refine g_bipush (v := 70) dX10_elmWants_1 rfl ?_
  refine g_cV1v dX10_elmWants_3 ml_X10_339 mi_X10_ran mv_X10_ran h.1.1 ⟨_, rfl, rfl⟩ (Nat.le_of_ble_eq_true rfl) rfl (by omega) ?_
  refine c_X10_ran (r := 70) (by omega) h (by first | exact hm | (simp only [List.length_cons, List.length_append, List.length_nil] at hm ⊢; omega)) (fun w1 t1 => ?_)
  have h1 := h.go t1
  refine g_aload_n dX10_elmWants_6 rfl ?_
  refine g_iload_n dX10_elmWants_7 rfl ?_
  refine g_iload_n dX10_elmWants_8 rfl ?_
  refine g_cV2i dX10_elmWants_9 ml_X10_342 mi_X10_plainWants mv_X10_plainWants h1.1.1 ⟨_, rfl, rfl⟩ (Nat.le_of_ble_eq_true rfl) rfl (by omega) ?_
  refine c_X10_plainWants (by omega) h1 (by first | exact hm | (simp only [List.length_cons, List.length_append, List.length_nil] at hm ⊢; omega)) (fun w2 t2 => ?_)
  have h2 := h1.go t2
  refine g_iconst (v := 2) dX10_elmWants_12 rfl ?_
  refine g_imul dX10_elmWants_13 ?_
  refine g_iret dX10_elmWants_14 rfl ⟨_, rfl, ?_⟩
  exact kk w2 (t1.tr t2)
set_option maxHeartbeats 2000000 in
theorem c_X10_wanting {d : Nat} {w : gx_W} {bb kd m : Nat} {x : Int32} {k : Int32 → gx_W → Prop} (hd : 3 ≤ d) (h : bdM w bb kd m) (hm : m + (aW kd (nI bb) x).2.length < 2 ^ 30) (kk : ∀ w', trR w w' m (aW kd (nI bb) x).2 → k (aW kd (nI bb) x).1 w') : gx_C 0 0 d mX10_wanting [.ref 57, .int (nI bb), .int x] w (Qi k) := by
  refine gx_C_of' (L := [.ref 57, .int (nI bb), .int x]) (by decide +kernel) rfl (Nat.le_of_ble_eq_true rfl) ?_
  refine g_aload_n dX10_wanting_0 rfl ?_
  refine g_getr dX10_wanting_1 fl_X10_99 h.1.1 (moR_85 h.1) ?_
  refine g_iload_n dX10_wanting_4 rfl ?_
  refine g_iald dX10_wanting_5 (moA_85 h.1) (vp_in_nI (by have := h.2.1; omega) (by decide)) ?_
  rw [nI_n (by have := h.2.1; omega), h.2.2.1]
  refine g_iconst (v := 1) dX10_wanting_6 rfl ?_
  refine g_cS2i dX10_wanting_7 ml_X10_345 mi_X10_isUnder ms_X10_isUnder (Nat.le_of_ble_eq_true rfl) rfl (by omega) ?_
  refine c_X10_isUnder (q := kd) (u := 1) (by omega) h.2.2.2.1 (by decide) (fun hun => ?_) (fun hun => ?_)
  · refine g_if_eq (tgt := 28) dX10_wanting_10 (by decide) (fun q => absurd q (by decide)) (fun _ => ?_)
    have hk := h.2.2.2.1
    have y1 : kd = 1 ∨ kd = 4 := by
      rw [bo_tab 1 (by decide) kd hk] at hun
      have := of_decide_eq_true hun
      omega
    rw [show aW kd (nI bb) x = ((pW (nI bb) x).1 + 3, 20 :: (pW (nI bb) x).2) from if_pos y1] at kk hm
    refine g_aload_n dX10_wanting_13 rfl ?_
    refine g_bipush (v := 20) dX10_wanting_14 rfl ?_
    refine g_cV1v dX10_wanting_16 ml_X10_339 mi_X10_ran mv_X10_ran h.1.1 ⟨_, rfl, rfl⟩ (Nat.le_of_ble_eq_true rfl) rfl (by omega) ?_
    refine c_X10_ran (r := 20) (by omega) h (by first | exact hm | (simp only [List.length_cons, List.length_append, List.length_nil] at hm ⊢; omega)) (fun w1 t1 => ?_)
    have h1 := h.go t1
    refine g_aload_n dX10_wanting_19 rfl ?_
    refine g_iload_n dX10_wanting_20 rfl ?_
    refine g_iload_n dX10_wanting_21 rfl ?_
    refine g_cV2i dX10_wanting_22 ml_X10_342 mi_X10_plainWants mv_X10_plainWants h1.1.1 ⟨_, rfl, rfl⟩ (Nat.le_of_ble_eq_true rfl) rfl (by omega) ?_
    refine c_X10_plainWants (by omega) h1 (by first | exact hm | (simp only [List.length_cons, List.length_append, List.length_nil] at hm ⊢; omega)) (fun w2 t2 => ?_)
    have h2 := h1.go t2
    refine g_iconst (v := 3) dX10_wanting_25 rfl ?_
    refine g_iadd dX10_wanting_26 ?_
    refine g_iret dX10_wanting_27 rfl ⟨_, rfl, ?_⟩
    exact kk w2 (t1.tr t2)
  · refine g_if_eq (tgt := 28) dX10_wanting_10 (by decide) (fun _ => ?_) (fun q => absurd q (by decide))
    have hk := h.2.2.2.1
    have y1 : ¬ (kd = 1 ∨ kd = 4) := by
      rw [bo_tab 1 (by decide) kd hk] at hun
      have := of_decide_eq_false hun
      omega
    refine g_aload_n dX10_wanting_28 rfl ?_
    refine g_getr dX10_wanting_29 fl_X10_99 h.1.1 (moR_85 h.1) ?_
    refine g_iload_n dX10_wanting_32 rfl ?_
    refine g_iald dX10_wanting_33 (moA_85 h.1) (vp_in_nI (by have := h.2.1; omega) (by decide)) ?_
    rw [nI_n (by have := h.2.1; omega), h.2.2.1]
    refine g_bipush (v := 7) dX10_wanting_34 rfl ?_
    refine g_icmp_ne (tgt := 54) dX10_wanting_36 (by decide) (fun zc36 => ?_) (fun zc36 => ?_)
    · refine g_aload_n dX10_wanting_54 rfl ?_
      refine g_getr dX10_wanting_55 fl_X10_99 h.1.1 (moR_85 h.1) ?_
      refine g_iload_n dX10_wanting_58 rfl ?_
      refine g_iald dX10_wanting_59 (moA_85 h.1) (vp_in_nI (by have := h.2.1; omega) (by decide)) ?_
      rw [nI_n (by have := h.2.1; omega), h.2.2.1]
      refine g_bipush (v := 6) dX10_wanting_60 rfl ?_
      refine g_icmp_ne (tgt := 74) dX10_wanting_62 (by decide) (fun zc62 => ?_) (fun zc62 => ?_)
      · rw [show aW kd (nI bb) x = pW (nI bb) x from ((if_neg y1).trans (if_neg (fun z => zc36 (by rw [z]; rfl)))).trans (if_neg (fun z => zc62 (by rw [z]; rfl)))] at kk hm
        refine g_aload_n dX10_wanting_74 rfl ?_
        refine g_iload_n dX10_wanting_75 rfl ?_
        refine g_iload_n dX10_wanting_76 rfl ?_
        refine g_cV2i dX10_wanting_77 ml_X10_342 mi_X10_plainWants mv_X10_plainWants h.1.1 ⟨_, rfl, rfl⟩ (Nat.le_of_ble_eq_true rfl) rfl (by omega) ?_
        refine c_X10_plainWants (by omega) h (by first | exact hm | (simp only [List.length_cons, List.length_append, List.length_nil] at hm ⊢; omega)) (fun w1 t1 => ?_)
        have h1 := h.go t1
        refine g_iret dX10_wanting_80 rfl ⟨_, rfl, ?_⟩
        exact kk w1 t1
      · rw [show aW kd (nI bb) x = eW (nI bb) x from ((if_neg y1).trans (if_neg (fun z => zc36 (by rw [z]; rfl)))).trans (if_pos (pI_inj (a := kd) (b := 6) (by have := h.2.2.2.1; omega) (by decide) zc62))] at kk hm
        refine g_aload_n dX10_wanting_65 rfl ?_
        refine g_iload_n dX10_wanting_66 rfl ?_
        refine g_iload_n dX10_wanting_67 rfl ?_
        refine g_cV2i dX10_wanting_68 ml_X10_348 mi_X10_elmWants mv_X10_elmWants h.1.1 ⟨_, rfl, rfl⟩ (Nat.le_of_ble_eq_true rfl) rfl (by omega) ?_
        refine c_X10_elmWants (by omega) h (by first | exact hm | (simp only [List.length_cons, List.length_append, List.length_nil] at hm ⊢; omega)) (fun w1 t1 => ?_)
        have h1 := h.go t1
        refine g_goto (tgt := 80) dX10_wanting_71 (by decide) ?_
        refine g_iret dX10_wanting_80 rfl ⟨_, rfl, ?_⟩
        exact kk w1 t1
    · rw [show aW kd (nI bb) x = ((eW (nI bb) x).1 - 1, 81 :: (eW (nI bb) x).2) from (if_neg y1).trans (if_pos (pI_inj (a := kd) (b := 7) (by have := h.2.2.2.1; omega) (by decide) zc36))] at kk hm
      refine g_aload_n dX10_wanting_39 rfl ?_
      refine g_bipush (v := 81) dX10_wanting_40 rfl ?_
      refine g_cV1v dX10_wanting_42 ml_X10_339 mi_X10_ran mv_X10_ran h.1.1 ⟨_, rfl, rfl⟩ (Nat.le_of_ble_eq_true rfl) rfl (by omega) ?_
      refine c_X10_ran (r := 81) (by omega) h (by first | exact hm | (simp only [List.length_cons, List.length_append, List.length_nil] at hm ⊢; omega)) (fun w1 t1 => ?_)
      have h1 := h.go t1
      refine g_aload_n dX10_wanting_45 rfl ?_
      refine g_iload_n dX10_wanting_46 rfl ?_
      refine g_iload_n dX10_wanting_47 rfl ?_
      refine g_cV2i dX10_wanting_48 ml_X10_348 mi_X10_elmWants mv_X10_elmWants h1.1.1 ⟨_, rfl, rfl⟩ (Nat.le_of_ble_eq_true rfl) rfl (by omega) ?_
      refine c_X10_elmWants (by omega) h1 (by first | exact hm | (simp only [List.length_cons, List.length_append, List.length_nil] at hm ⊢; omega)) (fun w2 t2 => ?_)
      have h2 := h1.go t2
      refine g_iconst (v := 1) dX10_wanting_51 rfl ?_
      refine g_isub dX10_wanting_52 ?_
      refine g_iret dX10_wanting_53 rfl ⟨_, rfl, ?_⟩
      exact kk w2 (t1.tr t2)
set_option maxHeartbeats 2000000 in
theorem c_X10_plainWaits {d : Nat} {w : gx_W} {bb kd m : Nat} {x : Int32} {k : Int32 → gx_W → Prop} (hd : 4 ≤ d) (h : bdM w bb kd m) (hm : m + (pV kd (nI bb) x).2.length < 2 ^ 30) (kk : ∀ w', trR w w' m (pV kd (nI bb) x).2 → k (pV kd (nI bb) x).1 w') : gx_C 0 0 d mX10_plainWaits [.ref 57, .int (nI bb), .int x] w (Qi k) := by
  refine gx_C_of' (L := [.ref 57, .int (nI bb), .int x]) (by decide +kernel) rfl (Nat.le_of_ble_eq_true rfl) ?_
  have hm : m + (10 :: (aW kd (nI bb) x).2).length < 2 ^ 30 := hm
  refine g_aload_n dX10_plainWaits_0 rfl ?_
  refine g_bipush (v := 10) dX10_plainWaits_1 rfl ?_
  refine g_cV1v dX10_plainWaits_3 ml_X10_339 mi_X10_ran mv_X10_ran h.1.1 ⟨_, rfl, rfl⟩ (Nat.le_of_ble_eq_true rfl) rfl (by omega) ?_
  refine c_X10_ran (r := 10) (by omega) h (by first | exact hm | (simp only [List.length_cons, List.length_append, List.length_nil] at hm ⊢; omega)) (fun w1 t1 => ?_)
  have h1 := h.go t1
  refine g_aload_n dX10_plainWaits_6 rfl ?_
  refine g_iload_n dX10_plainWaits_7 rfl ?_
  refine g_iload_n dX10_plainWaits_8 rfl ?_
  refine g_cV2i dX10_plainWaits_9 ml_X10_351 mi_X10_wanting mv_X10_wanting h1.1.1 ⟨_, rfl, rfl⟩ (Nat.le_of_ble_eq_true rfl) rfl (by omega) ?_
  refine c_X10_wanting (by omega) h1 (by first | exact hm | (simp only [List.length_cons, List.length_append, List.length_nil] at hm ⊢; omega)) (fun w2 t2 => ?_)
  have h2 := h1.go t2
  refine g_iconst (v := 2) dX10_plainWaits_12 rfl ?_
  refine g_imul dX10_plainWaits_13 ?_
  refine g_iret dX10_plainWaits_14 rfl ⟨_, rfl, ?_⟩
  exact kk w2 (t1.tr t2)
set_option maxHeartbeats 2000000 in
theorem c_X10_greenWaits {d : Nat} {w : gx_W} {bb kd m : Nat} {x : Int32} {k : Int32 → gx_W → Prop} (hd : 5 ≤ d) (h : bdM w bb kd m) (hm : m + (gV kd (nI bb) x).2.length < 2 ^ 30) (kk : ∀ w', trR w w' m (gV kd (nI bb) x).2 → k (gV kd (nI bb) x).1 w') : gx_C 0 0 d mX10_greenWaits [.ref 57, .int (nI bb), .int x] w (Qi k) := by
  refine gx_C_of' (L := [.ref 57, .int (nI bb), .int x]) (by decide +kernel) rfl (Nat.le_of_ble_eq_true rfl) ?_
  have hm : m + (30 :: (pV kd (nI bb) x).2).length < 2 ^ 30 := hm
  refine g_aload_n dX10_greenWaits_0 rfl ?_
  refine g_bipush (v := 30) dX10_greenWaits_1 rfl ?_
  refine g_cV1v dX10_greenWaits_3 ml_X10_339 mi_X10_ran mv_X10_ran h.1.1 ⟨_, rfl, rfl⟩ (Nat.le_of_ble_eq_true rfl) rfl (by omega) ?_
  refine c_X10_ran (r := 30) (by omega) h (by first | exact hm | (simp only [List.length_cons, List.length_append, List.length_nil] at hm ⊢; omega)) (fun w1 t1 => ?_)
  have h1 := h.go t1
  refine g_aload_n dX10_greenWaits_6 rfl ?_
  refine g_iload_n dX10_greenWaits_7 rfl ?_
  refine g_iload_n dX10_greenWaits_8 rfl ?_
  refine g_cV2i dX10_greenWaits_9 ml_X10_354 mi_X10_plainWaits mv_X10_plainWaits h1.1.1 ⟨_, rfl, rfl⟩ (Nat.le_of_ble_eq_true rfl) rfl (by omega) ?_
  refine c_X10_plainWaits (by omega) h1 (by first | exact hm | (simp only [List.length_cons, List.length_append, List.length_nil] at hm ⊢; omega)) (fun w2 t2 => ?_)
  have h2 := h1.go t2
  refine g_ineg dX10_greenWaits_12 ?_
  refine g_iret dX10_greenWaits_13 rfl ⟨_, rfl, ?_⟩
  exact kk w2 (t1.tr t2)
set_option maxHeartbeats 2000000 in
theorem c_X10_plainTakes {d : Nat} {w : gx_W} {bb kd m : Nat} {x : Int32} {k : Int32 → gx_W → Prop} (hd : 1 ≤ d) (h : bdM w bb kd m) (hm : m + (pT (nI bb) x).2.length < 2 ^ 30) (kk : ∀ w', trR w w' m (pT (nI bb) x).2 → k (pT (nI bb) x).1 w') : gx_C 0 0 d mX10_plainTakes [.ref 57, .int (nI bb), .int x] w (Qi k) := by
  refine gx_C_of' (L := [.ref 57, .int (nI bb), .int x]) (by decide +kernel) rfl (Nat.le_of_ble_eq_true rfl) ?_
  have hm : m + ([11]).length < 2 ^ 30 := hm
  refine g_aload_n dX10_plainTakes_0 rfl ?_
  refine g_bipush (v := 11) dX10_plainTakes_1 rfl ?_
  refine g_cV1v dX10_plainTakes_3 ml_X10_339 mi_X10_ran mv_X10_ran h.1.1 ⟨_, rfl, rfl⟩ (Nat.le_of_ble_eq_true rfl) rfl (by omega) ?_
  refine c_X10_ran (r := 11) (by omega) h (by first | exact hm | (simp only [List.length_cons, List.length_append, List.length_nil] at hm ⊢; omega)) (fun w1 t1 => ?_)
  have h1 := h.go t1
  refine g_iload_n dX10_plainTakes_6 rfl ?_
  refine g_iload_n dX10_plainTakes_7 rfl ?_
  refine g_ixor dX10_plainTakes_8 ?_
  refine g_iret dX10_plainTakes_9 rfl ⟨_, rfl, ?_⟩
  exact kk w1 t1
set_option maxHeartbeats 2000000 in
theorem c_X10_bankTakes {d : Nat} {w : gx_W} {bb kd m : Nat} {x : Int32} {k : Int32 → gx_W → Prop} (hd : 2 ≤ d) (h : bdM w bb kd m) (hm : m + (kT (nI bb) x).2.length < 2 ^ 30) (kk : ∀ w', trR w w' m (kT (nI bb) x).2 → k (kT (nI bb) x).1 w') : gx_C 0 0 d mX10_bankTakes [.ref 57, .int (nI bb), .int x] w (Qi k) := by
  refine gx_C_of' (L := [.ref 57, .int (nI bb), .int x]) (by decide +kernel) rfl (Nat.le_of_ble_eq_true rfl) ?_
  have hm : m + (40 :: (pT (nI bb) x).2).length < 2 ^ 30 := hm
  refine g_aload_n dX10_bankTakes_0 rfl ?_
  refine g_bipush (v := 40) dX10_bankTakes_1 rfl ?_
  refine g_cV1v dX10_bankTakes_3 ml_X10_339 mi_X10_ran mv_X10_ran h.1.1 ⟨_, rfl, rfl⟩ (Nat.le_of_ble_eq_true rfl) rfl (by omega) ?_
  refine c_X10_ran (r := 40) (by omega) h (by first | exact hm | (simp only [List.length_cons, List.length_append, List.length_nil] at hm ⊢; omega)) (fun w1 t1 => ?_)
  have h1 := h.go t1
  refine g_aload_n dX10_bankTakes_6 rfl ?_
  refine g_iload_n dX10_bankTakes_7 rfl ?_
  refine g_iload_n dX10_bankTakes_8 rfl ?_
  refine g_cV2i dX10_bankTakes_9 ml_X10_363 mi_X10_plainTakes mv_X10_plainTakes h1.1.1 ⟨_, rfl, rfl⟩ (Nat.le_of_ble_eq_true rfl) rfl (by omega) ?_
  refine c_X10_plainTakes (by omega) h1 (by first | exact hm | (simp only [List.length_cons, List.length_append, List.length_nil] at hm ⊢; omega)) (fun w2 t2 => ?_)
  have h2 := h1.go t2
  refine g_iconst (v := 3) dX10_bankTakes_12 rfl ?_
  refine g_imul dX10_bankTakes_13 ?_
  refine g_iret dX10_bankTakes_14 rfl ⟨_, rfl, ?_⟩
  exact kk w2 (t1.tr t2)
set_option maxHeartbeats 2000000 in
theorem c_X10_taking {d : Nat} {w : gx_W} {bb kd m : Nat} {x : Int32} {k : Int32 → gx_W → Prop} (hd : 4 ≤ d) (h : bdM w bb kd m) (hm : m + (aT kd (nI bb) x).2.length < 2 ^ 30) (kk : ∀ w', trR w w' m (aT kd (nI bb) x).2 → k (aT kd (nI bb) x).1 w') : gx_C 0 0 d mX10_taking [.ref 57, .int (nI bb), .int x] w (Qi k) := by
  refine gx_C_of' (L := [.ref 57, .int (nI bb), .int x, .retAddr 0]) (by decide +kernel) rfl (Nat.le_of_ble_eq_true rfl) ?_
  refine g_aload_n dX10_taking_0 rfl ?_
  refine g_getr dX10_taking_1 fl_X10_99 h.1.1 (moR_85 h.1) ?_
  refine g_iload_n dX10_taking_4 rfl ?_
  refine g_iald dX10_taking_5 (moA_85 h.1) (vp_in_nI (by have := h.2.1; omega) (by decide)) ?_
  rw [nI_n (by have := h.2.1; omega), h.2.2.1]
  refine g_iconst (v := 5) dX10_taking_6 rfl ?_
  refine g_icmp_ne (tgt := 32) dX10_taking_7 (by decide) (fun zc7 => ?_) (fun zc7 => ?_)
  · refine g_aload_n dX10_taking_32 rfl ?_
    refine g_getr dX10_taking_33 fl_X10_99 h.1.1 (moR_85 h.1) ?_
    refine g_iload_n dX10_taking_36 rfl ?_
    refine g_iald dX10_taking_37 (moA_85 h.1) (vp_in_nI (by have := h.2.1; omega) (by decide)) ?_
    rw [nI_n (by have := h.2.1; omega), h.2.2.1]
    refine g_iconst (v := 3) dX10_taking_38 rfl ?_
    refine g_icmp_ne (tgt := 51) dX10_taking_39 (by decide) (fun zc39 => ?_) (fun zc39 => ?_)
    · rw [show aT kd (nI bb) x = pT (nI bb) x from (if_neg (fun z => zc7 (by rw [z]; rfl))).trans (if_neg (fun z => zc39 (by rw [z]; rfl)))] at kk hm
      refine g_aload_n dX10_taking_51 rfl ?_
      refine g_iload_n dX10_taking_52 rfl ?_
      refine g_iload_n dX10_taking_53 rfl ?_
      refine g_cV2i dX10_taking_54 ml_X10_363 mi_X10_plainTakes mv_X10_plainTakes h.1.1 ⟨_, rfl, rfl⟩ (Nat.le_of_ble_eq_true rfl) rfl (by omega) ?_
      refine c_X10_plainTakes (by omega) h (by first | exact hm | (simp only [List.length_cons, List.length_append, List.length_nil] at hm ⊢; omega)) (fun w1 t1 => ?_)
      have h1 := h.go t1
      refine g_iret dX10_taking_57 rfl ⟨_, rfl, ?_⟩
      exact kk w1 t1
    · rw [show aT kd (nI bb) x = kT (nI bb) x from (if_neg (fun z => zc7 (by rw [z]; rfl))).trans (if_pos (pI_inj (a := kd) (b := 3) (by have := h.2.2.2.1; omega) (by decide) zc39))] at kk hm
      refine g_aload_n dX10_taking_42 rfl ?_
      refine g_iload_n dX10_taking_43 rfl ?_
      refine g_iload_n dX10_taking_44 rfl ?_
      refine g_cV2i dX10_taking_45 ml_X10_366 mi_X10_bankTakes mv_X10_bankTakes h.1.1 ⟨_, rfl, rfl⟩ (Nat.le_of_ble_eq_true rfl) rfl (by omega) ?_
      refine c_X10_bankTakes (by omega) h (by first | exact hm | (simp only [List.length_cons, List.length_append, List.length_nil] at hm ⊢; omega)) (fun w1 t1 => ?_)
      have h1 := h.go t1
      refine g_goto (tgt := 57) dX10_taking_48 (by decide) ?_
      refine g_iret dX10_taking_57 rfl ⟨_, rfl, ?_⟩
      exact kk w1 t1
  · rw [show aT kd (nI bb) x = ((kT (nI bb) x).1 - (aW kd (nI bb) 2).1, 60 :: ((kT (nI bb) x).2 ++ (aW kd (nI bb) 2).2)) from if_pos (pI_inj (a := kd) (b := 5) (by have := h.2.2.2.1; omega) (by decide) zc7)] at kk hm
    refine g_aload_n dX10_taking_10 rfl ?_
    refine g_bipush (v := 60) dX10_taking_11 rfl ?_
    refine g_cV1v dX10_taking_13 ml_X10_339 mi_X10_ran mv_X10_ran h.1.1 ⟨_, rfl, rfl⟩ (Nat.le_of_ble_eq_true rfl) rfl (by omega) ?_
    refine c_X10_ran (r := 60) (by omega) h (by first | exact hm | (simp only [List.length_cons, List.length_append, List.length_nil] at hm ⊢; omega)) (fun w1 t1 => ?_)
    have h1 := h.go t1
    refine g_aload_n dX10_taking_16 rfl ?_
    refine g_iload_n dX10_taking_17 rfl ?_
    refine g_iload_n dX10_taking_18 rfl ?_
    refine g_cV2i dX10_taking_19 ml_X10_366 mi_X10_bankTakes mv_X10_bankTakes h1.1.1 ⟨_, rfl, rfl⟩ (Nat.le_of_ble_eq_true rfl) rfl (by omega) ?_
    refine c_X10_bankTakes (by omega) h1 (by first | exact hm | (simp only [List.length_cons, List.length_append, List.length_nil] at hm ⊢; omega)) (fun w2 t2 => ?_)
    have h2 := h1.go t2
    refine g_istore_n dX10_taking_22 (Nat.le_of_ble_eq_true rfl) rfl ?_
    refine g_iload_n dX10_taking_23 rfl ?_
    refine g_aload_n dX10_taking_24 rfl ?_
    refine g_iload_n dX10_taking_25 rfl ?_
    refine g_iconst (v := 2) dX10_taking_26 rfl ?_
    refine g_cV2i dX10_taking_27 ml_X10_351 mi_X10_wanting mv_X10_wanting h2.1.1 ⟨_, rfl, rfl⟩ (Nat.le_of_ble_eq_true rfl) rfl (by omega) ?_
    refine c_X10_wanting (by omega) h2 (by first | exact hm | (simp only [List.length_cons, List.length_append, List.length_nil] at hm ⊢; omega)) (fun w3 t3 => ?_)
    have h3 := h2.go t3
    refine g_isub dX10_taking_30 ?_
    refine g_iret dX10_taking_31 rfl ⟨_, rfl, ?_⟩
    exact kk w3 (t1.tr (t2.tr t3))
set_option maxHeartbeats 2000000 in
theorem c_X10_waiting {d : Nat} {w : gx_W} {bb kd m : Nat} {x : Int32} {k : Int32 → gx_W → Prop} (hd : 6 ≤ d) (h : bdM w bb kd m) (hm : m + (aV kd (nI bb) x).2.length < 2 ^ 30) (kk : ∀ w', trR w w' m (aV kd (nI bb) x).2 → k (aV kd (nI bb) x).1 w') : gx_C 0 0 d mX10_waiting [.ref 57, .int (nI bb), .int x] w (Qi k) := by
  refine gx_C_of' (L := [.ref 57, .int (nI bb), .int x, .retAddr 0]) (by decide +kernel) rfl (Nat.le_of_ble_eq_true rfl) ?_
  refine g_aload_n dX10_waiting_0 rfl ?_
  refine g_getr dX10_waiting_1 fl_X10_99 h.1.1 (moR_85 h.1) ?_
  refine g_iload_n dX10_waiting_4 rfl ?_
  refine g_iald dX10_waiting_5 (moA_85 h.1) (vp_in_nI (by have := h.2.1; omega) (by decide)) ?_
  rw [nI_n (by have := h.2.1; omega), h.2.2.1]
  refine g_iconst (v := 3) dX10_waiting_6 rfl ?_
  refine g_cS2i dX10_waiting_7 ml_X10_345 mi_X10_isUnder ms_X10_isUnder (Nat.le_of_ble_eq_true rfl) rfl (by omega) ?_
  refine c_X10_isUnder (q := kd) (u := 3) (by omega) h.2.2.2.1 (by decide) (fun hun => ?_) (fun hun => ?_)
  · refine g_if_eq (tgt := 28) dX10_waiting_10 (by decide) (fun q => absurd q (by decide)) (fun _ => ?_)
    have hk := h.2.2.2.1
    have y1 : kd = 3 ∨ kd = 5 := by
      rw [bo_tab 3 (by decide) kd hk] at hun
      have := of_decide_eq_true hun
      omega
    rw [show aV kd (nI bb) x = ((gV kd (nI bb) (x + 1)).1, 41 :: (gV kd (nI bb) (x + 1)).2) from if_pos y1] at kk hm
    refine g_aload_n dX10_waiting_13 rfl ?_
    refine g_bipush (v := 41) dX10_waiting_14 rfl ?_
    refine g_cV1v dX10_waiting_16 ml_X10_339 mi_X10_ran mv_X10_ran h.1.1 ⟨_, rfl, rfl⟩ (Nat.le_of_ble_eq_true rfl) rfl (by omega) ?_
    refine c_X10_ran (r := 41) (by omega) h (by first | exact hm | (simp only [List.length_cons, List.length_append, List.length_nil] at hm ⊢; omega)) (fun w1 t1 => ?_)
    have h1 := h.go t1
    refine g_aload_n dX10_waiting_19 rfl ?_
    refine g_iload_n dX10_waiting_20 rfl ?_
    refine g_iload_n dX10_waiting_21 rfl ?_
    refine g_iconst (v := 1) dX10_waiting_22 rfl ?_
    refine g_iadd dX10_waiting_23 ?_
    refine g_cV2i dX10_waiting_24 ml_X10_357 mi_X10_greenWaits mv_X10_greenWaits h1.1.1 ⟨_, rfl, rfl⟩ (Nat.le_of_ble_eq_true rfl) rfl (by omega) ?_
    refine c_X10_greenWaits (by omega) h1 (by first | exact hm | (simp only [List.length_cons, List.length_append, List.length_nil] at hm ⊢; omega)) (fun w2 t2 => ?_)
    have h2 := h1.go t2
    refine g_iret dX10_waiting_27 rfl ⟨_, rfl, ?_⟩
    exact kk w2 (t1.tr t2)
  · refine g_if_eq (tgt := 28) dX10_waiting_10 (by decide) (fun _ => ?_) (fun q => absurd q (by decide))
    have hk := h.2.2.2.1
    have y1 : ¬ (kd = 3 ∨ kd = 5) := by
      rw [bo_tab 3 (by decide) kd hk] at hun
      have := of_decide_eq_false hun
      omega
    refine g_aload_n dX10_waiting_28 rfl ?_
    refine g_getr dX10_waiting_29 fl_X10_99 h.1.1 (moR_85 h.1) ?_
    refine g_iload_n dX10_waiting_32 rfl ?_
    refine g_iald dX10_waiting_33 (moA_85 h.1) (vp_in_nI (by have := h.2.1; omega) (by decide)) ?_
    rw [nI_n (by have := h.2.1; omega), h.2.2.1]
    refine g_bipush (v := 7) dX10_waiting_34 rfl ?_
    refine g_icmp_ne (tgt := 61) dX10_waiting_36 (by decide) (fun zc36 => ?_) (fun zc36 => ?_)
    · refine g_aload_n dX10_waiting_61 rfl ?_
      refine g_getr dX10_waiting_62 fl_X10_99 h.1.1 (moR_85 h.1) ?_
      refine g_iload_n dX10_waiting_65 rfl ?_
      refine g_iald dX10_waiting_66 (moA_85 h.1) (vp_in_nI (by have := h.2.1; omega) (by decide)) ?_
      rw [nI_n (by have := h.2.1; omega), h.2.2.1]
      refine g_iconst (v := 2) dX10_waiting_67 rfl ?_
      refine g_icmp_ne (tgt := 80) dX10_waiting_68 (by decide) (fun zc68 => ?_) (fun zc68 => ?_)
      · rw [show aV kd (nI bb) x = pV kd (nI bb) x from ((if_neg y1).trans (if_neg (fun z => zc36 (by rw [z]; rfl)))).trans (if_neg (fun z => zc68 (by rw [z]; rfl)))] at kk hm
        refine g_aload_n dX10_waiting_80 rfl ?_
        refine g_iload_n dX10_waiting_81 rfl ?_
        refine g_iload_n dX10_waiting_82 rfl ?_
        refine g_cV2i dX10_waiting_83 ml_X10_354 mi_X10_plainWaits mv_X10_plainWaits h.1.1 ⟨_, rfl, rfl⟩ (Nat.le_of_ble_eq_true rfl) rfl (by omega) ?_
        refine c_X10_plainWaits (by omega) h (by first | exact hm | (simp only [List.length_cons, List.length_append, List.length_nil] at hm ⊢; omega)) (fun w1 t1 => ?_)
        have h1 := h.go t1
        refine g_iret dX10_waiting_86 rfl ⟨_, rfl, ?_⟩
        exact kk w1 t1
      · rw [show aV kd (nI bb) x = gV kd (nI bb) x from ((if_neg y1).trans (if_neg (fun z => zc36 (by rw [z]; rfl)))).trans (if_pos (pI_inj (a := kd) (b := 2) (by have := h.2.2.2.1; omega) (by decide) zc68))] at kk hm
        refine g_aload_n dX10_waiting_71 rfl ?_
        refine g_iload_n dX10_waiting_72 rfl ?_
        refine g_iload_n dX10_waiting_73 rfl ?_
        refine g_cV2i dX10_waiting_74 ml_X10_357 mi_X10_greenWaits mv_X10_greenWaits h.1.1 ⟨_, rfl, rfl⟩ (Nat.le_of_ble_eq_true rfl) rfl (by omega) ?_
        refine c_X10_greenWaits (by omega) h (by first | exact hm | (simp only [List.length_cons, List.length_append, List.length_nil] at hm ⊢; omega)) (fun w1 t1 => ?_)
        have h1 := h.go t1
        refine g_goto (tgt := 86) dX10_waiting_77 (by decide) ?_
        refine g_iret dX10_waiting_86 rfl ⟨_, rfl, ?_⟩
        exact kk w1 t1
    · rw [show aV kd (nI bb) x = ((pV kd (nI bb) x).1 + (aT kd (nI bb) 2).1, 80 :: ((pV kd (nI bb) x).2 ++ (aT kd (nI bb) 2).2)) from (if_neg y1).trans (if_pos (pI_inj (a := kd) (b := 7) (by have := h.2.2.2.1; omega) (by decide) zc36))] at kk hm
      refine g_aload_n dX10_waiting_39 rfl ?_
      refine g_bipush (v := 80) dX10_waiting_40 rfl ?_
      refine g_cV1v dX10_waiting_42 ml_X10_339 mi_X10_ran mv_X10_ran h.1.1 ⟨_, rfl, rfl⟩ (Nat.le_of_ble_eq_true rfl) rfl (by omega) ?_
      refine c_X10_ran (r := 80) (by omega) h (by first | exact hm | (simp only [List.length_cons, List.length_append, List.length_nil] at hm ⊢; omega)) (fun w1 t1 => ?_)
      have h1 := h.go t1
      refine g_aload_n dX10_waiting_45 rfl ?_
      refine g_iload_n dX10_waiting_46 rfl ?_
      refine g_iload_n dX10_waiting_47 rfl ?_
      refine g_cV2i dX10_waiting_48 ml_X10_354 mi_X10_plainWaits mv_X10_plainWaits h1.1.1 ⟨_, rfl, rfl⟩ (Nat.le_of_ble_eq_true rfl) rfl (by omega) ?_
      refine c_X10_plainWaits (by omega) h1 (by first | exact hm | (simp only [List.length_cons, List.length_append, List.length_nil] at hm ⊢; omega)) (fun w2 t2 => ?_)
      have h2 := h1.go t2
      refine g_istore_n dX10_waiting_51 (Nat.le_of_ble_eq_true rfl) rfl ?_
      refine g_iload_n dX10_waiting_52 rfl ?_
      refine g_aload_n dX10_waiting_53 rfl ?_
      refine g_iload_n dX10_waiting_54 rfl ?_
      refine g_iconst (v := 2) dX10_waiting_55 rfl ?_
      refine g_cV2i dX10_waiting_56 ml_X10_360 mi_X10_taking mv_X10_taking h2.1.1 ⟨_, rfl, rfl⟩ (Nat.le_of_ble_eq_true rfl) rfl (by omega) ?_
      refine c_X10_taking (by omega) h2 (by first | exact hm | (simp only [List.length_cons, List.length_append, List.length_nil] at hm ⊢; omega)) (fun w3 t3 => ?_)
      have h3 := h2.go t3
      refine g_iadd dX10_waiting_59 ?_
      refine g_iret dX10_waiting_60 rfl ⟨_, rfl, ?_⟩
      exact kk w3 (t1.tr (t2.tr t3))
set_option maxHeartbeats 2000000 in
theorem c_X10_plainTells {d : Nat} {w : gx_W} {bb kd m : Nat} {x : Int32} {k : Int32 → gx_W → Prop} (hd : 7 ≤ d) (h : bdM w bb kd m) (hm : m + (pL kd (nI bb) x).2.length < 2 ^ 30) (kk : ∀ w', trR w w' m (pL kd (nI bb) x).2 → k (pL kd (nI bb) x).1 w') : gx_C 0 0 d mX10_plainTells [.ref 57, .int (nI bb), .int x] w (Qi k) := by
  refine gx_C_of' (L := [.ref 57, .int (nI bb), .int x, .retAddr 0]) (by decide +kernel) rfl (Nat.le_of_ble_eq_true rfl) ?_
  have hm : m + (2 :: ((aV kd (nI bb) x).2 ++ (aT kd (nI bb) 1).2)).length < 2 ^ 30 := hm
  refine g_aload_n dX10_plainTells_0 rfl ?_
  refine g_iconst (v := 2) dX10_plainTells_1 rfl ?_
  refine g_cV1v dX10_plainTells_2 ml_X10_339 mi_X10_ran mv_X10_ran h.1.1 ⟨_, rfl, rfl⟩ (Nat.le_of_ble_eq_true rfl) rfl (by omega) ?_
  refine c_X10_ran (r := 2) (by omega) h (by first | exact hm | (simp only [List.length_cons, List.length_append, List.length_nil] at hm ⊢; omega)) (fun w1 t1 => ?_)
  have h1 := h.go t1
  refine g_aload_n dX10_plainTells_5 rfl ?_
  refine g_iload_n dX10_plainTells_6 rfl ?_
  refine g_iload_n dX10_plainTells_7 rfl ?_
  refine g_cV2i dX10_plainTells_8 ml_X10_369 mi_X10_waiting mv_X10_waiting h1.1.1 ⟨_, rfl, rfl⟩ (Nat.le_of_ble_eq_true rfl) rfl (by omega) ?_
  refine c_X10_waiting (by omega) h1 (by first | exact hm | (simp only [List.length_cons, List.length_append, List.length_nil] at hm ⊢; omega)) (fun w2 t2 => ?_)
  have h2 := h1.go t2
  refine g_istore_n dX10_plainTells_11 (Nat.le_of_ble_eq_true rfl) rfl ?_
  refine g_iload_n dX10_plainTells_12 rfl ?_
  refine g_aload_n dX10_plainTells_13 rfl ?_
  refine g_iload_n dX10_plainTells_14 rfl ?_
  refine g_iconst (v := 1) dX10_plainTells_15 rfl ?_
  refine g_cV2i dX10_plainTells_16 ml_X10_360 mi_X10_taking mv_X10_taking h2.1.1 ⟨_, rfl, rfl⟩ (Nat.le_of_ble_eq_true rfl) rfl (by omega) ?_
  refine c_X10_taking (by omega) h2 (by first | exact hm | (simp only [List.length_cons, List.length_append, List.length_nil] at hm ⊢; omega)) (fun w3 t3 => ?_)
  have h3 := h2.go t3
  refine g_isub dX10_plainTells_19 ?_
  refine g_iret dX10_plainTells_20 rfl ⟨_, rfl, ?_⟩
  exact kk w3 (t1.tr (t2.tr t3))
set_option maxHeartbeats 2000000 in
theorem c_X10_telling {d : Nat} {w : gx_W} {bb kd m : Nat} {x : Int32} {k : Int32 → gx_W → Prop} (hd : 8 ≤ d) (h : bdM w bb kd m) (hm : m + (aL kd (nI bb) x).2.length < 2 ^ 30) (kk : ∀ w', trR w w' m (aL kd (nI bb) x).2 → k (aL kd (nI bb) x).1 w') : gx_C 0 0 d mX10_telling [.ref 57, .int (nI bb), .int x] w (Qi k) := by
  refine gx_C_of' (L := [.ref 57, .int (nI bb), .int x]) (by decide +kernel) rfl (Nat.le_of_ble_eq_true rfl) ?_
  refine g_aload_n dX10_telling_0 rfl ?_
  refine g_getr dX10_telling_1 fl_X10_99 h.1.1 (moR_85 h.1) ?_
  refine g_iload_n dX10_telling_4 rfl ?_
  refine g_iald dX10_telling_5 (moA_85 h.1) (vp_in_nI (by have := h.2.1; omega) (by decide)) ?_
  rw [nI_n (by have := h.2.1; omega), h.2.2.1]
  refine g_iconst (v := 4) dX10_telling_6 rfl ?_
  refine g_icmp_ne (tgt := 25) dX10_telling_7 (by decide) (fun zc7 => ?_) (fun zc7 => ?_)
  · refine g_aload_n dX10_telling_25 rfl ?_
    refine g_getr dX10_telling_26 fl_X10_99 h.1.1 (moR_85 h.1) ?_
    refine g_iload_n dX10_telling_29 rfl ?_
    refine g_iald dX10_telling_30 (moA_85 h.1) (vp_in_nI (by have := h.2.1; omega) (by decide)) ?_
    rw [nI_n (by have := h.2.1; omega), h.2.2.1]
    refine g_iconst (v := 5) dX10_telling_31 rfl ?_
    refine g_icmp_ne (tgt := 50) dX10_telling_32 (by decide) (fun zc32 => ?_) (fun zc32 => ?_)
    · rw [show aL kd (nI bb) x = pL kd (nI bb) x from (if_neg (fun z => zc7 (by rw [z]; rfl))).trans (if_neg (fun z => zc32 (by rw [z]; rfl)))] at kk hm
      refine g_aload_n dX10_telling_50 rfl ?_
      refine g_iload_n dX10_telling_51 rfl ?_
      refine g_iload_n dX10_telling_52 rfl ?_
      refine g_cV2i dX10_telling_53 ml_X10_372 mi_X10_plainTells mv_X10_plainTells h.1.1 ⟨_, rfl, rfl⟩ (Nat.le_of_ble_eq_true rfl) rfl (by omega) ?_
      refine c_X10_plainTells (by omega) h (by first | exact hm | (simp only [List.length_cons, List.length_append, List.length_nil] at hm ⊢; omega)) (fun w1 t1 => ?_)
      have h1 := h.go t1
      refine g_iret dX10_telling_56 rfl ⟨_, rfl, ?_⟩
      exact kk w1 t1
    · rw [show aL kd (nI bb) x = ((pL kd (nI bb) x).1 + 1, 61 :: (pL kd (nI bb) x).2) from (if_neg (fun z => zc7 (by rw [z]; rfl))).trans (if_pos (pI_inj (a := kd) (b := 5) (by have := h.2.2.2.1; omega) (by decide) zc32))] at kk hm
      refine g_aload_n dX10_telling_35 rfl ?_
      refine g_bipush (v := 61) dX10_telling_36 rfl ?_
      refine g_cV1v dX10_telling_38 ml_X10_339 mi_X10_ran mv_X10_ran h.1.1 ⟨_, rfl, rfl⟩ (Nat.le_of_ble_eq_true rfl) rfl (by omega) ?_
      refine c_X10_ran (r := 61) (by omega) h (by first | exact hm | (simp only [List.length_cons, List.length_append, List.length_nil] at hm ⊢; omega)) (fun w1 t1 => ?_)
      have h1 := h.go t1
      refine g_aload_n dX10_telling_41 rfl ?_
      refine g_iload_n dX10_telling_42 rfl ?_
      refine g_iload_n dX10_telling_43 rfl ?_
      refine g_cV2i dX10_telling_44 ml_X10_372 mi_X10_plainTells mv_X10_plainTells h1.1.1 ⟨_, rfl, rfl⟩ (Nat.le_of_ble_eq_true rfl) rfl (by omega) ?_
      refine c_X10_plainTells (by omega) h1 (by first | exact hm | (simp only [List.length_cons, List.length_append, List.length_nil] at hm ⊢; omega)) (fun w2 t2 => ?_)
      have h2 := h1.go t2
      refine g_iconst (v := 1) dX10_telling_47 rfl ?_
      refine g_iadd dX10_telling_48 ?_
      refine g_iret dX10_telling_49 rfl ⟨_, rfl, ?_⟩
      exact kk w2 (t1.tr t2)
  · rw [show aL kd (nI bb) x = ((pL kd (nI bb) x).1 ^^^ 5, 50 :: (pL kd (nI bb) x).2) from if_pos (pI_inj (a := kd) (b := 4) (by have := h.2.2.2.1; omega) (by decide) zc7)] at kk hm
    refine g_aload_n dX10_telling_10 rfl ?_
    refine g_bipush (v := 50) dX10_telling_11 rfl ?_
    refine g_cV1v dX10_telling_13 ml_X10_339 mi_X10_ran mv_X10_ran h.1.1 ⟨_, rfl, rfl⟩ (Nat.le_of_ble_eq_true rfl) rfl (by omega) ?_
    refine c_X10_ran (r := 50) (by omega) h (by first | exact hm | (simp only [List.length_cons, List.length_append, List.length_nil] at hm ⊢; omega)) (fun w1 t1 => ?_)
    have h1 := h.go t1
    refine g_aload_n dX10_telling_16 rfl ?_
    refine g_iload_n dX10_telling_17 rfl ?_
    refine g_iload_n dX10_telling_18 rfl ?_
    refine g_cV2i dX10_telling_19 ml_X10_372 mi_X10_plainTells mv_X10_plainTells h1.1.1 ⟨_, rfl, rfl⟩ (Nat.le_of_ble_eq_true rfl) rfl (by omega) ?_
    refine c_X10_plainTells (by omega) h1 (by first | exact hm | (simp only [List.length_cons, List.length_append, List.length_nil] at hm ⊢; omega)) (fun w2 t2 => ?_)
    have h2 := h1.go t2
    refine g_iconst (v := 5) dX10_telling_22 rfl ?_
    refine g_ixor dX10_telling_23 ?_
    refine g_iret dX10_telling_24 rfl ⟨_, rfl, ?_⟩
    exact kk w2 (t1.tr t2)
